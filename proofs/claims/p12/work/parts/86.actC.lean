-- group B's acts, as answers and changes
theorem FCb_camp {w w2 : List sx_C} (hI : WI w) (hO : Out 1 w w2) : FCb w2 = (campB w2 1, (FCb w).2) := by
  unfold FCb
  rw [fi_same 3 (hO 0 (by omega)), campB_same (A := 15) (fun a h1 h2 => hO a (by omega)) (hI.many (Or.inr (Or.inl rfl))), tapC_same (hO 96 (by omega)) (hO 97 (by omega))]
theorem FCb_len {w : List sx_C} {n : Nat} (h : fi w 1 3 = nI n) (hn : n ≤ 10) : (FCb w).1.1.length = n := by
  show (campB w 1).1.length = n
  unfold campB
  rw [mkB_len1, h, iN_n (by omega)]
theorem FCb_dlen {w : List sx_C} {n : Nat} (h : fi w 1 5 = nI n) (hn : n ≤ 10) : (FCb w).1.2.1.length = n := by
  show (campB w 1).2.1.length = n
  unfold campB
  rw [mkB_len2, h, iN_n (by omega)]
def galA (t : BT) (a1 a2 a3 a4 : Int32) : Int32 := if (0 ≤ a1 ∧ a1 ≤ 5) ∧ (0 ≤ a2 ∧ a2 ≤ 1) ∧ (0 ≤ a3 ∧ a3 ≤ 47) ∧ (0 ≤ a4 ∧ a4 ≤ 3) then (if t.1.1.length < 10 then nI t.1.1.length else -1000000002) else -1000000001
def galU (t : BT) (a1 a2 a3 a4 : Int32) : BT := if (0 ≤ a1 ∧ a1 ≤ 5) ∧ (0 ≤ a2 ∧ a2 ≤ 1) ∧ (0 ≤ a3 ∧ a3 ≤ 47) ∧ (0 ≤ a4 ∧ a4 ≤ 3) then (if t.1.1.length < 10 then (addK a1 t.1, t.2) else t) else t
def becA (t : BT) (a1 a2 : Int32) : Int32 := if (0 ≤ a1 ∧ a1 < nI t.1.1.length) ∧ (0 ≤ a2 ∧ a2 ≤ 5) then t.1.1.getD (iN a1) 0 else -1000000001
def becU (t : BT) (a1 a2 : Int32) : BT := if (0 ≤ a1 ∧ a1 < nI t.1.1.length) ∧ (0 ≤ a2 ∧ a2 ≤ 5) then (setK (iN a1) a2 t.1, t.2) else t
def disA (t : BT) (a1 : Int32) : Int32 := if 0 ≤ a1 ∧ a1 ≤ 47 then (if t.1.2.1.length < 9 then nI t.1.2.1.length else -1000000002) else -1000000001
def disU (t : BT) (a1 : Int32) : BT := if 0 ≤ a1 ∧ a1 ≤ 47 then (if t.1.2.1.length < 9 then (addD a1 t.1, t.2) else t) else t
def movA (t : BT) (a1 a2 : Int32) : Int32 := if (0 ≤ a1 ∧ a1 < nI t.1.2.1.length) ∧ (0 ≤ a2 ∧ a2 ≤ 47) then t.1.2.1.getD (iN a1) 0 else -1000000001
def movU (t : BT) (a1 a2 : Int32) : BT := if (0 ≤ a1 ∧ a1 < nI t.1.2.1.length) ∧ (0 ≤ a2 ∧ a2 ≤ 47) then (setD (iN a1) a2 t.1, t.2) else t
def breA (t : BT) (a1 a2 : Int32) : Int32 := if a1 = 0 ∧ (0 ≤ a2 ∧ a2 ≤ 999999) then t.1.2.2.1 else (if a1 = 1 ∧ (1 ≤ a2 ∧ a2 ≤ 999) then t.1.2.2.2.1 else (if a1 = 2 ∧ (1 ≤ a2 ∧ a2 ≤ 99) then t.1.2.2.2.2 else -1000000001))
def breU (t : BT) (a1 a2 : Int32) : BT := if a1 = 0 ∧ (0 ≤ a2 ∧ a2 ≤ 999999) then (setO a2 t.1, t.2) else (if a1 = 1 ∧ (1 ≤ a2 ∧ a2 ≤ 999) then (setM a2 t.1, t.2) else (if a1 = 2 ∧ (1 ≤ a2 ∧ a2 ≤ 99) then (setR a2 t.1, t.2) else t))
section SXOP
variable {t : BT} {a1 a2 a3 a4 : Int32}
theorem gal_1 (h : ¬ ((0 ≤ a1 ∧ a1 ≤ 5) ∧ (0 ≤ a2 ∧ a2 ≤ 1) ∧ (0 ≤ a3 ∧ a3 ≤ 47) ∧ (0 ≤ a4 ∧ a4 ≤ 3))) : galA t a1 a2 a3 a4 = -1000000001 ∧ galU t a1 a2 a3 a4 = t := ⟨if_neg h, if_neg h⟩
theorem gal_2 (h : (0 ≤ a1 ∧ a1 ≤ 5) ∧ (0 ≤ a2 ∧ a2 ≤ 1) ∧ (0 ≤ a3 ∧ a3 ≤ 47) ∧ (0 ≤ a4 ∧ a4 ≤ 3)) (h2 : ¬ t.1.1.length < 10) : galA t a1 a2 a3 a4 = -1000000002 ∧ galU t a1 a2 a3 a4 = t := by
  unfold galA galU
  rw [if_pos h, if_pos h, if_neg h2, if_neg h2]
  exact ⟨rfl, rfl⟩
theorem gal_3 (h : (0 ≤ a1 ∧ a1 ≤ 5) ∧ (0 ≤ a2 ∧ a2 ≤ 1) ∧ (0 ≤ a3 ∧ a3 ≤ 47) ∧ (0 ≤ a4 ∧ a4 ≤ 3)) (h2 : t.1.1.length < 10) : galA t a1 a2 a3 a4 = nI t.1.1.length ∧ galU t a1 a2 a3 a4 = (addK a1 t.1, t.2) := by
  unfold galA galU
  rw [if_pos h, if_pos h, if_pos h2, if_pos h2]
  exact ⟨rfl, rfl⟩
theorem bec_1 (h : ¬ ((0 ≤ a1 ∧ a1 < nI t.1.1.length) ∧ (0 ≤ a2 ∧ a2 ≤ 5))) : becA t a1 a2 = -1000000001 ∧ becU t a1 a2 = t := ⟨if_neg h, if_neg h⟩
theorem bec_2 (h : (0 ≤ a1 ∧ a1 < nI t.1.1.length) ∧ (0 ≤ a2 ∧ a2 ≤ 5)) : becA t a1 a2 = t.1.1.getD (iN a1) 0 ∧ becU t a1 a2 = (setK (iN a1) a2 t.1, t.2) := ⟨if_pos h, if_pos h⟩
theorem dis_1 (h : ¬ (0 ≤ a1 ∧ a1 ≤ 47)) : disA t a1 = -1000000001 ∧ disU t a1 = t := ⟨if_neg h, if_neg h⟩
theorem dis_2 (h : 0 ≤ a1 ∧ a1 ≤ 47) (h2 : ¬ t.1.2.1.length < 9) : disA t a1 = -1000000002 ∧ disU t a1 = t := by
  unfold disA disU
  rw [if_pos h, if_pos h, if_neg h2, if_neg h2]
  exact ⟨rfl, rfl⟩
theorem dis_3 (h : 0 ≤ a1 ∧ a1 ≤ 47) (h2 : t.1.2.1.length < 9) : disA t a1 = nI t.1.2.1.length ∧ disU t a1 = (addD a1 t.1, t.2) := by
  unfold disA disU
  rw [if_pos h, if_pos h, if_pos h2, if_pos h2]
  exact ⟨rfl, rfl⟩
theorem mov_1 (h : ¬ ((0 ≤ a1 ∧ a1 < nI t.1.2.1.length) ∧ (0 ≤ a2 ∧ a2 ≤ 47))) : movA t a1 a2 = -1000000001 ∧ movU t a1 a2 = t := ⟨if_neg h, if_neg h⟩
theorem mov_2 (h : (0 ≤ a1 ∧ a1 < nI t.1.2.1.length) ∧ (0 ≤ a2 ∧ a2 ≤ 47)) : movA t a1 a2 = t.1.2.1.getD (iN a1) 0 ∧ movU t a1 a2 = (setD (iN a1) a2 t.1, t.2) := ⟨if_pos h, if_pos h⟩
theorem bre_0 (h : a1 = 0 ∧ (0 ≤ a2 ∧ a2 ≤ 999999)) : breA t a1 a2 = t.1.2.2.1 ∧ breU t a1 a2 = (setO a2 t.1, t.2) := ⟨if_pos h, if_pos h⟩
theorem bre_1 (h : a1 = 1 ∧ (1 ≤ a2 ∧ a2 ≤ 999)) : breA t a1 a2 = t.1.2.2.2.1 ∧ breU t a1 a2 = (setM a2 t.1, t.2) := by
  obtain ⟨rfl, h⟩ := h
  exact ⟨(if_neg (fun z => absurd z.1 (by decide))).trans (if_pos ⟨rfl, h⟩), (if_neg (fun z => absurd z.1 (by decide))).trans (if_pos ⟨rfl, h⟩)⟩
theorem bre_2 (h : a1 = 2 ∧ (1 ≤ a2 ∧ a2 ≤ 99)) : breA t a1 a2 = t.1.2.2.2.2 ∧ breU t a1 a2 = (setR a2 t.1, t.2) := by
  obtain ⟨rfl, h⟩ := h
  exact ⟨(if_neg (fun z => absurd z.1 (by decide))).trans ((if_neg (fun z => absurd z.1 (by decide))).trans (if_pos ⟨rfl, h⟩)), (if_neg (fun z => absurd z.1 (by decide))).trans ((if_neg (fun z => absurd z.1 (by decide))).trans (if_pos ⟨rfl, h⟩))⟩
theorem bre_3 (h0 : ¬ (a1 = 0 ∧ (0 ≤ a2 ∧ a2 ≤ 999999))) (h1 : ¬ (a1 = 1 ∧ (1 ≤ a2 ∧ a2 ≤ 999))) (h2 : ¬ (a1 = 2 ∧ (1 ≤ a2 ∧ a2 ≤ 99))) : breA t a1 a2 = -1000000001 ∧ breU t a1 a2 = t := ⟨(if_neg h0).trans ((if_neg h1).trans (if_neg h2)), (if_neg h0).trans ((if_neg h1).trans (if_neg h2))⟩
end SXOP
theorem idx_get {v : Int32} {n : Nat} (h : 0 ≤ v ∧ v < nI n) (hn : n ≤ 10) : ∃ x, x < n ∧ v = nI x := by
  obtain ⟨x, hx, rfl⟩ := nI_of (Int32.not_lt.mpr h.1)
  exact ⟨x, (nI_ltI hx (by omega)).mp h.2, rfl⟩
theorem campB_setK {w w2 : List sx_C} {A x n : Nat} {v : Int32} (hI : WI w) (hA : isA A) (en : fi w A 3 = nI n) (hn : n ≤ 10) (hx : x < n) (hs : Same (A + 4 + x) w w2) (hv : fi w2 (A + 4 + x) 0 = v) : campB w2 A = setK x v (campB w A) := by
  unfold campB
  rw [fi_same 3 (hs A (by omega)), fi_same 5 (hs A (by omega)), fi_same 8 (hs A (by omega)), fi_same 9 (hs A (by omega)), fi_same 10 (hs A (by omega)), ia_of (hs (A + 3) (by omega))]
  exact mkB_setK (fun i _ hne => fi_same 0 (hs _ (by omega))) (fun _ => hv) (fun _ _ => rfl)
theorem campB_setD {w w2 : List sx_C} {A x m : Nat} {v : Int32} (hI : WI w) (hA : isA A) (em : fi w A 5 = nI m) (hm : m ≤ 9) (hx : x < m) (hs : Same (A + 3) w w2) (hv : ia w2 (A + 3) = (ia w (A + 3)).set x v) : campB w2 A = setD x v (campB w A) := by
  have hl := (hI.1.aD hA).2
  unfold campB
  rw [fi_same 3 (hs A (by omega)), fi_same 5 (hs A (by omega)), fi_same 8 (hs A (by omega)), fi_same 9 (hs A (by omega)), fi_same 10 (hs A (by omega)), hv]
  exact mkB_setD (fun i _ => fi_same 0 (hs _ (by omega))) (fun i _ hne => by rw [gd_set (by omega), if_neg hne]) (fun _ => by rw [gd_set (by omega), if_pos rfl])
theorem campB_setF {w w2 : List sx_C} {A k : Nat} {v : Int32} (hs : Same A w w2) (hk : k = 8 ∨ k = 9 ∨ k = 10) (hv : fi w2 A k = v) (hr : ∀ j, j ≠ k → fi w2 A j = fi w A j) : campB w2 A = (if k = 8 then setO v (campB w A) else if k = 9 then setM v (campB w A) else setR v (campB w A)) := by
  have hkd : (fun g => fi w2 (A + 4 + g) 0) = fun g => fi w (A + 4 + g) 0 := funext fun g => fi_same 0 (hs _ (by omega))
  unfold campB
  rw [hkd, ia_of (hs (A + 3) (by omega))]
  rcases hk with rfl | rfl | rfl
  · rw [hr 3 (by decide), hr 5 (by decide), hr 9 (by decide), hr 10 (by decide), hv]
    rfl
  · rw [hr 3 (by decide), hr 5 (by decide), hr 8 (by decide), hr 10 (by decide), hv]
    rfl
  · rw [hr 3 (by decide), hr 5 (by decide), hr 8 (by decide), hr 9 (by decide), hv]
    rfl
theorem FCb_kind {w : List sx_C} {n x : Nat} (en : fi w 1 3 = nI n) (hn : n ≤ 10) (hx : x < n) : (FCb w).1.1.getD (iN (nI x)) 0 = fi w (1 + 4 + x) 0 := by
  rw [iN_n (by omega)]
  show (campB w 1).1.getD x 0 = _
  unfold campB
  exact mkB_at1 (by rw [en, iN_n (by omega)]; exact hx)
theorem FCb_dish {w : List sx_C} {m x : Nat} (em : fi w 1 5 = nI m) (hm : m ≤ 9) (hx : x < m) : (FCb w).1.2.1.getD (iN (nI x)) 0 = (ia w (1 + 3)).getD x 0 := by
  rw [iN_n (by omega)]
  show (campB w 1).2.1.getD x 0 = _
  unfold campB
  exact mkB_at2 (by rw [em, iN_n (by omega)]; exact hx)
theorem idx_iff {x n : Nat} (hx : x < 2 ^ 31) (hn : n < 2 ^ 31) : ((0 : Int32) ≤ nI x ∧ nI x < nI n) ↔ x < n := ⟨fun h => (nI_ltI hx hn).mp h.2, fun h => ⟨nI_le (a := 0) (Nat.zero_le _) hx, (nI_ltI hx hn).mpr h⟩⟩
set_option maxRecDepth 20000 in
set_option maxHeartbeats 4000000 in
theorem p24y {xs : Option (List Int32)} {d n : Nat} {w : List sx_C} (hI : WI w) {A : Nat} (hA : isA A) (en : fi w A 3 = nI n) (hn : n ≤ 10) (hh : n < 10) : sx_RU xs d 24 0 (lv_args 0 [.ref A]) [] w (some (.int 1)) w := by
  have h : sx_RP xs d 24 0 (lv_args 0 [.ref A]) [] w (fun r w2 => r = some (.int 1) ∧ w2 = w) := by
    refine sx_RP.step (pc2 := 1) (ls2 := [(0, .ref A)]) (st2 := [.ref A]) (w3 := w) rfl rfl ?_
    refine sx_RP.gc (k := 3) hI hA rfl rfl (by omega) (show _ = 4 from rfl) ?_
    rw [en]
    refine sx_RP.step (pc2 := 6) (ls2 := [(0, .ref A)]) (st2 := [.int 10, .int (nI n)]) (w3 := w) rfl rfl ?_
    refine sx_RP.br (p1 := 13) (l1 := [(0, .ref A)]) (s1 := []) (v1 := w) (p2 := 9) (l2 := [(0, .ref A)]) (s2 := []) (v2 := w) rfl rfl (fun q1 => ?_) (fun q1 => ?_)
    · replace q1 := of_decide_eq_true q1
      replace q1 := (nI_leI (a := 10) (b := n) (by omega) (by omega)).mp q1
      refine sx_RP.step (pc2 := 14) (ls2 := [(0, .ref A)]) (st2 := [.int 0]) (w3 := w) rfl rfl ?_
      refine sx_RP.ret (r := (some (.int 0))) rfl rfl ?_
      first | exact ⟨rfl, rfl⟩ | (exfalso; omega)
    · replace q1 := of_decide_eq_false q1
      replace q1 := mt (nI_leI (a := 10) (b := n) (by omega) (by omega)).mpr q1
      refine sx_RP.step (pc2 := 10) (ls2 := [(0, .ref A)]) (st2 := [.int 1]) (w3 := w) rfl rfl ?_
      refine sx_RP.step (pc2 := 14) (ls2 := [(0, .ref A)]) (st2 := [.int 1]) (w3 := w) rfl rfl ?_
      refine sx_RP.ret (r := (some (.int 1))) rfl rfl ?_
      first | exact ⟨rfl, rfl⟩ | (exfalso; omega)
  obtain ⟨r, w2, h1, rfl, rfl⟩ := h
  exact h1
set_option maxRecDepth 20000 in
set_option maxHeartbeats 4000000 in
theorem p24n {xs : Option (List Int32)} {d n : Nat} {w : List sx_C} (hI : WI w) {A : Nat} (hA : isA A) (en : fi w A 3 = nI n) (hn : n ≤ 10) (hh : ¬ n < 10) : sx_RU xs d 24 0 (lv_args 0 [.ref A]) [] w (some (.int 0)) w := by
  have h : sx_RP xs d 24 0 (lv_args 0 [.ref A]) [] w (fun r w2 => r = some (.int 0) ∧ w2 = w) := by
    refine sx_RP.step (pc2 := 1) (ls2 := [(0, .ref A)]) (st2 := [.ref A]) (w3 := w) rfl rfl ?_
    refine sx_RP.gc (k := 3) hI hA rfl rfl (by omega) (show _ = 4 from rfl) ?_
    rw [en]
    refine sx_RP.step (pc2 := 6) (ls2 := [(0, .ref A)]) (st2 := [.int 10, .int (nI n)]) (w3 := w) rfl rfl ?_
    refine sx_RP.br (p1 := 13) (l1 := [(0, .ref A)]) (s1 := []) (v1 := w) (p2 := 9) (l2 := [(0, .ref A)]) (s2 := []) (v2 := w) rfl rfl (fun q1 => ?_) (fun q1 => ?_)
    · replace q1 := of_decide_eq_true q1
      replace q1 := (nI_leI (a := 10) (b := n) (by omega) (by omega)).mp q1
      refine sx_RP.step (pc2 := 14) (ls2 := [(0, .ref A)]) (st2 := [.int 0]) (w3 := w) rfl rfl ?_
      refine sx_RP.ret (r := (some (.int 0))) rfl rfl ?_
      first | exact ⟨rfl, rfl⟩ | (exfalso; omega)
    · replace q1 := of_decide_eq_false q1
      replace q1 := mt (nI_leI (a := 10) (b := n) (by omega) (by omega)).mpr q1
      refine sx_RP.step (pc2 := 10) (ls2 := [(0, .ref A)]) (st2 := [.int 1]) (w3 := w) rfl rfl ?_
      refine sx_RP.step (pc2 := 14) (ls2 := [(0, .ref A)]) (st2 := [.int 1]) (w3 := w) rfl rfl ?_
      refine sx_RP.ret (r := (some (.int 1))) rfl rfl ?_
      first | exact ⟨rfl, rfl⟩ | (exfalso; omega)
  obtain ⟨r, w2, h1, rfl, rfl⟩ := h
  exact h1
set_option maxRecDepth 20000 in
set_option maxHeartbeats 4000000 in
theorem p63y {xs : Option (List Int32)} {d n : Nat} {w : List sx_C} (hI : WI w) {A : Nat} (hA : isA A) (en : fi w A 5 = nI n) (hn : n ≤ 9) (hh : n < 9) : sx_RU xs d 63 0 (lv_args 0 [.ref A]) [] w (some (.int 1)) w := by
  have h : sx_RP xs d 63 0 (lv_args 0 [.ref A]) [] w (fun r w2 => r = some (.int 1) ∧ w2 = w) := by
    refine sx_RP.step (pc2 := 1) (ls2 := [(0, .ref A)]) (st2 := [.ref A]) (w3 := w) rfl rfl ?_
    refine sx_RP.gc (k := 5) hI hA rfl rfl (by omega) (show _ = 4 from rfl) ?_
    rw [en]
    refine sx_RP.step (pc2 := 6) (ls2 := [(0, .ref A)]) (st2 := [.int 9, .int (nI n)]) (w3 := w) rfl rfl ?_
    refine sx_RP.br (p1 := 13) (l1 := [(0, .ref A)]) (s1 := []) (v1 := w) (p2 := 9) (l2 := [(0, .ref A)]) (s2 := []) (v2 := w) rfl rfl (fun q1 => ?_) (fun q1 => ?_)
    · replace q1 := of_decide_eq_true q1
      replace q1 := (nI_leI (a := 9) (b := n) (by omega) (by omega)).mp q1
      refine sx_RP.step (pc2 := 14) (ls2 := [(0, .ref A)]) (st2 := [.int 0]) (w3 := w) rfl rfl ?_
      refine sx_RP.ret (r := (some (.int 0))) rfl rfl ?_
      first | exact ⟨rfl, rfl⟩ | (exfalso; omega)
    · replace q1 := of_decide_eq_false q1
      replace q1 := mt (nI_leI (a := 9) (b := n) (by omega) (by omega)).mpr q1
      refine sx_RP.step (pc2 := 10) (ls2 := [(0, .ref A)]) (st2 := [.int 1]) (w3 := w) rfl rfl ?_
      refine sx_RP.step (pc2 := 14) (ls2 := [(0, .ref A)]) (st2 := [.int 1]) (w3 := w) rfl rfl ?_
      refine sx_RP.ret (r := (some (.int 1))) rfl rfl ?_
      first | exact ⟨rfl, rfl⟩ | (exfalso; omega)
  obtain ⟨r, w2, h1, rfl, rfl⟩ := h
  exact h1
set_option maxRecDepth 20000 in
set_option maxHeartbeats 4000000 in
theorem p63n {xs : Option (List Int32)} {d n : Nat} {w : List sx_C} (hI : WI w) {A : Nat} (hA : isA A) (en : fi w A 5 = nI n) (hn : n ≤ 9) (hh : ¬ n < 9) : sx_RU xs d 63 0 (lv_args 0 [.ref A]) [] w (some (.int 0)) w := by
  have h : sx_RP xs d 63 0 (lv_args 0 [.ref A]) [] w (fun r w2 => r = some (.int 0) ∧ w2 = w) := by
    refine sx_RP.step (pc2 := 1) (ls2 := [(0, .ref A)]) (st2 := [.ref A]) (w3 := w) rfl rfl ?_
    refine sx_RP.gc (k := 5) hI hA rfl rfl (by omega) (show _ = 4 from rfl) ?_
    rw [en]
    refine sx_RP.step (pc2 := 6) (ls2 := [(0, .ref A)]) (st2 := [.int 9, .int (nI n)]) (w3 := w) rfl rfl ?_
    refine sx_RP.br (p1 := 13) (l1 := [(0, .ref A)]) (s1 := []) (v1 := w) (p2 := 9) (l2 := [(0, .ref A)]) (s2 := []) (v2 := w) rfl rfl (fun q1 => ?_) (fun q1 => ?_)
    · replace q1 := of_decide_eq_true q1
      replace q1 := (nI_leI (a := 9) (b := n) (by omega) (by omega)).mp q1
      refine sx_RP.step (pc2 := 14) (ls2 := [(0, .ref A)]) (st2 := [.int 0]) (w3 := w) rfl rfl ?_
      refine sx_RP.ret (r := (some (.int 0))) rfl rfl ?_
      first | exact ⟨rfl, rfl⟩ | (exfalso; omega)
    · replace q1 := of_decide_eq_false q1
      replace q1 := mt (nI_leI (a := 9) (b := n) (by omega) (by omega)).mpr q1
      refine sx_RP.step (pc2 := 10) (ls2 := [(0, .ref A)]) (st2 := [.int 1]) (w3 := w) rfl rfl ?_
      refine sx_RP.step (pc2 := 14) (ls2 := [(0, .ref A)]) (st2 := [.int 1]) (w3 := w) rfl rfl ?_
      refine sx_RP.ret (r := (some (.int 1))) rfl rfl ?_
      first | exact ⟨rfl, rfl⟩ | (exfalso; omega)
  obtain ⟨r, w2, h1, rfl, rfl⟩ := h
  exact h1
set_option maxRecDepth 20000 in
set_option maxHeartbeats 4000000 in
theorem p27y {xs : Option (List Int32)} {d n : Nat} {w : List sx_C} (hI : WI w) {A : Nat} (hA : isA A) (en : fi w A 3 = nI n) (hn : n ≤ 10) {x : Int32} (hh : 0 ≤ x ∧ x < nI n) : sx_RU xs d 27 0 (lv_args 0 [.ref A, .int x]) [] w (some (.int 1)) w := by
  have h : sx_RP xs d 27 0 (lv_args 0 [.ref A, .int x]) [] w (fun r w2 => r = some (.int 1) ∧ w2 = w) := by
    refine sx_RP.step (pc2 := 1) (ls2 := [(0, .ref A), (1, .int x)]) (st2 := [.int x]) (w3 := w) rfl rfl ?_
    refine sx_RP.br (p1 := 16) (l1 := [(0, .ref A), (1, .int x)]) (s1 := []) (v1 := w) (p2 := 4) (l2 := [(0, .ref A), (1, .int x)]) (s2 := []) (v2 := w) rfl rfl (fun q1 => ?_) (fun q1 => ?_)
    · replace q1 := of_decide_eq_true q1
      refine sx_RP.step (pc2 := 17) (ls2 := [(0, .ref A), (1, .int x)]) (st2 := [.int 0]) (w3 := w) rfl rfl ?_
      refine sx_RP.ret (r := (some (.int 0))) rfl rfl ?_
      first | exact ⟨rfl, rfl⟩ | exact absurd ⟨Int32.not_lt.mp (by assumption), by first | assumption | exact Int32.not_le.mp (by assumption)⟩ hh | exact absurd (by assumption) (Int32.not_lt.mpr hh.1) | exact absurd (by assumption) (Int32.not_le.mpr hh.2)
    · replace q1 := of_decide_eq_false q1
      refine sx_RP.step (pc2 := 5) (ls2 := [(0, .ref A), (1, .int x)]) (st2 := [.int x]) (w3 := w) rfl rfl ?_
      refine sx_RP.step (pc2 := 6) (ls2 := [(0, .ref A), (1, .int x)]) (st2 := [.ref A, .int x]) (w3 := w) rfl rfl ?_
      refine sx_RP.gc (k := 3) hI hA rfl rfl (by omega) (show _ = 9 from rfl) ?_
      rw [en]
      refine sx_RP.br (p1 := 16) (l1 := [(0, .ref A), (1, .int x)]) (s1 := []) (v1 := w) (p2 := 12) (l2 := [(0, .ref A), (1, .int x)]) (s2 := []) (v2 := w) rfl rfl (fun q2 => ?_) (fun q2 => ?_)
      · replace q2 := of_decide_eq_true q2
        refine sx_RP.step (pc2 := 17) (ls2 := [(0, .ref A), (1, .int x)]) (st2 := [.int 0]) (w3 := w) rfl rfl ?_
        refine sx_RP.ret (r := (some (.int 0))) rfl rfl ?_
        first | exact ⟨rfl, rfl⟩ | exact absurd ⟨Int32.not_lt.mp (by assumption), by first | assumption | exact Int32.not_le.mp (by assumption)⟩ hh | exact absurd (by assumption) (Int32.not_lt.mpr hh.1) | exact absurd (by assumption) (Int32.not_le.mpr hh.2)
      · replace q2 := of_decide_eq_false q2
        refine sx_RP.step (pc2 := 13) (ls2 := [(0, .ref A), (1, .int x)]) (st2 := [.int 1]) (w3 := w) rfl rfl ?_
        refine sx_RP.step (pc2 := 17) (ls2 := [(0, .ref A), (1, .int x)]) (st2 := [.int 1]) (w3 := w) rfl rfl ?_
        refine sx_RP.ret (r := (some (.int 1))) rfl rfl ?_
        first | exact ⟨rfl, rfl⟩ | exact absurd ⟨Int32.not_lt.mp (by assumption), by first | assumption | exact Int32.not_le.mp (by assumption)⟩ hh | exact absurd (by assumption) (Int32.not_lt.mpr hh.1) | exact absurd (by assumption) (Int32.not_le.mpr hh.2)
  obtain ⟨r, w2, h1, rfl, rfl⟩ := h
  exact h1
set_option maxRecDepth 20000 in
set_option maxHeartbeats 4000000 in
theorem p27n {xs : Option (List Int32)} {d n : Nat} {w : List sx_C} (hI : WI w) {A : Nat} (hA : isA A) (en : fi w A 3 = nI n) (hn : n ≤ 10) {x : Int32} (hh : ¬ (0 ≤ x ∧ x < nI n)) : sx_RU xs d 27 0 (lv_args 0 [.ref A, .int x]) [] w (some (.int 0)) w := by
  have h : sx_RP xs d 27 0 (lv_args 0 [.ref A, .int x]) [] w (fun r w2 => r = some (.int 0) ∧ w2 = w) := by
    refine sx_RP.step (pc2 := 1) (ls2 := [(0, .ref A), (1, .int x)]) (st2 := [.int x]) (w3 := w) rfl rfl ?_
    refine sx_RP.br (p1 := 16) (l1 := [(0, .ref A), (1, .int x)]) (s1 := []) (v1 := w) (p2 := 4) (l2 := [(0, .ref A), (1, .int x)]) (s2 := []) (v2 := w) rfl rfl (fun q1 => ?_) (fun q1 => ?_)
    · replace q1 := of_decide_eq_true q1
      refine sx_RP.step (pc2 := 17) (ls2 := [(0, .ref A), (1, .int x)]) (st2 := [.int 0]) (w3 := w) rfl rfl ?_
      refine sx_RP.ret (r := (some (.int 0))) rfl rfl ?_
      first | exact ⟨rfl, rfl⟩ | exact absurd ⟨Int32.not_lt.mp (by assumption), by first | assumption | exact Int32.not_le.mp (by assumption)⟩ hh | exact absurd (by assumption) (Int32.not_lt.mpr hh.1) | exact absurd (by assumption) (Int32.not_le.mpr hh.2)
    · replace q1 := of_decide_eq_false q1
      refine sx_RP.step (pc2 := 5) (ls2 := [(0, .ref A), (1, .int x)]) (st2 := [.int x]) (w3 := w) rfl rfl ?_
      refine sx_RP.step (pc2 := 6) (ls2 := [(0, .ref A), (1, .int x)]) (st2 := [.ref A, .int x]) (w3 := w) rfl rfl ?_
      refine sx_RP.gc (k := 3) hI hA rfl rfl (by omega) (show _ = 9 from rfl) ?_
      rw [en]
      refine sx_RP.br (p1 := 16) (l1 := [(0, .ref A), (1, .int x)]) (s1 := []) (v1 := w) (p2 := 12) (l2 := [(0, .ref A), (1, .int x)]) (s2 := []) (v2 := w) rfl rfl (fun q2 => ?_) (fun q2 => ?_)
      · replace q2 := of_decide_eq_true q2
        refine sx_RP.step (pc2 := 17) (ls2 := [(0, .ref A), (1, .int x)]) (st2 := [.int 0]) (w3 := w) rfl rfl ?_
        refine sx_RP.ret (r := (some (.int 0))) rfl rfl ?_
        first | exact ⟨rfl, rfl⟩ | exact absurd ⟨Int32.not_lt.mp (by assumption), by first | assumption | exact Int32.not_le.mp (by assumption)⟩ hh | exact absurd (by assumption) (Int32.not_lt.mpr hh.1) | exact absurd (by assumption) (Int32.not_le.mpr hh.2)
      · replace q2 := of_decide_eq_false q2
        refine sx_RP.step (pc2 := 13) (ls2 := [(0, .ref A), (1, .int x)]) (st2 := [.int 1]) (w3 := w) rfl rfl ?_
        refine sx_RP.step (pc2 := 17) (ls2 := [(0, .ref A), (1, .int x)]) (st2 := [.int 1]) (w3 := w) rfl rfl ?_
        refine sx_RP.ret (r := (some (.int 1))) rfl rfl ?_
        first | exact ⟨rfl, rfl⟩ | exact absurd ⟨Int32.not_lt.mp (by assumption), by first | assumption | exact Int32.not_le.mp (by assumption)⟩ hh | exact absurd (by assumption) (Int32.not_lt.mpr hh.1) | exact absurd (by assumption) (Int32.not_le.mpr hh.2)
  obtain ⟨r, w2, h1, rfl, rfl⟩ := h
  exact h1
set_option maxRecDepth 20000 in
set_option maxHeartbeats 4000000 in
theorem p66y {xs : Option (List Int32)} {d n : Nat} {w : List sx_C} (hI : WI w) {A : Nat} (hA : isA A) (en : fi w A 5 = nI n) (hn : n ≤ 9) {x : Int32} (hh : 0 ≤ x ∧ x < nI n) : sx_RU xs d 66 0 (lv_args 0 [.ref A, .int x]) [] w (some (.int 1)) w := by
  have h : sx_RP xs d 66 0 (lv_args 0 [.ref A, .int x]) [] w (fun r w2 => r = some (.int 1) ∧ w2 = w) := by
    refine sx_RP.step (pc2 := 1) (ls2 := [(0, .ref A), (1, .int x)]) (st2 := [.int x]) (w3 := w) rfl rfl ?_
    refine sx_RP.br (p1 := 16) (l1 := [(0, .ref A), (1, .int x)]) (s1 := []) (v1 := w) (p2 := 4) (l2 := [(0, .ref A), (1, .int x)]) (s2 := []) (v2 := w) rfl rfl (fun q1 => ?_) (fun q1 => ?_)
    · replace q1 := of_decide_eq_true q1
      refine sx_RP.step (pc2 := 17) (ls2 := [(0, .ref A), (1, .int x)]) (st2 := [.int 0]) (w3 := w) rfl rfl ?_
      refine sx_RP.ret (r := (some (.int 0))) rfl rfl ?_
      first | exact ⟨rfl, rfl⟩ | exact absurd ⟨Int32.not_lt.mp (by assumption), by first | assumption | exact Int32.not_le.mp (by assumption)⟩ hh | exact absurd (by assumption) (Int32.not_lt.mpr hh.1) | exact absurd (by assumption) (Int32.not_le.mpr hh.2)
    · replace q1 := of_decide_eq_false q1
      refine sx_RP.step (pc2 := 5) (ls2 := [(0, .ref A), (1, .int x)]) (st2 := [.int x]) (w3 := w) rfl rfl ?_
      refine sx_RP.step (pc2 := 6) (ls2 := [(0, .ref A), (1, .int x)]) (st2 := [.ref A, .int x]) (w3 := w) rfl rfl ?_
      refine sx_RP.gc (k := 5) hI hA rfl rfl (by omega) (show _ = 9 from rfl) ?_
      rw [en]
      refine sx_RP.br (p1 := 16) (l1 := [(0, .ref A), (1, .int x)]) (s1 := []) (v1 := w) (p2 := 12) (l2 := [(0, .ref A), (1, .int x)]) (s2 := []) (v2 := w) rfl rfl (fun q2 => ?_) (fun q2 => ?_)
      · replace q2 := of_decide_eq_true q2
        refine sx_RP.step (pc2 := 17) (ls2 := [(0, .ref A), (1, .int x)]) (st2 := [.int 0]) (w3 := w) rfl rfl ?_
        refine sx_RP.ret (r := (some (.int 0))) rfl rfl ?_
        first | exact ⟨rfl, rfl⟩ | exact absurd ⟨Int32.not_lt.mp (by assumption), by first | assumption | exact Int32.not_le.mp (by assumption)⟩ hh | exact absurd (by assumption) (Int32.not_lt.mpr hh.1) | exact absurd (by assumption) (Int32.not_le.mpr hh.2)
      · replace q2 := of_decide_eq_false q2
        refine sx_RP.step (pc2 := 13) (ls2 := [(0, .ref A), (1, .int x)]) (st2 := [.int 1]) (w3 := w) rfl rfl ?_
        refine sx_RP.step (pc2 := 17) (ls2 := [(0, .ref A), (1, .int x)]) (st2 := [.int 1]) (w3 := w) rfl rfl ?_
        refine sx_RP.ret (r := (some (.int 1))) rfl rfl ?_
        first | exact ⟨rfl, rfl⟩ | exact absurd ⟨Int32.not_lt.mp (by assumption), by first | assumption | exact Int32.not_le.mp (by assumption)⟩ hh | exact absurd (by assumption) (Int32.not_lt.mpr hh.1) | exact absurd (by assumption) (Int32.not_le.mpr hh.2)
  obtain ⟨r, w2, h1, rfl, rfl⟩ := h
  exact h1
set_option maxRecDepth 20000 in
set_option maxHeartbeats 4000000 in
theorem p66n {xs : Option (List Int32)} {d n : Nat} {w : List sx_C} (hI : WI w) {A : Nat} (hA : isA A) (en : fi w A 5 = nI n) (hn : n ≤ 9) {x : Int32} (hh : ¬ (0 ≤ x ∧ x < nI n)) : sx_RU xs d 66 0 (lv_args 0 [.ref A, .int x]) [] w (some (.int 0)) w := by
  have h : sx_RP xs d 66 0 (lv_args 0 [.ref A, .int x]) [] w (fun r w2 => r = some (.int 0) ∧ w2 = w) := by
    refine sx_RP.step (pc2 := 1) (ls2 := [(0, .ref A), (1, .int x)]) (st2 := [.int x]) (w3 := w) rfl rfl ?_
    refine sx_RP.br (p1 := 16) (l1 := [(0, .ref A), (1, .int x)]) (s1 := []) (v1 := w) (p2 := 4) (l2 := [(0, .ref A), (1, .int x)]) (s2 := []) (v2 := w) rfl rfl (fun q1 => ?_) (fun q1 => ?_)
    · replace q1 := of_decide_eq_true q1
      refine sx_RP.step (pc2 := 17) (ls2 := [(0, .ref A), (1, .int x)]) (st2 := [.int 0]) (w3 := w) rfl rfl ?_
      refine sx_RP.ret (r := (some (.int 0))) rfl rfl ?_
      first | exact ⟨rfl, rfl⟩ | exact absurd ⟨Int32.not_lt.mp (by assumption), by first | assumption | exact Int32.not_le.mp (by assumption)⟩ hh | exact absurd (by assumption) (Int32.not_lt.mpr hh.1) | exact absurd (by assumption) (Int32.not_le.mpr hh.2)
    · replace q1 := of_decide_eq_false q1
      refine sx_RP.step (pc2 := 5) (ls2 := [(0, .ref A), (1, .int x)]) (st2 := [.int x]) (w3 := w) rfl rfl ?_
      refine sx_RP.step (pc2 := 6) (ls2 := [(0, .ref A), (1, .int x)]) (st2 := [.ref A, .int x]) (w3 := w) rfl rfl ?_
      refine sx_RP.gc (k := 5) hI hA rfl rfl (by omega) (show _ = 9 from rfl) ?_
      rw [en]
      refine sx_RP.br (p1 := 16) (l1 := [(0, .ref A), (1, .int x)]) (s1 := []) (v1 := w) (p2 := 12) (l2 := [(0, .ref A), (1, .int x)]) (s2 := []) (v2 := w) rfl rfl (fun q2 => ?_) (fun q2 => ?_)
      · replace q2 := of_decide_eq_true q2
        refine sx_RP.step (pc2 := 17) (ls2 := [(0, .ref A), (1, .int x)]) (st2 := [.int 0]) (w3 := w) rfl rfl ?_
        refine sx_RP.ret (r := (some (.int 0))) rfl rfl ?_
        first | exact ⟨rfl, rfl⟩ | exact absurd ⟨Int32.not_lt.mp (by assumption), by first | assumption | exact Int32.not_le.mp (by assumption)⟩ hh | exact absurd (by assumption) (Int32.not_lt.mpr hh.1) | exact absurd (by assumption) (Int32.not_le.mpr hh.2)
      · replace q2 := of_decide_eq_false q2
        refine sx_RP.step (pc2 := 13) (ls2 := [(0, .ref A), (1, .int x)]) (st2 := [.int 1]) (w3 := w) rfl rfl ?_
        refine sx_RP.step (pc2 := 17) (ls2 := [(0, .ref A), (1, .int x)]) (st2 := [.int 1]) (w3 := w) rfl rfl ?_
        refine sx_RP.ret (r := (some (.int 1))) rfl rfl ?_
        first | exact ⟨rfl, rfl⟩ | exact absurd ⟨Int32.not_lt.mp (by assumption), by first | assumption | exact Int32.not_le.mp (by assumption)⟩ hh | exact absurd (by assumption) (Int32.not_lt.mpr hh.1) | exact absurd (by assumption) (Int32.not_le.mpr hh.2)
  obtain ⟨r, w2, h1, rfl, rfl⟩ := h
  exact h1
set_option maxRecDepth 20000 in
set_option maxHeartbeats 4000000 in
theorem B21 {xs : Option (List Int32)} {d : Nat} {w : List sx_C} (hI : WI w) (a1 a2 a3 a4 : Int32) : sx_RP xs (d + 7) 21 0 (lv_args 0 [.ref 0, .int a1, .int a2, .int a3, .int a4]) [] w (fun r w2 => (r = some (.int (galA (FCb w) a1 a2 a3 a4)) ∧ FCb w2 = galU (FCb w) a1 a2 a3 a4) ∧ WI w2 ∧ ∀ a, 111 ≤ a → w2[a]? = w[a]?) := by
  obtain ⟨n, hn, en⟩ := (hI.c (Or.inl rfl)).1
  refine sx_RP.step (pc2 := 1) (ls2 := [(0, .ref 0), (1, .int a1), (2, .int a2), (3, .int a3), (4, .int a4)]) (st2 := [.int a1]) (w3 := w) rfl rfl ?_
  rcases in_cases a1 0 5 (m := 0) (n := 5) rfl rfl (by decide) (by decide) with q1 | ⟨x2, hx3, hx4, rfl⟩
  · refine sx_RP.cu (as := [.int a1]) (rest2 := []) (st3 := [.int 0]) rfl rfl rfl rfl rfl (cx_22n q1) rfl ?_
    refine sx_RP.step (pc2 := 31) (ls2 := [(0, .ref 0), (1, .int a1), (2, .int a2), (3, .int a3), (4, .int a4)]) (st2 := []) (w3 := w) rfl rfl ?_
    refine sx_RP.step (pc2 := 32) (ls2 := [(0, .ref 0), (1, .int a1), (2, .int a2), (3, .int a3), (4, .int a4)]) (st2 := [.ref 0]) (w3 := w) rfl rfl ?_
    refine sx_RP.step (pc2 := 34) (ls2 := [(0, .ref 0), (1, .int a1), (2, .int a2), (3, .int a3), (4, .int a4)]) (st2 := [.int (-1000000001), .ref 0]) (w3 := w) rfl rfl ?_
    refine sx_RP.callp (as2 := [.ref 0, .int (-1000000001)]) (rest2 := []) rfl rfl (sx_inv_v2 (mi := 21) (k := 78) (st := [.int (-1000000001), .ref 0]) (w := w) rfl rfl hI.1.o0 rfl rfl rfl) rfl rfl rfl (Q9_0 hI) (show _ = 37 from rfl) ?_
    rintro r4 w7 ⟨rfl, hI8, hE6⟩
    show sx_RP _ _ _ _ _ [.int (-1000000001)] _ _
    refine sx_RP.ret (r := (some (.int (-1000000001)))) rfl rfl ?_
    exact ⟨⟨by rw [(gal_1 (fun z => q1 z.1)).1], by rw [(gal_1 (fun z => q1 z.1)).2]; exact FCb_en hI hE6.en⟩, hI8, fun a ha => hE6 a (Or.inr (Or.inr (by omega)))⟩
  · refine sx_RP.cu (as := [.int (nI x2)]) (rest2 := []) (st3 := [.int 1]) rfl rfl rfl rfl rfl (cx_22p ⟨nI_le (a := 0) hx3 (by omega), nI_le (b := 5) hx4 (by decide)⟩) rfl ?_
    refine sx_RP.step (pc2 := 7) (ls2 := [(0, .ref 0), (1, .int (nI x2)), (2, .int a2), (3, .int a3), (4, .int a4)]) (st2 := []) (w3 := w) rfl rfl ?_
    refine sx_RP.step (pc2 := 8) (ls2 := [(0, .ref 0), (1, .int (nI x2)), (2, .int a2), (3, .int a3), (4, .int a4)]) (st2 := [.int a2]) (w3 := w) rfl rfl ?_
    refine sx_RP.step (pc2 := 9) (ls2 := [(0, .ref 0), (1, .int (nI x2)), (2, .int a2), (3, .int a3), (4, .int a4)]) (st2 := [.int 0, .int a2]) (w3 := w) rfl rfl ?_
    refine sx_RP.step (pc2 := 10) (ls2 := [(0, .ref 0), (1, .int (nI x2)), (2, .int a2), (3, .int a3), (4, .int a4)]) (st2 := [.int 1, .int 0, .int a2]) (w3 := w) rfl rfl ?_
    rcases in_cases a2 0 1 (m := 0) (n := 1) rfl rfl (by decide) (by decide) with q9 | ⟨x10, hx11, hx12, rfl⟩
    · refine sx_RP.cu (as := [.int a2, .int 0, .int 1]) (rest2 := []) (st3 := [.int 0]) rfl rfl rfl rfl rfl (cx_8n q9) rfl ?_
      refine sx_RP.step (pc2 := 31) (ls2 := [(0, .ref 0), (1, .int (nI x2)), (2, .int a2), (3, .int a3), (4, .int a4)]) (st2 := []) (w3 := w) rfl rfl ?_
      refine sx_RP.step (pc2 := 32) (ls2 := [(0, .ref 0), (1, .int (nI x2)), (2, .int a2), (3, .int a3), (4, .int a4)]) (st2 := [.ref 0]) (w3 := w) rfl rfl ?_
      refine sx_RP.step (pc2 := 34) (ls2 := [(0, .ref 0), (1, .int (nI x2)), (2, .int a2), (3, .int a3), (4, .int a4)]) (st2 := [.int (-1000000001), .ref 0]) (w3 := w) rfl rfl ?_
      refine sx_RP.callp (as2 := [.ref 0, .int (-1000000001)]) (rest2 := []) rfl rfl (sx_inv_v2 (mi := 21) (k := 78) (st := [.int (-1000000001), .ref 0]) (w := w) rfl rfl hI.1.o0 rfl rfl rfl) rfl rfl rfl (Q9_0 hI) (show _ = 37 from rfl) ?_
      rintro r4 w15 ⟨rfl, hI16, hE14⟩
      show sx_RP _ _ _ _ _ [.int (-1000000001)] _ _
      refine sx_RP.ret (r := (some (.int (-1000000001)))) rfl rfl ?_
      exact ⟨⟨by rw [(gal_1 (fun z => q9 z.2.1)).1], by rw [(gal_1 (fun z => q9 z.2.1)).2]; exact FCb_en hI hE14.en⟩, hI16, fun a ha => hE14 a (Or.inr (Or.inr (by omega)))⟩
    · refine sx_RP.cu (as := [.int (nI x10), .int 0, .int 1]) (rest2 := []) (st3 := [.int 1]) rfl rfl rfl rfl rfl (cx_8p ⟨nI_le (a := 0) hx11 (by omega), nI_le (b := 1) hx12 (by decide)⟩) rfl ?_
      refine sx_RP.step (pc2 := 16) (ls2 := [(0, .ref 0), (1, .int (nI x2)), (2, .int (nI x10)), (3, .int a3), (4, .int a4)]) (st2 := []) (w3 := w) rfl rfl ?_
      refine sx_RP.step (pc2 := 17) (ls2 := [(0, .ref 0), (1, .int (nI x2)), (2, .int (nI x10)), (3, .int a3), (4, .int a4)]) (st2 := [.int a3]) (w3 := w) rfl rfl ?_
      rcases in_cases a3 0 47 (m := 0) (n := 47) rfl rfl (by decide) (by decide) with q17 | ⟨x18, hx19, hx20, rfl⟩
      · refine sx_RP.cu (as := [.int a3]) (rest2 := []) (st3 := [.int 0]) rfl rfl rfl rfl rfl (cx_7n q17) rfl ?_
        refine sx_RP.step (pc2 := 31) (ls2 := [(0, .ref 0), (1, .int (nI x2)), (2, .int (nI x10)), (3, .int a3), (4, .int a4)]) (st2 := []) (w3 := w) rfl rfl ?_
        refine sx_RP.step (pc2 := 32) (ls2 := [(0, .ref 0), (1, .int (nI x2)), (2, .int (nI x10)), (3, .int a3), (4, .int a4)]) (st2 := [.ref 0]) (w3 := w) rfl rfl ?_
        refine sx_RP.step (pc2 := 34) (ls2 := [(0, .ref 0), (1, .int (nI x2)), (2, .int (nI x10)), (3, .int a3), (4, .int a4)]) (st2 := [.int (-1000000001), .ref 0]) (w3 := w) rfl rfl ?_
        refine sx_RP.callp (as2 := [.ref 0, .int (-1000000001)]) (rest2 := []) rfl rfl (sx_inv_v2 (mi := 21) (k := 78) (st := [.int (-1000000001), .ref 0]) (w := w) rfl rfl hI.1.o0 rfl rfl rfl) rfl rfl rfl (Q9_0 hI) (show _ = 37 from rfl) ?_
        rintro r4 w23 ⟨rfl, hI24, hE22⟩
        show sx_RP _ _ _ _ _ [.int (-1000000001)] _ _
        refine sx_RP.ret (r := (some (.int (-1000000001)))) rfl rfl ?_
        exact ⟨⟨by rw [(gal_1 (fun z => q17 z.2.2.1)).1], by rw [(gal_1 (fun z => q17 z.2.2.1)).2]; exact FCb_en hI hE22.en⟩, hI24, fun a ha => hE22 a (Or.inr (Or.inr (by omega)))⟩
      · refine sx_RP.cu (as := [.int (nI x18)]) (rest2 := []) (st3 := [.int 1]) rfl rfl rfl rfl rfl (cx_7p ⟨nI_le (a := 0) hx19 (by omega), nI_le (b := 47) hx20 (by decide)⟩) rfl ?_
        refine sx_RP.step (pc2 := 23) (ls2 := [(0, .ref 0), (1, .int (nI x2)), (2, .int (nI x10)), (3, .int (nI x18)), (4, .int a4)]) (st2 := []) (w3 := w) rfl rfl ?_
        refine sx_RP.step (pc2 := 25) (ls2 := [(0, .ref 0), (1, .int (nI x2)), (2, .int (nI x10)), (3, .int (nI x18)), (4, .int a4)]) (st2 := [.int a4]) (w3 := w) rfl rfl ?_
        rcases in_cases a4 0 3 (m := 0) (n := 3) rfl rfl (by decide) (by decide) with q25 | ⟨x26, hx27, hx28, rfl⟩
        · refine sx_RP.cu (as := [.int a4]) (rest2 := []) (st3 := [.int 0]) rfl rfl rfl rfl rfl (cx_23n q25) rfl ?_
          refine sx_RP.step (pc2 := 31) (ls2 := [(0, .ref 0), (1, .int (nI x2)), (2, .int (nI x10)), (3, .int (nI x18)), (4, .int a4)]) (st2 := []) (w3 := w) rfl rfl ?_
          refine sx_RP.step (pc2 := 32) (ls2 := [(0, .ref 0), (1, .int (nI x2)), (2, .int (nI x10)), (3, .int (nI x18)), (4, .int a4)]) (st2 := [.ref 0]) (w3 := w) rfl rfl ?_
          refine sx_RP.step (pc2 := 34) (ls2 := [(0, .ref 0), (1, .int (nI x2)), (2, .int (nI x10)), (3, .int (nI x18)), (4, .int a4)]) (st2 := [.int (-1000000001), .ref 0]) (w3 := w) rfl rfl ?_
          refine sx_RP.callp (as2 := [.ref 0, .int (-1000000001)]) (rest2 := []) rfl rfl (sx_inv_v2 (mi := 21) (k := 78) (st := [.int (-1000000001), .ref 0]) (w := w) rfl rfl hI.1.o0 rfl rfl rfl) rfl rfl rfl (Q9_0 hI) (show _ = 37 from rfl) ?_
          rintro r4 w31 ⟨rfl, hI32, hE30⟩
          show sx_RP _ _ _ _ _ [.int (-1000000001)] _ _
          refine sx_RP.ret (r := (some (.int (-1000000001)))) rfl rfl ?_
          exact ⟨⟨by rw [(gal_1 (fun z => q25 z.2.2.2)).1], by rw [(gal_1 (fun z => q25 z.2.2.2)).2]; exact FCb_en hI hE30.en⟩, hI32, fun a ha => hE30 a (Or.inr (Or.inr (by omega)))⟩
        · refine sx_RP.cu (as := [.int (nI x26)]) (rest2 := []) (st3 := [.int 1]) rfl rfl rfl rfl rfl (cx_23p ⟨nI_le (a := 0) hx27 (by omega), nI_le (b := 3) hx28 (by decide)⟩) rfl ?_
          refine sx_RP.step (pc2 := 38) (ls2 := [(0, .ref 0), (1, .int (nI x2)), (2, .int (nI x10)), (3, .int (nI x18)), (4, .int (nI x26))]) (st2 := []) (w3 := w) rfl rfl ?_
          refine sx_RP.step (pc2 := 39) (ls2 := [(0, .ref 0), (1, .int (nI x2)), (2, .int (nI x10)), (3, .int (nI x18)), (4, .int (nI x26))]) (st2 := [.ref 0]) (w3 := w) rfl rfl ?_
          refine sx_RP.gf (v := .ref 1) rfl rfl hI.1.o0 rfl rfl (show _ = 42 from rfl) ?_
          rcases Decidable.em (n < 10) with c33 | c33
          · refine sx_RP.cu (as := [.ref 1]) (rest2 := []) (st3 := [.int 1]) rfl rfl (sx_inv_v2 (mi := 21) (k := 111) (st := [.ref 1]) (w := w) rfl rfl (hI.1.oC (Or.inl rfl)) rfl rfl rfl) rfl rfl (p24y hI (Or.inl rfl) en hn c33) rfl ?_
            refine sx_RP.step (pc2 := 55) (ls2 := [(0, .ref 0), (1, .int (nI x2)), (2, .int (nI x10)), (3, .int (nI x18)), (4, .int (nI x26))]) (st2 := []) (w3 := w) rfl rfl ?_
            refine sx_RP.step (pc2 := 56) (ls2 := [(0, .ref 0), (1, .int (nI x2)), (2, .int (nI x10)), (3, .int (nI x18)), (4, .int (nI x26))]) (st2 := [.ref 0]) (w3 := w) rfl rfl ?_
            refine sx_RP.gf (v := .ref 1) rfl rfl hI.1.o0 rfl rfl (show _ = 59 from rfl) ?_
            refine sx_RP.step (pc2 := 60) (ls2 := [(0, .ref 0), (1, .int (nI x2)), (2, .int (nI x10)), (3, .int (nI x18)), (4, .int (nI x26))]) (st2 := [.int (nI x2), .ref 1]) (w3 := w) rfl rfl ?_
            refine sx_RP.step (pc2 := 61) (ls2 := [(0, .ref 0), (1, .int (nI x2)), (2, .int (nI x10)), (3, .int (nI x18)), (4, .int (nI x26))]) (st2 := [.int (nI x10), .int (nI x2), .ref 1]) (w3 := w) rfl rfl ?_
            refine sx_RP.step (pc2 := 62) (ls2 := [(0, .ref 0), (1, .int (nI x2)), (2, .int (nI x10)), (3, .int (nI x18)), (4, .int (nI x26))]) (st2 := [.int (nI x18), .int (nI x10), .int (nI x2), .ref 1]) (w3 := w) rfl rfl ?_
            refine sx_RP.step (pc2 := 64) (ls2 := [(0, .ref 0), (1, .int (nI x2)), (2, .int (nI x10)), (3, .int (nI x18)), (4, .int (nI x26))]) (st2 := [.int (nI x26), .int (nI x18), .int (nI x10), .int (nI x2), .ref 1]) (w3 := w) rfl rfl ?_
            refine sx_RP.callp (as2 := [.ref 1, .int (nI x2), .int (nI x10), .int (nI x18), .int (nI x26)]) (rest2 := []) rfl rfl (sx_inv_v2 (mi := 21) (k := 116) (st := [.int (nI x26), .int (nI x18), .int (nI x10), .int (nI x2), .ref 1]) (w := w) rfl rfl (hI.1.oC (Or.inl rfl)) rfl rfl rfl) rfl rfl rfl (X25 hI (Or.inl rfl) (by omega) en (show x2 ≤ 5 by omega) (show x10 ≤ 1 by omega) (show x18 < 48 by omega) (show x26 ≤ 3 by omega)) (show _ = 67 from rfl) ?_
            rintro r4 w36 ⟨⟨rfl, hc34⟩, hI37, ho35⟩
            show sx_RP _ _ _ _ _ [.int (nI n)] _ _
            refine sx_RP.ret (r := (some (.int (nI n)))) rfl rfl ?_
            exact ⟨⟨by rw [(gal_3 ⟨⟨nI_le (a := 0) (show 0 ≤ x2 by omega) (by omega), nI_le (b := 5) (show x2 ≤ 5 by omega) (by decide)⟩, ⟨nI_le (a := 0) (show 0 ≤ x10 by omega) (by omega), nI_le (b := 1) (show x10 ≤ 1 by omega) (by decide)⟩, ⟨nI_le (a := 0) (show 0 ≤ x18 by omega) (by omega), nI_le (b := 47) (show x18 ≤ 47 by omega) (by decide)⟩, ⟨nI_le (a := 0) (show 0 ≤ x26 by omega) (by omega), nI_le (b := 3) (show x26 ≤ 3 by omega) (by decide)⟩⟩ (by rw [FCb_len en hn]; exact c33)).1, FCb_len en hn], by rw [(gal_3 ⟨⟨nI_le (a := 0) (show 0 ≤ x2 by omega) (by omega), nI_le (b := 5) (show x2 ≤ 5 by omega) (by decide)⟩, ⟨nI_le (a := 0) (show 0 ≤ x10 by omega) (by omega), nI_le (b := 1) (show x10 ≤ 1 by omega) (by decide)⟩, ⟨nI_le (a := 0) (show 0 ≤ x18 by omega) (by omega), nI_le (b := 47) (show x18 ≤ 47 by omega) (by decide)⟩, ⟨nI_le (a := 0) (show 0 ≤ x26 by omega) (by omega), nI_le (b := 3) (show x26 ≤ 3 by omega) (by decide)⟩⟩ (by rw [FCb_len en hn]; exact c33)).2, FCb_camp hI ho35, hc34]; rfl⟩, hI37, fun a ha => ho35 a (by omega)⟩
          · refine sx_RP.cu (as := [.ref 1]) (rest2 := []) (st3 := [.int 0]) rfl rfl (sx_inv_v2 (mi := 21) (k := 111) (st := [.ref 1]) (w := w) rfl rfl (hI.1.oC (Or.inl rfl)) rfl rfl rfl) rfl rfl (p24n hI (Or.inl rfl) en hn c33) rfl ?_
            refine sx_RP.step (pc2 := 48) (ls2 := [(0, .ref 0), (1, .int (nI x2)), (2, .int (nI x10)), (3, .int (nI x18)), (4, .int (nI x26))]) (st2 := []) (w3 := w) rfl rfl ?_
            refine sx_RP.step (pc2 := 49) (ls2 := [(0, .ref 0), (1, .int (nI x2)), (2, .int (nI x10)), (3, .int (nI x18)), (4, .int (nI x26))]) (st2 := [.ref 0]) (w3 := w) rfl rfl ?_
            refine sx_RP.step (pc2 := 51) (ls2 := [(0, .ref 0), (1, .int (nI x2)), (2, .int (nI x10)), (3, .int (nI x18)), (4, .int (nI x26))]) (st2 := [.int (-1000000002), .ref 0]) (w3 := w) rfl rfl ?_
            refine sx_RP.callp (as2 := [.ref 0, .int (-1000000002)]) (rest2 := []) rfl rfl (sx_inv_v2 (mi := 21) (k := 78) (st := [.int (-1000000002), .ref 0]) (w := w) rfl rfl hI.1.o0 rfl rfl rfl) rfl rfl rfl (Q9_1 hI) (show _ = 54 from rfl) ?_
            rintro r4 w39 ⟨rfl, hI40, hE38⟩
            show sx_RP _ _ _ _ _ [.int (-1000000002)] _ _
            refine sx_RP.ret (r := (some (.int (-1000000002)))) rfl rfl ?_
            exact ⟨⟨by rw [(gal_2 ⟨⟨nI_le (a := 0) (show 0 ≤ x2 by omega) (by omega), nI_le (b := 5) (show x2 ≤ 5 by omega) (by decide)⟩, ⟨nI_le (a := 0) (show 0 ≤ x10 by omega) (by omega), nI_le (b := 1) (show x10 ≤ 1 by omega) (by decide)⟩, ⟨nI_le (a := 0) (show 0 ≤ x18 by omega) (by omega), nI_le (b := 47) (show x18 ≤ 47 by omega) (by decide)⟩, ⟨nI_le (a := 0) (show 0 ≤ x26 by omega) (by omega), nI_le (b := 3) (show x26 ≤ 3 by omega) (by decide)⟩⟩ (by rw [FCb_len en hn]; exact c33)).1], by rw [(gal_2 ⟨⟨nI_le (a := 0) (show 0 ≤ x2 by omega) (by omega), nI_le (b := 5) (show x2 ≤ 5 by omega) (by decide)⟩, ⟨nI_le (a := 0) (show 0 ≤ x10 by omega) (by omega), nI_le (b := 1) (show x10 ≤ 1 by omega) (by decide)⟩, ⟨nI_le (a := 0) (show 0 ≤ x18 by omega) (by omega), nI_le (b := 47) (show x18 ≤ 47 by omega) (by decide)⟩, ⟨nI_le (a := 0) (show 0 ≤ x26 by omega) (by omega), nI_le (b := 3) (show x26 ≤ 3 by omega) (by decide)⟩⟩ (by rw [FCb_len en hn]; exact c33)).2]; exact FCb_en hI hE38.en⟩, hI40, fun a ha => hE38 a (Or.inr (Or.inr (by omega)))⟩
set_option maxRecDepth 20000 in
set_option maxHeartbeats 4000000 in
theorem B29 {xs : Option (List Int32)} {d : Nat} {w : List sx_C} (hI : WI w) (a1 a2 : Int32) : sx_RP xs (d + 7) 29 0 (lv_args 0 [.ref 0, .int a1, .int a2]) [] w (fun r w2 => (r = some (.int (becA (FCb w) a1 a2)) ∧ FCb w2 = becU (FCb w) a1 a2) ∧ WI w2 ∧ ∀ a, 111 ≤ a → w2[a]? = w[a]?) := by
  obtain ⟨n, hn, en⟩ := (hI.c (Or.inl rfl)).1
  refine sx_RP.step (pc2 := 1) (ls2 := [(0, .ref 0), (1, .int a1), (2, .int a2)]) (st2 := [.ref 0]) (w3 := w) rfl rfl ?_
  refine sx_RP.gf (v := .ref 1) rfl rfl hI.1.o0 rfl rfl (show _ = 4 from rfl) ?_
  refine sx_RP.step (pc2 := 5) (ls2 := [(0, .ref 0), (1, .int a1), (2, .int a2)]) (st2 := [.int a1, .ref 1]) (w3 := w) rfl rfl ?_
  rcases Decidable.em (0 ≤ a1 ∧ a1 < nI n) with c1 | c1
  · obtain ⟨x2, hx3, rfl⟩ := idx_get c1 (by omega)
    refine sx_RP.cu (as := [.ref 1, .int (nI x2)]) (rest2 := []) (st3 := [.int 1]) rfl rfl (sx_inv_v2 (mi := 29) (k := 120) (st := [.int (nI x2), .ref 1]) (w := w) rfl rfl (hI.1.oC (Or.inl rfl)) rfl rfl rfl) rfl rfl (p27y hI (Or.inl rfl) en hn c1) rfl ?_
    refine sx_RP.step (pc2 := 11) (ls2 := [(0, .ref 0), (1, .int (nI x2)), (2, .int a2)]) (st2 := []) (w3 := w) rfl rfl ?_
    refine sx_RP.step (pc2 := 12) (ls2 := [(0, .ref 0), (1, .int (nI x2)), (2, .int a2)]) (st2 := [.int a2]) (w3 := w) rfl rfl ?_
    rcases in_cases a2 0 5 (m := 0) (n := 5) rfl rfl (by decide) (by decide) with q4 | ⟨x5, hx6, hx7, rfl⟩
    · refine sx_RP.cu (as := [.int a2]) (rest2 := []) (st3 := [.int 0]) rfl rfl rfl rfl rfl (cx_22n q4) rfl ?_
      refine sx_RP.step (pc2 := 18) (ls2 := [(0, .ref 0), (1, .int (nI x2)), (2, .int a2)]) (st2 := []) (w3 := w) rfl rfl ?_
      refine sx_RP.step (pc2 := 19) (ls2 := [(0, .ref 0), (1, .int (nI x2)), (2, .int a2)]) (st2 := [.ref 0]) (w3 := w) rfl rfl ?_
      refine sx_RP.step (pc2 := 21) (ls2 := [(0, .ref 0), (1, .int (nI x2)), (2, .int a2)]) (st2 := [.int (-1000000001), .ref 0]) (w3 := w) rfl rfl ?_
      refine sx_RP.callp (as2 := [.ref 0, .int (-1000000001)]) (rest2 := []) rfl rfl (sx_inv_v2 (mi := 29) (k := 78) (st := [.int (-1000000001), .ref 0]) (w := w) rfl rfl hI.1.o0 rfl rfl rfl) rfl rfl rfl (Q9_0 hI) (show _ = 24 from rfl) ?_
      rintro r4 w10 ⟨rfl, hI11, hE9⟩
      show sx_RP _ _ _ _ _ [.int (-1000000001)] _ _
      refine sx_RP.ret (r := (some (.int (-1000000001)))) rfl rfl ?_
      exact ⟨⟨by rw [(bec_1 (fun z => q4 z.2)).1], by rw [(bec_1 (fun z => q4 z.2)).2]; exact FCb_en hI hE9.en⟩, hI11, fun a ha => hE9 a (Or.inr (Or.inr (by omega)))⟩
    · refine sx_RP.cu (as := [.int (nI x5)]) (rest2 := []) (st3 := [.int 1]) rfl rfl rfl rfl rfl (cx_22p ⟨nI_le (a := 0) hx6 (by omega), nI_le (b := 5) hx7 (by decide)⟩) rfl ?_
      refine sx_RP.step (pc2 := 25) (ls2 := [(0, .ref 0), (1, .int (nI x2)), (2, .int (nI x5))]) (st2 := []) (w3 := w) rfl rfl ?_
      refine sx_RP.step (pc2 := 26) (ls2 := [(0, .ref 0), (1, .int (nI x2)), (2, .int (nI x5))]) (st2 := [.ref 0]) (w3 := w) rfl rfl ?_
      refine sx_RP.gf (v := .ref 1) rfl rfl hI.1.o0 rfl rfl (show _ = 29 from rfl) ?_
      refine sx_RP.gref (k := 2) (b := 3) hI (Or.inl rfl) rfl rfl (by omega) (show _ = 32 from rfl) ?_
      refine sx_RP.step (pc2 := 33) (ls2 := [(0, .ref 0), (1, .int (nI x2)), (2, .int (nI x5))]) (st2 := [.int (nI x2), .ref 3]) (w3 := w) rfl rfl ?_
      refine sx_RP.ald (v := .ref (1 + 4 + x2)) rfl (hI.1.aG (Or.inl rfl)) rfl (grA_at (show x2 < 10 by omega)) (show _ = 34 from rfl) ?_
      refine sx_RP.step (pc2 := 35) (ls2 := [(3, .ref (1 + 4 + x2)), (0, .ref 0), (1, .int (nI x2)), (2, .int (nI x5))]) (st2 := []) (w3 := w) rfl rfl ?_
      refine sx_RP.step (pc2 := 36) (ls2 := [(3, .ref (1 + 4 + x2)), (0, .ref 0), (1, .int (nI x2)), (2, .int (nI x5))]) (st2 := [.ref (1 + 4 + x2)]) (w3 := w) rfl rfl ?_
      refine sx_RP.gg (k := 0) hI (gAd.of (Or.inl rfl) (show x2 < 10 by omega)) rfl rfl (by decide) (show _ = 39 from rfl) ?_
      obtain ⟨x12, hx13, ex14⟩ : inR (fi w (1 + 4 + x2) 0) 5 := hI.gk (k := 0) (gAd.of (Or.inl rfl) (show x2 < 10 by omega)) (by decide)
      rw [ex14]
      refine sx_RP.step (pc2 := 41) (ls2 := [(4, .int (nI x12)), (3, .ref (1 + 4 + x2)), (0, .ref 0), (1, .int (nI x2)), (2, .int (nI x5))]) (st2 := []) (w3 := w) rfl rfl ?_
      refine sx_RP.step (pc2 := 42) (ls2 := [(4, .int (nI x12)), (3, .ref (1 + 4 + x2)), (0, .ref 0), (1, .int (nI x2)), (2, .int (nI x5))]) (st2 := [.ref (1 + 4 + x2)]) (w3 := w) rfl rfl ?_
      refine sx_RP.step (pc2 := 43) (ls2 := [(4, .int (nI x12)), (3, .ref (1 + 4 + x2)), (0, .ref 0), (1, .int (nI x2)), (2, .int (nI x5))]) (st2 := [.int (nI x5), .ref (1 + 4 + x2)]) (w3 := w) rfl rfl ?_
      refine sx_RP.xG (k := 0) hI (gAd.of (Or.inl rfl) (show x2 < 10 by omega)) rfl rfl (by decide) rfl (inR.n (show x5 ≤ 5 by omega)) (show _ = 46 from rfl) (fun w15 hI16 hs17 hv18 hr19 => ?_)
      have ex20 := (fi_same 3 (hs17 1 (by omega))).trans en
      refine sx_RP.step (pc2 := 48) (ls2 := [(4, .int (nI x12)), (3, .ref (1 + 4 + x2)), (0, .ref 0), (1, .int (nI x2)), (2, .int (nI x5))]) (st2 := [.int (nI x12)]) (w3 := w15) rfl rfl ?_
      refine sx_RP.ret (r := (some (.int (nI x12)))) rfl rfl ?_
      have ho : Out 1 w w15 := Out.st Out.rf hs17 (by omega)
      exact ⟨⟨by rw [(bec_2 ⟨by rw [FCb_len en hn]; exact c1, ⟨nI_le (a := 0) (show 0 ≤ x5 by omega) (by omega), nI_le (b := 5) (show x5 ≤ 5 by omega) (by decide)⟩⟩).1, FCb_kind en hn hx3, ex14], by rw [(bec_2 ⟨by rw [FCb_len en hn]; exact c1, ⟨nI_le (a := 0) (show 0 ≤ x5 by omega) (by omega), nI_le (b := 5) (show x5 ≤ 5 by omega) (by decide)⟩⟩).2, FCb_camp hI ho, campB_setK hI (Or.inl rfl) en hn hx3 hs17 hv18, iN_n (show x2 < 2 ^ 31 by omega)]; rfl⟩, hI16, fun a ha => ho a (by omega)⟩
  · refine sx_RP.cu (as := [.ref 1, .int a1]) (rest2 := []) (st3 := [.int 0]) rfl rfl (sx_inv_v2 (mi := 29) (k := 120) (st := [.int a1, .ref 1]) (w := w) rfl rfl (hI.1.oC (Or.inl rfl)) rfl rfl rfl) rfl rfl (p27n hI (Or.inl rfl) en hn c1) rfl ?_
    refine sx_RP.step (pc2 := 18) (ls2 := [(0, .ref 0), (1, .int a1), (2, .int a2)]) (st2 := []) (w3 := w) rfl rfl ?_
    refine sx_RP.step (pc2 := 19) (ls2 := [(0, .ref 0), (1, .int a1), (2, .int a2)]) (st2 := [.ref 0]) (w3 := w) rfl rfl ?_
    refine sx_RP.step (pc2 := 21) (ls2 := [(0, .ref 0), (1, .int a1), (2, .int a2)]) (st2 := [.int (-1000000001), .ref 0]) (w3 := w) rfl rfl ?_
    refine sx_RP.callp (as2 := [.ref 0, .int (-1000000001)]) (rest2 := []) rfl rfl (sx_inv_v2 (mi := 29) (k := 78) (st := [.int (-1000000001), .ref 0]) (w := w) rfl rfl hI.1.o0 rfl rfl rfl) rfl rfl rfl (Q9_0 hI) (show _ = 24 from rfl) ?_
    rintro r4 w22 ⟨rfl, hI23, hE21⟩
    show sx_RP _ _ _ _ _ [.int (-1000000001)] _ _
    refine sx_RP.ret (r := (some (.int (-1000000001)))) rfl rfl ?_
    exact ⟨⟨by rw [(bec_1 (fun z => c1 (by rw [← FCb_len en hn]; exact z.1))).1], by rw [(bec_1 (fun z => c1 (by rw [← FCb_len en hn]; exact z.1))).2]; exact FCb_en hI hE21.en⟩, hI23, fun a ha => hE21 a (Or.inr (Or.inr (by omega)))⟩
set_option maxRecDepth 20000 in
set_option maxHeartbeats 4000000 in
theorem B62 {xs : Option (List Int32)} {d : Nat} {w : List sx_C} (hI : WI w) (a1 : Int32) : sx_RP xs (d + 7) 62 0 (lv_args 0 [.ref 0, .int a1]) [] w (fun r w2 => (r = some (.int (disA (FCb w) a1)) ∧ FCb w2 = disU (FCb w) a1) ∧ WI w2 ∧ ∀ a, 111 ≤ a → w2[a]? = w[a]?) := by
  obtain ⟨n, hn, en⟩ := (hI.c (Or.inl rfl)).2
  refine sx_RP.step (pc2 := 1) (ls2 := [(0, .ref 0), (1, .int a1)]) (st2 := [.int a1]) (w3 := w) rfl rfl ?_
  rcases in_cases a1 0 47 (m := 0) (n := 47) rfl rfl (by decide) (by decide) with q1 | ⟨x2, hx3, hx4, rfl⟩
  · refine sx_RP.cu (as := [.int a1]) (rest2 := []) (st3 := [.int 0]) rfl rfl rfl rfl rfl (cx_7n q1) rfl ?_
    refine sx_RP.step (pc2 := 7) (ls2 := [(0, .ref 0), (1, .int a1)]) (st2 := []) (w3 := w) rfl rfl ?_
    refine sx_RP.step (pc2 := 8) (ls2 := [(0, .ref 0), (1, .int a1)]) (st2 := [.ref 0]) (w3 := w) rfl rfl ?_
    refine sx_RP.step (pc2 := 10) (ls2 := [(0, .ref 0), (1, .int a1)]) (st2 := [.int (-1000000001), .ref 0]) (w3 := w) rfl rfl ?_
    refine sx_RP.callp (as2 := [.ref 0, .int (-1000000001)]) (rest2 := []) rfl rfl (sx_inv_v2 (mi := 62) (k := 78) (st := [.int (-1000000001), .ref 0]) (w := w) rfl rfl hI.1.o0 rfl rfl rfl) rfl rfl rfl (Q9_0 hI) (show _ = 13 from rfl) ?_
    rintro r4 w7 ⟨rfl, hI8, hE6⟩
    show sx_RP _ _ _ _ _ [.int (-1000000001)] _ _
    refine sx_RP.ret (r := (some (.int (-1000000001)))) rfl rfl ?_
    exact ⟨⟨by rw [(dis_1 q1).1], by rw [(dis_1 q1).2]; exact FCb_en hI hE6.en⟩, hI8, fun a ha => hE6 a (Or.inr (Or.inr (by omega)))⟩
  · refine sx_RP.cu (as := [.int (nI x2)]) (rest2 := []) (st3 := [.int 1]) rfl rfl rfl rfl rfl (cx_7p ⟨nI_le (a := 0) hx3 (by omega), nI_le (b := 47) hx4 (by decide)⟩) rfl ?_
    refine sx_RP.step (pc2 := 14) (ls2 := [(0, .ref 0), (1, .int (nI x2))]) (st2 := []) (w3 := w) rfl rfl ?_
    refine sx_RP.step (pc2 := 15) (ls2 := [(0, .ref 0), (1, .int (nI x2))]) (st2 := [.ref 0]) (w3 := w) rfl rfl ?_
    refine sx_RP.gf (v := .ref 1) rfl rfl hI.1.o0 rfl rfl (show _ = 18 from rfl) ?_
    rcases Decidable.em (n < 9) with c9 | c9
    · refine sx_RP.cu (as := [.ref 1]) (rest2 := []) (st3 := [.int 1]) rfl rfl (sx_inv_v2 (mi := 62) (k := 219) (st := [.ref 1]) (w := w) rfl rfl (hI.1.oC (Or.inl rfl)) rfl rfl rfl) rfl rfl (p63y hI (Or.inl rfl) en hn c9) rfl ?_
      refine sx_RP.step (pc2 := 31) (ls2 := [(0, .ref 0), (1, .int (nI x2))]) (st2 := []) (w3 := w) rfl rfl ?_
      refine sx_RP.step (pc2 := 32) (ls2 := [(0, .ref 0), (1, .int (nI x2))]) (st2 := [.ref 0]) (w3 := w) rfl rfl ?_
      refine sx_RP.gf (v := .ref 1) rfl rfl hI.1.o0 rfl rfl (show _ = 35 from rfl) ?_
      refine sx_RP.step (pc2 := 36) (ls2 := [(0, .ref 0), (1, .int (nI x2))]) (st2 := [.int (nI x2), .ref 1]) (w3 := w) rfl rfl ?_
      refine sx_RP.callp (as2 := [.ref 1, .int (nI x2)]) (rest2 := []) rfl rfl (sx_inv_v2 (mi := 62) (k := 222) (st := [.int (nI x2), .ref 1]) (w := w) rfl rfl (hI.1.oC (Or.inl rfl)) rfl rfl rfl) rfl rfl rfl (X64 hI (Or.inl rfl) (by omega) en (show x2 < 48 by omega)) (show _ = 39 from rfl) ?_
      rintro r4 w12 ⟨⟨rfl, hc10⟩, hI13, ho11⟩
      show sx_RP _ _ _ _ _ [.int (nI n)] _ _
      refine sx_RP.ret (r := (some (.int (nI n)))) rfl rfl ?_
      exact ⟨⟨by rw [(dis_3 ⟨nI_le (a := 0) (show 0 ≤ x2 by omega) (by omega), nI_le (b := 47) (show x2 ≤ 47 by omega) (by decide)⟩ (by rw [FCb_dlen en (by omega)]; exact c9)).1, FCb_dlen en (by omega)], by rw [(dis_3 ⟨nI_le (a := 0) (show 0 ≤ x2 by omega) (by omega), nI_le (b := 47) (show x2 ≤ 47 by omega) (by decide)⟩ (by rw [FCb_dlen en (by omega)]; exact c9)).2, FCb_camp hI ho11, hc10]; rfl⟩, hI13, fun a ha => ho11 a (by omega)⟩
    · refine sx_RP.cu (as := [.ref 1]) (rest2 := []) (st3 := [.int 0]) rfl rfl (sx_inv_v2 (mi := 62) (k := 219) (st := [.ref 1]) (w := w) rfl rfl (hI.1.oC (Or.inl rfl)) rfl rfl rfl) rfl rfl (p63n hI (Or.inl rfl) en hn c9) rfl ?_
      refine sx_RP.step (pc2 := 24) (ls2 := [(0, .ref 0), (1, .int (nI x2))]) (st2 := []) (w3 := w) rfl rfl ?_
      refine sx_RP.step (pc2 := 25) (ls2 := [(0, .ref 0), (1, .int (nI x2))]) (st2 := [.ref 0]) (w3 := w) rfl rfl ?_
      refine sx_RP.step (pc2 := 27) (ls2 := [(0, .ref 0), (1, .int (nI x2))]) (st2 := [.int (-1000000002), .ref 0]) (w3 := w) rfl rfl ?_
      refine sx_RP.callp (as2 := [.ref 0, .int (-1000000002)]) (rest2 := []) rfl rfl (sx_inv_v2 (mi := 62) (k := 78) (st := [.int (-1000000002), .ref 0]) (w := w) rfl rfl hI.1.o0 rfl rfl rfl) rfl rfl rfl (Q9_1 hI) (show _ = 30 from rfl) ?_
      rintro r4 w15 ⟨rfl, hI16, hE14⟩
      show sx_RP _ _ _ _ _ [.int (-1000000002)] _ _
      refine sx_RP.ret (r := (some (.int (-1000000002)))) rfl rfl ?_
      exact ⟨⟨by rw [(dis_2 ⟨nI_le (a := 0) (show 0 ≤ x2 by omega) (by omega), nI_le (b := 47) (show x2 ≤ 47 by omega) (by decide)⟩ (by rw [FCb_dlen en (by omega)]; exact c9)).1], by rw [(dis_2 ⟨nI_le (a := 0) (show 0 ≤ x2 by omega) (by omega), nI_le (b := 47) (show x2 ≤ 47 by omega) (by decide)⟩ (by rw [FCb_dlen en (by omega)]; exact c9)).2]; exact FCb_en hI hE14.en⟩, hI16, fun a ha => hE14 a (Or.inr (Or.inr (by omega)))⟩
set_option maxRecDepth 20000 in
set_option maxHeartbeats 4000000 in
theorem B65 {xs : Option (List Int32)} {d : Nat} {w : List sx_C} (hI : WI w) (a1 a2 : Int32) : sx_RP xs (d + 7) 65 0 (lv_args 0 [.ref 0, .int a1, .int a2]) [] w (fun r w2 => (r = some (.int (movA (FCb w) a1 a2)) ∧ FCb w2 = movU (FCb w) a1 a2) ∧ WI w2 ∧ ∀ a, 111 ≤ a → w2[a]? = w[a]?) := by
  obtain ⟨n, hn, en⟩ := (hI.c (Or.inl rfl)).2
  refine sx_RP.step (pc2 := 1) (ls2 := [(0, .ref 0), (1, .int a1), (2, .int a2)]) (st2 := [.ref 0]) (w3 := w) rfl rfl ?_
  refine sx_RP.gf (v := .ref 1) rfl rfl hI.1.o0 rfl rfl (show _ = 4 from rfl) ?_
  refine sx_RP.step (pc2 := 5) (ls2 := [(0, .ref 0), (1, .int a1), (2, .int a2)]) (st2 := [.int a1, .ref 1]) (w3 := w) rfl rfl ?_
  rcases Decidable.em (0 ≤ a1 ∧ a1 < nI n) with c1 | c1
  · obtain ⟨x2, hx3, rfl⟩ := idx_get c1 (by omega)
    refine sx_RP.cu (as := [.ref 1, .int (nI x2)]) (rest2 := []) (st3 := [.int 1]) rfl rfl (sx_inv_v2 (mi := 65) (k := 225) (st := [.int (nI x2), .ref 1]) (w := w) rfl rfl (hI.1.oC (Or.inl rfl)) rfl rfl rfl) rfl rfl (p66y hI (Or.inl rfl) en hn c1) rfl ?_
    refine sx_RP.step (pc2 := 11) (ls2 := [(0, .ref 0), (1, .int (nI x2)), (2, .int a2)]) (st2 := []) (w3 := w) rfl rfl ?_
    refine sx_RP.step (pc2 := 12) (ls2 := [(0, .ref 0), (1, .int (nI x2)), (2, .int a2)]) (st2 := [.int a2]) (w3 := w) rfl rfl ?_
    rcases in_cases a2 0 47 (m := 0) (n := 47) rfl rfl (by decide) (by decide) with q4 | ⟨x5, hx6, hx7, rfl⟩
    · refine sx_RP.cu (as := [.int a2]) (rest2 := []) (st3 := [.int 0]) rfl rfl rfl rfl rfl (cx_7n q4) rfl ?_
      refine sx_RP.step (pc2 := 18) (ls2 := [(0, .ref 0), (1, .int (nI x2)), (2, .int a2)]) (st2 := []) (w3 := w) rfl rfl ?_
      refine sx_RP.step (pc2 := 19) (ls2 := [(0, .ref 0), (1, .int (nI x2)), (2, .int a2)]) (st2 := [.ref 0]) (w3 := w) rfl rfl ?_
      refine sx_RP.step (pc2 := 21) (ls2 := [(0, .ref 0), (1, .int (nI x2)), (2, .int a2)]) (st2 := [.int (-1000000001), .ref 0]) (w3 := w) rfl rfl ?_
      refine sx_RP.callp (as2 := [.ref 0, .int (-1000000001)]) (rest2 := []) rfl rfl (sx_inv_v2 (mi := 65) (k := 78) (st := [.int (-1000000001), .ref 0]) (w := w) rfl rfl hI.1.o0 rfl rfl rfl) rfl rfl rfl (Q9_0 hI) (show _ = 24 from rfl) ?_
      rintro r4 w10 ⟨rfl, hI11, hE9⟩
      show sx_RP _ _ _ _ _ [.int (-1000000001)] _ _
      refine sx_RP.ret (r := (some (.int (-1000000001)))) rfl rfl ?_
      exact ⟨⟨by rw [(mov_1 (fun z => q4 z.2)).1], by rw [(mov_1 (fun z => q4 z.2)).2]; exact FCb_en hI hE9.en⟩, hI11, fun a ha => hE9 a (Or.inr (Or.inr (by omega)))⟩
    · refine sx_RP.cu (as := [.int (nI x5)]) (rest2 := []) (st3 := [.int 1]) rfl rfl rfl rfl rfl (cx_7p ⟨nI_le (a := 0) hx6 (by omega), nI_le (b := 47) hx7 (by decide)⟩) rfl ?_
      refine sx_RP.step (pc2 := 25) (ls2 := [(0, .ref 0), (1, .int (nI x2)), (2, .int (nI x5))]) (st2 := []) (w3 := w) rfl rfl ?_
      refine sx_RP.step (pc2 := 26) (ls2 := [(0, .ref 0), (1, .int (nI x2)), (2, .int (nI x5))]) (st2 := [.ref 0]) (w3 := w) rfl rfl ?_
      refine sx_RP.gf (v := .ref 1) rfl rfl hI.1.o0 rfl rfl (show _ = 29 from rfl) ?_
      refine sx_RP.gref (k := 4) (b := 4) hI (Or.inl rfl) rfl rfl (by omega) (show _ = 32 from rfl) ?_
      refine sx_RP.step (pc2 := 33) (ls2 := [(0, .ref 0), (1, .int (nI x2)), (2, .int (nI x5))]) (st2 := [.int (nI x2), .ref 4]) (w3 := w) rfl rfl ?_
      refine sx_RP.ild (c := x2) rfl (hI.1.aD (Or.inl rfl)).1 (hI.1.aD (Or.inl rfl)).2 (sx_in_nI (show x2 < 9 by omega) (by decide)) (show (nI x2).toNatClampNeg = x2 from nI_clamp (by omega)) (show _ = 34 from rfl) ?_
      obtain ⟨x12, hx13, ex14⟩ : inR ((ia w 4).getD x2 0) 47 := hI.di (Or.inl rfl) (show x2 < 9 by omega)
      rw [ex14]
      refine sx_RP.step (pc2 := 35) (ls2 := [(3, .int (nI x12)), (0, .ref 0), (1, .int (nI x2)), (2, .int (nI x5))]) (st2 := []) (w3 := w) rfl rfl ?_
      refine sx_RP.step (pc2 := 36) (ls2 := [(3, .int (nI x12)), (0, .ref 0), (1, .int (nI x2)), (2, .int (nI x5))]) (st2 := [.ref 0]) (w3 := w) rfl rfl ?_
      refine sx_RP.gf (v := .ref 1) rfl rfl hI.1.o0 rfl rfl (show _ = 39 from rfl) ?_
      refine sx_RP.gref (k := 4) (b := 4) hI (Or.inl rfl) rfl rfl (by omega) (show _ = 42 from rfl) ?_
      refine sx_RP.step (pc2 := 43) (ls2 := [(3, .int (nI x12)), (0, .ref 0), (1, .int (nI x2)), (2, .int (nI x5))]) (st2 := [.int (nI x2), .ref 4]) (w3 := w) rfl rfl ?_
      refine sx_RP.step (pc2 := 44) (ls2 := [(3, .int (nI x12)), (0, .ref 0), (1, .int (nI x2)), (2, .int (nI x5))]) (st2 := [.int (nI x5), .int (nI x2), .ref 4]) (w3 := w) rfl rfl ?_
      refine sx_RP.xD (A := 1) (c := x2) hI (Or.inl rfl) rfl (show x2 < 9 by omega) (inR.n (show x5 ≤ 47 by omega)) (show _ = 45 from rfl) (fun w15 hI16 hs17 hv18 => ?_)
      have ex19 := (fi_same 5 (hs17 1 (by omega))).trans en
      refine sx_RP.step (pc2 := 46) (ls2 := [(3, .int (nI x12)), (0, .ref 0), (1, .int (nI x2)), (2, .int (nI x5))]) (st2 := [.int (nI x12)]) (w3 := w15) rfl rfl ?_
      refine sx_RP.ret (r := (some (.int (nI x12)))) rfl rfl ?_
      have ho : Out 1 w w15 := Out.st Out.rf hs17 (by omega)
      exact ⟨⟨by rw [(mov_2 ⟨by rw [FCb_dlen en (by omega)]; exact c1, ⟨nI_le (a := 0) (show 0 ≤ x5 by omega) (by omega), nI_le (b := 47) (show x5 ≤ 47 by omega) (by decide)⟩⟩).1, FCb_dish en hn hx3, show (ia w (1 + 3)).getD x2 0 = _ from ex14], by rw [(mov_2 ⟨by rw [FCb_dlen en (by omega)]; exact c1, ⟨nI_le (a := 0) (show 0 ≤ x5 by omega) (by omega), nI_le (b := 47) (show x5 ≤ 47 by omega) (by decide)⟩⟩).2, FCb_camp hI ho, campB_setD hI (Or.inl rfl) en hn hx3 hs17 hv18, iN_n (show x2 < 2 ^ 31 by omega)]; rfl⟩, hI16, fun a ha => ho a (by omega)⟩
  · refine sx_RP.cu (as := [.ref 1, .int a1]) (rest2 := []) (st3 := [.int 0]) rfl rfl (sx_inv_v2 (mi := 65) (k := 225) (st := [.int a1, .ref 1]) (w := w) rfl rfl (hI.1.oC (Or.inl rfl)) rfl rfl rfl) rfl rfl (p66n hI (Or.inl rfl) en hn c1) rfl ?_
    refine sx_RP.step (pc2 := 18) (ls2 := [(0, .ref 0), (1, .int a1), (2, .int a2)]) (st2 := []) (w3 := w) rfl rfl ?_
    refine sx_RP.step (pc2 := 19) (ls2 := [(0, .ref 0), (1, .int a1), (2, .int a2)]) (st2 := [.ref 0]) (w3 := w) rfl rfl ?_
    refine sx_RP.step (pc2 := 21) (ls2 := [(0, .ref 0), (1, .int a1), (2, .int a2)]) (st2 := [.int (-1000000001), .ref 0]) (w3 := w) rfl rfl ?_
    refine sx_RP.callp (as2 := [.ref 0, .int (-1000000001)]) (rest2 := []) rfl rfl (sx_inv_v2 (mi := 65) (k := 78) (st := [.int (-1000000001), .ref 0]) (w := w) rfl rfl hI.1.o0 rfl rfl rfl) rfl rfl rfl (Q9_0 hI) (show _ = 24 from rfl) ?_
    rintro r4 w21 ⟨rfl, hI22, hE20⟩
    show sx_RP _ _ _ _ _ [.int (-1000000001)] _ _
    refine sx_RP.ret (r := (some (.int (-1000000001)))) rfl rfl ?_
    exact ⟨⟨by rw [(mov_1 (fun z => c1 (by rw [← FCb_dlen en (by omega)]; exact z.1))).1], by rw [(mov_1 (fun z => c1 (by rw [← FCb_dlen en (by omega)]; exact z.1))).2]; exact FCb_en hI hE20.en⟩, hI22, fun a ha => hE20 a (Or.inr (Or.inr (by omega)))⟩
set_option maxRecDepth 20000 in
set_option maxHeartbeats 4000000 in
theorem B82 {xs : Option (List Int32)} {d : Nat} {w : List sx_C} (hI : WI w) (a1 a2 : Int32) : sx_RP xs (d + 7) 82 0 (lv_args 0 [.ref 0, .int a1, .int a2]) [] w (fun r w2 => (r = some (.int (breA (FCb w) a1 a2)) ∧ FCb w2 = breU (FCb w) a1 a2) ∧ WI w2 ∧ ∀ a, 111 ≤ a → w2[a]? = w[a]?) := by
  refine sx_RP.step (pc2 := 1) (ls2 := [(0, .ref 0), (1, .int a1), (2, .int a2)]) (st2 := [.int a1]) (w3 := w) rfl rfl ?_
  refine sx_RP.br (p1 := 34) (l1 := [(0, .ref 0), (1, .int a1), (2, .int a2)]) (s1 := []) (v1 := w) (p2 := 4) (l2 := [(0, .ref 0), (1, .int a1), (2, .int a2)]) (s2 := []) (v2 := w) rfl rfl (fun q1 => ?_) (fun q1 => ?_)
  · replace q1 := of_decide_eq_true q1
    refine sx_RP.step (pc2 := 35) (ls2 := [(0, .ref 0), (1, .int a1), (2, .int a2)]) (st2 := [.int a1]) (w3 := w) rfl rfl ?_
    refine sx_RP.step (pc2 := 36) (ls2 := [(0, .ref 0), (1, .int a1), (2, .int a2)]) (st2 := [.int 1, .int a1]) (w3 := w) rfl rfl ?_
    refine sx_RP.br (p1 := 69) (l1 := [(0, .ref 0), (1, .int a1), (2, .int a2)]) (s1 := []) (v1 := w) (p2 := 39) (l2 := [(0, .ref 0), (1, .int a1), (2, .int a2)]) (s2 := []) (v2 := w) rfl rfl (fun q2 => ?_) (fun q2 => ?_)
    · replace q2 := of_decide_eq_true q2
      refine sx_RP.step (pc2 := 70) (ls2 := [(0, .ref 0), (1, .int a1), (2, .int a2)]) (st2 := [.int a1]) (w3 := w) rfl rfl ?_
      refine sx_RP.step (pc2 := 71) (ls2 := [(0, .ref 0), (1, .int a1), (2, .int a2)]) (st2 := [.int 2, .int a1]) (w3 := w) rfl rfl ?_
      refine sx_RP.br (p1 := 103) (l1 := [(0, .ref 0), (1, .int a1), (2, .int a2)]) (s1 := []) (v1 := w) (p2 := 74) (l2 := [(0, .ref 0), (1, .int a1), (2, .int a2)]) (s2 := []) (v2 := w) rfl rfl (fun q3 => ?_) (fun q3 => ?_)
      · replace q3 := of_decide_eq_true q3
        refine sx_RP.step (pc2 := 104) (ls2 := [(0, .ref 0), (1, .int a1), (2, .int a2)]) (st2 := [.ref 0]) (w3 := w) rfl rfl ?_
        refine sx_RP.step (pc2 := 106) (ls2 := [(0, .ref 0), (1, .int a1), (2, .int a2)]) (st2 := [.int (-1000000001), .ref 0]) (w3 := w) rfl rfl ?_
        refine sx_RP.callp (as2 := [.ref 0, .int (-1000000001)]) (rest2 := []) rfl rfl (sx_inv_v2 (mi := 82) (k := 78) (st := [.int (-1000000001), .ref 0]) (w := w) rfl rfl hI.1.o0 rfl rfl rfl) rfl rfl rfl (Q9_0 hI) (show _ = 109 from rfl) ?_
        rintro r4 w5 ⟨rfl, hI6, hE4⟩
        show sx_RP _ _ _ _ _ [.int (-1000000001)] _ _
        refine sx_RP.step (pc2 := 110) (ls2 := [(3, .int (-1000000001)), (0, .ref 0), (1, .int a1), (2, .int a2)]) (st2 := []) (w3 := w5) rfl rfl ?_
        refine sx_RP.step (pc2 := 111) (ls2 := [(3, .int (-1000000001)), (0, .ref 0), (1, .int a1), (2, .int a2)]) (st2 := [.int (-1000000001)]) (w3 := w5) rfl rfl ?_
        refine sx_RP.ret (r := (some (.int (-1000000001)))) rfl rfl ?_
        exact ⟨⟨by rw [(bre_3 (fun z => q1 z.1) (fun z => q2 z.1) (fun z => q3 z.1)).1], by rw [(bre_3 (fun z => q1 z.1) (fun z => q2 z.1) (fun z => q3 z.1)).2]; exact FCb_en hI hE4.en⟩, hI6, fun a ha => hE4 a (Or.inr (Or.inr (by omega)))⟩
      · replace q3 := Decidable.not_not.mp (of_decide_eq_false q3)
        refine sx_RP.step (pc2 := 75) (ls2 := [(0, .ref 0), (1, .int a1), (2, .int a2)]) (st2 := [.int a2]) (w3 := w) rfl rfl ?_
        refine sx_RP.step (pc2 := 76) (ls2 := [(0, .ref 0), (1, .int a1), (2, .int a2)]) (st2 := [.int 1, .int a2]) (w3 := w) rfl rfl ?_
        refine sx_RP.step (pc2 := 78) (ls2 := [(0, .ref 0), (1, .int a1), (2, .int a2)]) (st2 := [.int 99, .int 1, .int a2]) (w3 := w) rfl rfl ?_
        rcases Decidable.em ((1 : Int32) ≤ a2 ∧ a2 ≤ 99) with c7 | c7
        · refine sx_RP.cu (as := [.int a2, .int 1, .int 99]) (rest2 := []) (st3 := [.int 1]) rfl rfl rfl rfl rfl (cx_8p c7) rfl ?_
          refine sx_RP.step (pc2 := 84) (ls2 := [(0, .ref 0), (1, .int a1), (2, .int a2)]) (st2 := []) (w3 := w) rfl rfl ?_
          refine sx_RP.step (pc2 := 85) (ls2 := [(0, .ref 0), (1, .int a1), (2, .int a2)]) (st2 := [.ref 0]) (w3 := w) rfl rfl ?_
          refine sx_RP.gf (v := .ref 1) rfl rfl hI.1.o0 rfl rfl (show _ = 88 from rfl) ?_
          refine sx_RP.gc (k := 10) hI (Or.inl rfl) rfl rfl (by omega) (show _ = 91 from rfl) ?_
          refine sx_RP.step (pc2 := 92) (ls2 := [(3, .int (fi w 1 10)), (0, .ref 0), (1, .int a1), (2, .int a2)]) (st2 := []) (w3 := w) rfl rfl ?_
          refine sx_RP.step (pc2 := 93) (ls2 := [(3, .int (fi w 1 10)), (0, .ref 0), (1, .int a1), (2, .int a2)]) (st2 := [.ref 0]) (w3 := w) rfl rfl ?_
          refine sx_RP.gf (v := .ref 1) rfl rfl hI.1.o0 rfl rfl (show _ = 96 from rfl) ?_
          refine sx_RP.step (pc2 := 97) (ls2 := [(3, .int (fi w 1 10)), (0, .ref 0), (1, .int a1), (2, .int a2)]) (st2 := [.int a2, .ref 1]) (w3 := w) rfl rfl ?_
          refine sx_RP.xC (k := 10) hI (Or.inl rfl) rfl rfl (by omega) rfl trivial (show _ = 100 from rfl) (fun w8 hI9 hs10 hv11 hr12 hj13 => ?_)
          refine sx_RP.step (pc2 := 110) (ls2 := [(3, .int (fi w 1 10)), (0, .ref 0), (1, .int a1), (2, .int a2)]) (st2 := []) (w3 := w8) rfl rfl ?_
          refine sx_RP.step (pc2 := 111) (ls2 := [(3, .int (fi w 1 10)), (0, .ref 0), (1, .int a1), (2, .int a2)]) (st2 := [.int (fi w 1 10)]) (w3 := w8) rfl rfl ?_
          refine sx_RP.ret (r := (some (.int (fi w 1 10)))) rfl rfl ?_
          have ho : Out 1 w w8 := Out.st Out.rf hs10 (by omega)
          exact ⟨⟨by rw [(bre_2 ⟨q3, c7⟩).1]; rfl, by rw [(bre_2 ⟨q3, c7⟩).2, FCb_camp hI ho, campB_setF hs10 (by decide) hv11 hr12]; rfl⟩, hI9, fun a ha => ho a (by omega)⟩
        · refine sx_RP.cu (as := [.int a2, .int 1, .int 99]) (rest2 := []) (st3 := [.int 0]) rfl rfl rfl rfl rfl (cx_8n c7) rfl ?_
          refine sx_RP.step (pc2 := 103) (ls2 := [(0, .ref 0), (1, .int a1), (2, .int a2)]) (st2 := []) (w3 := w) rfl rfl ?_
          refine sx_RP.step (pc2 := 104) (ls2 := [(0, .ref 0), (1, .int a1), (2, .int a2)]) (st2 := [.ref 0]) (w3 := w) rfl rfl ?_
          refine sx_RP.step (pc2 := 106) (ls2 := [(0, .ref 0), (1, .int a1), (2, .int a2)]) (st2 := [.int (-1000000001), .ref 0]) (w3 := w) rfl rfl ?_
          refine sx_RP.callp (as2 := [.ref 0, .int (-1000000001)]) (rest2 := []) rfl rfl (sx_inv_v2 (mi := 82) (k := 78) (st := [.int (-1000000001), .ref 0]) (w := w) rfl rfl hI.1.o0 rfl rfl rfl) rfl rfl rfl (Q9_0 hI) (show _ = 109 from rfl) ?_
          rintro r4 w15 ⟨rfl, hI16, hE14⟩
          show sx_RP _ _ _ _ _ [.int (-1000000001)] _ _
          refine sx_RP.step (pc2 := 110) (ls2 := [(3, .int (-1000000001)), (0, .ref 0), (1, .int a1), (2, .int a2)]) (st2 := []) (w3 := w15) rfl rfl ?_
          refine sx_RP.step (pc2 := 111) (ls2 := [(3, .int (-1000000001)), (0, .ref 0), (1, .int a1), (2, .int a2)]) (st2 := [.int (-1000000001)]) (w3 := w15) rfl rfl ?_
          refine sx_RP.ret (r := (some (.int (-1000000001)))) rfl rfl ?_
          exact ⟨⟨by rw [(bre_3 (fun z => q1 z.1) (fun z => q2 z.1) (fun z => c7 z.2)).1], by rw [(bre_3 (fun z => q1 z.1) (fun z => q2 z.1) (fun z => c7 z.2)).2]; exact FCb_en hI hE14.en⟩, hI16, fun a ha => hE14 a (Or.inr (Or.inr (by omega)))⟩
    · replace q2 := Decidable.not_not.mp (of_decide_eq_false q2)
      refine sx_RP.step (pc2 := 40) (ls2 := [(0, .ref 0), (1, .int a1), (2, .int a2)]) (st2 := [.int a2]) (w3 := w) rfl rfl ?_
      refine sx_RP.step (pc2 := 41) (ls2 := [(0, .ref 0), (1, .int a1), (2, .int a2)]) (st2 := [.int 1, .int a2]) (w3 := w) rfl rfl ?_
      refine sx_RP.step (pc2 := 44) (ls2 := [(0, .ref 0), (1, .int a1), (2, .int a2)]) (st2 := [.int 999, .int 1, .int a2]) (w3 := w) rfl rfl ?_
      rcases Decidable.em ((1 : Int32) ≤ a2 ∧ a2 ≤ 999) with c17 | c17
      · refine sx_RP.cu (as := [.int a2, .int 1, .int 999]) (rest2 := []) (st3 := [.int 1]) rfl rfl rfl rfl rfl (cx_8p c17) rfl ?_
        refine sx_RP.step (pc2 := 50) (ls2 := [(0, .ref 0), (1, .int a1), (2, .int a2)]) (st2 := []) (w3 := w) rfl rfl ?_
        refine sx_RP.step (pc2 := 51) (ls2 := [(0, .ref 0), (1, .int a1), (2, .int a2)]) (st2 := [.ref 0]) (w3 := w) rfl rfl ?_
        refine sx_RP.gf (v := .ref 1) rfl rfl hI.1.o0 rfl rfl (show _ = 54 from rfl) ?_
        refine sx_RP.gc (k := 9) hI (Or.inl rfl) rfl rfl (by omega) (show _ = 57 from rfl) ?_
        refine sx_RP.step (pc2 := 58) (ls2 := [(3, .int (fi w 1 9)), (0, .ref 0), (1, .int a1), (2, .int a2)]) (st2 := []) (w3 := w) rfl rfl ?_
        refine sx_RP.step (pc2 := 59) (ls2 := [(3, .int (fi w 1 9)), (0, .ref 0), (1, .int a1), (2, .int a2)]) (st2 := [.ref 0]) (w3 := w) rfl rfl ?_
        refine sx_RP.gf (v := .ref 1) rfl rfl hI.1.o0 rfl rfl (show _ = 62 from rfl) ?_
        refine sx_RP.step (pc2 := 63) (ls2 := [(3, .int (fi w 1 9)), (0, .ref 0), (1, .int a1), (2, .int a2)]) (st2 := [.int a2, .ref 1]) (w3 := w) rfl rfl ?_
        refine sx_RP.xC (k := 9) hI (Or.inl rfl) rfl rfl (by omega) rfl trivial (show _ = 66 from rfl) (fun w18 hI19 hs20 hv21 hr22 hj23 => ?_)
        refine sx_RP.step (pc2 := 110) (ls2 := [(3, .int (fi w 1 9)), (0, .ref 0), (1, .int a1), (2, .int a2)]) (st2 := []) (w3 := w18) rfl rfl ?_
        refine sx_RP.step (pc2 := 111) (ls2 := [(3, .int (fi w 1 9)), (0, .ref 0), (1, .int a1), (2, .int a2)]) (st2 := [.int (fi w 1 9)]) (w3 := w18) rfl rfl ?_
        refine sx_RP.ret (r := (some (.int (fi w 1 9)))) rfl rfl ?_
        have ho : Out 1 w w18 := Out.st Out.rf hs20 (by omega)
        exact ⟨⟨by rw [(bre_1 ⟨q2, c17⟩).1]; rfl, by rw [(bre_1 ⟨q2, c17⟩).2, FCb_camp hI ho, campB_setF hs20 (by decide) hv21 hr22]; rfl⟩, hI19, fun a ha => ho a (by omega)⟩
      · refine sx_RP.cu (as := [.int a2, .int 1, .int 999]) (rest2 := []) (st3 := [.int 0]) rfl rfl rfl rfl rfl (cx_8n c17) rfl ?_
        refine sx_RP.step (pc2 := 69) (ls2 := [(0, .ref 0), (1, .int a1), (2, .int a2)]) (st2 := []) (w3 := w) rfl rfl ?_
        refine sx_RP.step (pc2 := 70) (ls2 := [(0, .ref 0), (1, .int a1), (2, .int a2)]) (st2 := [.int a1]) (w3 := w) rfl rfl ?_
        refine sx_RP.step (pc2 := 71) (ls2 := [(0, .ref 0), (1, .int a1), (2, .int a2)]) (st2 := [.int 2, .int a1]) (w3 := w) rfl rfl ?_
        refine sx_RP.br (p1 := 103) (l1 := [(0, .ref 0), (1, .int a1), (2, .int a2)]) (s1 := []) (v1 := w) (p2 := 74) (l2 := [(0, .ref 0), (1, .int a1), (2, .int a2)]) (s2 := []) (v2 := w) rfl rfl (fun q24 => ?_) (fun q24 => ?_)
        · replace q24 := of_decide_eq_true q24
          refine sx_RP.step (pc2 := 104) (ls2 := [(0, .ref 0), (1, .int a1), (2, .int a2)]) (st2 := [.ref 0]) (w3 := w) rfl rfl ?_
          refine sx_RP.step (pc2 := 106) (ls2 := [(0, .ref 0), (1, .int a1), (2, .int a2)]) (st2 := [.int (-1000000001), .ref 0]) (w3 := w) rfl rfl ?_
          refine sx_RP.callp (as2 := [.ref 0, .int (-1000000001)]) (rest2 := []) rfl rfl (sx_inv_v2 (mi := 82) (k := 78) (st := [.int (-1000000001), .ref 0]) (w := w) rfl rfl hI.1.o0 rfl rfl rfl) rfl rfl rfl (Q9_0 hI) (show _ = 109 from rfl) ?_
          rintro r4 w26 ⟨rfl, hI27, hE25⟩
          show sx_RP _ _ _ _ _ [.int (-1000000001)] _ _
          refine sx_RP.step (pc2 := 110) (ls2 := [(3, .int (-1000000001)), (0, .ref 0), (1, .int a1), (2, .int a2)]) (st2 := []) (w3 := w26) rfl rfl ?_
          refine sx_RP.step (pc2 := 111) (ls2 := [(3, .int (-1000000001)), (0, .ref 0), (1, .int a1), (2, .int a2)]) (st2 := [.int (-1000000001)]) (w3 := w26) rfl rfl ?_
          refine sx_RP.ret (r := (some (.int (-1000000001)))) rfl rfl ?_
          exact ⟨⟨by rw [(bre_3 (fun z => q1 z.1) (fun z => c17 z.2) (fun z => q24 z.1)).1], by rw [(bre_3 (fun z => q1 z.1) (fun z => c17 z.2) (fun z => q24 z.1)).2]; exact FCb_en hI hE25.en⟩, hI27, fun a ha => hE25 a (Or.inr (Or.inr (by omega)))⟩
        · replace q24 := Decidable.not_not.mp (of_decide_eq_false q24)
          refine sx_RP.step (pc2 := 75) (ls2 := [(0, .ref 0), (1, .int a1), (2, .int a2)]) (st2 := [.int a2]) (w3 := w) rfl rfl ?_
          refine sx_RP.step (pc2 := 76) (ls2 := [(0, .ref 0), (1, .int a1), (2, .int a2)]) (st2 := [.int 1, .int a2]) (w3 := w) rfl rfl ?_
          refine sx_RP.step (pc2 := 78) (ls2 := [(0, .ref 0), (1, .int a1), (2, .int a2)]) (st2 := [.int 99, .int 1, .int a2]) (w3 := w) rfl rfl ?_
          rcases Decidable.em ((1 : Int32) ≤ a2 ∧ a2 ≤ 99) with c28 | c28
          · refine sx_RP.cu (as := [.int a2, .int 1, .int 99]) (rest2 := []) (st3 := [.int 1]) rfl rfl rfl rfl rfl (cx_8p c28) rfl ?_
            refine sx_RP.step (pc2 := 84) (ls2 := [(0, .ref 0), (1, .int a1), (2, .int a2)]) (st2 := []) (w3 := w) rfl rfl ?_
            refine sx_RP.step (pc2 := 85) (ls2 := [(0, .ref 0), (1, .int a1), (2, .int a2)]) (st2 := [.ref 0]) (w3 := w) rfl rfl ?_
            refine sx_RP.gf (v := .ref 1) rfl rfl hI.1.o0 rfl rfl (show _ = 88 from rfl) ?_
            refine sx_RP.gc (k := 10) hI (Or.inl rfl) rfl rfl (by omega) (show _ = 91 from rfl) ?_
            refine sx_RP.step (pc2 := 92) (ls2 := [(3, .int (fi w 1 10)), (0, .ref 0), (1, .int a1), (2, .int a2)]) (st2 := []) (w3 := w) rfl rfl ?_
            refine sx_RP.step (pc2 := 93) (ls2 := [(3, .int (fi w 1 10)), (0, .ref 0), (1, .int a1), (2, .int a2)]) (st2 := [.ref 0]) (w3 := w) rfl rfl ?_
            refine sx_RP.gf (v := .ref 1) rfl rfl hI.1.o0 rfl rfl (show _ = 96 from rfl) ?_
            refine sx_RP.step (pc2 := 97) (ls2 := [(3, .int (fi w 1 10)), (0, .ref 0), (1, .int a1), (2, .int a2)]) (st2 := [.int a2, .ref 1]) (w3 := w) rfl rfl ?_
            refine sx_RP.xC (k := 10) hI (Or.inl rfl) rfl rfl (by omega) rfl trivial (show _ = 100 from rfl) (fun w29 hI30 hs31 hv32 hr33 hj34 => ?_)
            refine sx_RP.step (pc2 := 110) (ls2 := [(3, .int (fi w 1 10)), (0, .ref 0), (1, .int a1), (2, .int a2)]) (st2 := []) (w3 := w29) rfl rfl ?_
            refine sx_RP.step (pc2 := 111) (ls2 := [(3, .int (fi w 1 10)), (0, .ref 0), (1, .int a1), (2, .int a2)]) (st2 := [.int (fi w 1 10)]) (w3 := w29) rfl rfl ?_
            refine sx_RP.ret (r := (some (.int (fi w 1 10)))) rfl rfl ?_
            exact absurd (q2.symm.trans q24) (by decide)
          · refine sx_RP.cu (as := [.int a2, .int 1, .int 99]) (rest2 := []) (st3 := [.int 0]) rfl rfl rfl rfl rfl (cx_8n c28) rfl ?_
            refine sx_RP.step (pc2 := 103) (ls2 := [(0, .ref 0), (1, .int a1), (2, .int a2)]) (st2 := []) (w3 := w) rfl rfl ?_
            refine sx_RP.step (pc2 := 104) (ls2 := [(0, .ref 0), (1, .int a1), (2, .int a2)]) (st2 := [.ref 0]) (w3 := w) rfl rfl ?_
            refine sx_RP.step (pc2 := 106) (ls2 := [(0, .ref 0), (1, .int a1), (2, .int a2)]) (st2 := [.int (-1000000001), .ref 0]) (w3 := w) rfl rfl ?_
            refine sx_RP.callp (as2 := [.ref 0, .int (-1000000001)]) (rest2 := []) rfl rfl (sx_inv_v2 (mi := 82) (k := 78) (st := [.int (-1000000001), .ref 0]) (w := w) rfl rfl hI.1.o0 rfl rfl rfl) rfl rfl rfl (Q9_0 hI) (show _ = 109 from rfl) ?_
            rintro r4 w36 ⟨rfl, hI37, hE35⟩
            show sx_RP _ _ _ _ _ [.int (-1000000001)] _ _
            refine sx_RP.step (pc2 := 110) (ls2 := [(3, .int (-1000000001)), (0, .ref 0), (1, .int a1), (2, .int a2)]) (st2 := []) (w3 := w36) rfl rfl ?_
            refine sx_RP.step (pc2 := 111) (ls2 := [(3, .int (-1000000001)), (0, .ref 0), (1, .int a1), (2, .int a2)]) (st2 := [.int (-1000000001)]) (w3 := w36) rfl rfl ?_
            refine sx_RP.ret (r := (some (.int (-1000000001)))) rfl rfl ?_
            exact absurd (q2.symm.trans q24) (by decide)
  · replace q1 := Decidable.not_not.mp (of_decide_eq_false q1)
    refine sx_RP.step (pc2 := 5) (ls2 := [(0, .ref 0), (1, .int a1), (2, .int a2)]) (st2 := [.int a2]) (w3 := w) rfl rfl ?_
    refine sx_RP.step (pc2 := 6) (ls2 := [(0, .ref 0), (1, .int a1), (2, .int a2)]) (st2 := [.int 0, .int a2]) (w3 := w) rfl rfl ?_
    refine sx_RP.step (pc2 := 9) (ls2 := [(0, .ref 0), (1, .int a1), (2, .int a2)]) (st2 := [.int 999999, .int 0, .int a2]) (w3 := w) rfl rfl ?_
    rcases Decidable.em ((0 : Int32) ≤ a2 ∧ a2 ≤ 999999) with c38 | c38
    · refine sx_RP.cu (as := [.int a2, .int 0, .int 999999]) (rest2 := []) (st3 := [.int 1]) rfl rfl rfl rfl rfl (cx_8p c38) rfl ?_
      refine sx_RP.step (pc2 := 15) (ls2 := [(0, .ref 0), (1, .int a1), (2, .int a2)]) (st2 := []) (w3 := w) rfl rfl ?_
      refine sx_RP.step (pc2 := 16) (ls2 := [(0, .ref 0), (1, .int a1), (2, .int a2)]) (st2 := [.ref 0]) (w3 := w) rfl rfl ?_
      refine sx_RP.gf (v := .ref 1) rfl rfl hI.1.o0 rfl rfl (show _ = 19 from rfl) ?_
      refine sx_RP.gc (k := 8) hI (Or.inl rfl) rfl rfl (by omega) (show _ = 22 from rfl) ?_
      refine sx_RP.step (pc2 := 23) (ls2 := [(3, .int (fi w 1 8)), (0, .ref 0), (1, .int a1), (2, .int a2)]) (st2 := []) (w3 := w) rfl rfl ?_
      refine sx_RP.step (pc2 := 24) (ls2 := [(3, .int (fi w 1 8)), (0, .ref 0), (1, .int a1), (2, .int a2)]) (st2 := [.ref 0]) (w3 := w) rfl rfl ?_
      refine sx_RP.gf (v := .ref 1) rfl rfl hI.1.o0 rfl rfl (show _ = 27 from rfl) ?_
      refine sx_RP.step (pc2 := 28) (ls2 := [(3, .int (fi w 1 8)), (0, .ref 0), (1, .int a1), (2, .int a2)]) (st2 := [.int a2, .ref 1]) (w3 := w) rfl rfl ?_
      refine sx_RP.xC (k := 8) hI (Or.inl rfl) rfl rfl (by omega) rfl trivial (show _ = 31 from rfl) (fun w39 hI40 hs41 hv42 hr43 hj44 => ?_)
      refine sx_RP.step (pc2 := 110) (ls2 := [(3, .int (fi w 1 8)), (0, .ref 0), (1, .int a1), (2, .int a2)]) (st2 := []) (w3 := w39) rfl rfl ?_
      refine sx_RP.step (pc2 := 111) (ls2 := [(3, .int (fi w 1 8)), (0, .ref 0), (1, .int a1), (2, .int a2)]) (st2 := [.int (fi w 1 8)]) (w3 := w39) rfl rfl ?_
      refine sx_RP.ret (r := (some (.int (fi w 1 8)))) rfl rfl ?_
      have ho : Out 1 w w39 := Out.st Out.rf hs41 (by omega)
      exact ⟨⟨by rw [(bre_0 ⟨q1, c38⟩).1]; rfl, by rw [(bre_0 ⟨q1, c38⟩).2, FCb_camp hI ho, campB_setF hs41 (by decide) hv42 hr43]; rfl⟩, hI40, fun a ha => ho a (by omega)⟩
    · refine sx_RP.cu (as := [.int a2, .int 0, .int 999999]) (rest2 := []) (st3 := [.int 0]) rfl rfl rfl rfl rfl (cx_8n c38) rfl ?_
      refine sx_RP.step (pc2 := 34) (ls2 := [(0, .ref 0), (1, .int a1), (2, .int a2)]) (st2 := []) (w3 := w) rfl rfl ?_
      refine sx_RP.step (pc2 := 35) (ls2 := [(0, .ref 0), (1, .int a1), (2, .int a2)]) (st2 := [.int a1]) (w3 := w) rfl rfl ?_
      refine sx_RP.step (pc2 := 36) (ls2 := [(0, .ref 0), (1, .int a1), (2, .int a2)]) (st2 := [.int 1, .int a1]) (w3 := w) rfl rfl ?_
      refine sx_RP.br (p1 := 69) (l1 := [(0, .ref 0), (1, .int a1), (2, .int a2)]) (s1 := []) (v1 := w) (p2 := 39) (l2 := [(0, .ref 0), (1, .int a1), (2, .int a2)]) (s2 := []) (v2 := w) rfl rfl (fun q45 => ?_) (fun q45 => ?_)
      · replace q45 := of_decide_eq_true q45
        refine sx_RP.step (pc2 := 70) (ls2 := [(0, .ref 0), (1, .int a1), (2, .int a2)]) (st2 := [.int a1]) (w3 := w) rfl rfl ?_
        refine sx_RP.step (pc2 := 71) (ls2 := [(0, .ref 0), (1, .int a1), (2, .int a2)]) (st2 := [.int 2, .int a1]) (w3 := w) rfl rfl ?_
        refine sx_RP.br (p1 := 103) (l1 := [(0, .ref 0), (1, .int a1), (2, .int a2)]) (s1 := []) (v1 := w) (p2 := 74) (l2 := [(0, .ref 0), (1, .int a1), (2, .int a2)]) (s2 := []) (v2 := w) rfl rfl (fun q46 => ?_) (fun q46 => ?_)
        · replace q46 := of_decide_eq_true q46
          refine sx_RP.step (pc2 := 104) (ls2 := [(0, .ref 0), (1, .int a1), (2, .int a2)]) (st2 := [.ref 0]) (w3 := w) rfl rfl ?_
          refine sx_RP.step (pc2 := 106) (ls2 := [(0, .ref 0), (1, .int a1), (2, .int a2)]) (st2 := [.int (-1000000001), .ref 0]) (w3 := w) rfl rfl ?_
          refine sx_RP.callp (as2 := [.ref 0, .int (-1000000001)]) (rest2 := []) rfl rfl (sx_inv_v2 (mi := 82) (k := 78) (st := [.int (-1000000001), .ref 0]) (w := w) rfl rfl hI.1.o0 rfl rfl rfl) rfl rfl rfl (Q9_0 hI) (show _ = 109 from rfl) ?_
          rintro r4 w48 ⟨rfl, hI49, hE47⟩
          show sx_RP _ _ _ _ _ [.int (-1000000001)] _ _
          refine sx_RP.step (pc2 := 110) (ls2 := [(3, .int (-1000000001)), (0, .ref 0), (1, .int a1), (2, .int a2)]) (st2 := []) (w3 := w48) rfl rfl ?_
          refine sx_RP.step (pc2 := 111) (ls2 := [(3, .int (-1000000001)), (0, .ref 0), (1, .int a1), (2, .int a2)]) (st2 := [.int (-1000000001)]) (w3 := w48) rfl rfl ?_
          refine sx_RP.ret (r := (some (.int (-1000000001)))) rfl rfl ?_
          exact ⟨⟨by rw [(bre_3 (fun z => c38 z.2) (fun z => q45 z.1) (fun z => q46 z.1)).1], by rw [(bre_3 (fun z => c38 z.2) (fun z => q45 z.1) (fun z => q46 z.1)).2]; exact FCb_en hI hE47.en⟩, hI49, fun a ha => hE47 a (Or.inr (Or.inr (by omega)))⟩
        · replace q46 := Decidable.not_not.mp (of_decide_eq_false q46)
          refine sx_RP.step (pc2 := 75) (ls2 := [(0, .ref 0), (1, .int a1), (2, .int a2)]) (st2 := [.int a2]) (w3 := w) rfl rfl ?_
          refine sx_RP.step (pc2 := 76) (ls2 := [(0, .ref 0), (1, .int a1), (2, .int a2)]) (st2 := [.int 1, .int a2]) (w3 := w) rfl rfl ?_
          refine sx_RP.step (pc2 := 78) (ls2 := [(0, .ref 0), (1, .int a1), (2, .int a2)]) (st2 := [.int 99, .int 1, .int a2]) (w3 := w) rfl rfl ?_
          rcases Decidable.em ((1 : Int32) ≤ a2 ∧ a2 ≤ 99) with c50 | c50
          · refine sx_RP.cu (as := [.int a2, .int 1, .int 99]) (rest2 := []) (st3 := [.int 1]) rfl rfl rfl rfl rfl (cx_8p c50) rfl ?_
            refine sx_RP.step (pc2 := 84) (ls2 := [(0, .ref 0), (1, .int a1), (2, .int a2)]) (st2 := []) (w3 := w) rfl rfl ?_
            refine sx_RP.step (pc2 := 85) (ls2 := [(0, .ref 0), (1, .int a1), (2, .int a2)]) (st2 := [.ref 0]) (w3 := w) rfl rfl ?_
            refine sx_RP.gf (v := .ref 1) rfl rfl hI.1.o0 rfl rfl (show _ = 88 from rfl) ?_
            refine sx_RP.gc (k := 10) hI (Or.inl rfl) rfl rfl (by omega) (show _ = 91 from rfl) ?_
            refine sx_RP.step (pc2 := 92) (ls2 := [(3, .int (fi w 1 10)), (0, .ref 0), (1, .int a1), (2, .int a2)]) (st2 := []) (w3 := w) rfl rfl ?_
            refine sx_RP.step (pc2 := 93) (ls2 := [(3, .int (fi w 1 10)), (0, .ref 0), (1, .int a1), (2, .int a2)]) (st2 := [.ref 0]) (w3 := w) rfl rfl ?_
            refine sx_RP.gf (v := .ref 1) rfl rfl hI.1.o0 rfl rfl (show _ = 96 from rfl) ?_
            refine sx_RP.step (pc2 := 97) (ls2 := [(3, .int (fi w 1 10)), (0, .ref 0), (1, .int a1), (2, .int a2)]) (st2 := [.int a2, .ref 1]) (w3 := w) rfl rfl ?_
            refine sx_RP.xC (k := 10) hI (Or.inl rfl) rfl rfl (by omega) rfl trivial (show _ = 100 from rfl) (fun w51 hI52 hs53 hv54 hr55 hj56 => ?_)
            refine sx_RP.step (pc2 := 110) (ls2 := [(3, .int (fi w 1 10)), (0, .ref 0), (1, .int a1), (2, .int a2)]) (st2 := []) (w3 := w51) rfl rfl ?_
            refine sx_RP.step (pc2 := 111) (ls2 := [(3, .int (fi w 1 10)), (0, .ref 0), (1, .int a1), (2, .int a2)]) (st2 := [.int (fi w 1 10)]) (w3 := w51) rfl rfl ?_
            refine sx_RP.ret (r := (some (.int (fi w 1 10)))) rfl rfl ?_
            exact absurd (q1.symm.trans q46) (by decide)
          · refine sx_RP.cu (as := [.int a2, .int 1, .int 99]) (rest2 := []) (st3 := [.int 0]) rfl rfl rfl rfl rfl (cx_8n c50) rfl ?_
            refine sx_RP.step (pc2 := 103) (ls2 := [(0, .ref 0), (1, .int a1), (2, .int a2)]) (st2 := []) (w3 := w) rfl rfl ?_
            refine sx_RP.step (pc2 := 104) (ls2 := [(0, .ref 0), (1, .int a1), (2, .int a2)]) (st2 := [.ref 0]) (w3 := w) rfl rfl ?_
            refine sx_RP.step (pc2 := 106) (ls2 := [(0, .ref 0), (1, .int a1), (2, .int a2)]) (st2 := [.int (-1000000001), .ref 0]) (w3 := w) rfl rfl ?_
            refine sx_RP.callp (as2 := [.ref 0, .int (-1000000001)]) (rest2 := []) rfl rfl (sx_inv_v2 (mi := 82) (k := 78) (st := [.int (-1000000001), .ref 0]) (w := w) rfl rfl hI.1.o0 rfl rfl rfl) rfl rfl rfl (Q9_0 hI) (show _ = 109 from rfl) ?_
            rintro r4 w58 ⟨rfl, hI59, hE57⟩
            show sx_RP _ _ _ _ _ [.int (-1000000001)] _ _
            refine sx_RP.step (pc2 := 110) (ls2 := [(3, .int (-1000000001)), (0, .ref 0), (1, .int a1), (2, .int a2)]) (st2 := []) (w3 := w58) rfl rfl ?_
            refine sx_RP.step (pc2 := 111) (ls2 := [(3, .int (-1000000001)), (0, .ref 0), (1, .int a1), (2, .int a2)]) (st2 := [.int (-1000000001)]) (w3 := w58) rfl rfl ?_
            refine sx_RP.ret (r := (some (.int (-1000000001)))) rfl rfl ?_
            exact absurd (q1.symm.trans q46) (by decide)
      · replace q45 := Decidable.not_not.mp (of_decide_eq_false q45)
        refine sx_RP.step (pc2 := 40) (ls2 := [(0, .ref 0), (1, .int a1), (2, .int a2)]) (st2 := [.int a2]) (w3 := w) rfl rfl ?_
        refine sx_RP.step (pc2 := 41) (ls2 := [(0, .ref 0), (1, .int a1), (2, .int a2)]) (st2 := [.int 1, .int a2]) (w3 := w) rfl rfl ?_
        refine sx_RP.step (pc2 := 44) (ls2 := [(0, .ref 0), (1, .int a1), (2, .int a2)]) (st2 := [.int 999, .int 1, .int a2]) (w3 := w) rfl rfl ?_
        rcases Decidable.em ((1 : Int32) ≤ a2 ∧ a2 ≤ 999) with c60 | c60
        · refine sx_RP.cu (as := [.int a2, .int 1, .int 999]) (rest2 := []) (st3 := [.int 1]) rfl rfl rfl rfl rfl (cx_8p c60) rfl ?_
          refine sx_RP.step (pc2 := 50) (ls2 := [(0, .ref 0), (1, .int a1), (2, .int a2)]) (st2 := []) (w3 := w) rfl rfl ?_
          refine sx_RP.step (pc2 := 51) (ls2 := [(0, .ref 0), (1, .int a1), (2, .int a2)]) (st2 := [.ref 0]) (w3 := w) rfl rfl ?_
          refine sx_RP.gf (v := .ref 1) rfl rfl hI.1.o0 rfl rfl (show _ = 54 from rfl) ?_
          refine sx_RP.gc (k := 9) hI (Or.inl rfl) rfl rfl (by omega) (show _ = 57 from rfl) ?_
          refine sx_RP.step (pc2 := 58) (ls2 := [(3, .int (fi w 1 9)), (0, .ref 0), (1, .int a1), (2, .int a2)]) (st2 := []) (w3 := w) rfl rfl ?_
          refine sx_RP.step (pc2 := 59) (ls2 := [(3, .int (fi w 1 9)), (0, .ref 0), (1, .int a1), (2, .int a2)]) (st2 := [.ref 0]) (w3 := w) rfl rfl ?_
          refine sx_RP.gf (v := .ref 1) rfl rfl hI.1.o0 rfl rfl (show _ = 62 from rfl) ?_
          refine sx_RP.step (pc2 := 63) (ls2 := [(3, .int (fi w 1 9)), (0, .ref 0), (1, .int a1), (2, .int a2)]) (st2 := [.int a2, .ref 1]) (w3 := w) rfl rfl ?_
          refine sx_RP.xC (k := 9) hI (Or.inl rfl) rfl rfl (by omega) rfl trivial (show _ = 66 from rfl) (fun w61 hI62 hs63 hv64 hr65 hj66 => ?_)
          refine sx_RP.step (pc2 := 110) (ls2 := [(3, .int (fi w 1 9)), (0, .ref 0), (1, .int a1), (2, .int a2)]) (st2 := []) (w3 := w61) rfl rfl ?_
          refine sx_RP.step (pc2 := 111) (ls2 := [(3, .int (fi w 1 9)), (0, .ref 0), (1, .int a1), (2, .int a2)]) (st2 := [.int (fi w 1 9)]) (w3 := w61) rfl rfl ?_
          refine sx_RP.ret (r := (some (.int (fi w 1 9)))) rfl rfl ?_
          exact absurd (q1.symm.trans q45) (by decide)
        · refine sx_RP.cu (as := [.int a2, .int 1, .int 999]) (rest2 := []) (st3 := [.int 0]) rfl rfl rfl rfl rfl (cx_8n c60) rfl ?_
          refine sx_RP.step (pc2 := 69) (ls2 := [(0, .ref 0), (1, .int a1), (2, .int a2)]) (st2 := []) (w3 := w) rfl rfl ?_
          refine sx_RP.step (pc2 := 70) (ls2 := [(0, .ref 0), (1, .int a1), (2, .int a2)]) (st2 := [.int a1]) (w3 := w) rfl rfl ?_
          refine sx_RP.step (pc2 := 71) (ls2 := [(0, .ref 0), (1, .int a1), (2, .int a2)]) (st2 := [.int 2, .int a1]) (w3 := w) rfl rfl ?_
          refine sx_RP.br (p1 := 103) (l1 := [(0, .ref 0), (1, .int a1), (2, .int a2)]) (s1 := []) (v1 := w) (p2 := 74) (l2 := [(0, .ref 0), (1, .int a1), (2, .int a2)]) (s2 := []) (v2 := w) rfl rfl (fun q67 => ?_) (fun q67 => ?_)
          · replace q67 := of_decide_eq_true q67
            refine sx_RP.step (pc2 := 104) (ls2 := [(0, .ref 0), (1, .int a1), (2, .int a2)]) (st2 := [.ref 0]) (w3 := w) rfl rfl ?_
            refine sx_RP.step (pc2 := 106) (ls2 := [(0, .ref 0), (1, .int a1), (2, .int a2)]) (st2 := [.int (-1000000001), .ref 0]) (w3 := w) rfl rfl ?_
            refine sx_RP.callp (as2 := [.ref 0, .int (-1000000001)]) (rest2 := []) rfl rfl (sx_inv_v2 (mi := 82) (k := 78) (st := [.int (-1000000001), .ref 0]) (w := w) rfl rfl hI.1.o0 rfl rfl rfl) rfl rfl rfl (Q9_0 hI) (show _ = 109 from rfl) ?_
            rintro r4 w69 ⟨rfl, hI70, hE68⟩
            show sx_RP _ _ _ _ _ [.int (-1000000001)] _ _
            refine sx_RP.step (pc2 := 110) (ls2 := [(3, .int (-1000000001)), (0, .ref 0), (1, .int a1), (2, .int a2)]) (st2 := []) (w3 := w69) rfl rfl ?_
            refine sx_RP.step (pc2 := 111) (ls2 := [(3, .int (-1000000001)), (0, .ref 0), (1, .int a1), (2, .int a2)]) (st2 := [.int (-1000000001)]) (w3 := w69) rfl rfl ?_
            refine sx_RP.ret (r := (some (.int (-1000000001)))) rfl rfl ?_
            exact absurd (q1.symm.trans q45) (by decide)
          · replace q67 := Decidable.not_not.mp (of_decide_eq_false q67)
            refine sx_RP.step (pc2 := 75) (ls2 := [(0, .ref 0), (1, .int a1), (2, .int a2)]) (st2 := [.int a2]) (w3 := w) rfl rfl ?_
            refine sx_RP.step (pc2 := 76) (ls2 := [(0, .ref 0), (1, .int a1), (2, .int a2)]) (st2 := [.int 1, .int a2]) (w3 := w) rfl rfl ?_
            refine sx_RP.step (pc2 := 78) (ls2 := [(0, .ref 0), (1, .int a1), (2, .int a2)]) (st2 := [.int 99, .int 1, .int a2]) (w3 := w) rfl rfl ?_
            rcases Decidable.em ((1 : Int32) ≤ a2 ∧ a2 ≤ 99) with c71 | c71
            · refine sx_RP.cu (as := [.int a2, .int 1, .int 99]) (rest2 := []) (st3 := [.int 1]) rfl rfl rfl rfl rfl (cx_8p c71) rfl ?_
              refine sx_RP.step (pc2 := 84) (ls2 := [(0, .ref 0), (1, .int a1), (2, .int a2)]) (st2 := []) (w3 := w) rfl rfl ?_
              refine sx_RP.step (pc2 := 85) (ls2 := [(0, .ref 0), (1, .int a1), (2, .int a2)]) (st2 := [.ref 0]) (w3 := w) rfl rfl ?_
              refine sx_RP.gf (v := .ref 1) rfl rfl hI.1.o0 rfl rfl (show _ = 88 from rfl) ?_
              refine sx_RP.gc (k := 10) hI (Or.inl rfl) rfl rfl (by omega) (show _ = 91 from rfl) ?_
              refine sx_RP.step (pc2 := 92) (ls2 := [(3, .int (fi w 1 10)), (0, .ref 0), (1, .int a1), (2, .int a2)]) (st2 := []) (w3 := w) rfl rfl ?_
              refine sx_RP.step (pc2 := 93) (ls2 := [(3, .int (fi w 1 10)), (0, .ref 0), (1, .int a1), (2, .int a2)]) (st2 := [.ref 0]) (w3 := w) rfl rfl ?_
              refine sx_RP.gf (v := .ref 1) rfl rfl hI.1.o0 rfl rfl (show _ = 96 from rfl) ?_
              refine sx_RP.step (pc2 := 97) (ls2 := [(3, .int (fi w 1 10)), (0, .ref 0), (1, .int a1), (2, .int a2)]) (st2 := [.int a2, .ref 1]) (w3 := w) rfl rfl ?_
              refine sx_RP.xC (k := 10) hI (Or.inl rfl) rfl rfl (by omega) rfl trivial (show _ = 100 from rfl) (fun w72 hI73 hs74 hv75 hr76 hj77 => ?_)
              refine sx_RP.step (pc2 := 110) (ls2 := [(3, .int (fi w 1 10)), (0, .ref 0), (1, .int a1), (2, .int a2)]) (st2 := []) (w3 := w72) rfl rfl ?_
              refine sx_RP.step (pc2 := 111) (ls2 := [(3, .int (fi w 1 10)), (0, .ref 0), (1, .int a1), (2, .int a2)]) (st2 := [.int (fi w 1 10)]) (w3 := w72) rfl rfl ?_
              refine sx_RP.ret (r := (some (.int (fi w 1 10)))) rfl rfl ?_
              exact absurd (q1.symm.trans q45) (by decide)
            · refine sx_RP.cu (as := [.int a2, .int 1, .int 99]) (rest2 := []) (st3 := [.int 0]) rfl rfl rfl rfl rfl (cx_8n c71) rfl ?_
              refine sx_RP.step (pc2 := 103) (ls2 := [(0, .ref 0), (1, .int a1), (2, .int a2)]) (st2 := []) (w3 := w) rfl rfl ?_
              refine sx_RP.step (pc2 := 104) (ls2 := [(0, .ref 0), (1, .int a1), (2, .int a2)]) (st2 := [.ref 0]) (w3 := w) rfl rfl ?_
              refine sx_RP.step (pc2 := 106) (ls2 := [(0, .ref 0), (1, .int a1), (2, .int a2)]) (st2 := [.int (-1000000001), .ref 0]) (w3 := w) rfl rfl ?_
              refine sx_RP.callp (as2 := [.ref 0, .int (-1000000001)]) (rest2 := []) rfl rfl (sx_inv_v2 (mi := 82) (k := 78) (st := [.int (-1000000001), .ref 0]) (w := w) rfl rfl hI.1.o0 rfl rfl rfl) rfl rfl rfl (Q9_0 hI) (show _ = 109 from rfl) ?_
              rintro r4 w79 ⟨rfl, hI80, hE78⟩
              show sx_RP _ _ _ _ _ [.int (-1000000001)] _ _
              refine sx_RP.step (pc2 := 110) (ls2 := [(3, .int (-1000000001)), (0, .ref 0), (1, .int a1), (2, .int a2)]) (st2 := []) (w3 := w79) rfl rfl ?_
              refine sx_RP.step (pc2 := 111) (ls2 := [(3, .int (-1000000001)), (0, .ref 0), (1, .int a1), (2, .int a2)]) (st2 := [.int (-1000000001)]) (w3 := w79) rfl rfl ?_
              refine sx_RP.ret (r := (some (.int (-1000000001)))) rfl rfl ?_
              exact absurd (q1.symm.trans q45) (by decide)
