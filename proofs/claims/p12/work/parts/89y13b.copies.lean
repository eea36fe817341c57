-- copy's answers, by bits and sizes
def runB (sz f n : Int32) : Bool := decide (0 ≤ f.toInt ∧ 0 ≤ n.toInt ∧ f.toInt + n.toInt ≤ sz.toInt)
theorem sub_toI {z : Nat} {y : Int32} (hz : z ≤ 40) (hy : 0 ≤ y.toInt) : (nI z - y).toInt = (z : Int) - y.toInt := by
  have h1 := Int32.toInt_lt y
  rw [Int32.toInt_sub, nI_toInt (by omega), Int.bmod_def]
  split <;> omega
theorem run_iff2 {z : Nat} {x y : Int32} (hz : z ≤ 40) : runB (nI z) x y = true ↔ (¬ y < 0 ∧ ¬ x < 0 ∧ ¬ nI z - y < x) := by
  unfold runB
  rw [decide_eq_true_iff, Int32.lt_iff_toInt_lt, Int32.lt_iff_toInt_lt, Int32.lt_iff_toInt_lt, nI_toInt (by omega), show (0 : Int32).toInt = 0 by decide]
  by_cases hy : y.toInt < 0
  · constructor <;> intro h <;> omega
  · rw [sub_toI hz (by omega)]
    constructor <;> intro h <;> omega
theorem run_iff1 {z : Nat} {x y : Int32} (hz : z ≤ 40) : runB (nI z) x y = true ↔ (¬ x < 0 ∧ ¬ y < 0 ∧ ¬ nI z < x ∧ ¬ nI z - x < y) := by
  unfold runB
  rw [decide_eq_true_iff, Int32.lt_iff_toInt_lt, Int32.lt_iff_toInt_lt, Int32.lt_iff_toInt_lt, Int32.lt_iff_toInt_lt, nI_toInt (by omega), show (0 : Int32).toInt = 0 by decide]
  by_cases hx : x.toInt < 0
  · constructor <;> intro h <;> omega
  · rw [sub_toI hz (by omega)]
    constructor <;> intro h <;> omega
theorem run_nat {sz x y : Int32} (hz : inR sz 40) (h : runB sz x y = true) : ∃ f m, x = nI f ∧ y = nI m ∧ f + m ≤ 40 := by
  obtain ⟨z, hz, rfl⟩ := hz
  have h2 := (run_iff2 hz).mp h
  obtain ⟨f, m, h3, h4, h5⟩ := cop_of hz h2.2.1 h2.1 h2.2.2
  exact ⟨f, m, h3, h4, by omega⟩
def cpAns (g : Nat → Int32 × Int32) (a1 a2 a3 a4 a5 : Int32) : Int32 := if (0 ≤ a1 ∧ a1 ≤ 3) ∧ (0 ≤ a3 ∧ a3 ≤ 3) then (if (g a1.toInt.toNat).1 = 0 ∨ (g a3.toInt.toNat).1 = 0 then -1000000006 else (if (g a1.toInt.toNat).1 = (g a3.toInt.toNat).1 then (if runB (g a1.toInt.toNat).2 a2 a5 = true ∧ runB (g a3.toInt.toNat).2 a4 a5 = true then a5 else -1000000001) else -1000000003)) else -1000000001
section SXCP
variable {g : Nat → Int32 × Int32} {s t : Nat} {a1 a2 a3 a4 a5 b1 b2 z1 z2 : Int32}
theorem cp_1 (h : ¬ ((0 ≤ a1 ∧ a1 ≤ 3) ∧ (0 ≤ a3 ∧ a3 ≤ 3))) : cpAns g a1 a2 a3 a4 a5 = -1000000001 := if_neg h
theorem cp_r {x : Nat} (h : x < 4) : (0 : Int32) ≤ nI x ∧ nI x ≤ 3 := ⟨nI_le (a := 0) (Nat.zero_le _) (by omega), nI_le (b := 3) (by omega) (by decide)⟩
theorem cp_0 (hs : s < 4) (ht : t < 4) (e1 : g s = (b1, z1)) (e2 : g t = (b2, z2)) : cpAns g (nI s) a2 (nI t) a4 a5 = (if b1 = 0 ∨ b2 = 0 then -1000000006 else (if b1 = b2 then (if runB z1 a2 a5 = true ∧ runB z2 a4 a5 = true then a5 else -1000000001) else -1000000003)) := by
  unfold cpAns
  rw [if_pos ⟨cp_r hs, cp_r ht⟩, nI_toInt (by omega), nI_toInt (by omega), Int.toNat_natCast, Int.toNat_natCast, e1, e2]
theorem cp_2 (hs : s < 4) (ht : t < 4) (e1 : g s = (b1, z1)) (e2 : g t = (b2, z2)) (h : b1 = 0 ∨ b2 = 0) : cpAns g (nI s) a2 (nI t) a4 a5 = -1000000006 := by rw [cp_0 hs ht e1 e2, if_pos h]
theorem cp_3 (hs : s < 4) (ht : t < 4) (e1 : g s = (b1, z1)) (e2 : g t = (b2, z2)) (h : ¬ b1 = 0) (h' : ¬ b2 = 0) (h2 : ¬ b1 = b2) : cpAns g (nI s) a2 (nI t) a4 a5 = -1000000003 := by rw [cp_0 hs ht e1 e2, if_neg (fun z => z.elim h h'), if_neg h2]
theorem cp_4 (hs : s < 4) (ht : t < 4) (e1 : g s = (b1, z1)) (e2 : g t = (b2, z2)) (h : ¬ b1 = 0) (h' : ¬ b2 = 0) (h2 : b1 = b2) (h3 : ¬ (runB z1 a2 a5 = true ∧ runB z2 a4 a5 = true)) : cpAns g (nI s) a2 (nI t) a4 a5 = -1000000001 := by rw [cp_0 hs ht e1 e2, if_neg (fun z => z.elim h h'), if_pos h2, if_neg h3]
theorem cp_5 (hs : s < 4) (ht : t < 4) (e1 : g s = (b1, z1)) (e2 : g t = (b2, z2)) (h : ¬ b1 = 0) (h' : ¬ b2 = 0) (h2 : b1 = b2) (h3 : runB z1 a2 a5 = true) (h4 : runB z2 a4 a5 = true) : cpAns g (nI s) a2 (nI t) a4 a5 = a5 := by rw [cp_0 hs ht e1 e2, if_neg (fun z => z.elim h h'), if_pos h2, if_pos ⟨h3, h4⟩]
end SXCP
theorem FCs_at {w : List sx_C} {s : Nat} (hs : s < 4) : FCs w s = (fi w (103 + 2 * s) 1, fi w (103 + 2 * s) 2) := if_pos hs
theorem FMs_at {w : List sx_C} {s : Nat} (hs : s < 4) {z : Int32} (hz : (ia w 123).getD s 0 = z) : FMs w s = ((ia w 122).getD s 0, z) := by rw [← hz]; exact if_pos hs
theorem FMs_at0 {w : List sx_C} {s : Nat} (hs : s < 4) : FMs w s = ((ia w 122).getD s 0, (ia w 123).getD s 0) := if_pos hs
set_option maxRecDepth 20000 in
set_option maxHeartbeats 4000000 in
theorem p116y {xs : Option (List Int32)} {d : Nat} {w : List sx_C} (hI : WI w) {s : Nat} (hs : s < 4) (hh : fi w (103 + 2 * s) 1 = 0) : sx_RU xs d 116 0 (lv_args 0 [.ref (103 + 2 * s)]) [] w (some (.int 1)) w := by
  have h : sx_RP xs d 116 0 (lv_args 0 [.ref (103 + 2 * s)]) [] w (fun r w2 => r = some (.int 1) ∧ w2 = w) := by
    refine sx_RP.step (pc2 := 1) (ls2 := [(0, .ref (103 + 2 * s))]) (st2 := [.ref (103 + 2 * s)]) (w3 := w) rfl rfl ?_
    refine sx_RP.gf (v := .int (fi w (103 + 2 * s) 1)) rfl rfl (hI.1.oS (show s < 4 by omega)) rfl rfl (show _ = 4 from rfl) ?_
    refine sx_RP.br (p1 := 11) (l1 := [(0, .ref (103 + 2 * s))]) (s1 := []) (v1 := w) (p2 := 7) (l2 := [(0, .ref (103 + 2 * s))]) (s2 := []) (v2 := w) rfl rfl (fun q1 => ?_) (fun q1 => ?_)
    · replace q1 := of_decide_eq_true q1
      refine sx_RP.step (pc2 := 12) (ls2 := [(0, .ref (103 + 2 * s))]) (st2 := [.int 0]) (w3 := w) rfl rfl ?_
      refine sx_RP.ret (r := (some (.int 0))) rfl rfl ?_
      first | exact ⟨rfl, rfl⟩ | contradiction
    · replace q1 := Decidable.not_not.mp (of_decide_eq_false q1)
      refine sx_RP.step (pc2 := 8) (ls2 := [(0, .ref (103 + 2 * s))]) (st2 := [.int 1]) (w3 := w) rfl rfl ?_
      refine sx_RP.step (pc2 := 12) (ls2 := [(0, .ref (103 + 2 * s))]) (st2 := [.int 1]) (w3 := w) rfl rfl ?_
      refine sx_RP.ret (r := (some (.int 1))) rfl rfl ?_
      first | exact ⟨rfl, rfl⟩ | contradiction
  obtain ⟨r, w2, h1, rfl, rfl⟩ := h
  exact h1
set_option maxRecDepth 20000 in
set_option maxHeartbeats 4000000 in
theorem p116n {xs : Option (List Int32)} {d : Nat} {w : List sx_C} (hI : WI w) {s : Nat} (hs : s < 4) (hh : ¬ fi w (103 + 2 * s) 1 = 0) : sx_RU xs d 116 0 (lv_args 0 [.ref (103 + 2 * s)]) [] w (some (.int 0)) w := by
  have h : sx_RP xs d 116 0 (lv_args 0 [.ref (103 + 2 * s)]) [] w (fun r w2 => r = some (.int 0) ∧ w2 = w) := by
    refine sx_RP.step (pc2 := 1) (ls2 := [(0, .ref (103 + 2 * s))]) (st2 := [.ref (103 + 2 * s)]) (w3 := w) rfl rfl ?_
    refine sx_RP.gf (v := .int (fi w (103 + 2 * s) 1)) rfl rfl (hI.1.oS (show s < 4 by omega)) rfl rfl (show _ = 4 from rfl) ?_
    refine sx_RP.br (p1 := 11) (l1 := [(0, .ref (103 + 2 * s))]) (s1 := []) (v1 := w) (p2 := 7) (l2 := [(0, .ref (103 + 2 * s))]) (s2 := []) (v2 := w) rfl rfl (fun q1 => ?_) (fun q1 => ?_)
    · replace q1 := of_decide_eq_true q1
      refine sx_RP.step (pc2 := 12) (ls2 := [(0, .ref (103 + 2 * s))]) (st2 := [.int 0]) (w3 := w) rfl rfl ?_
      refine sx_RP.ret (r := (some (.int 0))) rfl rfl ?_
      first | exact ⟨rfl, rfl⟩ | contradiction
    · replace q1 := Decidable.not_not.mp (of_decide_eq_false q1)
      refine sx_RP.step (pc2 := 8) (ls2 := [(0, .ref (103 + 2 * s))]) (st2 := [.int 1]) (w3 := w) rfl rfl ?_
      refine sx_RP.step (pc2 := 12) (ls2 := [(0, .ref (103 + 2 * s))]) (st2 := [.int 1]) (w3 := w) rfl rfl ?_
      refine sx_RP.ret (r := (some (.int 1))) rfl rfl ?_
      first | exact ⟨rfl, rfl⟩ | contradiction
  obtain ⟨r, w2, h1, rfl, rfl⟩ := h
  exact h1
set_option maxRecDepth 20000 in
set_option maxHeartbeats 4000000 in
theorem p119y {xs : Option (List Int32)} {d : Nat} {w : List sx_C} (hI : WI w) {s : Nat} (hs : s < 4) {x y : Int32} (hh : runB (fi w (103 + 2 * s) 2) x y = true) : sx_RU xs d 119 0 (lv_args 0 [.ref (103 + 2 * s), .int x, .int y]) [] w (some (.int 1)) w := by
  obtain ⟨z, hzz, ez⟩ := hI.sh hs
  rw [ez] at hh
  have h : sx_RP xs d 119 0 (lv_args 0 [.ref (103 + 2 * s), .int x, .int y]) [] w (fun r w2 => r = some (.int 1) ∧ w2 = w) := by
    refine sx_RP.step (pc2 := 1) (ls2 := [(0, .ref (103 + 2 * s)), (1, .int x), (2, .int y)]) (st2 := [.int x]) (w3 := w) rfl rfl ?_
    refine sx_RP.br (p1 := 30) (l1 := [(0, .ref (103 + 2 * s)), (1, .int x), (2, .int y)]) (s1 := []) (v1 := w) (p2 := 4) (l2 := [(0, .ref (103 + 2 * s)), (1, .int x), (2, .int y)]) (s2 := []) (v2 := w) rfl rfl (fun q1 => ?_) (fun q1 => ?_)
    · replace q1 := of_decide_eq_true q1
      refine sx_RP.step (pc2 := 31) (ls2 := [(0, .ref (103 + 2 * s)), (1, .int x), (2, .int y)]) (st2 := [.int 0]) (w3 := w) rfl rfl ?_
      refine sx_RP.ret (r := (some (.int 0))) rfl rfl ?_
      first | exact ⟨rfl, rfl⟩ | exact absurd ((run_iff1 hzz).mpr ⟨by assumption, by assumption, by first | assumption | exact Int32.not_lt.mpr (by assumption), by first | assumption | exact Int32.not_lt.mpr (by assumption)⟩) hh | (have hq := (run_iff1 hzz).mp hh; first | exact absurd (by assumption) hq.1 | exact absurd (by assumption) hq.2.1 | exact absurd (by first | assumption | exact Int32.not_le.mp (by assumption)) hq.2.2.1 | exact absurd (by first | assumption | exact Int32.not_le.mp (by assumption)) hq.2.2.2)
    · replace q1 := of_decide_eq_false q1
      refine sx_RP.step (pc2 := 5) (ls2 := [(0, .ref (103 + 2 * s)), (1, .int x), (2, .int y)]) (st2 := [.int y]) (w3 := w) rfl rfl ?_
      refine sx_RP.br (p1 := 30) (l1 := [(0, .ref (103 + 2 * s)), (1, .int x), (2, .int y)]) (s1 := []) (v1 := w) (p2 := 8) (l2 := [(0, .ref (103 + 2 * s)), (1, .int x), (2, .int y)]) (s2 := []) (v2 := w) rfl rfl (fun q2 => ?_) (fun q2 => ?_)
      · replace q2 := of_decide_eq_true q2
        refine sx_RP.step (pc2 := 31) (ls2 := [(0, .ref (103 + 2 * s)), (1, .int x), (2, .int y)]) (st2 := [.int 0]) (w3 := w) rfl rfl ?_
        refine sx_RP.ret (r := (some (.int 0))) rfl rfl ?_
        first | exact ⟨rfl, rfl⟩ | exact absurd ((run_iff1 hzz).mpr ⟨by assumption, by assumption, by first | assumption | exact Int32.not_lt.mpr (by assumption), by first | assumption | exact Int32.not_lt.mpr (by assumption)⟩) hh | (have hq := (run_iff1 hzz).mp hh; first | exact absurd (by assumption) hq.1 | exact absurd (by assumption) hq.2.1 | exact absurd (by first | assumption | exact Int32.not_le.mp (by assumption)) hq.2.2.1 | exact absurd (by first | assumption | exact Int32.not_le.mp (by assumption)) hq.2.2.2)
      · replace q2 := of_decide_eq_false q2
        refine sx_RP.step (pc2 := 9) (ls2 := [(0, .ref (103 + 2 * s)), (1, .int x), (2, .int y)]) (st2 := [.int x]) (w3 := w) rfl rfl ?_
        refine sx_RP.step (pc2 := 10) (ls2 := [(0, .ref (103 + 2 * s)), (1, .int x), (2, .int y)]) (st2 := [.ref (103 + 2 * s), .int x]) (w3 := w) rfl rfl ?_
        refine sx_RP.gf (v := .int (fi w (103 + 2 * s) 2)) rfl rfl (hI.1.oS (show s < 4 by omega)) rfl rfl (show _ = 13 from rfl) ?_
        rw [ez]
        refine sx_RP.br (p1 := 30) (l1 := [(0, .ref (103 + 2 * s)), (1, .int x), (2, .int y)]) (s1 := []) (v1 := w) (p2 := 16) (l2 := [(0, .ref (103 + 2 * s)), (1, .int x), (2, .int y)]) (s2 := []) (v2 := w) rfl rfl (fun q3 => ?_) (fun q3 => ?_)
        · replace q3 := of_decide_eq_true q3
          refine sx_RP.step (pc2 := 31) (ls2 := [(0, .ref (103 + 2 * s)), (1, .int x), (2, .int y)]) (st2 := [.int 0]) (w3 := w) rfl rfl ?_
          refine sx_RP.ret (r := (some (.int 0))) rfl rfl ?_
          first | exact ⟨rfl, rfl⟩ | exact absurd ((run_iff1 hzz).mpr ⟨by assumption, by assumption, by first | assumption | exact Int32.not_lt.mpr (by assumption), by first | assumption | exact Int32.not_lt.mpr (by assumption)⟩) hh | (have hq := (run_iff1 hzz).mp hh; first | exact absurd (by assumption) hq.1 | exact absurd (by assumption) hq.2.1 | exact absurd (by first | assumption | exact Int32.not_le.mp (by assumption)) hq.2.2.1 | exact absurd (by first | assumption | exact Int32.not_le.mp (by assumption)) hq.2.2.2)
        · replace q3 := of_decide_eq_false q3
          refine sx_RP.step (pc2 := 17) (ls2 := [(0, .ref (103 + 2 * s)), (1, .int x), (2, .int y)]) (st2 := [.int y]) (w3 := w) rfl rfl ?_
          refine sx_RP.step (pc2 := 18) (ls2 := [(0, .ref (103 + 2 * s)), (1, .int x), (2, .int y)]) (st2 := [.ref (103 + 2 * s), .int y]) (w3 := w) rfl rfl ?_
          refine sx_RP.gf (v := .int (fi w (103 + 2 * s) 2)) rfl rfl (hI.1.oS (show s < 4 by omega)) rfl rfl (show _ = 21 from rfl) ?_
          rw [ez]
          refine sx_RP.step (pc2 := 22) (ls2 := [(0, .ref (103 + 2 * s)), (1, .int x), (2, .int y)]) (st2 := [.int x, .int (nI z), .int y]) (w3 := w) rfl rfl ?_
          refine sx_RP.step (pc2 := 23) (ls2 := [(0, .ref (103 + 2 * s)), (1, .int x), (2, .int y)]) (st2 := [.int ((nI z) - x), .int y]) (w3 := w) rfl rfl ?_
          refine sx_RP.br (p1 := 30) (l1 := [(0, .ref (103 + 2 * s)), (1, .int x), (2, .int y)]) (s1 := []) (v1 := w) (p2 := 26) (l2 := [(0, .ref (103 + 2 * s)), (1, .int x), (2, .int y)]) (s2 := []) (v2 := w) rfl rfl (fun q4 => ?_) (fun q4 => ?_)
          · replace q4 := of_decide_eq_true q4
            refine sx_RP.step (pc2 := 31) (ls2 := [(0, .ref (103 + 2 * s)), (1, .int x), (2, .int y)]) (st2 := [.int 0]) (w3 := w) rfl rfl ?_
            refine sx_RP.ret (r := (some (.int 0))) rfl rfl ?_
            first | exact ⟨rfl, rfl⟩ | exact absurd ((run_iff1 hzz).mpr ⟨by assumption, by assumption, by first | assumption | exact Int32.not_lt.mpr (by assumption), by first | assumption | exact Int32.not_lt.mpr (by assumption)⟩) hh | (have hq := (run_iff1 hzz).mp hh; first | exact absurd (by assumption) hq.1 | exact absurd (by assumption) hq.2.1 | exact absurd (by first | assumption | exact Int32.not_le.mp (by assumption)) hq.2.2.1 | exact absurd (by first | assumption | exact Int32.not_le.mp (by assumption)) hq.2.2.2)
          · replace q4 := of_decide_eq_false q4
            refine sx_RP.step (pc2 := 27) (ls2 := [(0, .ref (103 + 2 * s)), (1, .int x), (2, .int y)]) (st2 := [.int 1]) (w3 := w) rfl rfl ?_
            refine sx_RP.step (pc2 := 31) (ls2 := [(0, .ref (103 + 2 * s)), (1, .int x), (2, .int y)]) (st2 := [.int 1]) (w3 := w) rfl rfl ?_
            refine sx_RP.ret (r := (some (.int 1))) rfl rfl ?_
            first | exact ⟨rfl, rfl⟩ | exact absurd ((run_iff1 hzz).mpr ⟨by assumption, by assumption, by first | assumption | exact Int32.not_lt.mpr (by assumption), by first | assumption | exact Int32.not_lt.mpr (by assumption)⟩) hh | (have hq := (run_iff1 hzz).mp hh; first | exact absurd (by assumption) hq.1 | exact absurd (by assumption) hq.2.1 | exact absurd (by first | assumption | exact Int32.not_le.mp (by assumption)) hq.2.2.1 | exact absurd (by first | assumption | exact Int32.not_le.mp (by assumption)) hq.2.2.2)
  obtain ⟨r, w2, h1, rfl, rfl⟩ := h
  exact h1
set_option maxRecDepth 20000 in
set_option maxHeartbeats 4000000 in
theorem p119n {xs : Option (List Int32)} {d : Nat} {w : List sx_C} (hI : WI w) {s : Nat} (hs : s < 4) {x y : Int32} (hh : ¬ runB (fi w (103 + 2 * s) 2) x y = true) : sx_RU xs d 119 0 (lv_args 0 [.ref (103 + 2 * s), .int x, .int y]) [] w (some (.int 0)) w := by
  obtain ⟨z, hzz, ez⟩ := hI.sh hs
  rw [ez] at hh
  have h : sx_RP xs d 119 0 (lv_args 0 [.ref (103 + 2 * s), .int x, .int y]) [] w (fun r w2 => r = some (.int 0) ∧ w2 = w) := by
    refine sx_RP.step (pc2 := 1) (ls2 := [(0, .ref (103 + 2 * s)), (1, .int x), (2, .int y)]) (st2 := [.int x]) (w3 := w) rfl rfl ?_
    refine sx_RP.br (p1 := 30) (l1 := [(0, .ref (103 + 2 * s)), (1, .int x), (2, .int y)]) (s1 := []) (v1 := w) (p2 := 4) (l2 := [(0, .ref (103 + 2 * s)), (1, .int x), (2, .int y)]) (s2 := []) (v2 := w) rfl rfl (fun q1 => ?_) (fun q1 => ?_)
    · replace q1 := of_decide_eq_true q1
      refine sx_RP.step (pc2 := 31) (ls2 := [(0, .ref (103 + 2 * s)), (1, .int x), (2, .int y)]) (st2 := [.int 0]) (w3 := w) rfl rfl ?_
      refine sx_RP.ret (r := (some (.int 0))) rfl rfl ?_
      first | exact ⟨rfl, rfl⟩ | exact absurd ((run_iff1 hzz).mpr ⟨by assumption, by assumption, by first | assumption | exact Int32.not_lt.mpr (by assumption), by first | assumption | exact Int32.not_lt.mpr (by assumption)⟩) hh | (have hq := (run_iff1 hzz).mp hh; first | exact absurd (by assumption) hq.1 | exact absurd (by assumption) hq.2.1 | exact absurd (by first | assumption | exact Int32.not_le.mp (by assumption)) hq.2.2.1 | exact absurd (by first | assumption | exact Int32.not_le.mp (by assumption)) hq.2.2.2)
    · replace q1 := of_decide_eq_false q1
      refine sx_RP.step (pc2 := 5) (ls2 := [(0, .ref (103 + 2 * s)), (1, .int x), (2, .int y)]) (st2 := [.int y]) (w3 := w) rfl rfl ?_
      refine sx_RP.br (p1 := 30) (l1 := [(0, .ref (103 + 2 * s)), (1, .int x), (2, .int y)]) (s1 := []) (v1 := w) (p2 := 8) (l2 := [(0, .ref (103 + 2 * s)), (1, .int x), (2, .int y)]) (s2 := []) (v2 := w) rfl rfl (fun q2 => ?_) (fun q2 => ?_)
      · replace q2 := of_decide_eq_true q2
        refine sx_RP.step (pc2 := 31) (ls2 := [(0, .ref (103 + 2 * s)), (1, .int x), (2, .int y)]) (st2 := [.int 0]) (w3 := w) rfl rfl ?_
        refine sx_RP.ret (r := (some (.int 0))) rfl rfl ?_
        first | exact ⟨rfl, rfl⟩ | exact absurd ((run_iff1 hzz).mpr ⟨by assumption, by assumption, by first | assumption | exact Int32.not_lt.mpr (by assumption), by first | assumption | exact Int32.not_lt.mpr (by assumption)⟩) hh | (have hq := (run_iff1 hzz).mp hh; first | exact absurd (by assumption) hq.1 | exact absurd (by assumption) hq.2.1 | exact absurd (by first | assumption | exact Int32.not_le.mp (by assumption)) hq.2.2.1 | exact absurd (by first | assumption | exact Int32.not_le.mp (by assumption)) hq.2.2.2)
      · replace q2 := of_decide_eq_false q2
        refine sx_RP.step (pc2 := 9) (ls2 := [(0, .ref (103 + 2 * s)), (1, .int x), (2, .int y)]) (st2 := [.int x]) (w3 := w) rfl rfl ?_
        refine sx_RP.step (pc2 := 10) (ls2 := [(0, .ref (103 + 2 * s)), (1, .int x), (2, .int y)]) (st2 := [.ref (103 + 2 * s), .int x]) (w3 := w) rfl rfl ?_
        refine sx_RP.gf (v := .int (fi w (103 + 2 * s) 2)) rfl rfl (hI.1.oS (show s < 4 by omega)) rfl rfl (show _ = 13 from rfl) ?_
        rw [ez]
        refine sx_RP.br (p1 := 30) (l1 := [(0, .ref (103 + 2 * s)), (1, .int x), (2, .int y)]) (s1 := []) (v1 := w) (p2 := 16) (l2 := [(0, .ref (103 + 2 * s)), (1, .int x), (2, .int y)]) (s2 := []) (v2 := w) rfl rfl (fun q3 => ?_) (fun q3 => ?_)
        · replace q3 := of_decide_eq_true q3
          refine sx_RP.step (pc2 := 31) (ls2 := [(0, .ref (103 + 2 * s)), (1, .int x), (2, .int y)]) (st2 := [.int 0]) (w3 := w) rfl rfl ?_
          refine sx_RP.ret (r := (some (.int 0))) rfl rfl ?_
          first | exact ⟨rfl, rfl⟩ | exact absurd ((run_iff1 hzz).mpr ⟨by assumption, by assumption, by first | assumption | exact Int32.not_lt.mpr (by assumption), by first | assumption | exact Int32.not_lt.mpr (by assumption)⟩) hh | (have hq := (run_iff1 hzz).mp hh; first | exact absurd (by assumption) hq.1 | exact absurd (by assumption) hq.2.1 | exact absurd (by first | assumption | exact Int32.not_le.mp (by assumption)) hq.2.2.1 | exact absurd (by first | assumption | exact Int32.not_le.mp (by assumption)) hq.2.2.2)
        · replace q3 := of_decide_eq_false q3
          refine sx_RP.step (pc2 := 17) (ls2 := [(0, .ref (103 + 2 * s)), (1, .int x), (2, .int y)]) (st2 := [.int y]) (w3 := w) rfl rfl ?_
          refine sx_RP.step (pc2 := 18) (ls2 := [(0, .ref (103 + 2 * s)), (1, .int x), (2, .int y)]) (st2 := [.ref (103 + 2 * s), .int y]) (w3 := w) rfl rfl ?_
          refine sx_RP.gf (v := .int (fi w (103 + 2 * s) 2)) rfl rfl (hI.1.oS (show s < 4 by omega)) rfl rfl (show _ = 21 from rfl) ?_
          rw [ez]
          refine sx_RP.step (pc2 := 22) (ls2 := [(0, .ref (103 + 2 * s)), (1, .int x), (2, .int y)]) (st2 := [.int x, .int (nI z), .int y]) (w3 := w) rfl rfl ?_
          refine sx_RP.step (pc2 := 23) (ls2 := [(0, .ref (103 + 2 * s)), (1, .int x), (2, .int y)]) (st2 := [.int ((nI z) - x), .int y]) (w3 := w) rfl rfl ?_
          refine sx_RP.br (p1 := 30) (l1 := [(0, .ref (103 + 2 * s)), (1, .int x), (2, .int y)]) (s1 := []) (v1 := w) (p2 := 26) (l2 := [(0, .ref (103 + 2 * s)), (1, .int x), (2, .int y)]) (s2 := []) (v2 := w) rfl rfl (fun q4 => ?_) (fun q4 => ?_)
          · replace q4 := of_decide_eq_true q4
            refine sx_RP.step (pc2 := 31) (ls2 := [(0, .ref (103 + 2 * s)), (1, .int x), (2, .int y)]) (st2 := [.int 0]) (w3 := w) rfl rfl ?_
            refine sx_RP.ret (r := (some (.int 0))) rfl rfl ?_
            first | exact ⟨rfl, rfl⟩ | exact absurd ((run_iff1 hzz).mpr ⟨by assumption, by assumption, by first | assumption | exact Int32.not_lt.mpr (by assumption), by first | assumption | exact Int32.not_lt.mpr (by assumption)⟩) hh | (have hq := (run_iff1 hzz).mp hh; first | exact absurd (by assumption) hq.1 | exact absurd (by assumption) hq.2.1 | exact absurd (by first | assumption | exact Int32.not_le.mp (by assumption)) hq.2.2.1 | exact absurd (by first | assumption | exact Int32.not_le.mp (by assumption)) hq.2.2.2)
          · replace q4 := of_decide_eq_false q4
            refine sx_RP.step (pc2 := 27) (ls2 := [(0, .ref (103 + 2 * s)), (1, .int x), (2, .int y)]) (st2 := [.int 1]) (w3 := w) rfl rfl ?_
            refine sx_RP.step (pc2 := 31) (ls2 := [(0, .ref (103 + 2 * s)), (1, .int x), (2, .int y)]) (st2 := [.int 1]) (w3 := w) rfl rfl ?_
            refine sx_RP.ret (r := (some (.int 1))) rfl rfl ?_
            first | exact ⟨rfl, rfl⟩ | exact absurd ((run_iff1 hzz).mpr ⟨by assumption, by assumption, by first | assumption | exact Int32.not_lt.mpr (by assumption), by first | assumption | exact Int32.not_lt.mpr (by assumption)⟩) hh | (have hq := (run_iff1 hzz).mp hh; first | exact absurd (by assumption) hq.1 | exact absurd (by assumption) hq.2.1 | exact absurd (by first | assumption | exact Int32.not_le.mp (by assumption)) hq.2.2.1 | exact absurd (by first | assumption | exact Int32.not_le.mp (by assumption)) hq.2.2.2)
  obtain ⟨r, w2, h1, rfl, rfl⟩ := h
  exact h1
set_option maxRecDepth 20000 in
set_option maxHeartbeats 4000000 in
theorem s118A {xs : Option (List Int32)} {d : Nat} {w : List sx_C} (hI : WI w) (a1 a2 a3 a4 a5 : Int32) : sx_RP xs (d + 7) 118 0 (lv_args 0 [.ref 0, .int a1, .int a2, .int a3, .int a4, .int a5]) [] w (fun r w2 => (r = some (.int (cpAns (FCs w) a1 a2 a3 a4 a5))) ∧ WI w2 ∧ EC w w2) := by
  have hE : EC w w := EC.rf
  refine sx_RP.step (pc2 := 1) (ls2 := [(0, .ref 0), (1, .int a1), (2, .int a2), (3, .int a3), (4, .int a4), (5, .int a5)]) (st2 := [.int a1]) (w3 := w) rfl rfl ?_
  rcases in_cases a1 0 3 (m := 0) (n := 3) rfl rfl (by decide) (by decide) with q1 | ⟨x2, hx3, hx4, rfl⟩
  · refine sx_RP.cu (as := [.int a1]) (rest2 := []) (st3 := [.int 0]) rfl rfl rfl rfl rfl (cx_112n q1) rfl ?_
    refine sx_RP.step (pc2 := 14) (ls2 := [(0, .ref 0), (1, .int a1), (2, .int a2), (3, .int a3), (4, .int a4), (5, .int a5)]) (st2 := []) (w3 := w) rfl rfl ?_
    refine sx_RP.step (pc2 := 15) (ls2 := [(0, .ref 0), (1, .int a1), (2, .int a2), (3, .int a3), (4, .int a4), (5, .int a5)]) (st2 := [.ref 0]) (w3 := w) rfl rfl ?_
    refine sx_RP.step (pc2 := 17) (ls2 := [(0, .ref 0), (1, .int a1), (2, .int a2), (3, .int a3), (4, .int a4), (5, .int a5)]) (st2 := [.int (-1000000001), .ref 0]) (w3 := w) rfl rfl ?_
    refine sx_RP.callp (as2 := [.ref 0, .int (-1000000001)]) (rest2 := []) rfl rfl (sx_inv_v2 (mi := 118) (k := 78) (st := [.int (-1000000001), .ref 0]) (w := w) rfl rfl hI.1.o0 rfl rfl rfl) rfl rfl rfl (s9_0 hI) (show _ = 20 from rfl) ?_
    rintro r4 w6 ⟨rfl, hI7, hE9⟩
    have hE8 := hE.tr (hE9)
    show sx_RP _ _ _ _ _ [.int (-1000000001)] _ _
    refine sx_RP.ret (r := (some (.int (-1000000001)))) rfl rfl ?_
    exact ⟨by rw [cp_1 (fun z => q1 z.1)], hI7, hE8⟩
  · refine sx_RP.cu (as := [.int (nI x2)]) (rest2 := []) (st3 := [.int 1]) rfl rfl rfl rfl rfl (cx_112p ⟨nI_le (a := 0) hx3 (by omega), nI_le (b := 3) hx4 (by decide)⟩) rfl ?_
    refine sx_RP.step (pc2 := 7) (ls2 := [(0, .ref 0), (1, .int (nI x2)), (2, .int a2), (3, .int a3), (4, .int a4), (5, .int a5)]) (st2 := []) (w3 := w) rfl rfl ?_
    refine sx_RP.step (pc2 := 8) (ls2 := [(0, .ref 0), (1, .int (nI x2)), (2, .int a2), (3, .int a3), (4, .int a4), (5, .int a5)]) (st2 := [.int a3]) (w3 := w) rfl rfl ?_
    rcases in_cases a3 0 3 (m := 0) (n := 3) rfl rfl (by decide) (by decide) with q10 | ⟨x11, hx12, hx13, rfl⟩
    · refine sx_RP.cu (as := [.int a3]) (rest2 := []) (st3 := [.int 0]) rfl rfl rfl rfl rfl (cx_112n q10) rfl ?_
      refine sx_RP.step (pc2 := 14) (ls2 := [(0, .ref 0), (1, .int (nI x2)), (2, .int a2), (3, .int a3), (4, .int a4), (5, .int a5)]) (st2 := []) (w3 := w) rfl rfl ?_
      refine sx_RP.step (pc2 := 15) (ls2 := [(0, .ref 0), (1, .int (nI x2)), (2, .int a2), (3, .int a3), (4, .int a4), (5, .int a5)]) (st2 := [.ref 0]) (w3 := w) rfl rfl ?_
      refine sx_RP.step (pc2 := 17) (ls2 := [(0, .ref 0), (1, .int (nI x2)), (2, .int a2), (3, .int a3), (4, .int a4), (5, .int a5)]) (st2 := [.int (-1000000001), .ref 0]) (w3 := w) rfl rfl ?_
      refine sx_RP.callp (as2 := [.ref 0, .int (-1000000001)]) (rest2 := []) rfl rfl (sx_inv_v2 (mi := 118) (k := 78) (st := [.int (-1000000001), .ref 0]) (w := w) rfl rfl hI.1.o0 rfl rfl rfl) rfl rfl rfl (s9_0 hI) (show _ = 20 from rfl) ?_
      rintro r4 w15 ⟨rfl, hI16, hE18⟩
      have hE17 := hE.tr (hE18)
      show sx_RP _ _ _ _ _ [.int (-1000000001)] _ _
      refine sx_RP.ret (r := (some (.int (-1000000001)))) rfl rfl ?_
      exact ⟨by rw [cp_1 (fun z => q10 z.2)], hI16, hE17⟩
    · refine sx_RP.cu (as := [.int (nI x11)]) (rest2 := []) (st3 := [.int 1]) rfl rfl rfl rfl rfl (cx_112p ⟨nI_le (a := 0) hx12 (by omega), nI_le (b := 3) hx13 (by decide)⟩) rfl ?_
      refine sx_RP.step (pc2 := 21) (ls2 := [(0, .ref 0), (1, .int (nI x2)), (2, .int a2), (3, .int (nI x11)), (4, .int a4), (5, .int a5)]) (st2 := []) (w3 := w) rfl rfl ?_
      refine sx_RP.step (pc2 := 22) (ls2 := [(0, .ref 0), (1, .int (nI x2)), (2, .int a2), (3, .int (nI x11)), (4, .int a4), (5, .int a5)]) (st2 := [.ref 0]) (w3 := w) rfl rfl ?_
      refine sx_RP.gf (v := .ref 98) rfl rfl hI.1.o0 rfl rfl (show _ = 25 from rfl) ?_
      refine sx_RP.step (pc2 := 26) (ls2 := [(0, .ref 0), (1, .int (nI x2)), (2, .int a2), (3, .int (nI x11)), (4, .int a4), (5, .int a5)]) (st2 := [.int (nI x2), .ref 98]) (w3 := w) rfl rfl ?_
      refine sx_RP.ald (v := .ref (103 + 2 * x2)) rfl hI.1.a98 rfl (shA_at (show x2 < 4 by omega)) (show _ = 27 from rfl) ?_
      refine sx_RP.step (pc2 := 29) (ls2 := [(6, .ref (103 + 2 * x2)), (0, .ref 0), (1, .int (nI x2)), (2, .int a2), (3, .int (nI x11)), (4, .int a4), (5, .int a5)]) (st2 := []) (w3 := w) rfl rfl ?_
      refine sx_RP.step (pc2 := 30) (ls2 := [(6, .ref (103 + 2 * x2)), (0, .ref 0), (1, .int (nI x2)), (2, .int a2), (3, .int (nI x11)), (4, .int a4), (5, .int a5)]) (st2 := [.ref 0]) (w3 := w) rfl rfl ?_
      refine sx_RP.gf (v := .ref 98) rfl rfl hI.1.o0 rfl rfl (show _ = 33 from rfl) ?_
      refine sx_RP.step (pc2 := 34) (ls2 := [(6, .ref (103 + 2 * x2)), (0, .ref 0), (1, .int (nI x2)), (2, .int a2), (3, .int (nI x11)), (4, .int a4), (5, .int a5)]) (st2 := [.int (nI x11), .ref 98]) (w3 := w) rfl rfl ?_
      refine sx_RP.ald (v := .ref (103 + 2 * x11)) rfl hI.1.a98 rfl (shA_at (show x11 < 4 by omega)) (show _ = 35 from rfl) ?_
      refine sx_RP.step (pc2 := 37) (ls2 := [(7, .ref (103 + 2 * x11)), (6, .ref (103 + 2 * x2)), (0, .ref 0), (1, .int (nI x2)), (2, .int a2), (3, .int (nI x11)), (4, .int a4), (5, .int a5)]) (st2 := []) (w3 := w) rfl rfl ?_
      refine sx_RP.step (pc2 := 39) (ls2 := [(7, .ref (103 + 2 * x11)), (6, .ref (103 + 2 * x2)), (0, .ref 0), (1, .int (nI x2)), (2, .int a2), (3, .int (nI x11)), (4, .int a4), (5, .int a5)]) (st2 := [.ref (103 + 2 * x2)]) (w3 := w) rfl rfl ?_
      rcases Decidable.em (fi w (103 + 2 * x2) 1 = 0) with c19 | c19
      · refine sx_RP.cu (as := [.ref (103 + 2 * x2)]) (rest2 := []) (st3 := [.int 1]) rfl rfl (sx_inv_v2 (mi := 118) (k := 310) (st := [.ref (103 + 2 * x2)]) (w := w) rfl rfl (hI.1.oS (show x2 < 4 by omega)) rfl rfl rfl) rfl rfl (p116y hI (show x2 < 4 by omega) c19) rfl ?_
        refine sx_RP.step (pc2 := 53) (ls2 := [(7, .ref (103 + 2 * x11)), (6, .ref (103 + 2 * x2)), (0, .ref 0), (1, .int (nI x2)), (2, .int a2), (3, .int (nI x11)), (4, .int a4), (5, .int a5)]) (st2 := []) (w3 := w) rfl rfl ?_
        refine sx_RP.step (pc2 := 54) (ls2 := [(7, .ref (103 + 2 * x11)), (6, .ref (103 + 2 * x2)), (0, .ref 0), (1, .int (nI x2)), (2, .int a2), (3, .int (nI x11)), (4, .int a4), (5, .int a5)]) (st2 := [.ref 0]) (w3 := w) rfl rfl ?_
        refine sx_RP.step (pc2 := 57) (ls2 := [(7, .ref (103 + 2 * x11)), (6, .ref (103 + 2 * x2)), (0, .ref 0), (1, .int (nI x2)), (2, .int a2), (3, .int (nI x11)), (4, .int a4), (5, .int a5)]) (st2 := [.int (-1000000006), .ref 0]) (w3 := w) rfl rfl ?_
        refine sx_RP.callp (as2 := [.ref 0, .int (-1000000006)]) (rest2 := []) rfl rfl (sx_inv_v2 (mi := 118) (k := 78) (st := [.int (-1000000006), .ref 0]) (w := w) rfl rfl hI.1.o0 rfl rfl rfl) rfl rfl rfl (s9_5 hI) (show _ = 60 from rfl) ?_
        rintro r4 w20 ⟨rfl, hI21, hE23⟩
        have hE22 := hE.tr (hE23)
        show sx_RP _ _ _ _ _ [.int (-1000000006)] _ _
        refine sx_RP.ret (r := (some (.int (-1000000006)))) rfl rfl ?_
        exact ⟨by rw [cp_2 (show x2 < 4 by omega) (show x11 < 4 by omega) (FCs_at (by omega)) (FCs_at (by omega)) (Or.inl c19)], hI21, hE22⟩
      · refine sx_RP.cu (as := [.ref (103 + 2 * x2)]) (rest2 := []) (st3 := [.int 0]) rfl rfl (sx_inv_v2 (mi := 118) (k := 310) (st := [.ref (103 + 2 * x2)]) (w := w) rfl rfl (hI.1.oS (show x2 < 4 by omega)) rfl rfl rfl) rfl rfl (p116n hI (show x2 < 4 by omega) c19) rfl ?_
        refine sx_RP.step (pc2 := 45) (ls2 := [(7, .ref (103 + 2 * x11)), (6, .ref (103 + 2 * x2)), (0, .ref 0), (1, .int (nI x2)), (2, .int a2), (3, .int (nI x11)), (4, .int a4), (5, .int a5)]) (st2 := []) (w3 := w) rfl rfl ?_
        refine sx_RP.step (pc2 := 47) (ls2 := [(7, .ref (103 + 2 * x11)), (6, .ref (103 + 2 * x2)), (0, .ref 0), (1, .int (nI x2)), (2, .int a2), (3, .int (nI x11)), (4, .int a4), (5, .int a5)]) (st2 := [.ref (103 + 2 * x11)]) (w3 := w) rfl rfl ?_
        rcases Decidable.em (fi w (103 + 2 * x11) 1 = 0) with c24 | c24
        · refine sx_RP.cu (as := [.ref (103 + 2 * x11)]) (rest2 := []) (st3 := [.int 1]) rfl rfl (sx_inv_v2 (mi := 118) (k := 310) (st := [.ref (103 + 2 * x11)]) (w := w) rfl rfl (hI.1.oS (show x11 < 4 by omega)) rfl rfl rfl) rfl rfl (p116y hI (show x11 < 4 by omega) c24) rfl ?_
          refine sx_RP.step (pc2 := 53) (ls2 := [(7, .ref (103 + 2 * x11)), (6, .ref (103 + 2 * x2)), (0, .ref 0), (1, .int (nI x2)), (2, .int a2), (3, .int (nI x11)), (4, .int a4), (5, .int a5)]) (st2 := []) (w3 := w) rfl rfl ?_
          refine sx_RP.step (pc2 := 54) (ls2 := [(7, .ref (103 + 2 * x11)), (6, .ref (103 + 2 * x2)), (0, .ref 0), (1, .int (nI x2)), (2, .int a2), (3, .int (nI x11)), (4, .int a4), (5, .int a5)]) (st2 := [.ref 0]) (w3 := w) rfl rfl ?_
          refine sx_RP.step (pc2 := 57) (ls2 := [(7, .ref (103 + 2 * x11)), (6, .ref (103 + 2 * x2)), (0, .ref 0), (1, .int (nI x2)), (2, .int a2), (3, .int (nI x11)), (4, .int a4), (5, .int a5)]) (st2 := [.int (-1000000006), .ref 0]) (w3 := w) rfl rfl ?_
          refine sx_RP.callp (as2 := [.ref 0, .int (-1000000006)]) (rest2 := []) rfl rfl (sx_inv_v2 (mi := 118) (k := 78) (st := [.int (-1000000006), .ref 0]) (w := w) rfl rfl hI.1.o0 rfl rfl rfl) rfl rfl rfl (s9_5 hI) (show _ = 60 from rfl) ?_
          rintro r4 w25 ⟨rfl, hI26, hE28⟩
          have hE27 := hE.tr (hE28)
          show sx_RP _ _ _ _ _ [.int (-1000000006)] _ _
          refine sx_RP.ret (r := (some (.int (-1000000006)))) rfl rfl ?_
          exact ⟨by rw [cp_2 (show x2 < 4 by omega) (show x11 < 4 by omega) (FCs_at (by omega)) (FCs_at (by omega)) (Or.inr c24)], hI26, hE27⟩
        · refine sx_RP.cu (as := [.ref (103 + 2 * x11)]) (rest2 := []) (st3 := [.int 0]) rfl rfl (sx_inv_v2 (mi := 118) (k := 310) (st := [.ref (103 + 2 * x11)]) (w := w) rfl rfl (hI.1.oS (show x11 < 4 by omega)) rfl rfl rfl) rfl rfl (p116n hI (show x11 < 4 by omega) c24) rfl ?_
          refine sx_RP.step (pc2 := 61) (ls2 := [(7, .ref (103 + 2 * x11)), (6, .ref (103 + 2 * x2)), (0, .ref 0), (1, .int (nI x2)), (2, .int a2), (3, .int (nI x11)), (4, .int a4), (5, .int a5)]) (st2 := []) (w3 := w) rfl rfl ?_
          refine sx_RP.step (pc2 := 63) (ls2 := [(7, .ref (103 + 2 * x11)), (6, .ref (103 + 2 * x2)), (0, .ref 0), (1, .int (nI x2)), (2, .int a2), (3, .int (nI x11)), (4, .int a4), (5, .int a5)]) (st2 := [.ref (103 + 2 * x2)]) (w3 := w) rfl rfl ?_
          refine sx_RP.gf (v := .int (fi w (103 + 2 * x2) 1)) rfl rfl (hI.1.oS (show x2 < 4 by omega)) rfl rfl (show _ = 66 from rfl) ?_
          refine sx_RP.step (pc2 := 68) (ls2 := [(7, .ref (103 + 2 * x11)), (6, .ref (103 + 2 * x2)), (0, .ref 0), (1, .int (nI x2)), (2, .int a2), (3, .int (nI x11)), (4, .int a4), (5, .int a5)]) (st2 := [.ref (103 + 2 * x11), .int (fi w (103 + 2 * x2) 1)]) (w3 := w) rfl rfl ?_
          refine sx_RP.gf (v := .int (fi w (103 + 2 * x11) 1)) rfl rfl (hI.1.oS (show x11 < 4 by omega)) rfl rfl (show _ = 71 from rfl) ?_
          refine sx_RP.br (p1 := 81) (l1 := [(7, .ref (103 + 2 * x11)), (6, .ref (103 + 2 * x2)), (0, .ref 0), (1, .int (nI x2)), (2, .int a2), (3, .int (nI x11)), (4, .int a4), (5, .int a5)]) (s1 := []) (v1 := w) (p2 := 74) (l2 := [(7, .ref (103 + 2 * x11)), (6, .ref (103 + 2 * x2)), (0, .ref 0), (1, .int (nI x2)), (2, .int a2), (3, .int (nI x11)), (4, .int a4), (5, .int a5)]) (s2 := []) (v2 := w) rfl rfl (fun q29 => ?_) (fun q29 => ?_)
          · replace q29 := of_decide_eq_true q29
            refine sx_RP.step (pc2 := 83) (ls2 := [(7, .ref (103 + 2 * x11)), (6, .ref (103 + 2 * x2)), (0, .ref 0), (1, .int (nI x2)), (2, .int a2), (3, .int (nI x11)), (4, .int a4), (5, .int a5)]) (st2 := [.ref (103 + 2 * x2)]) (w3 := w) rfl rfl ?_
            refine sx_RP.step (pc2 := 84) (ls2 := [(7, .ref (103 + 2 * x11)), (6, .ref (103 + 2 * x2)), (0, .ref 0), (1, .int (nI x2)), (2, .int a2), (3, .int (nI x11)), (4, .int a4), (5, .int a5)]) (st2 := [.int a2, .ref (103 + 2 * x2)]) (w3 := w) rfl rfl ?_
            refine sx_RP.step (pc2 := 86) (ls2 := [(7, .ref (103 + 2 * x11)), (6, .ref (103 + 2 * x2)), (0, .ref 0), (1, .int (nI x2)), (2, .int a2), (3, .int (nI x11)), (4, .int a4), (5, .int a5)]) (st2 := [.int a5, .int a2, .ref (103 + 2 * x2)]) (w3 := w) rfl rfl ?_
            rcases Decidable.em (runB (fi w (103 + 2 * x2) 2) a2 a5 = true) with c30 | c30
            · obtain ⟨x31, x32, rfl, rfl, hx34⟩ := run_nat (hI.sh (show x2 < 4 by omega)) c30
              refine sx_RP.cu (as := [.ref (103 + 2 * x2), .int (nI x31), .int (nI x32)]) (rest2 := []) (st3 := [.int 1]) rfl rfl (sx_inv_v2 (mi := 118) (k := 325) (st := [.int (nI x32), .int (nI x31), .ref (103 + 2 * x2)]) (w := w) rfl rfl (hI.1.oS (show x2 < 4 by omega)) rfl rfl rfl) rfl rfl (p119y hI (show x2 < 4 by omega) c30) rfl ?_
              refine sx_RP.step (pc2 := 92) (ls2 := [(7, .ref (103 + 2 * x11)), (6, .ref (103 + 2 * x2)), (0, .ref 0), (1, .int (nI x2)), (2, .int (nI x31)), (3, .int (nI x11)), (4, .int a4), (5, .int (nI x32))]) (st2 := []) (w3 := w) rfl rfl ?_
              refine sx_RP.step (pc2 := 94) (ls2 := [(7, .ref (103 + 2 * x11)), (6, .ref (103 + 2 * x2)), (0, .ref 0), (1, .int (nI x2)), (2, .int (nI x31)), (3, .int (nI x11)), (4, .int a4), (5, .int (nI x32))]) (st2 := [.ref (103 + 2 * x11)]) (w3 := w) rfl rfl ?_
              refine sx_RP.step (pc2 := 96) (ls2 := [(7, .ref (103 + 2 * x11)), (6, .ref (103 + 2 * x2)), (0, .ref 0), (1, .int (nI x2)), (2, .int (nI x31)), (3, .int (nI x11)), (4, .int a4), (5, .int (nI x32))]) (st2 := [.int a4, .ref (103 + 2 * x11)]) (w3 := w) rfl rfl ?_
              refine sx_RP.step (pc2 := 98) (ls2 := [(7, .ref (103 + 2 * x11)), (6, .ref (103 + 2 * x2)), (0, .ref 0), (1, .int (nI x2)), (2, .int (nI x31)), (3, .int (nI x11)), (4, .int a4), (5, .int (nI x32))]) (st2 := [.int (nI x32), .int a4, .ref (103 + 2 * x11)]) (w3 := w) rfl rfl ?_
              rcases Decidable.em (runB (fi w (103 + 2 * x11) 2) a4 (nI x32) = true) with c36 | c36
              · obtain ⟨x37, x38, rfl, ex39, hx40⟩ := run_nat (hI.sh (show x11 < 4 by omega)) c36
                have hx41 := (nI_eq (a := x32) (b := x38) (by omega) (by omega)).mp ex39
                refine sx_RP.cu (as := [.ref (103 + 2 * x11), .int (nI x37), .int (nI x32)]) (rest2 := []) (st3 := [.int 1]) rfl rfl (sx_inv_v2 (mi := 118) (k := 325) (st := [.int (nI x32), .int (nI x37), .ref (103 + 2 * x11)]) (w := w) rfl rfl (hI.1.oS (show x11 < 4 by omega)) rfl rfl rfl) rfl rfl (p119y hI (show x11 < 4 by omega) c36) rfl ?_
                refine sx_RP.step (pc2 := 111) (ls2 := [(7, .ref (103 + 2 * x11)), (6, .ref (103 + 2 * x2)), (0, .ref 0), (1, .int (nI x2)), (2, .int (nI x31)), (3, .int (nI x11)), (4, .int (nI x37)), (5, .int (nI x32))]) (st2 := []) (w3 := w) rfl rfl ?_
                refine sx_RP.step (pc2 := 113) (ls2 := [(7, .ref (103 + 2 * x11)), (6, .ref (103 + 2 * x2)), (0, .ref 0), (1, .int (nI x2)), (2, .int (nI x31)), (3, .int (nI x11)), (4, .int (nI x37)), (5, .int (nI x32))]) (st2 := [.ref (103 + 2 * x2)]) (w3 := w) rfl rfl ?_
                refine sx_RP.gf (v := .ref (104 + 2 * x2)) rfl rfl (hI.1.oS (show x2 < 4 by omega)) rfl rfl (show _ = 116 from rfl) ?_
                refine sx_RP.step (pc2 := 117) (ls2 := [(7, .ref (103 + 2 * x11)), (6, .ref (103 + 2 * x2)), (0, .ref 0), (1, .int (nI x2)), (2, .int (nI x31)), (3, .int (nI x11)), (4, .int (nI x37)), (5, .int (nI x32))]) (st2 := [.int (nI x31), .ref (104 + 2 * x2)]) (w3 := w) rfl rfl ?_
                refine sx_RP.step (pc2 := 119) (ls2 := [(7, .ref (103 + 2 * x11)), (6, .ref (103 + 2 * x2)), (0, .ref 0), (1, .int (nI x2)), (2, .int (nI x31)), (3, .int (nI x11)), (4, .int (nI x37)), (5, .int (nI x32))]) (st2 := [.ref (103 + 2 * x11), .int (nI x31), .ref (104 + 2 * x2)]) (w3 := w) rfl rfl ?_
                refine sx_RP.gf (v := .ref (104 + 2 * x11)) rfl rfl (hI.1.oS (show x11 < 4 by omega)) rfl rfl (show _ = 122 from rfl) ?_
                refine sx_RP.step (pc2 := 124) (ls2 := [(7, .ref (103 + 2 * x11)), (6, .ref (103 + 2 * x2)), (0, .ref 0), (1, .int (nI x2)), (2, .int (nI x31)), (3, .int (nI x11)), (4, .int (nI x37)), (5, .int (nI x32))]) (st2 := [.int (nI x37), .ref (104 + 2 * x11), .int (nI x31), .ref (104 + 2 * x2)]) (w3 := w) rfl rfl ?_
                refine sx_RP.step (pc2 := 126) (ls2 := [(7, .ref (103 + 2 * x11)), (6, .ref (103 + 2 * x2)), (0, .ref 0), (1, .int (nI x2)), (2, .int (nI x31)), (3, .int (nI x11)), (4, .int (nI x37)), (5, .int (nI x32))]) (st2 := [.int (nI x32), .int (nI x37), .ref (104 + 2 * x11), .int (nI x31), .ref (104 + 2 * x2)]) (w3 := w) rfl rfl ?_
                refine sx_RP.acN hI hE (show x2 < 4 by omega) (show x11 < 4 by omega) (by omega) (by omega) rfl rfl rfl (show _ = 129 from rfl) (fun w42 hI43 hE44 => ?_)
                refine sx_RP.step (pc2 := 131) (ls2 := [(7, .ref (103 + 2 * x11)), (6, .ref (103 + 2 * x2)), (0, .ref 0), (1, .int (nI x2)), (2, .int (nI x31)), (3, .int (nI x11)), (4, .int (nI x37)), (5, .int (nI x32))]) (st2 := [.int (nI x32)]) (w3 := w42) rfl rfl ?_
                refine sx_RP.ret (r := (some (.int (nI x32)))) rfl rfl ?_
                exact ⟨by rw [cp_5 (show x2 < 4 by omega) (show x11 < 4 by omega) (FCs_at (by omega)) (FCs_at (by omega)) c19 c24 q29 c30 c36], hI43, hE44⟩
              · refine sx_RP.cu (as := [.ref (103 + 2 * x11), .int a4, .int (nI x32)]) (rest2 := []) (st3 := [.int 0]) rfl rfl (sx_inv_v2 (mi := 118) (k := 325) (st := [.int (nI x32), .int a4, .ref (103 + 2 * x11)]) (w := w) rfl rfl (hI.1.oS (show x11 < 4 by omega)) rfl rfl rfl) rfl rfl (p119n hI (show x11 < 4 by omega) c36) rfl ?_
                refine sx_RP.step (pc2 := 104) (ls2 := [(7, .ref (103 + 2 * x11)), (6, .ref (103 + 2 * x2)), (0, .ref 0), (1, .int (nI x2)), (2, .int (nI x31)), (3, .int (nI x11)), (4, .int a4), (5, .int (nI x32))]) (st2 := []) (w3 := w) rfl rfl ?_
                refine sx_RP.step (pc2 := 105) (ls2 := [(7, .ref (103 + 2 * x11)), (6, .ref (103 + 2 * x2)), (0, .ref 0), (1, .int (nI x2)), (2, .int (nI x31)), (3, .int (nI x11)), (4, .int a4), (5, .int (nI x32))]) (st2 := [.ref 0]) (w3 := w) rfl rfl ?_
                refine sx_RP.step (pc2 := 107) (ls2 := [(7, .ref (103 + 2 * x11)), (6, .ref (103 + 2 * x2)), (0, .ref 0), (1, .int (nI x2)), (2, .int (nI x31)), (3, .int (nI x11)), (4, .int a4), (5, .int (nI x32))]) (st2 := [.int (-1000000001), .ref 0]) (w3 := w) rfl rfl ?_
                refine sx_RP.callp (as2 := [.ref 0, .int (-1000000001)]) (rest2 := []) rfl rfl (sx_inv_v2 (mi := 118) (k := 78) (st := [.int (-1000000001), .ref 0]) (w := w) rfl rfl hI.1.o0 rfl rfl rfl) rfl rfl rfl (s9_0 hI) (show _ = 110 from rfl) ?_
                rintro r4 w45 ⟨rfl, hI46, hE48⟩
                have hE47 := hE.tr (hE48)
                show sx_RP _ _ _ _ _ [.int (-1000000001)] _ _
                refine sx_RP.ret (r := (some (.int (-1000000001)))) rfl rfl ?_
                exact ⟨by rw [cp_4 (show x2 < 4 by omega) (show x11 < 4 by omega) (FCs_at (by omega)) (FCs_at (by omega)) c19 c24 q29 (fun z => c36 z.2)], hI46, hE47⟩
            · refine sx_RP.cu (as := [.ref (103 + 2 * x2), .int a2, .int a5]) (rest2 := []) (st3 := [.int 0]) rfl rfl (sx_inv_v2 (mi := 118) (k := 325) (st := [.int a5, .int a2, .ref (103 + 2 * x2)]) (w := w) rfl rfl (hI.1.oS (show x2 < 4 by omega)) rfl rfl rfl) rfl rfl (p119n hI (show x2 < 4 by omega) c30) rfl ?_
              refine sx_RP.step (pc2 := 104) (ls2 := [(7, .ref (103 + 2 * x11)), (6, .ref (103 + 2 * x2)), (0, .ref 0), (1, .int (nI x2)), (2, .int a2), (3, .int (nI x11)), (4, .int a4), (5, .int a5)]) (st2 := []) (w3 := w) rfl rfl ?_
              refine sx_RP.step (pc2 := 105) (ls2 := [(7, .ref (103 + 2 * x11)), (6, .ref (103 + 2 * x2)), (0, .ref 0), (1, .int (nI x2)), (2, .int a2), (3, .int (nI x11)), (4, .int a4), (5, .int a5)]) (st2 := [.ref 0]) (w3 := w) rfl rfl ?_
              refine sx_RP.step (pc2 := 107) (ls2 := [(7, .ref (103 + 2 * x11)), (6, .ref (103 + 2 * x2)), (0, .ref 0), (1, .int (nI x2)), (2, .int a2), (3, .int (nI x11)), (4, .int a4), (5, .int a5)]) (st2 := [.int (-1000000001), .ref 0]) (w3 := w) rfl rfl ?_
              refine sx_RP.callp (as2 := [.ref 0, .int (-1000000001)]) (rest2 := []) rfl rfl (sx_inv_v2 (mi := 118) (k := 78) (st := [.int (-1000000001), .ref 0]) (w := w) rfl rfl hI.1.o0 rfl rfl rfl) rfl rfl rfl (s9_0 hI) (show _ = 110 from rfl) ?_
              rintro r4 w49 ⟨rfl, hI50, hE52⟩
              have hE51 := hE.tr (hE52)
              show sx_RP _ _ _ _ _ [.int (-1000000001)] _ _
              refine sx_RP.ret (r := (some (.int (-1000000001)))) rfl rfl ?_
              exact ⟨by rw [cp_4 (show x2 < 4 by omega) (show x11 < 4 by omega) (FCs_at (by omega)) (FCs_at (by omega)) c19 c24 q29 (fun z => c30 z.1)], hI50, hE51⟩
          · replace q29 := of_decide_eq_false q29
            refine sx_RP.step (pc2 := 75) (ls2 := [(7, .ref (103 + 2 * x11)), (6, .ref (103 + 2 * x2)), (0, .ref 0), (1, .int (nI x2)), (2, .int a2), (3, .int (nI x11)), (4, .int a4), (5, .int a5)]) (st2 := [.ref 0]) (w3 := w) rfl rfl ?_
            refine sx_RP.step (pc2 := 77) (ls2 := [(7, .ref (103 + 2 * x11)), (6, .ref (103 + 2 * x2)), (0, .ref 0), (1, .int (nI x2)), (2, .int a2), (3, .int (nI x11)), (4, .int a4), (5, .int a5)]) (st2 := [.int (-1000000003), .ref 0]) (w3 := w) rfl rfl ?_
            refine sx_RP.callp (as2 := [.ref 0, .int (-1000000003)]) (rest2 := []) rfl rfl (sx_inv_v2 (mi := 118) (k := 78) (st := [.int (-1000000003), .ref 0]) (w := w) rfl rfl hI.1.o0 rfl rfl rfl) rfl rfl rfl (s9_2 hI) (show _ = 80 from rfl) ?_
            rintro r4 w53 ⟨rfl, hI54, hE56⟩
            have hE55 := hE.tr (hE56)
            show sx_RP _ _ _ _ _ [.int (-1000000003)] _ _
            refine sx_RP.ret (r := (some (.int (-1000000003)))) rfl rfl ?_
            exact ⟨by rw [cp_3 (show x2 < 4 by omega) (show x11 < 4 by omega) (FCs_at (by omega)) (FCs_at (by omega)) c19 c24 q29], hI54, hE55⟩
set_option maxRecDepth 20000 in
set_option maxHeartbeats 4000000 in
theorem s234BB {xs : Option (List Int32)} {d : Nat} {w w0 : List sx_C} {s f t g n : Nat} (hs : s < 4) (ht : t < 4) (hf : f + n ≤ 40) (hg : g + n ≤ 40) (hI : WI w) (hE : EM w0 w) {j : Nat} (hj : j ≤ 40) (kk : ∀ (w4 : List sx_C), WI w4 → EM w0 w4 → j + 1 ≤ 40 → sx_RP xs (d + 7) 234 152 [(0, .ref 111), (1, .int (nI s)), (2, .int (nI f)), (3, .int (nI t)), (4, .int (nI g)), (5, .int (nI n)), (6, .int (nI (j + 1)))] [] w4 (fun r w2 => (r = some (.int (nI n))) ∧ WI w2 ∧ EM w0 w2)) : sx_RP xs (d + 7) 234 152 [(0, .ref 111), (1, .int (nI s)), (2, .int (nI f)), (3, .int (nI t)), (4, .int (nI g)), (5, .int (nI n)), (6, .int (nI j))] [] w (fun r w2 => (r = some (.int (nI n))) ∧ WI w2 ∧ EM w0 w2) := by
  refine sx_RP.step (pc2 := 154) (ls2 := [(0, .ref 111), (1, .int (nI s)), (2, .int (nI f)), (3, .int (nI t)), (4, .int (nI g)), (5, .int (nI n)), (6, .int (nI j))]) (st2 := [.int (nI j)]) (w3 := w) rfl rfl ?_
  refine sx_RP.step (pc2 := 156) (ls2 := [(0, .ref 111), (1, .int (nI s)), (2, .int (nI f)), (3, .int (nI t)), (4, .int (nI g)), (5, .int (nI n)), (6, .int (nI j))]) (st2 := [.int (nI n), .int (nI j)]) (w3 := w) rfl rfl ?_
  refine sx_RP.br (p1 := 187) (l1 := [(0, .ref 111), (1, .int (nI s)), (2, .int (nI f)), (3, .int (nI t)), (4, .int (nI g)), (5, .int (nI n)), (6, .int (nI j))]) (s1 := []) (v1 := w) (p2 := 159) (l2 := [(0, .ref 111), (1, .int (nI s)), (2, .int (nI f)), (3, .int (nI t)), (4, .int (nI g)), (5, .int (nI n)), (6, .int (nI j))]) (s2 := []) (v2 := w) rfl rfl (fun q1 => ?_) (fun q1 => ?_)
  · replace q1 := of_decide_eq_true q1
    replace q1 := (nI_leI (a := n) (b := j) (by omega) (by omega)).mp q1
    refine sx_RP.step (pc2 := 189) (ls2 := [(0, .ref 111), (1, .int (nI s)), (2, .int (nI f)), (3, .int (nI t)), (4, .int (nI g)), (5, .int (nI n)), (6, .int (nI j))]) (st2 := [.int (nI n)]) (w3 := w) rfl rfl ?_
    refine sx_RP.ret (r := (some (.int (nI n)))) rfl rfl ?_
    exact ⟨rfl, hI, hE⟩
  · replace q1 := of_decide_eq_false q1
    replace q1 := mt (nI_leI (a := n) (b := j) (by omega) (by omega)).mpr q1
    refine sx_RP.step (pc2 := 160) (ls2 := [(0, .ref 111), (1, .int (nI s)), (2, .int (nI f)), (3, .int (nI t)), (4, .int (nI g)), (5, .int (nI n)), (6, .int (nI j))]) (st2 := [.ref 111]) (w3 := w) rfl rfl ?_
    refine sx_RP.gf (v := .ref 124) rfl rfl hI.1.o111 rfl rfl (show _ = 163 from rfl) ?_
    refine sx_RP.step (pc2 := 165) (ls2 := [(0, .ref 111), (1, .int (nI s)), (2, .int (nI f)), (3, .int (nI t)), (4, .int (nI g)), (5, .int (nI n)), (6, .int (nI j))]) (st2 := [.int 40, .ref 124]) (w3 := w) rfl rfl ?_
    refine sx_RP.step (pc2 := 166) (ls2 := [(0, .ref 111), (1, .int (nI s)), (2, .int (nI f)), (3, .int (nI t)), (4, .int (nI g)), (5, .int (nI n)), (6, .int (nI j))]) (st2 := [.int (nI t), .int 40, .ref 124]) (w3 := w) rfl rfl ?_
    refine sx_RP.step (pc2 := 167) (ls2 := [(0, .ref 111), (1, .int (nI s)), (2, .int (nI f)), (3, .int (nI t)), (4, .int (nI g)), (5, .int (nI n)), (6, .int (nI j))]) (st2 := [.int (40 * (nI t)), .ref 124]) (w3 := w) rfl rfl ?_
    rw [show (40 * (nI t) : Int32) = nI (40 * t) from nI_mul 40 t]
    refine sx_RP.step (pc2 := 169) (ls2 := [(0, .ref 111), (1, .int (nI s)), (2, .int (nI f)), (3, .int (nI t)), (4, .int (nI g)), (5, .int (nI n)), (6, .int (nI j))]) (st2 := [.int (nI g), .int (nI (40 * t)), .ref 124]) (w3 := w) rfl rfl ?_
    refine sx_RP.step (pc2 := 170) (ls2 := [(0, .ref 111), (1, .int (nI s)), (2, .int (nI f)), (3, .int (nI t)), (4, .int (nI g)), (5, .int (nI n)), (6, .int (nI j))]) (st2 := [.int ((nI (40 * t)) + (nI g)), .ref 124]) (w3 := w) rfl rfl ?_
    rw [show ((nI (40 * t)) + (nI g) : Int32) = nI ((40 * t) + g) from nI_add (40 * t) g]
    refine sx_RP.step (pc2 := 172) (ls2 := [(0, .ref 111), (1, .int (nI s)), (2, .int (nI f)), (3, .int (nI t)), (4, .int (nI g)), (5, .int (nI n)), (6, .int (nI j))]) (st2 := [.int (nI j), .int (nI ((40 * t) + g)), .ref 124]) (w3 := w) rfl rfl ?_
    refine sx_RP.step (pc2 := 173) (ls2 := [(0, .ref 111), (1, .int (nI s)), (2, .int (nI f)), (3, .int (nI t)), (4, .int (nI g)), (5, .int (nI n)), (6, .int (nI j))]) (st2 := [.int ((nI ((40 * t) + g)) + (nI j)), .ref 124]) (w3 := w) rfl rfl ?_
    rw [show ((nI ((40 * t) + g)) + (nI j) : Int32) = nI (((40 * t) + g) + j) from nI_add ((40 * t) + g) j]
    refine sx_RP.step (pc2 := 174) (ls2 := [(0, .ref 111), (1, .int (nI s)), (2, .int (nI f)), (3, .int (nI t)), (4, .int (nI g)), (5, .int (nI n)), (6, .int (nI j))]) (st2 := [.ref 111, .int (nI (((40 * t) + g) + j)), .ref 124]) (w3 := w) rfl rfl ?_
    refine sx_RP.gf (v := .ref 125) rfl rfl hI.1.o111 rfl rfl (show _ = 177 from rfl) ?_
    refine sx_RP.step (pc2 := 179) (ls2 := [(0, .ref 111), (1, .int (nI s)), (2, .int (nI f)), (3, .int (nI t)), (4, .int (nI g)), (5, .int (nI n)), (6, .int (nI j))]) (st2 := [.int (nI j), .ref 125, .int (nI (((40 * t) + g) + j)), .ref 124]) (w3 := w) rfl rfl ?_
    refine sx_RP.lld (c := j) rfl hI.1.a125.1 hI.1.a125.2 (sx_in_nI (show j < 40 by omega) (by decide)) (show (nI j).toNatClampNeg = j from nI_clamp (by omega)) (show _ = 180 from rfl) ?_
    refine sx_RP.mN hI hE rfl hI.1.a124 (sx_in_nI (show (((40 * t) + g) + j) < 160 by omega) (by decide)) (by decide) (show _ = 181 from rfl) (fun w2 hI3 hE4 hk5 => ?_)
    refine sx_RP.step (pc2 := 184) (ls2 := [(6, .int ((nI j) + 1)), (0, .ref 111), (1, .int (nI s)), (2, .int (nI f)), (3, .int (nI t)), (4, .int (nI g)), (5, .int (nI n))]) (st2 := []) (w3 := w2) rfl rfl ?_
    rw [nI_1 j]
    refine sx_RP.step (pc2 := 152) (ls2 := [(6, .int (nI (j + 1))), (0, .ref 111), (1, .int (nI s)), (2, .int (nI f)), (3, .int (nI t)), (4, .int (nI g)), (5, .int (nI n))]) (st2 := []) (w3 := w2) rfl rfl ?_
    exact sx_RP.ls (sx_lr.cons rfl (sx_lr.cons rfl (sx_lr.cons rfl (sx_lr.cons rfl (sx_lr.cons rfl (sx_lr.cons rfl (sx_lr.cons rfl sx_lr.nil))))))) (kk w2 hI3 hE4 (by omega))
set_option maxRecDepth 20000 in
set_option maxHeartbeats 4000000 in
theorem s234BL {xs : Option (List Int32)} {d : Nat} {w0 : List sx_C} {s f t g n : Nat} (hs : s < 4) (ht : t < 4) (hf : f + n ≤ 40) (hg : g + n ≤ 40) : ∀ (fz j : Nat) (w : List sx_C) , 40 ≤ j + fz * 1 → j ≤ 40 → WI w → EM w0 w → sx_RP xs (d + 7) 234 152 [(0, .ref 111), (1, .int (nI s)), (2, .int (nI f)), (3, .int (nI t)), (4, .int (nI g)), (5, .int (nI n)), (6, .int (nI j))] [] w (fun r w2 => (r = some (.int (nI n))) ∧ WI w2 ∧ EM w0 w2)
  | 0, j, w, h, hj, hI, hE => s234BB hs ht hf hg hI hE hj   (fun w4  hI4 hE4 hlt  => absurd hlt (by omega)) 
  | fz + 1, j, w, h, hj, hI, hE => s234BB hs ht hf hg hI hE hj   (fun w4  hI4 hE4 hlt  => s234BL hs ht hf hg  fz (j + 1) w4  (by omega) hlt hI4 hE4 ) 
set_option maxRecDepth 20000 in
set_option maxHeartbeats 4000000 in
theorem s234AB {xs : Option (List Int32)} {d : Nat} {w w0 : List sx_C} {s f t g n : Nat} (hs : s < 4) (ht : t < 4) (hf : f + n ≤ 40) (hg : g + n ≤ 40) (hI : WI w) (hE : EM w0 w) {j : Nat} (hj : j ≤ 40) (kk : ∀ (w4 : List sx_C), WI w4 → EM w0 w4 → j + 1 ≤ 40 → sx_RP xs (d + 7) 234 115 [(0, .ref 111), (1, .int (nI s)), (2, .int (nI f)), (3, .int (nI t)), (4, .int (nI g)), (5, .int (nI n)), (6, .int (nI (j + 1)))] [] w4 (fun r w2 => (r = some (.int (nI n))) ∧ WI w2 ∧ EM w0 w2)) (kx149 : ∀ (w4 : List sx_C), WI w4 → EM w0 w4 → sx_RP xs (d + 7) 234 149 [(0, .ref 111), (1, .int (nI s)), (2, .int (nI f)), (3, .int (nI t)), (4, .int (nI g)), (5, .int (nI n))] [] w4 (fun r w2 => (r = some (.int (nI n))) ∧ WI w2 ∧ EM w0 w2)) : sx_RP xs (d + 7) 234 115 [(0, .ref 111), (1, .int (nI s)), (2, .int (nI f)), (3, .int (nI t)), (4, .int (nI g)), (5, .int (nI n)), (6, .int (nI j))] [] w (fun r w2 => (r = some (.int (nI n))) ∧ WI w2 ∧ EM w0 w2) := by
  refine sx_RP.step (pc2 := 117) (ls2 := [(0, .ref 111), (1, .int (nI s)), (2, .int (nI f)), (3, .int (nI t)), (4, .int (nI g)), (5, .int (nI n)), (6, .int (nI j))]) (st2 := [.int (nI j)]) (w3 := w) rfl rfl ?_
  refine sx_RP.step (pc2 := 119) (ls2 := [(0, .ref 111), (1, .int (nI s)), (2, .int (nI f)), (3, .int (nI t)), (4, .int (nI g)), (5, .int (nI n)), (6, .int (nI j))]) (st2 := [.int (nI n), .int (nI j)]) (w3 := w) rfl rfl ?_
  refine sx_RP.br (p1 := 149) (l1 := [(0, .ref 111), (1, .int (nI s)), (2, .int (nI f)), (3, .int (nI t)), (4, .int (nI g)), (5, .int (nI n)), (6, .int (nI j))]) (s1 := []) (v1 := w) (p2 := 122) (l2 := [(0, .ref 111), (1, .int (nI s)), (2, .int (nI f)), (3, .int (nI t)), (4, .int (nI g)), (5, .int (nI n)), (6, .int (nI j))]) (s2 := []) (v2 := w) rfl rfl (fun q1 => ?_) (fun q1 => ?_)
  · replace q1 := of_decide_eq_true q1
    replace q1 := (nI_leI (a := n) (b := j) (by omega) (by omega)).mp q1
    exact sx_RP.ls (sx_lr.cons rfl (sx_lr.cons rfl (sx_lr.cons rfl (sx_lr.cons rfl (sx_lr.cons rfl (sx_lr.cons rfl sx_lr.nil)))))) (kx149 w hI hE)
  · replace q1 := of_decide_eq_false q1
    replace q1 := mt (nI_leI (a := n) (b := j) (by omega) (by omega)).mpr q1
    refine sx_RP.step (pc2 := 123) (ls2 := [(0, .ref 111), (1, .int (nI s)), (2, .int (nI f)), (3, .int (nI t)), (4, .int (nI g)), (5, .int (nI n)), (6, .int (nI j))]) (st2 := [.ref 111]) (w3 := w) rfl rfl ?_
    refine sx_RP.gf (v := .ref 125) rfl rfl hI.1.o111 rfl rfl (show _ = 126 from rfl) ?_
    refine sx_RP.step (pc2 := 128) (ls2 := [(0, .ref 111), (1, .int (nI s)), (2, .int (nI f)), (3, .int (nI t)), (4, .int (nI g)), (5, .int (nI n)), (6, .int (nI j))]) (st2 := [.int (nI j), .ref 125]) (w3 := w) rfl rfl ?_
    refine sx_RP.step (pc2 := 129) (ls2 := [(0, .ref 111), (1, .int (nI s)), (2, .int (nI f)), (3, .int (nI t)), (4, .int (nI g)), (5, .int (nI n)), (6, .int (nI j))]) (st2 := [.ref 111, .int (nI j), .ref 125]) (w3 := w) rfl rfl ?_
    refine sx_RP.gf (v := .ref 124) rfl rfl hI.1.o111 rfl rfl (show _ = 132 from rfl) ?_
    refine sx_RP.step (pc2 := 134) (ls2 := [(0, .ref 111), (1, .int (nI s)), (2, .int (nI f)), (3, .int (nI t)), (4, .int (nI g)), (5, .int (nI n)), (6, .int (nI j))]) (st2 := [.int 40, .ref 124, .int (nI j), .ref 125]) (w3 := w) rfl rfl ?_
    refine sx_RP.step (pc2 := 135) (ls2 := [(0, .ref 111), (1, .int (nI s)), (2, .int (nI f)), (3, .int (nI t)), (4, .int (nI g)), (5, .int (nI n)), (6, .int (nI j))]) (st2 := [.int (nI s), .int 40, .ref 124, .int (nI j), .ref 125]) (w3 := w) rfl rfl ?_
    refine sx_RP.step (pc2 := 136) (ls2 := [(0, .ref 111), (1, .int (nI s)), (2, .int (nI f)), (3, .int (nI t)), (4, .int (nI g)), (5, .int (nI n)), (6, .int (nI j))]) (st2 := [.int (40 * (nI s)), .ref 124, .int (nI j), .ref 125]) (w3 := w) rfl rfl ?_
    rw [show (40 * (nI s) : Int32) = nI (40 * s) from nI_mul 40 s]
    refine sx_RP.step (pc2 := 137) (ls2 := [(0, .ref 111), (1, .int (nI s)), (2, .int (nI f)), (3, .int (nI t)), (4, .int (nI g)), (5, .int (nI n)), (6, .int (nI j))]) (st2 := [.int (nI f), .int (nI (40 * s)), .ref 124, .int (nI j), .ref 125]) (w3 := w) rfl rfl ?_
    refine sx_RP.step (pc2 := 138) (ls2 := [(0, .ref 111), (1, .int (nI s)), (2, .int (nI f)), (3, .int (nI t)), (4, .int (nI g)), (5, .int (nI n)), (6, .int (nI j))]) (st2 := [.int ((nI (40 * s)) + (nI f)), .ref 124, .int (nI j), .ref 125]) (w3 := w) rfl rfl ?_
    rw [show ((nI (40 * s)) + (nI f) : Int32) = nI ((40 * s) + f) from nI_add (40 * s) f]
    refine sx_RP.step (pc2 := 140) (ls2 := [(0, .ref 111), (1, .int (nI s)), (2, .int (nI f)), (3, .int (nI t)), (4, .int (nI g)), (5, .int (nI n)), (6, .int (nI j))]) (st2 := [.int (nI j), .int (nI ((40 * s) + f)), .ref 124, .int (nI j), .ref 125]) (w3 := w) rfl rfl ?_
    refine sx_RP.step (pc2 := 141) (ls2 := [(0, .ref 111), (1, .int (nI s)), (2, .int (nI f)), (3, .int (nI t)), (4, .int (nI g)), (5, .int (nI n)), (6, .int (nI j))]) (st2 := [.int ((nI ((40 * s) + f)) + (nI j)), .ref 124, .int (nI j), .ref 125]) (w3 := w) rfl rfl ?_
    rw [show ((nI ((40 * s) + f)) + (nI j) : Int32) = nI (((40 * s) + f) + j) from nI_add ((40 * s) + f) j]
    refine sx_RP.lld (c := (((40 * s) + f) + j)) rfl hI.1.a124.1 hI.1.a124.2 (sx_in_nI (show (((40 * s) + f) + j) < 160 by omega) (by decide)) (show (nI (((40 * s) + f) + j)).toNatClampNeg = (((40 * s) + f) + j) from nI_clamp (by omega)) (show _ = 142 from rfl) ?_
    refine sx_RP.mN hI hE rfl hI.1.a125 (sx_in_nI (show j < 40 by omega) (by decide)) (by decide) (show _ = 143 from rfl) (fun w2 hI3 hE4 hk5 => ?_)
    refine sx_RP.step (pc2 := 146) (ls2 := [(6, .int ((nI j) + 1)), (0, .ref 111), (1, .int (nI s)), (2, .int (nI f)), (3, .int (nI t)), (4, .int (nI g)), (5, .int (nI n))]) (st2 := []) (w3 := w2) rfl rfl ?_
    rw [nI_1 j]
    refine sx_RP.step (pc2 := 115) (ls2 := [(6, .int (nI (j + 1))), (0, .ref 111), (1, .int (nI s)), (2, .int (nI f)), (3, .int (nI t)), (4, .int (nI g)), (5, .int (nI n))]) (st2 := []) (w3 := w2) rfl rfl ?_
    exact sx_RP.ls (sx_lr.cons rfl (sx_lr.cons rfl (sx_lr.cons rfl (sx_lr.cons rfl (sx_lr.cons rfl (sx_lr.cons rfl (sx_lr.cons rfl sx_lr.nil))))))) (kk w2 hI3 hE4 (by omega))
set_option maxRecDepth 20000 in
set_option maxHeartbeats 4000000 in
theorem s234AL {xs : Option (List Int32)} {d : Nat} {w0 : List sx_C} {s f t g n : Nat} (hs : s < 4) (ht : t < 4) (hf : f + n ≤ 40) (hg : g + n ≤ 40) (kx149 : ∀ (w4 : List sx_C), WI w4 → EM w0 w4 → sx_RP xs (d + 7) 234 149 [(0, .ref 111), (1, .int (nI s)), (2, .int (nI f)), (3, .int (nI t)), (4, .int (nI g)), (5, .int (nI n))] [] w4 (fun r w2 => (r = some (.int (nI n))) ∧ WI w2 ∧ EM w0 w2)) : ∀ (fz j : Nat) (w : List sx_C) , 40 ≤ j + fz * 1 → j ≤ 40 → WI w → EM w0 w → sx_RP xs (d + 7) 234 115 [(0, .ref 111), (1, .int (nI s)), (2, .int (nI f)), (3, .int (nI t)), (4, .int (nI g)), (5, .int (nI n)), (6, .int (nI j))] [] w (fun r w2 => (r = some (.int (nI n))) ∧ WI w2 ∧ EM w0 w2)
  | 0, j, w, h, hj, hI, hE => s234AB hs ht hf hg hI hE hj   (fun w4  hI4 hE4 hlt  => absurd hlt (by omega)) kx149
  | fz + 1, j, w, h, hj, hI, hE => s234AB hs ht hf hg hI hE hj   (fun w4  hI4 hE4 hlt  => s234AL hs ht hf hg kx149 fz (j + 1) w4  (by omega) hlt hI4 hE4 ) kx149
set_option maxRecDepth 20000 in
set_option maxHeartbeats 4000000 in
theorem s234A {xs : Option (List Int32)} {d : Nat} {w : List sx_C} (hI : WI w) (a1 a2 a3 a4 a5 : Int32) : sx_RP xs (d + 7) 234 0 (lv_args 0 [.ref 111, .int a1, .int a2, .int a3, .int a4, .int a5]) [] w (fun r w2 => (r = some (.int (cpAns (FMs w) a1 a2 a3 a4 a5))) ∧ WI w2 ∧ EM w w2) := by
  have hE : EM w w := EM.rf
  refine sx_RP.step (pc2 := 1) (ls2 := [(0, .ref 111), (1, .int a1), (2, .int a2), (3, .int a3), (4, .int a4), (5, .int a5)]) (st2 := [.int a1]) (w3 := w) rfl rfl ?_
  rcases in_cases a1 0 3 (m := 0) (n := 3) rfl rfl (by decide) (by decide) with q1 | ⟨x2, hx3, hx4, rfl⟩
  · refine sx_RP.cu (as := [.int a1]) (rest2 := []) (st3 := [.int 0]) rfl rfl rfl rfl rfl (cx_231n q1) rfl ?_
    refine sx_RP.step (pc2 := 14) (ls2 := [(0, .ref 111), (1, .int a1), (2, .int a2), (3, .int a3), (4, .int a4), (5, .int a5)]) (st2 := []) (w3 := w) rfl rfl ?_
    refine sx_RP.step (pc2 := 15) (ls2 := [(0, .ref 111), (1, .int a1), (2, .int a2), (3, .int a3), (4, .int a4), (5, .int a5)]) (st2 := [.ref 111]) (w3 := w) rfl rfl ?_
    refine sx_RP.step (pc2 := 16) (ls2 := [(0, .ref 111), (1, .int a1), (2, .int a2), (3, .int a3), (4, .int a4), (5, .int a5)]) (st2 := [.int 0, .ref 111]) (w3 := w) rfl rfl ?_
    refine sx_RP.callp (as2 := [.ref 111, .int 0]) (rest2 := []) rfl rfl (sx_inv_v2 (mi := 234) (k := 70) (st := [.int 0, .ref 111]) (w := w) rfl rfl hI.1.o111 rfl rfl rfl) rfl rfl rfl (s133_0 hI) (show _ = 19 from rfl) ?_
    rintro r4 w6 ⟨rfl, hI7, hE9⟩
    have hE8 := hE.tr (hE9)
    show sx_RP _ _ _ _ _ [.int (-1000000001)] _ _
    refine sx_RP.ret (r := (some (.int (-1000000001)))) rfl rfl ?_
    exact ⟨by rw [cp_1 (fun z => q1 z.1)], hI7, hE8⟩
  · refine sx_RP.cu (as := [.int (nI x2)]) (rest2 := []) (st3 := [.int 1]) rfl rfl rfl rfl rfl (cx_231p ⟨nI_le (a := 0) hx3 (by omega), nI_le (b := 3) hx4 (by decide)⟩) rfl ?_
    refine sx_RP.step (pc2 := 7) (ls2 := [(0, .ref 111), (1, .int (nI x2)), (2, .int a2), (3, .int a3), (4, .int a4), (5, .int a5)]) (st2 := []) (w3 := w) rfl rfl ?_
    refine sx_RP.step (pc2 := 8) (ls2 := [(0, .ref 111), (1, .int (nI x2)), (2, .int a2), (3, .int a3), (4, .int a4), (5, .int a5)]) (st2 := [.int a3]) (w3 := w) rfl rfl ?_
    rcases in_cases a3 0 3 (m := 0) (n := 3) rfl rfl (by decide) (by decide) with q10 | ⟨x11, hx12, hx13, rfl⟩
    · refine sx_RP.cu (as := [.int a3]) (rest2 := []) (st3 := [.int 0]) rfl rfl rfl rfl rfl (cx_231n q10) rfl ?_
      refine sx_RP.step (pc2 := 14) (ls2 := [(0, .ref 111), (1, .int (nI x2)), (2, .int a2), (3, .int a3), (4, .int a4), (5, .int a5)]) (st2 := []) (w3 := w) rfl rfl ?_
      refine sx_RP.step (pc2 := 15) (ls2 := [(0, .ref 111), (1, .int (nI x2)), (2, .int a2), (3, .int a3), (4, .int a4), (5, .int a5)]) (st2 := [.ref 111]) (w3 := w) rfl rfl ?_
      refine sx_RP.step (pc2 := 16) (ls2 := [(0, .ref 111), (1, .int (nI x2)), (2, .int a2), (3, .int a3), (4, .int a4), (5, .int a5)]) (st2 := [.int 0, .ref 111]) (w3 := w) rfl rfl ?_
      refine sx_RP.callp (as2 := [.ref 111, .int 0]) (rest2 := []) rfl rfl (sx_inv_v2 (mi := 234) (k := 70) (st := [.int 0, .ref 111]) (w := w) rfl rfl hI.1.o111 rfl rfl rfl) rfl rfl rfl (s133_0 hI) (show _ = 19 from rfl) ?_
      rintro r4 w15 ⟨rfl, hI16, hE18⟩
      have hE17 := hE.tr (hE18)
      show sx_RP _ _ _ _ _ [.int (-1000000001)] _ _
      refine sx_RP.ret (r := (some (.int (-1000000001)))) rfl rfl ?_
      exact ⟨by rw [cp_1 (fun z => q10 z.2)], hI16, hE17⟩
    · refine sx_RP.cu (as := [.int (nI x11)]) (rest2 := []) (st3 := [.int 1]) rfl rfl rfl rfl rfl (cx_231p ⟨nI_le (a := 0) hx12 (by omega), nI_le (b := 3) hx13 (by decide)⟩) rfl ?_
      refine sx_RP.step (pc2 := 20) (ls2 := [(0, .ref 111), (1, .int (nI x2)), (2, .int a2), (3, .int (nI x11)), (4, .int a4), (5, .int a5)]) (st2 := []) (w3 := w) rfl rfl ?_
      refine sx_RP.step (pc2 := 21) (ls2 := [(0, .ref 111), (1, .int (nI x2)), (2, .int a2), (3, .int (nI x11)), (4, .int a4), (5, .int a5)]) (st2 := [.ref 111]) (w3 := w) rfl rfl ?_
      refine sx_RP.gf (v := .ref 122) rfl rfl hI.1.o111 rfl rfl (show _ = 24 from rfl) ?_
      refine sx_RP.step (pc2 := 25) (ls2 := [(0, .ref 111), (1, .int (nI x2)), (2, .int a2), (3, .int (nI x11)), (4, .int a4), (5, .int a5)]) (st2 := [.int (nI x2), .ref 122]) (w3 := w) rfl rfl ?_
      refine sx_RP.ild (c := x2) rfl hI.1.a122.1 hI.1.a122.2 (sx_in_nI (show x2 < 4 by omega) (by decide)) (show (nI x2).toNatClampNeg = x2 from nI_clamp (by omega)) (show _ = 26 from rfl) ?_
      refine sx_RP.br (p1 := 38) (l1 := [(0, .ref 111), (1, .int (nI x2)), (2, .int a2), (3, .int (nI x11)), (4, .int a4), (5, .int a5)]) (s1 := []) (v1 := w) (p2 := 29) (l2 := [(0, .ref 111), (1, .int (nI x2)), (2, .int a2), (3, .int (nI x11)), (4, .int a4), (5, .int a5)]) (s2 := []) (v2 := w) rfl rfl (fun q19 => ?_) (fun q19 => ?_)
      · replace q19 := of_decide_eq_true q19
        refine sx_RP.step (pc2 := 39) (ls2 := [(0, .ref 111), (1, .int (nI x2)), (2, .int a2), (3, .int (nI x11)), (4, .int a4), (5, .int a5)]) (st2 := [.ref 111]) (w3 := w) rfl rfl ?_
        refine sx_RP.step (pc2 := 40) (ls2 := [(0, .ref 111), (1, .int (nI x2)), (2, .int a2), (3, .int (nI x11)), (4, .int a4), (5, .int a5)]) (st2 := [.int 5, .ref 111]) (w3 := w) rfl rfl ?_
        refine sx_RP.callp (as2 := [.ref 111, .int 5]) (rest2 := []) rfl rfl (sx_inv_v2 (mi := 234) (k := 70) (st := [.int 5, .ref 111]) (w := w) rfl rfl hI.1.o111 rfl rfl rfl) rfl rfl rfl (s133_5 hI) (show _ = 43 from rfl) ?_
        rintro r4 w20 ⟨rfl, hI21, hE23⟩
        have hE22 := hE.tr (hE23)
        show sx_RP _ _ _ _ _ [.int (-1000000006)] _ _
        refine sx_RP.ret (r := (some (.int (-1000000006)))) rfl rfl ?_
        exact ⟨by rw [cp_2 (show x2 < 4 by omega) (show x11 < 4 by omega) (FMs_at0 (by omega)) (FMs_at0 (by omega)) (Or.inl q19)], hI21, hE22⟩
      · replace q19 := of_decide_eq_false q19
        refine sx_RP.step (pc2 := 30) (ls2 := [(0, .ref 111), (1, .int (nI x2)), (2, .int a2), (3, .int (nI x11)), (4, .int a4), (5, .int a5)]) (st2 := [.ref 111]) (w3 := w) rfl rfl ?_
        refine sx_RP.gf (v := .ref 122) rfl rfl hI.1.o111 rfl rfl (show _ = 33 from rfl) ?_
        refine sx_RP.step (pc2 := 34) (ls2 := [(0, .ref 111), (1, .int (nI x2)), (2, .int a2), (3, .int (nI x11)), (4, .int a4), (5, .int a5)]) (st2 := [.int (nI x11), .ref 122]) (w3 := w) rfl rfl ?_
        refine sx_RP.ild (c := x11) rfl hI.1.a122.1 hI.1.a122.2 (sx_in_nI (show x11 < 4 by omega) (by decide)) (show (nI x11).toNatClampNeg = x11 from nI_clamp (by omega)) (show _ = 35 from rfl) ?_
        refine sx_RP.br (p1 := 44) (l1 := [(0, .ref 111), (1, .int (nI x2)), (2, .int a2), (3, .int (nI x11)), (4, .int a4), (5, .int a5)]) (s1 := []) (v1 := w) (p2 := 38) (l2 := [(0, .ref 111), (1, .int (nI x2)), (2, .int a2), (3, .int (nI x11)), (4, .int a4), (5, .int a5)]) (s2 := []) (v2 := w) rfl rfl (fun q24 => ?_) (fun q24 => ?_)
        · replace q24 := of_decide_eq_true q24
          refine sx_RP.step (pc2 := 45) (ls2 := [(0, .ref 111), (1, .int (nI x2)), (2, .int a2), (3, .int (nI x11)), (4, .int a4), (5, .int a5)]) (st2 := [.ref 111]) (w3 := w) rfl rfl ?_
          refine sx_RP.gf (v := .ref 122) rfl rfl hI.1.o111 rfl rfl (show _ = 48 from rfl) ?_
          refine sx_RP.step (pc2 := 49) (ls2 := [(0, .ref 111), (1, .int (nI x2)), (2, .int a2), (3, .int (nI x11)), (4, .int a4), (5, .int a5)]) (st2 := [.int (nI x2), .ref 122]) (w3 := w) rfl rfl ?_
          refine sx_RP.ild (c := x2) rfl hI.1.a122.1 hI.1.a122.2 (sx_in_nI (show x2 < 4 by omega) (by decide)) (show (nI x2).toNatClampNeg = x2 from nI_clamp (by omega)) (show _ = 50 from rfl) ?_
          refine sx_RP.step (pc2 := 51) (ls2 := [(0, .ref 111), (1, .int (nI x2)), (2, .int a2), (3, .int (nI x11)), (4, .int a4), (5, .int a5)]) (st2 := [.ref 111, .int ((ia w 122).getD x2 0)]) (w3 := w) rfl rfl ?_
          refine sx_RP.gf (v := .ref 122) rfl rfl hI.1.o111 rfl rfl (show _ = 54 from rfl) ?_
          refine sx_RP.step (pc2 := 55) (ls2 := [(0, .ref 111), (1, .int (nI x2)), (2, .int a2), (3, .int (nI x11)), (4, .int a4), (5, .int a5)]) (st2 := [.int (nI x11), .ref 122, .int ((ia w 122).getD x2 0)]) (w3 := w) rfl rfl ?_
          refine sx_RP.ild (c := x11) rfl hI.1.a122.1 hI.1.a122.2 (sx_in_nI (show x11 < 4 by omega) (by decide)) (show (nI x11).toNatClampNeg = x11 from nI_clamp (by omega)) (show _ = 56 from rfl) ?_
          refine sx_RP.br (p1 := 65) (l1 := [(0, .ref 111), (1, .int (nI x2)), (2, .int a2), (3, .int (nI x11)), (4, .int a4), (5, .int a5)]) (s1 := []) (v1 := w) (p2 := 59) (l2 := [(0, .ref 111), (1, .int (nI x2)), (2, .int a2), (3, .int (nI x11)), (4, .int a4), (5, .int a5)]) (s2 := []) (v2 := w) rfl rfl (fun q25 => ?_) (fun q25 => ?_)
          · replace q25 := of_decide_eq_true q25
            obtain ⟨x26, hx27, ex28⟩ := hI.l (show x2 < 4 by omega)
            obtain ⟨x29, hx30, ex31⟩ := hI.l (show x11 < 4 by omega)
            refine sx_RP.step (pc2 := 67) (ls2 := [(0, .ref 111), (1, .int (nI x2)), (2, .int a2), (3, .int (nI x11)), (4, .int a4), (5, .int a5)]) (st2 := [.int a5]) (w3 := w) rfl rfl ?_
            refine sx_RP.br (p1 := 106) (l1 := [(0, .ref 111), (1, .int (nI x2)), (2, .int a2), (3, .int (nI x11)), (4, .int a4), (5, .int a5)]) (s1 := []) (v1 := w) (p2 := 70) (l2 := [(0, .ref 111), (1, .int (nI x2)), (2, .int a2), (3, .int (nI x11)), (4, .int a4), (5, .int a5)]) (s2 := []) (v2 := w) rfl rfl (fun q32 => ?_) (fun q32 => ?_)
            · replace q32 := of_decide_eq_true q32
              refine sx_RP.step (pc2 := 107) (ls2 := [(0, .ref 111), (1, .int (nI x2)), (2, .int a2), (3, .int (nI x11)), (4, .int a4), (5, .int a5)]) (st2 := [.ref 111]) (w3 := w) rfl rfl ?_
              refine sx_RP.step (pc2 := 108) (ls2 := [(0, .ref 111), (1, .int (nI x2)), (2, .int a2), (3, .int (nI x11)), (4, .int a4), (5, .int a5)]) (st2 := [.int 0, .ref 111]) (w3 := w) rfl rfl ?_
              refine sx_RP.callp (as2 := [.ref 111, .int 0]) (rest2 := []) rfl rfl (sx_inv_v2 (mi := 234) (k := 70) (st := [.int 0, .ref 111]) (w := w) rfl rfl hI.1.o111 rfl rfl rfl) rfl rfl rfl (s133_0 hI) (show _ = 111 from rfl) ?_
              rintro r4 w33 ⟨rfl, hI34, hE36⟩
              have hE35 := hE.tr (hE36)
              show sx_RP _ _ _ _ _ [.int (-1000000001)] _ _
              refine sx_RP.ret (r := (some (.int (-1000000001)))) rfl rfl ?_
              exact ⟨by rw [cp_4 (show x2 < 4 by omega) (show x11 < 4 by omega) (FMs_at (by omega) ex28) (FMs_at (by omega) ex31) q19 q24 q25 (fun z => ((run_iff2 (by omega)).mp z.1).1 q32)], hI34, hE35⟩
            · replace q32 := of_decide_eq_false q32
              refine sx_RP.step (pc2 := 71) (ls2 := [(0, .ref 111), (1, .int (nI x2)), (2, .int a2), (3, .int (nI x11)), (4, .int a4), (5, .int a5)]) (st2 := [.int a2]) (w3 := w) rfl rfl ?_
              refine sx_RP.br (p1 := 106) (l1 := [(0, .ref 111), (1, .int (nI x2)), (2, .int a2), (3, .int (nI x11)), (4, .int a4), (5, .int a5)]) (s1 := []) (v1 := w) (p2 := 74) (l2 := [(0, .ref 111), (1, .int (nI x2)), (2, .int a2), (3, .int (nI x11)), (4, .int a4), (5, .int a5)]) (s2 := []) (v2 := w) rfl rfl (fun q37 => ?_) (fun q37 => ?_)
              · replace q37 := of_decide_eq_true q37
                refine sx_RP.step (pc2 := 107) (ls2 := [(0, .ref 111), (1, .int (nI x2)), (2, .int a2), (3, .int (nI x11)), (4, .int a4), (5, .int a5)]) (st2 := [.ref 111]) (w3 := w) rfl rfl ?_
                refine sx_RP.step (pc2 := 108) (ls2 := [(0, .ref 111), (1, .int (nI x2)), (2, .int a2), (3, .int (nI x11)), (4, .int a4), (5, .int a5)]) (st2 := [.int 0, .ref 111]) (w3 := w) rfl rfl ?_
                refine sx_RP.callp (as2 := [.ref 111, .int 0]) (rest2 := []) rfl rfl (sx_inv_v2 (mi := 234) (k := 70) (st := [.int 0, .ref 111]) (w := w) rfl rfl hI.1.o111 rfl rfl rfl) rfl rfl rfl (s133_0 hI) (show _ = 111 from rfl) ?_
                rintro r4 w38 ⟨rfl, hI39, hE41⟩
                have hE40 := hE.tr (hE41)
                show sx_RP _ _ _ _ _ [.int (-1000000001)] _ _
                refine sx_RP.ret (r := (some (.int (-1000000001)))) rfl rfl ?_
                exact ⟨by rw [cp_4 (show x2 < 4 by omega) (show x11 < 4 by omega) (FMs_at (by omega) ex28) (FMs_at (by omega) ex31) q19 q24 q25 (fun z => ((run_iff2 (by omega)).mp z.1).2.1 q37)], hI39, hE40⟩
              · replace q37 := of_decide_eq_false q37
                refine sx_RP.step (pc2 := 76) (ls2 := [(0, .ref 111), (1, .int (nI x2)), (2, .int a2), (3, .int (nI x11)), (4, .int a4), (5, .int a5)]) (st2 := [.int a4]) (w3 := w) rfl rfl ?_
                refine sx_RP.br (p1 := 106) (l1 := [(0, .ref 111), (1, .int (nI x2)), (2, .int a2), (3, .int (nI x11)), (4, .int a4), (5, .int a5)]) (s1 := []) (v1 := w) (p2 := 79) (l2 := [(0, .ref 111), (1, .int (nI x2)), (2, .int a2), (3, .int (nI x11)), (4, .int a4), (5, .int a5)]) (s2 := []) (v2 := w) rfl rfl (fun q42 => ?_) (fun q42 => ?_)
                · replace q42 := of_decide_eq_true q42
                  refine sx_RP.step (pc2 := 107) (ls2 := [(0, .ref 111), (1, .int (nI x2)), (2, .int a2), (3, .int (nI x11)), (4, .int a4), (5, .int a5)]) (st2 := [.ref 111]) (w3 := w) rfl rfl ?_
                  refine sx_RP.step (pc2 := 108) (ls2 := [(0, .ref 111), (1, .int (nI x2)), (2, .int a2), (3, .int (nI x11)), (4, .int a4), (5, .int a5)]) (st2 := [.int 0, .ref 111]) (w3 := w) rfl rfl ?_
                  refine sx_RP.callp (as2 := [.ref 111, .int 0]) (rest2 := []) rfl rfl (sx_inv_v2 (mi := 234) (k := 70) (st := [.int 0, .ref 111]) (w := w) rfl rfl hI.1.o111 rfl rfl rfl) rfl rfl rfl (s133_0 hI) (show _ = 111 from rfl) ?_
                  rintro r4 w43 ⟨rfl, hI44, hE46⟩
                  have hE45 := hE.tr (hE46)
                  show sx_RP _ _ _ _ _ [.int (-1000000001)] _ _
                  refine sx_RP.ret (r := (some (.int (-1000000001)))) rfl rfl ?_
                  exact ⟨by rw [cp_4 (show x2 < 4 by omega) (show x11 < 4 by omega) (FMs_at (by omega) ex28) (FMs_at (by omega) ex31) q19 q24 q25 (fun z => ((run_iff2 (by omega)).mp z.2).2.1 q42)], hI44, hE45⟩
                · replace q42 := of_decide_eq_false q42
                  refine sx_RP.step (pc2 := 80) (ls2 := [(0, .ref 111), (1, .int (nI x2)), (2, .int a2), (3, .int (nI x11)), (4, .int a4), (5, .int a5)]) (st2 := [.int a2]) (w3 := w) rfl rfl ?_
                  refine sx_RP.step (pc2 := 81) (ls2 := [(0, .ref 111), (1, .int (nI x2)), (2, .int a2), (3, .int (nI x11)), (4, .int a4), (5, .int a5)]) (st2 := [.ref 111, .int a2]) (w3 := w) rfl rfl ?_
                  refine sx_RP.gf (v := .ref 123) rfl rfl hI.1.o111 rfl rfl (show _ = 84 from rfl) ?_
                  refine sx_RP.step (pc2 := 85) (ls2 := [(0, .ref 111), (1, .int (nI x2)), (2, .int a2), (3, .int (nI x11)), (4, .int a4), (5, .int a5)]) (st2 := [.int (nI x2), .ref 123, .int a2]) (w3 := w) rfl rfl ?_
                  refine sx_RP.ild (c := x2) rfl hI.1.a123.1 hI.1.a123.2 (sx_in_nI (show x2 < 4 by omega) (by decide)) (show (nI x2).toNatClampNeg = x2 from nI_clamp (by omega)) (show _ = 86 from rfl) ?_
                  rw [ex28]
                  refine sx_RP.step (pc2 := 88) (ls2 := [(0, .ref 111), (1, .int (nI x2)), (2, .int a2), (3, .int (nI x11)), (4, .int a4), (5, .int a5)]) (st2 := [.int a5, .int (nI x26), .int a2]) (w3 := w) rfl rfl ?_
                  refine sx_RP.step (pc2 := 89) (ls2 := [(0, .ref 111), (1, .int (nI x2)), (2, .int a2), (3, .int (nI x11)), (4, .int a4), (5, .int a5)]) (st2 := [.int ((nI x26) - a5), .int a2]) (w3 := w) rfl rfl ?_
                  refine sx_RP.br (p1 := 106) (l1 := [(0, .ref 111), (1, .int (nI x2)), (2, .int a2), (3, .int (nI x11)), (4, .int a4), (5, .int a5)]) (s1 := []) (v1 := w) (p2 := 92) (l2 := [(0, .ref 111), (1, .int (nI x2)), (2, .int a2), (3, .int (nI x11)), (4, .int a4), (5, .int a5)]) (s2 := []) (v2 := w) rfl rfl (fun q47 => ?_) (fun q47 => ?_)
                  · replace q47 := of_decide_eq_true q47
                    refine sx_RP.step (pc2 := 107) (ls2 := [(0, .ref 111), (1, .int (nI x2)), (2, .int a2), (3, .int (nI x11)), (4, .int a4), (5, .int a5)]) (st2 := [.ref 111]) (w3 := w) rfl rfl ?_
                    refine sx_RP.step (pc2 := 108) (ls2 := [(0, .ref 111), (1, .int (nI x2)), (2, .int a2), (3, .int (nI x11)), (4, .int a4), (5, .int a5)]) (st2 := [.int 0, .ref 111]) (w3 := w) rfl rfl ?_
                    refine sx_RP.callp (as2 := [.ref 111, .int 0]) (rest2 := []) rfl rfl (sx_inv_v2 (mi := 234) (k := 70) (st := [.int 0, .ref 111]) (w := w) rfl rfl hI.1.o111 rfl rfl rfl) rfl rfl rfl (s133_0 hI) (show _ = 111 from rfl) ?_
                    rintro r4 w48 ⟨rfl, hI49, hE51⟩
                    have hE50 := hE.tr (hE51)
                    show sx_RP _ _ _ _ _ [.int (-1000000001)] _ _
                    refine sx_RP.ret (r := (some (.int (-1000000001)))) rfl rfl ?_
                    exact ⟨by rw [cp_4 (show x2 < 4 by omega) (show x11 < 4 by omega) (FMs_at (by omega) ex28) (FMs_at (by omega) ex31) q19 q24 q25 (fun z => ((run_iff2 (by omega)).mp z.1).2.2 q47)], hI49, hE50⟩
                  · replace q47 := of_decide_eq_false q47
                    refine sx_RP.step (pc2 := 94) (ls2 := [(0, .ref 111), (1, .int (nI x2)), (2, .int a2), (3, .int (nI x11)), (4, .int a4), (5, .int a5)]) (st2 := [.int a4]) (w3 := w) rfl rfl ?_
                    refine sx_RP.step (pc2 := 95) (ls2 := [(0, .ref 111), (1, .int (nI x2)), (2, .int a2), (3, .int (nI x11)), (4, .int a4), (5, .int a5)]) (st2 := [.ref 111, .int a4]) (w3 := w) rfl rfl ?_
                    refine sx_RP.gf (v := .ref 123) rfl rfl hI.1.o111 rfl rfl (show _ = 98 from rfl) ?_
                    refine sx_RP.step (pc2 := 99) (ls2 := [(0, .ref 111), (1, .int (nI x2)), (2, .int a2), (3, .int (nI x11)), (4, .int a4), (5, .int a5)]) (st2 := [.int (nI x11), .ref 123, .int a4]) (w3 := w) rfl rfl ?_
                    refine sx_RP.ild (c := x11) rfl hI.1.a123.1 hI.1.a123.2 (sx_in_nI (show x11 < 4 by omega) (by decide)) (show (nI x11).toNatClampNeg = x11 from nI_clamp (by omega)) (show _ = 100 from rfl) ?_
                    rw [ex31]
                    refine sx_RP.step (pc2 := 102) (ls2 := [(0, .ref 111), (1, .int (nI x2)), (2, .int a2), (3, .int (nI x11)), (4, .int a4), (5, .int a5)]) (st2 := [.int a5, .int (nI x29), .int a4]) (w3 := w) rfl rfl ?_
                    refine sx_RP.step (pc2 := 103) (ls2 := [(0, .ref 111), (1, .int (nI x2)), (2, .int a2), (3, .int (nI x11)), (4, .int a4), (5, .int a5)]) (st2 := [.int ((nI x29) - a5), .int a4]) (w3 := w) rfl rfl ?_
                    refine sx_RP.br (p1 := 112) (l1 := [(0, .ref 111), (1, .int (nI x2)), (2, .int a2), (3, .int (nI x11)), (4, .int a4), (5, .int a5)]) (s1 := []) (v1 := w) (p2 := 106) (l2 := [(0, .ref 111), (1, .int (nI x2)), (2, .int a2), (3, .int (nI x11)), (4, .int a4), (5, .int a5)]) (s2 := []) (v2 := w) rfl rfl (fun q52 => ?_) (fun q52 => ?_)
                    · replace q52 := of_decide_eq_true q52
                      refine sx_RP.step (pc2 := 113) (ls2 := [(0, .ref 111), (1, .int (nI x2)), (2, .int a2), (3, .int (nI x11)), (4, .int a4), (5, .int a5)]) (st2 := [.int 0]) (w3 := w) rfl rfl ?_
                      refine sx_RP.step (pc2 := 115) (ls2 := [(6, .int 0), (0, .ref 111), (1, .int (nI x2)), (2, .int a2), (3, .int (nI x11)), (4, .int a4), (5, .int a5)]) (st2 := []) (w3 := w) rfl rfl ?_
                      have hr61 : runB (nI x26) a2 a5 = true := (run_iff2 (by omega)).mpr ⟨q32, q37, q47⟩
                      have hr62 : runB (nI x29) a4 a5 = true := (run_iff2 (by omega)).mpr ⟨q32, q42, Int32.not_lt.mpr q52⟩
                      rw [cp_5 (show x2 < 4 by omega) (show x11 < 4 by omega) (FMs_at (by omega) ex28) (FMs_at (by omega) ex31) q19 q24 q25 hr61 hr62]
                      obtain ⟨x53, x54, rfl, rfl, hx55⟩ := cop_of (by omega) q37 q32 q47
                      obtain ⟨x56, x57, rfl, ex58, hx59⟩ := cop_of (by omega) q42 q32 (Int32.not_lt.mpr q52)
                      have ex60 := (nI_eq (a := x54) (b := x57) (by omega) (by omega)).mp ex58
                      refine sx_RP.ls (sx_lr.cons rfl (sx_lr.cons rfl (sx_lr.cons rfl (sx_lr.cons rfl (sx_lr.cons rfl (sx_lr.cons rfl (sx_lr.cons rfl sx_lr.nil))))))) (s234AL (show x2 < 4 by omega) (show x11 < 4 by omega) (show x53 + x54 ≤ 40 by omega) (show x56 + x54 ≤ 40 by omega) (fun w63 hI64 hE65 => ?_) 40 0 w (by omega) (by omega) hI hE)
                      refine sx_RP.step (pc2 := 150) (ls2 := [(0, .ref 111), (1, .int (nI x2)), (2, .int (nI x53)), (3, .int (nI x11)), (4, .int (nI x56)), (5, .int (nI x54))]) (st2 := [.int 0]) (w3 := w63) rfl rfl ?_
                      refine sx_RP.step (pc2 := 152) (ls2 := [(6, .int 0), (0, .ref 111), (1, .int (nI x2)), (2, .int (nI x53)), (3, .int (nI x11)), (4, .int (nI x56)), (5, .int (nI x54))]) (st2 := []) (w3 := w63) rfl rfl ?_
                      exact sx_RP.ls (sx_lr.cons rfl (sx_lr.cons rfl (sx_lr.cons rfl (sx_lr.cons rfl (sx_lr.cons rfl (sx_lr.cons rfl (sx_lr.cons rfl sx_lr.nil))))))) (s234BL (show x2 < 4 by omega) (show x11 < 4 by omega) (show x53 + x54 ≤ 40 by omega) (show x56 + x54 ≤ 40 by omega) 40 0 w63 (by omega) (by omega) hI64 hE65)
                    · replace q52 := of_decide_eq_false q52
                      refine sx_RP.step (pc2 := 107) (ls2 := [(0, .ref 111), (1, .int (nI x2)), (2, .int a2), (3, .int (nI x11)), (4, .int a4), (5, .int a5)]) (st2 := [.ref 111]) (w3 := w) rfl rfl ?_
                      refine sx_RP.step (pc2 := 108) (ls2 := [(0, .ref 111), (1, .int (nI x2)), (2, .int a2), (3, .int (nI x11)), (4, .int a4), (5, .int a5)]) (st2 := [.int 0, .ref 111]) (w3 := w) rfl rfl ?_
                      refine sx_RP.callp (as2 := [.ref 111, .int 0]) (rest2 := []) rfl rfl (sx_inv_v2 (mi := 234) (k := 70) (st := [.int 0, .ref 111]) (w := w) rfl rfl hI.1.o111 rfl rfl rfl) rfl rfl rfl (s133_0 hI) (show _ = 111 from rfl) ?_
                      rintro r4 w66 ⟨rfl, hI67, hE69⟩
                      have hE68 := hE.tr (hE69)
                      show sx_RP _ _ _ _ _ [.int (-1000000001)] _ _
                      refine sx_RP.ret (r := (some (.int (-1000000001)))) rfl rfl ?_
                      exact ⟨by rw [cp_4 (show x2 < 4 by omega) (show x11 < 4 by omega) (FMs_at (by omega) ex28) (FMs_at (by omega) ex31) q19 q24 q25 (fun z => ((run_iff2 (by omega)).mp z.2).2.2 (Int32.not_le.mp q52))], hI67, hE68⟩
          · replace q25 := of_decide_eq_false q25
            refine sx_RP.step (pc2 := 60) (ls2 := [(0, .ref 111), (1, .int (nI x2)), (2, .int a2), (3, .int (nI x11)), (4, .int a4), (5, .int a5)]) (st2 := [.ref 111]) (w3 := w) rfl rfl ?_
            refine sx_RP.step (pc2 := 61) (ls2 := [(0, .ref 111), (1, .int (nI x2)), (2, .int a2), (3, .int (nI x11)), (4, .int a4), (5, .int a5)]) (st2 := [.int 2, .ref 111]) (w3 := w) rfl rfl ?_
            refine sx_RP.callp (as2 := [.ref 111, .int 2]) (rest2 := []) rfl rfl (sx_inv_v2 (mi := 234) (k := 70) (st := [.int 2, .ref 111]) (w := w) rfl rfl hI.1.o111 rfl rfl rfl) rfl rfl rfl (s133_2 hI) (show _ = 64 from rfl) ?_
            rintro r4 w70 ⟨rfl, hI71, hE73⟩
            have hE72 := hE.tr (hE73)
            show sx_RP _ _ _ _ _ [.int (-1000000003)] _ _
            refine sx_RP.ret (r := (some (.int (-1000000003)))) rfl rfl ?_
            exact ⟨by rw [cp_3 (show x2 < 4 by omega) (show x11 < 4 by omega) (FMs_at0 (by omega)) (FMs_at0 (by omega)) q19 q24 q25], hI71, hE72⟩
        · replace q24 := Decidable.not_not.mp (of_decide_eq_false q24)
          refine sx_RP.step (pc2 := 39) (ls2 := [(0, .ref 111), (1, .int (nI x2)), (2, .int a2), (3, .int (nI x11)), (4, .int a4), (5, .int a5)]) (st2 := [.ref 111]) (w3 := w) rfl rfl ?_
          refine sx_RP.step (pc2 := 40) (ls2 := [(0, .ref 111), (1, .int (nI x2)), (2, .int a2), (3, .int (nI x11)), (4, .int a4), (5, .int a5)]) (st2 := [.int 5, .ref 111]) (w3 := w) rfl rfl ?_
          refine sx_RP.callp (as2 := [.ref 111, .int 5]) (rest2 := []) rfl rfl (sx_inv_v2 (mi := 234) (k := 70) (st := [.int 5, .ref 111]) (w := w) rfl rfl hI.1.o111 rfl rfl rfl) rfl rfl rfl (s133_5 hI) (show _ = 43 from rfl) ?_
          rintro r4 w74 ⟨rfl, hI75, hE77⟩
          have hE76 := hE.tr (hE77)
          show sx_RP _ _ _ _ _ [.int (-1000000006)] _ _
          refine sx_RP.ret (r := (some (.int (-1000000006)))) rfl rfl ?_
          exact ⟨by rw [cp_2 (show x2 < 4 by omega) (show x11 < 4 by omega) (FMs_at0 (by omega)) (FMs_at0 (by omega)) (Or.inr q24)], hI75, hE76⟩
