-- fitTo, rowTo
def crF (x : Int32) : Int32 := if x = 1 then 2 else if x = 3 then 4 else 1
theorem crF_st : ∀ n, n < 4 → sx_in (nI n) 4 = true ∧ ([1, 2, 1, 4] : List Int32).getD (nI n).toNatClampNeg 0 = crF (nI n) := by decide +kernel
def st4 (st : List Int32) : Prop := ∀ c, c < 48 → ∃ n, n < 4 ∧ st.getD c 0 = nI n
theorem st4.at {xs : Option (List Int32)} {st : List Int32} (h : st4 st) {c : Nat} (hc : c < 48) : sx_in (st.getD c 0) (sx_st xs (0 : UInt32).toNat).length = true ∧ (sx_st xs (0 : UInt32).toNat).getD (st.getD c 0).toNatClampNeg 0 = crF (st.getD c 0) := by
  obtain ⟨n, hn, e⟩ := h c hc
  rw [e]
  exact crF_st n hn
def ft1 (st : List Int32) (p : List Int32 × Int32) (j : Nat) : List Int32 × Int32 := if p.1.getD j 0 = crF (st.getD j 0) then p else (p.1.set j (crF (st.getD j 0)), 0)
def ftF (st : List Int32) : Nat → Nat → List Int32 × Int32 → List Int32 × Int32
  | 0, _, p => p
  | k + 1, j, p => ftF st k (j + 1) (ft1 st p j)
theorem ft1_len {st : List Int32} {p : List Int32 × Int32} {j n : Nat} (h : p.1.length = n) : (ft1 st p j).1.length = n := by
  unfold ft1
  split <;> simp [h]
theorem ftF_len {st : List Int32} {n : Nat} : ∀ (k j : Nat) (p : List Int32 × Int32), p.1.length = n → (ftF st k j p).1.length = n
  | 0, _, _, h => h
  | k + 1, j, p, h => ftF_len k (j + 1) _ (ft1_len h)
def rr48 : List (Option Nat) := (List.range 48).map (fun i => some (47 + i))
theorem rr_at : ∀ t, t < 48 → sx_in (nI t) rr48.length = true ∧ sx_rf (rr48.getD (nI t).toNatClampNeg none) = .ref (47 + t) := by
  intro t ht
  have e : rr48.getD (nI t).toNatClampNeg none = some (47 + t) := by
    rw [nI_clamp (by omega), rr48, List.getD_eq_getElem?_getD, List.getElem?_map, List.getElem?_range ht]
    rfl
  rw [e]
  exact ⟨sx_in_nI (by rw [rr48, List.length_map, List.length_range]; exact ht) (by decide), rfl⟩
def adF (ls : List Int32) (t : Nat) : Nat → Nat → List Int32 → List Int32
  | 0, _, l => l
  | k + 1, j, l => adF ls t k (j + 1) (l.set j (l.getD j 0 + (ls.getD t 0 - ls.getD j 0)))
theorem adF_len {ls : List Int32} {t n : Nat} : ∀ (k j : Nat) (l : List Int32), l.length = n → (adF ls t k j l).length = n
  | 0, _, _, h => h
  | k + 1, j, l, h => adF_len k (j + 1) _ (by rw [List.length_set]; exact h)
set_option maxRecDepth 20000 in
set_option maxHeartbeats 4000000 in
theorem cq_16 {xs : Option (List Int32)} {d : Nat} {w : List sx_C} {P : Option Value → List sx_C → Prop} {sa : Nat} {st l0 kn : List Int32} (h44 : w[44]? = some (.inr (.inr (.inr (3, [.ref 45, .ref 46, .ref 95]))))) (h45 : w[45]? = some (.inl (0, l0))) (h95 : w[95]? = some (.inl (1, kn))) (hsa : w[sa]? = some (.inl (0, st))) (h1 : sa ≠ 45) (h2 : sa ≠ 95) (hst : st.length = 48) (h4 : st4 st) {sm : Int32} {l : List Int32} {j : Nat} (hl : l.length = 48) (hj : j < 48) (k : sx_RP xs d 16 4 [(0, .ref 44), (1, .ref sa), (2, .int ((ft1 st (l, sm) j).2)), (3, .int (nI (j + 1)))] [] (w.set 45 (.inl (0, (ft1 st (l, sm) j).1))) P) : sx_RP xs d 16 4 [(0, .ref 44), (1, .ref sa), (2, .int sm), (3, .int (nI j))] [] (w.set 45 (.inl (0, l))) P := by
  refine sx_RP.step (pc2 := 5) (ls2 := [(0, .ref 44), (1, .ref sa), (2, .int sm), (3, .int (nI j))]) (st2 := [.int (nI j)]) (w3 := (w.set 45 (.inl (0, l)))) rfl rfl ?_
  refine sx_RP.step (pc2 := 7) (ls2 := [(0, .ref 44), (1, .ref sa), (2, .int sm), (3, .int (nI j))]) (st2 := [.int 48, .int (nI j)]) (w3 := (w.set 45 (.inl (0, l)))) rfl rfl ?_
  refine sx_RP.br (p2 := 10) (l2 := [(0, .ref 44), (1, .ref sa), (2, .int sm), (3, .int (nI j))]) (s2 := []) (v2 := (w.set 45 (.inl (0, l)))) rfl rfl (fun q => absurd (of_decide_eq_true q) (nI_ge (b := 48) hj (by omega))) (fun _ => ?_)
  refine sx_RP.step (pc2 := 13) (ls2 := [(0, .ref 44), (1, .ref sa), (2, .int sm), (3, .int (nI j))]) (st2 := [.float 0]) (w3 := (w.set 45 (.inl (0, l)))) rfl rfl ?_
  refine sx_RP.step (pc2 := 14) (ls2 := [(0, .ref 44), (1, .ref sa), (2, .int sm), (3, .int (nI j))]) (st2 := [.ref sa, .float 0]) (w3 := (w.set 45 (.inl (0, l)))) rfl rfl ?_
  refine sx_RP.step (pc2 := 15) (ls2 := [(0, .ref 44), (1, .ref sa), (2, .int sm), (3, .int (nI j))]) (st2 := [.int (nI j), .ref sa, .float 0]) (w3 := (w.set 45 (.inl (0, l)))) rfl rfl ?_
  refine sx_RP.ild (c := j) rfl (sx_gn2 h1 hsa) hst (sx_in_nI hj (by decide)) (nI_clamp (by have := hj; omega)) (show _ = 16 from rfl) ?_
  refine sx_RP.stat (k := 0) (v := (crF (st.getD j 0))) rfl rfl (h4.at hj) (show _ = 17 from rfl) ?_
  refine sx_RP.step (pc2 := 19) (ls2 := [(4, .int (crF (st.getD j 0))), (0, .ref 44), (1, .ref sa), (2, .int sm), (3, .int (nI j))]) (st2 := []) (w3 := (w.set 45 (.inl (0, l)))) rfl rfl ?_
  refine sx_RP.step (pc2 := 20) (ls2 := [(4, .int (crF (st.getD j 0))), (0, .ref 44), (1, .ref sa), (2, .int sm), (3, .int (nI j))]) (st2 := [.ref 44]) (w3 := (w.set 45 (.inl (0, l)))) rfl rfl ?_
  refine sx_RP.gf (v := .ref 45) rfl rfl (sx_gn2 (by decide) h44) rfl rfl (show _ = 23 from rfl) ?_
  refine sx_RP.step (pc2 := 24) (ls2 := [(4, .int (crF (st.getD j 0))), (0, .ref 44), (1, .ref sa), (2, .int sm), (3, .int (nI j))]) (st2 := [.int (nI j), .ref 45]) (w3 := (w.set 45 (.inl (0, l)))) rfl rfl ?_
  refine sx_RP.ild (c := j) rfl (sx_gs2 h45) hl (sx_in_nI hj (by decide)) (nI_clamp (by have := hj; omega)) (show _ = 25 from rfl) ?_
  refine sx_RP.step (pc2 := 27) (ls2 := [(4, .int (crF (st.getD j 0))), (0, .ref 44), (1, .ref sa), (2, .int sm), (3, .int (nI j))]) (st2 := [.int (crF (st.getD j 0)), .int (l.getD j 0)]) (w3 := (w.set 45 (.inl (0, l)))) rfl rfl ?_
  refine sx_RP.br (p1 := 40) (l1 := [(4, .int (crF (st.getD j 0))), (0, .ref 44), (1, .ref sa), (2, .int sm), (3, .int (nI j))]) (s1 := []) (v1 := (w.set 45 (.inl (0, l)))) (p2 := 30) (l2 := [(4, .int (crF (st.getD j 0))), (0, .ref 44), (1, .ref sa), (2, .int sm), (3, .int (nI j))]) (s2 := []) (v2 := (w.set 45 (.inl (0, l)))) rfl rfl (fun q1 => ?_) (fun q1 => ?_)
  · replace q1 := of_decide_eq_true q1
    refine sx_RP.step (pc2 := 43) (ls2 := [(3, .int ((nI j) + 1)), (4, .int (crF (st.getD j 0))), (0, .ref 44), (1, .ref sa), (2, .int sm)]) (st2 := []) (w3 := (w.set 45 (.inl (0, l)))) rfl rfl ?_
    refine sx_RP.step (pc2 := 4) (ls2 := [(3, .int ((nI j) + 1)), (4, .int (crF (st.getD j 0))), (0, .ref 44), (1, .ref sa), (2, .int sm)]) (st2 := []) (w3 := (w.set 45 (.inl (0, l)))) rfl rfl ?_
    rw [show ft1 st (l, sm) j = (l, sm) from by rw [ft1]; simp only [if_pos q1]] at k
    rw [nI_1 j]
    exact sx_RP.ls (sx_lr.cons rfl (sx_lr.cons rfl (sx_lr.cons rfl (sx_lr.cons rfl sx_lr.nil)))) k
  · replace q1 := of_decide_eq_false q1
    refine sx_RP.step (pc2 := 31) (ls2 := [(4, .int (crF (st.getD j 0))), (0, .ref 44), (1, .ref sa), (2, .int sm), (3, .int (nI j))]) (st2 := [.ref 44]) (w3 := (w.set 45 (.inl (0, l)))) rfl rfl ?_
    refine sx_RP.gf (v := .ref 45) rfl rfl (sx_gn2 (by decide) h44) rfl rfl (show _ = 34 from rfl) ?_
    refine sx_RP.step (pc2 := 35) (ls2 := [(4, .int (crF (st.getD j 0))), (0, .ref 44), (1, .ref sa), (2, .int sm), (3, .int (nI j))]) (st2 := [.int (nI j), .ref 45]) (w3 := (w.set 45 (.inl (0, l)))) rfl rfl ?_
    refine sx_RP.step (pc2 := 37) (ls2 := [(4, .int (crF (st.getD j 0))), (0, .ref 44), (1, .ref sa), (2, .int sm), (3, .int (nI j))]) (st2 := [.int (crF (st.getD j 0)), .int (nI j), .ref 45]) (w3 := (w.set 45 (.inl (0, l)))) rfl rfl ?_
    refine sx_RP.ist (c := j) (w2 := (w.set 45 (.inl (0, l.set j (crF (st.getD j 0)))))) rfl (sx_gs2 h45) hl (sx_in_nI hj (by decide)) (nI_clamp (by have := hj; omega)) (List.set_set ..) (show _ = 38 from rfl) ?_
    refine sx_RP.step (pc2 := 39) (ls2 := [(4, .int (crF (st.getD j 0))), (0, .ref 44), (1, .ref sa), (2, .int sm), (3, .int (nI j))]) (st2 := [.int 0]) (w3 := (w.set 45 (.inl (0, l.set j (crF (st.getD j 0)))))) rfl rfl ?_
    refine sx_RP.step (pc2 := 40) (ls2 := [(2, .int 0), (4, .int (crF (st.getD j 0))), (0, .ref 44), (1, .ref sa), (3, .int (nI j))]) (st2 := []) (w3 := (w.set 45 (.inl (0, l.set j (crF (st.getD j 0)))))) rfl rfl ?_
    refine sx_RP.step (pc2 := 43) (ls2 := [(3, .int ((nI j) + 1)), (2, .int 0), (4, .int (crF (st.getD j 0))), (0, .ref 44), (1, .ref sa)]) (st2 := []) (w3 := (w.set 45 (.inl (0, l.set j (crF (st.getD j 0)))))) rfl rfl ?_
    refine sx_RP.step (pc2 := 4) (ls2 := [(3, .int ((nI j) + 1)), (2, .int 0), (4, .int (crF (st.getD j 0))), (0, .ref 44), (1, .ref sa)]) (st2 := []) (w3 := (w.set 45 (.inl (0, l.set j (crF (st.getD j 0)))))) rfl rfl ?_
    rw [show ft1 st (l, sm) j = (l.set j (crF (st.getD j 0)), 0) from by rw [ft1]; simp only [if_neg q1]] at k
    rw [nI_1 j]
    exact sx_RP.ls (sx_lr.cons rfl (sx_lr.cons rfl (sx_lr.cons rfl (sx_lr.cons rfl sx_lr.nil)))) k
set_option maxRecDepth 20000 in
set_option maxHeartbeats 4000000 in
theorem cp_16a {xs : Option (List Int32)} {d : Nat} {w : List sx_C} {sa : Nat} {st l0 kn : List Int32} (h44 : w[44]? = some (.inr (.inr (.inr (3, [.ref 45, .ref 46, .ref 95]))))) (h45 : w[45]? = some (.inl (0, l0))) (h95 : w[95]? = some (.inl (1, kn))) (hsa : w[sa]? = some (.inl (0, st))) (h1 : sa ≠ 45) (h2 : sa ≠ 95) (hst : st.length = 48) (h4 : st4 st) {P : Option Value → List sx_C → Prop} : ∀ (k j : Nat) (p : List Int32 × Int32), j + k = 48 → p.1.length = 48 → sx_RP xs d 16 48 [(0, .ref 44), (1, .ref sa), (2, .int ((ftF st k j p).2)), (3, .int (nI 0))] [] (w.set 45 (.inl (0, (ftF st k j p).1))) P → sx_RP xs d 16 4 [(0, .ref 44), (1, .ref sa), (2, .int p.2), (3, .int (nI j))] [] (w.set 45 (.inl (0, p.1))) P
  | 0, j, p, h, hp, kk => by
    obtain rfl : j = 48 := by omega
    refine sx_RP.step (pc2 := 5) (ls2 := [(0, .ref 44), (1, .ref sa), (2, .int p.2), (3, .int (nI 48))]) (st2 := [.int (nI 48)]) (w3 := (w.set 45 (.inl (0, p.1)))) rfl rfl ?_
    refine sx_RP.step (pc2 := 7) (ls2 := [(0, .ref 44), (1, .ref sa), (2, .int p.2), (3, .int (nI 48))]) (st2 := [.int 48, .int (nI 48)]) (w3 := (w.set 45 (.inl (0, p.1)))) rfl rfl ?_
    refine sx_RP.step (pc2 := 46) (ls2 := [(0, .ref 44), (1, .ref sa), (2, .int p.2), (3, .int (nI 48))]) (st2 := []) (w3 := (w.set 45 (.inl (0, p.1)))) rfl rfl ?_
    refine sx_RP.step (pc2 := 47) (ls2 := [(0, .ref 44), (1, .ref sa), (2, .int p.2), (3, .int (nI 48))]) (st2 := [.int 0]) (w3 := (w.set 45 (.inl (0, p.1)))) rfl rfl ?_
    refine sx_RP.step (pc2 := 48) (ls2 := [(3, .int 0), (0, .ref 44), (1, .ref sa), (2, .int p.2)]) (st2 := []) (w3 := (w.set 45 (.inl (0, p.1)))) rfl rfl ?_
    exact sx_RP.ls (sx_lr.cons rfl (sx_lr.cons rfl (sx_lr.cons rfl (sx_lr.cons rfl sx_lr.nil)))) kk
  | k + 1, j, (l, sm), h, hp, kk => cq_16 h44 h45 h95 hsa h1 h2 hst h4 hp (by omega) (cp_16a h44 h45 h95 hsa h1 h2 hst h4 k (j + 1) (ft1 st (l, sm) j) (by omega) (ft1_len hp) kk)
set_option maxRecDepth 20000 in
set_option maxHeartbeats 4000000 in
theorem cq_16b {xs : Option (List Int32)} {d : Nat} {w : List sx_C} {P : Option Value → List sx_C → Prop} {sa : Nat} {l0 kn : List Int32} (h44 : w[44]? = some (.inr (.inr (.inr (3, [.ref 45, .ref 46, .ref 95]))))) (h45 : w[45]? = some (.inl (0, l0))) (h95 : w[95]? = some (.inl (1, kn))) {l : List Int32} {ku : List Int32} {j : Nat} (hku : ku.length = 48) (hj : j < 48) (k : sx_RP xs d 16 48 [(0, .ref 44), (1, .ref sa), (2, .int 0), (3, .int (nI (j + 1)))] [] ((w.set 45 (.inl (0, l))).set 95 (.inl (1, ku.set j 0))) P) : sx_RP xs d 16 48 [(0, .ref 44), (1, .ref sa), (2, .int 0), (3, .int (nI j))] [] ((w.set 45 (.inl (0, l))).set 95 (.inl (1, ku))) P := by
  refine sx_RP.step (pc2 := 49) (ls2 := [(0, .ref 44), (1, .ref sa), (2, .int 0), (3, .int (nI j))]) (st2 := [.int (nI j)]) (w3 := ((w.set 45 (.inl (0, l))).set 95 (.inl (1, ku)))) rfl rfl ?_
  refine sx_RP.step (pc2 := 51) (ls2 := [(0, .ref 44), (1, .ref sa), (2, .int 0), (3, .int (nI j))]) (st2 := [.int 48, .int (nI j)]) (w3 := ((w.set 45 (.inl (0, l))).set 95 (.inl (1, ku)))) rfl rfl ?_
  refine sx_RP.br (p2 := 54) (l2 := [(0, .ref 44), (1, .ref sa), (2, .int 0), (3, .int (nI j))]) (s2 := []) (v2 := ((w.set 45 (.inl (0, l))).set 95 (.inl (1, ku)))) rfl rfl (fun q => absurd (of_decide_eq_true q) (nI_ge (b := 48) hj (by omega))) (fun _ => ?_)
  refine sx_RP.step (pc2 := 55) (ls2 := [(0, .ref 44), (1, .ref sa), (2, .int 0), (3, .int (nI j))]) (st2 := [.int 0]) (w3 := ((w.set 45 (.inl (0, l))).set 95 (.inl (1, ku)))) rfl rfl ?_
  refine sx_RP.step (pc2 := 58) (ls2 := [(0, .ref 44), (1, .ref sa), (2, .int 0), (3, .int (nI j))]) (st2 := []) (w3 := ((w.set 45 (.inl (0, l))).set 95 (.inl (1, ku)))) rfl rfl ?_
  refine sx_RP.step (pc2 := 59) (ls2 := [(0, .ref 44), (1, .ref sa), (2, .int 0), (3, .int (nI j))]) (st2 := [.ref 44]) (w3 := ((w.set 45 (.inl (0, l))).set 95 (.inl (1, ku)))) rfl rfl ?_
  refine sx_RP.gf (v := .ref 95) rfl rfl (sx_gn2 (by decide) (sx_gn2 (by decide) h44)) rfl rfl (show _ = 62 from rfl) ?_
  refine sx_RP.step (pc2 := 63) (ls2 := [(0, .ref 44), (1, .ref sa), (2, .int 0), (3, .int (nI j))]) (st2 := [.int (nI j), .ref 95]) (w3 := ((w.set 45 (.inl (0, l))).set 95 (.inl (1, ku)))) rfl rfl ?_
  refine sx_RP.step (pc2 := 64) (ls2 := [(0, .ref 44), (1, .ref sa), (2, .int 0), (3, .int (nI j))]) (st2 := [.int 0, .int (nI j), .ref 95]) (w3 := ((w.set 45 (.inl (0, l))).set 95 (.inl (1, ku)))) rfl rfl ?_
  refine sx_RP.bst1 (c := j) (w2 := ((w.set 45 (.inl (0, l))).set 95 (.inl (1, ku.set j 0)))) rfl (sx_gs2 (sx_gn2 (by decide) h95)) hku (sx_in_nI hj (by decide)) (nI_clamp (by have := hj; omega)) (List.set_set ..) (show _ = 65 from rfl) ?_
  refine sx_RP.step (pc2 := 68) (ls2 := [(3, .int ((nI j) + 1)), (0, .ref 44), (1, .ref sa), (2, .int 0)]) (st2 := []) (w3 := ((w.set 45 (.inl (0, l))).set 95 (.inl (1, ku.set j 0)))) rfl rfl ?_
  refine sx_RP.step (pc2 := 48) (ls2 := [(3, .int ((nI j) + 1)), (0, .ref 44), (1, .ref sa), (2, .int 0)]) (st2 := []) (w3 := ((w.set 45 (.inl (0, l))).set 95 (.inl (1, ku.set j 0)))) rfl rfl ?_
  rw [nI_1 j]
  exact sx_RP.ls (sx_lr.cons rfl (sx_lr.cons rfl (sx_lr.cons rfl (sx_lr.cons rfl sx_lr.nil)))) k
set_option maxRecDepth 20000 in
set_option maxHeartbeats 4000000 in
theorem cp_16b {xs : Option (List Int32)} {d : Nat} {w : List sx_C} {sa : Nat} {l0 kn : List Int32} (h44 : w[44]? = some (.inr (.inr (.inr (3, [.ref 45, .ref 46, .ref 95]))))) (h45 : w[45]? = some (.inl (0, l0))) (h95 : w[95]? = some (.inl (1, kn))) {l : List Int32} {P : Option Value → List sx_C → Prop} : ∀ (k j : Nat) (ku : List Int32), j + k = 48 → ku.length = 48 → P none ((w.set 45 (.inl (0, l))).set 95 (.inl (1, flF 0 k j ku))) → sx_RP xs d 16 48 [(0, .ref 44), (1, .ref sa), (2, .int 0), (3, .int (nI j))] [] ((w.set 45 (.inl (0, l))).set 95 (.inl (1, ku))) P
  | 0, j, ku, h, hp, kk => by
    obtain rfl : j = 48 := by omega
    refine sx_RP.step (pc2 := 49) (ls2 := [(0, .ref 44), (1, .ref sa), (2, .int 0), (3, .int (nI 48))]) (st2 := [.int (nI 48)]) (w3 := ((w.set 45 (.inl (0, l))).set 95 (.inl (1, ku)))) rfl rfl ?_
    refine sx_RP.step (pc2 := 51) (ls2 := [(0, .ref 44), (1, .ref sa), (2, .int 0), (3, .int (nI 48))]) (st2 := [.int 48, .int (nI 48)]) (w3 := ((w.set 45 (.inl (0, l))).set 95 (.inl (1, ku)))) rfl rfl ?_
    refine sx_RP.step (pc2 := 71) (ls2 := [(0, .ref 44), (1, .ref sa), (2, .int 0), (3, .int (nI 48))]) (st2 := []) (w3 := ((w.set 45 (.inl (0, l))).set 95 (.inl (1, ku)))) rfl rfl ?_
    refine sx_RP.ret (r := none) rfl rfl ?_
    exact kk
  | k + 1, j, ku, h, hp, kk => cq_16b h44 h45 h95 hp (by omega) (cp_16b h44 h45 h95 k (j + 1) (ku.set j 0) (by omega) (by rw [List.length_set]; exact hp) kk)
/-- what is known still -/
def knF (sm : Int32) (kn : List Int32) : List Int32 := if sm = 0 then flF 0 48 0 kn else kn
set_option maxRecDepth 20000 in
set_option maxHeartbeats 4000000 in
theorem cp_16c {xs : Option (List Int32)} {d : Nat} {w : List sx_C} {sa : Nat} {l0 kn : List Int32} (h44 : w[44]? = some (.inr (.inr (.inr (3, [.ref 45, .ref 46, .ref 95]))))) (h45 : w[45]? = some (.inl (0, l0))) (h95 : w[95]? = some (.inl (1, kn))) {l : List Int32} {P : Option Value → List sx_C → Prop} (hkn : kn.length = 48) {sm : Int32} (kk : P none ((w.set 45 (.inl (0, l))).set 95 (.inl (1, knF sm kn)))) : sx_RP xs d 16 48 [(0, .ref 44), (1, .ref sa), (2, .int sm), (3, .int (nI 0))] [] (w.set 45 (.inl (0, l))) P := by
  have hx : (w.set 45 (.inl (0, l)))[95]? = some (.inl (1, kn)) := sx_gn2 (by decide) h95
  by_cases q : sm = 0
  · subst q
    rw [knF, if_pos rfl] at kk
    rw [sx_same hx]
    refine cp_16b h44 h45 h95 48 0 kn rfl hkn kk
  · rw [knF, if_neg q, ← sx_same hx] at kk
    refine sx_RP.step (pc2 := 49) (ls2 := [(0, .ref 44), (1, .ref sa), (2, .int sm), (3, .int (nI 0))]) (st2 := [.int (nI 0)]) (w3 := w.set 45 (.inl (0, l))) rfl rfl ?_
    refine sx_RP.step (pc2 := 51) (ls2 := [(0, .ref 44), (1, .ref sa), (2, .int sm), (3, .int (nI 0))]) (st2 := [.int 48, .int (nI 0)]) (w3 := w.set 45 (.inl (0, l))) rfl rfl ?_
    refine sx_RP.step (pc2 := 54) (ls2 := [(0, .ref 44), (1, .ref sa), (2, .int sm), (3, .int (nI 0))]) (st2 := []) (w3 := w.set 45 (.inl (0, l))) rfl rfl ?_
    refine sx_RP.step (pc2 := 55) (ls2 := [(0, .ref 44), (1, .ref sa), (2, .int sm), (3, .int (nI 0))]) (st2 := [.int sm]) (w3 := w.set 45 (.inl (0, l))) rfl rfl ?_
    refine sx_RP.br (p1 := 71) (l1 := [(0, .ref 44), (1, .ref sa), (2, .int sm), (3, .int (nI 0))]) (s1 := []) (v1 := w.set 45 (.inl (0, l))) rfl rfl (fun _ => ?_) (fun z => absurd q (of_decide_eq_false z))
    refine sx_RP.ret rfl rfl ?_
    exact kk
set_option maxRecDepth 20000 in
set_option maxHeartbeats 4000000 in
theorem cp_16 {xs : Option (List Int32)} {d : Nat} {w : List sx_C} {sa : Nat} {st l0 kn : List Int32} (h44 : w[44]? = some (.inr (.inr (.inr (3, [.ref 45, .ref 46, .ref 95]))))) (h45 : w[45]? = some (.inl (0, l0))) (h95 : w[95]? = some (.inl (1, kn))) (hsa : w[sa]? = some (.inl (0, st))) (h1 : sa ≠ 45) (h2 : sa ≠ 95) (hst : st.length = 48) (h4 : st4 st) (hl0 : l0.length = 48) (hkn : kn.length = 48) : sx_RU xs d 16 0 (lv_args 0 [.ref 44, .ref sa]) [] w none ((w.set 45 (.inl (0, (ftF st 48 0 (l0, 1)).1))).set 95 (.inl (1, knF (ftF st 48 0 (l0, 1)).2 kn))) := by
  have h : sx_RP xs d 16 0 (lv_args 0 [.ref 44, .ref sa]) [] w (fun r w2 => r = none ∧ w2 = (w.set 45 (.inl (0, (ftF st 48 0 (l0, 1)).1))).set 95 (.inl (1, knF (ftF st 48 0 (l0, 1)).2 kn))) := by
    refine sx_RP.step (pc2 := 1) (ls2 := [(0, .ref 44), (1, .ref sa)]) (st2 := [.int 1]) (w3 := w) rfl rfl ?_
    refine sx_RP.step (pc2 := 2) (ls2 := [(2, .int 1), (0, .ref 44), (1, .ref sa)]) (st2 := []) (w3 := w) rfl rfl ?_
    refine sx_RP.step (pc2 := 3) (ls2 := [(2, .int 1), (0, .ref 44), (1, .ref sa)]) (st2 := [.int 0]) (w3 := w) rfl rfl ?_
    refine sx_RP.step (pc2 := 4) (ls2 := [(3, .int 0), (2, .int 1), (0, .ref 44), (1, .ref sa)]) (st2 := []) (w3 := w) rfl rfl ?_
    have k2 := cp_16a (xs := xs) (d := d) h44 h45 h95 hsa h1 h2 hst h4 (P := fun r w2 => r = none ∧ w2 = (w.set 45 (.inl (0, (ftF st 48 0 (l0, 1)).1))).set 95 (.inl (1, knF (ftF st 48 0 (l0, 1)).2 kn))) 48 0 (l0, 1) rfl hl0 (cp_16c h44 h45 h95 hkn ⟨rfl, rfl⟩)
    rw [← sx_same h45] at k2
    exact sx_RP.ls (sx_lr.cons rfl (sx_lr.cons rfl (sx_lr.cons rfl (sx_lr.cons rfl sx_lr.nil)))) k2
  obtain ⟨r, w2, h1, rfl, rfl⟩ := h
  exact h1
set_option maxRecDepth 20000 in
set_option maxHeartbeats 4000000 in
theorem cp_17k {xs : Option (List Int32)} {d : Nat} {w : List sx_C} {l kn row : List Int32} {t : Nat} (h44 : w[44]? = some (.inr (.inr (.inr (3, [.ref 45, .ref 46, .ref 95]))))) (h45 : w[45]? = some (.inl (0, l))) (h46 : w[46]? = some (.inr (.inr (.inl (6, rr48))))) (h95 : w[95]? = some (.inl (1, kn))) (hr : w[47 + t]? = some (.inl (0, row))) (hl : l.length = 48) (hkn : kn.length = 48) (ht : t < 48) (hk : ¬ kn.getD t 0 = 0) : sx_RU xs d 17 0 (lv_args 0 [.ref 44, .int (nI t)]) [] w (some (.ref (47 + t))) w := by
  have h : sx_RP xs d 17 0 (lv_args 0 [.ref 44, .int (nI t)]) [] w (fun r w2 => r = (some (.ref (47 + t))) ∧ w2 = w) := by
    refine sx_RP.step (pc2 := 1) (ls2 := [(0, .ref 44), (1, .int (nI t))]) (st2 := [.ref 44]) (w3 := w) rfl rfl ?_
    refine sx_RP.gf (v := .ref 46) rfl rfl h44 rfl rfl (show _ = 4 from rfl) ?_
    refine sx_RP.step (pc2 := 5) (ls2 := [(0, .ref 44), (1, .int (nI t))]) (st2 := [.int (nI t), .ref 46]) (w3 := w) rfl rfl ?_
    refine sx_RP.ald (v := .ref (47 + t)) rfl h46 rfl (rr_at t ht) (show _ = 6 from rfl) ?_
    refine sx_RP.step (pc2 := 7) (ls2 := [(2, .ref (47 + t)), (0, .ref 44), (1, .int (nI t))]) (st2 := []) (w3 := w) rfl rfl ?_
    refine sx_RP.step (pc2 := 8) (ls2 := [(2, .ref (47 + t)), (0, .ref 44), (1, .int (nI t))]) (st2 := [.ref 44]) (w3 := w) rfl rfl ?_
    refine sx_RP.gf (v := .ref 95) rfl rfl h44 rfl rfl (show _ = 11 from rfl) ?_
    refine sx_RP.step (pc2 := 12) (ls2 := [(2, .ref (47 + t)), (0, .ref 44), (1, .int (nI t))]) (st2 := [.int (nI t), .ref 95]) (w3 := w) rfl rfl ?_
    refine sx_RP.bld1 (c := t) rfl h95 hkn (sx_in_nI ht (by decide)) (nI_clamp (by have := ht; omega)) (show _ = 13 from rfl) ?_
    refine sx_RP.br (p1 := 65) (l1 := [(2, .ref (47 + t)), (0, .ref 44), (1, .int (nI t))]) (s1 := []) (v1 := w) rfl rfl (fun _ => ?_) (fun q => absurd hk (of_decide_eq_false q))
    refine sx_RP.step (pc2 := 66) (ls2 := [(2, .ref (47 + t)), (0, .ref 44), (1, .int (nI t))]) (st2 := [.ref (47 + t)]) (w3 := w) rfl rfl ?_
    refine sx_RP.ret (r := (some (.ref (47 + t)))) rfl rfl ?_
    exact ⟨rfl, rfl⟩
  obtain ⟨r, w2, h1, rfl, rfl⟩ := h
  exact h1
set_option maxRecDepth 20000 in
set_option maxHeartbeats 4000000 in
theorem cq_17 {xs : Option (List Int32)} {d : Nat} {w : List sx_C} {P : Option Value → List sx_C → Prop} {l kn row : List Int32} {t : Nat} (h44 : w[44]? = some (.inr (.inr (.inr (3, [.ref 45, .ref 46, .ref 95]))))) (h45 : w[45]? = some (.inl (0, l))) (h46 : w[46]? = some (.inr (.inr (.inl (6, rr48))))) (h95 : w[95]? = some (.inl (1, kn))) (hr : w[47 + t]? = some (.inl (0, row))) (hl : l.length = 48) (hkn : kn.length = 48) (ht : t < 48) {c : List Int32} {j : Nat} (hc : c.length = 48) (hj : j < 48) (k : sx_RP xs d 17 34 [(0, .ref 44), (1, .int (nI t)), (2, .ref (47 + t)), (3, .int (nI (j + 1)))] [] ((w.set 95 (.inl (1, kn.set t 1))).set (47 + t) (.inl (0, c.set j (c.getD j 0 + (l.getD t 0 - l.getD j 0))))) P) : sx_RP xs d 17 34 [(0, .ref 44), (1, .int (nI t)), (2, .ref (47 + t)), (3, .int (nI j))] [] ((w.set 95 (.inl (1, kn.set t 1))).set (47 + t) (.inl (0, c))) P := by
  refine sx_RP.step (pc2 := 35) (ls2 := [(0, .ref 44), (1, .int (nI t)), (2, .ref (47 + t)), (3, .int (nI j))]) (st2 := [.int (nI j)]) (w3 := ((w.set 95 (.inl (1, kn.set t 1))).set (47 + t) (.inl (0, c)))) rfl rfl ?_
  refine sx_RP.step (pc2 := 37) (ls2 := [(0, .ref 44), (1, .int (nI t)), (2, .ref (47 + t)), (3, .int (nI j))]) (st2 := [.int 48, .int (nI j)]) (w3 := ((w.set 95 (.inl (1, kn.set t 1))).set (47 + t) (.inl (0, c)))) rfl rfl ?_
  refine sx_RP.br (p2 := 40) (l2 := [(0, .ref 44), (1, .int (nI t)), (2, .ref (47 + t)), (3, .int (nI j))]) (s2 := []) (v2 := ((w.set 95 (.inl (1, kn.set t 1))).set (47 + t) (.inl (0, c)))) rfl rfl (fun q => absurd (of_decide_eq_true q) (nI_ge (b := 48) hj (by omega))) (fun _ => ?_)
  refine sx_RP.step (pc2 := 41) (ls2 := [(0, .ref 44), (1, .int (nI t)), (2, .ref (47 + t)), (3, .int (nI j))]) (st2 := [.ref (47 + t)]) (w3 := ((w.set 95 (.inl (1, kn.set t 1))).set (47 + t) (.inl (0, c)))) rfl rfl ?_
  refine sx_RP.step (pc2 := 42) (ls2 := [(0, .ref 44), (1, .int (nI t)), (2, .ref (47 + t)), (3, .int (nI j))]) (st2 := [.int (nI j), .ref (47 + t)]) (w3 := ((w.set 95 (.inl (1, kn.set t 1))).set (47 + t) (.inl (0, c)))) rfl rfl ?_
  refine sx_RP.step (pc2 := 43) (ls2 := [(0, .ref 44), (1, .int (nI t)), (2, .ref (47 + t)), (3, .int (nI j))]) (st2 := [.int (nI j), .ref (47 + t), .int (nI j), .ref (47 + t)]) (w3 := ((w.set 95 (.inl (1, kn.set t 1))).set (47 + t) (.inl (0, c)))) rfl rfl ?_
  refine sx_RP.ild (c := j) rfl (sx_gs2 (sx_gn2 (by omega) hr)) hc (sx_in_nI hj (by decide)) (nI_clamp (by have := hj; omega)) (show _ = 44 from rfl) ?_
  refine sx_RP.step (pc2 := 45) (ls2 := [(0, .ref 44), (1, .int (nI t)), (2, .ref (47 + t)), (3, .int (nI j))]) (st2 := [.ref 44, .int (c.getD j 0), .int (nI j), .ref (47 + t)]) (w3 := ((w.set 95 (.inl (1, kn.set t 1))).set (47 + t) (.inl (0, c)))) rfl rfl ?_
  refine sx_RP.gf (v := .ref 45) rfl rfl (sx_gn2 (by omega) (sx_gn2 (by decide) h44)) rfl rfl (show _ = 48 from rfl) ?_
  refine sx_RP.step (pc2 := 49) (ls2 := [(0, .ref 44), (1, .int (nI t)), (2, .ref (47 + t)), (3, .int (nI j))]) (st2 := [.int (nI t), .ref 45, .int (c.getD j 0), .int (nI j), .ref (47 + t)]) (w3 := ((w.set 95 (.inl (1, kn.set t 1))).set (47 + t) (.inl (0, c)))) rfl rfl ?_
  refine sx_RP.ild (c := t) rfl (sx_gn2 (by omega) (sx_gn2 (by decide) h45)) hl (sx_in_nI ht (by decide)) (nI_clamp (by have := ht; omega)) (show _ = 50 from rfl) ?_
  refine sx_RP.step (pc2 := 51) (ls2 := [(0, .ref 44), (1, .int (nI t)), (2, .ref (47 + t)), (3, .int (nI j))]) (st2 := [.ref 44, .int (l.getD t 0), .int (c.getD j 0), .int (nI j), .ref (47 + t)]) (w3 := ((w.set 95 (.inl (1, kn.set t 1))).set (47 + t) (.inl (0, c)))) rfl rfl ?_
  refine sx_RP.gf (v := .ref 45) rfl rfl (sx_gn2 (by omega) (sx_gn2 (by decide) h44)) rfl rfl (show _ = 54 from rfl) ?_
  refine sx_RP.step (pc2 := 55) (ls2 := [(0, .ref 44), (1, .int (nI t)), (2, .ref (47 + t)), (3, .int (nI j))]) (st2 := [.int (nI j), .ref 45, .int (l.getD t 0), .int (c.getD j 0), .int (nI j), .ref (47 + t)]) (w3 := ((w.set 95 (.inl (1, kn.set t 1))).set (47 + t) (.inl (0, c)))) rfl rfl ?_
  refine sx_RP.ild (c := j) rfl (sx_gn2 (by omega) (sx_gn2 (by decide) h45)) hl (sx_in_nI hj (by decide)) (nI_clamp (by have := hj; omega)) (show _ = 56 from rfl) ?_
  refine sx_RP.step (pc2 := 57) (ls2 := [(0, .ref 44), (1, .int (nI t)), (2, .ref (47 + t)), (3, .int (nI j))]) (st2 := [.int ((l.getD t 0) - (l.getD j 0)), .int (c.getD j 0), .int (nI j), .ref (47 + t)]) (w3 := ((w.set 95 (.inl (1, kn.set t 1))).set (47 + t) (.inl (0, c)))) rfl rfl ?_
  refine sx_RP.step (pc2 := 58) (ls2 := [(0, .ref 44), (1, .int (nI t)), (2, .ref (47 + t)), (3, .int (nI j))]) (st2 := [.int ((c.getD j 0) + ((l.getD t 0) - (l.getD j 0))), .int (nI j), .ref (47 + t)]) (w3 := ((w.set 95 (.inl (1, kn.set t 1))).set (47 + t) (.inl (0, c)))) rfl rfl ?_
  refine sx_RP.ist (c := j) (w2 := ((w.set 95 (.inl (1, kn.set t 1))).set (47 + t) (.inl (0, c.set j ((c.getD j 0) + ((l.getD t 0) - (l.getD j 0))))))) rfl (sx_gs2 (sx_gn2 (by omega) hr)) hc (sx_in_nI hj (by decide)) (nI_clamp (by have := hj; omega)) (List.set_set ..) (show _ = 59 from rfl) ?_
  refine sx_RP.step (pc2 := 62) (ls2 := [(3, .int ((nI j) + 1)), (0, .ref 44), (1, .int (nI t)), (2, .ref (47 + t))]) (st2 := []) (w3 := ((w.set 95 (.inl (1, kn.set t 1))).set (47 + t) (.inl (0, c.set j ((c.getD j 0) + ((l.getD t 0) - (l.getD j 0))))))) rfl rfl ?_
  refine sx_RP.step (pc2 := 34) (ls2 := [(3, .int ((nI j) + 1)), (0, .ref 44), (1, .int (nI t)), (2, .ref (47 + t))]) (st2 := []) (w3 := ((w.set 95 (.inl (1, kn.set t 1))).set (47 + t) (.inl (0, c.set j ((c.getD j 0) + ((l.getD t 0) - (l.getD j 0))))))) rfl rfl ?_
  rw [nI_1 j]
  exact sx_RP.ls (sx_lr.cons rfl (sx_lr.cons rfl (sx_lr.cons rfl (sx_lr.cons rfl sx_lr.nil)))) k
set_option maxRecDepth 20000 in
set_option maxHeartbeats 4000000 in
theorem cp_17a {xs : Option (List Int32)} {d : Nat} {w : List sx_C} {l kn row : List Int32} {t : Nat} (h44 : w[44]? = some (.inr (.inr (.inr (3, [.ref 45, .ref 46, .ref 95]))))) (h45 : w[45]? = some (.inl (0, l))) (h46 : w[46]? = some (.inr (.inr (.inl (6, rr48))))) (h95 : w[95]? = some (.inl (1, kn))) (hr : w[47 + t]? = some (.inl (0, row))) (hl : l.length = 48) (hkn : kn.length = 48) (ht : t < 48) {P : Option Value → List sx_C → Prop} : ∀ (k j : Nat) (c : List Int32), j + k = 48 → c.length = 48 → P (some (.ref (47 + t))) ((w.set 95 (.inl (1, kn.set t 1))).set (47 + t) (.inl (0, adF l t k j c))) → sx_RP xs d 17 34 [(0, .ref 44), (1, .int (nI t)), (2, .ref (47 + t)), (3, .int (nI j))] [] ((w.set 95 (.inl (1, kn.set t 1))).set (47 + t) (.inl (0, c))) P
  | 0, j, c, h, hc, kk => by
    obtain rfl : j = 48 := by omega
    refine sx_RP.step (pc2 := 35) (ls2 := [(0, .ref 44), (1, .int (nI t)), (2, .ref (47 + t)), (3, .int (nI 48))]) (st2 := [.int (nI 48)]) (w3 := ((w.set 95 (.inl (1, kn.set t 1))).set (47 + t) (.inl (0, c)))) rfl rfl ?_
    refine sx_RP.step (pc2 := 37) (ls2 := [(0, .ref 44), (1, .int (nI t)), (2, .ref (47 + t)), (3, .int (nI 48))]) (st2 := [.int 48, .int (nI 48)]) (w3 := ((w.set 95 (.inl (1, kn.set t 1))).set (47 + t) (.inl (0, c)))) rfl rfl ?_
    refine sx_RP.step (pc2 := 65) (ls2 := [(0, .ref 44), (1, .int (nI t)), (2, .ref (47 + t)), (3, .int (nI 48))]) (st2 := []) (w3 := ((w.set 95 (.inl (1, kn.set t 1))).set (47 + t) (.inl (0, c)))) rfl rfl ?_
    refine sx_RP.step (pc2 := 66) (ls2 := [(0, .ref 44), (1, .int (nI t)), (2, .ref (47 + t)), (3, .int (nI 48))]) (st2 := [.ref (47 + t)]) (w3 := ((w.set 95 (.inl (1, kn.set t 1))).set (47 + t) (.inl (0, c)))) rfl rfl ?_
    refine sx_RP.ret (r := (some (.ref (47 + t)))) rfl rfl ?_
    exact kk
  | k + 1, j, c, h, hc, kk => cq_17 h44 h45 h46 h95 hr hl hkn ht hc (by omega) (cp_17a h44 h45 h46 h95 hr hl hkn ht k (j + 1) _ (by omega) (by rw [List.length_set]; exact hc) kk)
set_option maxRecDepth 20000 in
set_option maxHeartbeats 4000000 in
theorem cp_17 {xs : Option (List Int32)} {d : Nat} {w : List sx_C} {l kn row : List Int32} {t : Nat} (h44 : w[44]? = some (.inr (.inr (.inr (3, [.ref 45, .ref 46, .ref 95]))))) (h45 : w[45]? = some (.inl (0, l))) (h46 : w[46]? = some (.inr (.inr (.inl (6, rr48))))) (h95 : w[95]? = some (.inl (1, kn))) (hr : w[47 + t]? = some (.inl (0, row))) (hl : l.length = 48) (hkn : kn.length = 48) (ht : t < 48) (hrow : row.length = 48) (hk : kn.getD t 0 = 0) : sx_RU xs (d + 3) 17 0 (lv_args 0 [.ref 44, .int (nI t)]) [] w (some (.ref (47 + t))) ((w.set 95 (.inl (1, kn.set t 1))).set (47 + t) (.inl (0, adF l t 48 0 (spF l t row)))) := by
  have h : sx_RP xs (d + 3) 17 0 (lv_args 0 [.ref 44, .int (nI t)]) [] w (fun r w2 => r = (some (.ref (47 + t))) ∧ w2 = ((w.set 95 (.inl (1, kn.set t 1))).set (47 + t) (.inl (0, adF l t 48 0 (spF l t row))))) := by
    refine sx_RP.step (pc2 := 1) (ls2 := [(0, .ref 44), (1, .int (nI t))]) (st2 := [.ref 44]) (w3 := w) rfl rfl ?_
    refine sx_RP.gf (v := .ref 46) rfl rfl h44 rfl rfl (show _ = 4 from rfl) ?_
    refine sx_RP.step (pc2 := 5) (ls2 := [(0, .ref 44), (1, .int (nI t))]) (st2 := [.int (nI t), .ref 46]) (w3 := w) rfl rfl ?_
    refine sx_RP.ald (v := .ref (47 + t)) rfl h46 rfl (rr_at t ht) (show _ = 6 from rfl) ?_
    refine sx_RP.step (pc2 := 7) (ls2 := [(2, .ref (47 + t)), (0, .ref 44), (1, .int (nI t))]) (st2 := []) (w3 := w) rfl rfl ?_
    refine sx_RP.step (pc2 := 8) (ls2 := [(2, .ref (47 + t)), (0, .ref 44), (1, .int (nI t))]) (st2 := [.ref 44]) (w3 := w) rfl rfl ?_
    refine sx_RP.gf (v := .ref 95) rfl rfl h44 rfl rfl (show _ = 11 from rfl) ?_
    refine sx_RP.step (pc2 := 12) (ls2 := [(2, .ref (47 + t)), (0, .ref 44), (1, .int (nI t))]) (st2 := [.int (nI t), .ref 95]) (w3 := w) rfl rfl ?_
    refine sx_RP.bld1 (c := t) rfl h95 hkn (sx_in_nI ht (by decide)) (nI_clamp (by have := ht; omega)) (show _ = 13 from rfl) ?_
    refine sx_RP.br (p2 := 16) (l2 := [(2, .ref (47 + t)), (0, .ref 44), (1, .int (nI t))]) (s2 := []) (v2 := w) rfl rfl (fun q => absurd (of_decide_eq_true q) (fun z => z hk)) (fun _ => ?_)
    refine sx_RP.step (pc2 := 17) (ls2 := [(2, .ref (47 + t)), (0, .ref 44), (1, .int (nI t))]) (st2 := [.ref 44]) (w3 := w) rfl rfl ?_
    refine sx_RP.gf (v := .ref 95) rfl rfl h44 rfl rfl (show _ = 20 from rfl) ?_
    refine sx_RP.step (pc2 := 21) (ls2 := [(2, .ref (47 + t)), (0, .ref 44), (1, .int (nI t))]) (st2 := [.int (nI t), .ref 95]) (w3 := w) rfl rfl ?_
    refine sx_RP.step (pc2 := 22) (ls2 := [(2, .ref (47 + t)), (0, .ref 44), (1, .int (nI t))]) (st2 := [.int 1, .int (nI t), .ref 95]) (w3 := w) rfl rfl ?_
    refine sx_RP.bst1 (c := t) (w2 := (w.set 95 (.inl (1, kn.set t 1)))) rfl h95 hkn (sx_in_nI ht (by decide)) (nI_clamp (by have := ht; omega)) rfl (show _ = 23 from rfl) ?_
    refine sx_RP.step (pc2 := 24) (ls2 := [(2, .ref (47 + t)), (0, .ref 44), (1, .int (nI t))]) (st2 := [.int (nI t)]) (w3 := (w.set 95 (.inl (1, kn.set t 1)))) rfl rfl ?_
    refine sx_RP.step (pc2 := 25) (ls2 := [(2, .ref (47 + t)), (0, .ref 44), (1, .int (nI t))]) (st2 := [.ref 44, .int (nI t)]) (w3 := (w.set 95 (.inl (1, kn.set t 1)))) rfl rfl ?_
    refine sx_RP.gf (v := .ref 45) rfl rfl (sx_gn2 (by decide) h44) rfl rfl (show _ = 28 from rfl) ?_
    refine sx_RP.step (pc2 := 29) (ls2 := [(2, .ref (47 + t)), (0, .ref 44), (1, .int (nI t))]) (st2 := [.ref (47 + t), .ref 45, .int (nI t)]) (w3 := (w.set 95 (.inl (1, kn.set t 1)))) rfl rfl ?_
    refine sx_RP.cu (as := [.int (nI t), .ref 45, .ref (47 + t)]) (rest2 := []) (st3 := []) rfl rfl rfl rfl rfl (cp_18 (sx_gn2 (by decide) h45) (sx_gn2 (by omega) hr) (by omega) hl hrow ht) rfl ?_
    refine sx_RP.step (pc2 := 33) (ls2 := [(2, .ref (47 + t)), (0, .ref 44), (1, .int (nI t))]) (st2 := [.int 0]) (w3 := ((w.set 95 (.inl (1, kn.set t 1))).set (47 + t) (.inl (0, spF l t row)))) rfl rfl ?_
    refine sx_RP.step (pc2 := 34) (ls2 := [(3, .int 0), (2, .ref (47 + t)), (0, .ref 44), (1, .int (nI t))]) (st2 := []) (w3 := ((w.set 95 (.inl (1, kn.set t 1))).set (47 + t) (.inl (0, spF l t row)))) rfl rfl ?_
    exact sx_RP.ls (sx_lr.cons rfl (sx_lr.cons rfl (sx_lr.cons rfl (sx_lr.cons rfl sx_lr.nil)))) (cp_17a h44 h45 h46 h95 hr hl hkn ht 48 0 (spF l t row) rfl (spF_len hrow) ⟨rfl, rfl⟩)
  obtain ⟨r, w2, h1, rfl, rfl⟩ := h
  exact h1
