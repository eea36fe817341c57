-- rows of the reference
theorem WI.sA {w : List sx_C} (h : WI w) {a : Nat} (ha : 112 ≤ a ∧ a ≤ 115) : sOK (ia w a) := by
  rcases (show a = 112 ∨ a = 113 ∨ a = 114 ∨ a = 115 by omega) with rfl | rfl | rfl | rfl
  · exact h.s
  · exact (h.2 113 _ h.1.a113.1).2.2.2.2.2.2.2.2.1 (by decide)
  · exact (h.2 114 _ h.1.a114.1).2.2.2.2.2.2.2.2.1 (by decide)
  · exact (h.2 115 _ h.1.a115.1).2.2.2.2.2.2.2.2.1 (by decide)
theorem Ty.aM {w : List sx_C} (h : Ty w) {a : Nat} (ha : 112 ≤ a ∧ a ≤ 115) : w[a]? = some (.inl (0, ia w a)) ∧ (ia w a).length = 172 := by
  rcases (show a = 112 ∨ a = 113 ∨ a = 114 ∨ a = 115 by omega) with rfl | rfl | rfl | rfl
  · exact h.a112
  · exact h.a113
  · exact h.a114
  · exact h.a115
theorem eOK_g {g c : Nat} {v : Int32} (hg : g < 10) (hc : c < 6) (hv : gR c v) : eOK (103 + 6 * g + c) v := by
  unfold eOK
  refine ⟨fun z => by omega, fun z => by omega, fun z => by omega, fun z => ?_, fun z => ?_, fun z => ?_, fun z => ?_, fun z => ?_, fun z => by omega⟩
  · obtain rfl : c = 0 := by omega
    exact hv
  · obtain rfl : c = 1 := by omega
    exact hv
  · obtain rfl : c = 2 := by omega
    exact hv
  · obtain rfl : c = 3 := by omega
    exact hv
  · obtain rfl : c = 5 := by omega
    exact hv
theorem eOK_n {k : Nat} {v : Int32} (h : k = 0 ∨ (3 ≤ k ∧ k ≤ 6) ∨ (55 ≤ k ∧ k < 103)) : eOK k v := by
  unfold eOK
  refine ⟨fun z => by omega, fun z => by omega, fun z => by omega, fun z => by omega, fun z => by omega, fun z => by omega, fun z => by omega, fun z => by omega, fun z => by omega⟩
theorem eOK_1 {v : Int32} (h : inR v 10) : eOK 1 v := by
  unfold eOK
  refine ⟨fun _ => h, fun z => by omega, fun z => by omega, fun z => by omega, fun z => by omega, fun z => by omega, fun z => by omega, fun z => by omega, fun z => by omega⟩
theorem eOK_2 {v : Int32} (h : inR v 9) : eOK 2 v := by
  unfold eOK
  refine ⟨fun z => by omega, fun _ => h, fun z => by omega, fun z => by omega, fun z => by omega, fun z => by omega, fun z => by omega, fun z => by omega, fun z => by omega⟩
theorem eOK_st {k : Nat} {v : Int32} (hk : 7 ≤ k ∧ k < 55) (h : inR v 3) : eOK k v := by
  unfold eOK
  refine ⟨fun z => by omega, fun z => by omega, fun _ => h, fun z => by omega, fun z => by omega, fun z => by omega, fun z => by omega, fun z => by omega, fun z => by omega⟩
theorem eOK_d {k : Nat} {v : Int32} (hk : 163 ≤ k) (h : inR v 47) : eOK k v := by
  unfold eOK
  refine ⟨fun z => by omega, fun z => by omega, fun z => by omega, fun z => by omega, fun z => by omega, fun z => by omega, fun z => by omega, fun z => by omega, fun _ => h⟩
theorem sOK.set {l : List Int32} {i : Nat} {v : Int32} (h : sOK l) (hl : l.length = 172) (hi : i < 172) (hv : eOK i v) : sOK (l.set i v) := by
  intro k hk
  rw [List.getD_eq_getElem?_getD, List.getElem?_set]
  by_cases e : i = k
  · subst e
    rw [if_pos rfl, if_pos (by omega)]
    exact hv
  · rw [if_neg e, ← List.getD_eq_getElem?_getD]
    exact h k hk
section SXMR
variable {xs : Option (List Int32)} {d mi pc pc2 a idx p : Nat} {ls : sx_L} {r : List Value} {w w0 : List sx_C} {P : Option Value → List sx_C → Prop}
theorem sx_RP.mS {i x : Int32} {k : Nat} (hI : WI w) (hE : EM w0 w) (ha : 112 ≤ a ∧ a ≤ 115) (hi : sx_ins mi pc = some (.iastore, 1)) (hx : i = nI k) (hk : k < 172) (hv : eOK k x) (hp : pc + 1 = pc2) (kk : ∀ w2, WI w2 → EM w0 w2 → (∀ j, j < 172 → j ≠ k → (ia w2 112).getD j 0 = (ia w 112).getD j 0) → sx_RP xs d mi pc2 ls r w2 P) : sx_RP xs d mi pc ls (.int x :: .int i :: .ref a :: r) w P := by
  subst hx
  have hw := hI.1.aM ha
  refine sx_RP.ist (c := k) hi hw.1 hw.2 (sx_in_nI hk (by decide)) (nI_clamp (by omega)) rfl hp (kk _ (hI.set hw.1 sh_set (cOK.s ha ((hI.sA ha).set hw.2 hk hv))) (hE.set hw.1 (by omega) (kp_n (by omega))) ?_)
  intro j hj hne
  by_cases e : a = 112
  · subst e
    rw [ia_set hw.1, List.getD_eq_getElem?_getD, List.getElem?_set_ne (Ne.symm hne), ← List.getD_eq_getElem?_getD]
  · rw [ia_ne (Ne.symm e)]
theorem sx_RP.mF {i x : Int32} {n : Nat} (hI : WI w) (hE : EM w0 w) (hi : sx_ins mi pc = some (.iastore, 1)) (hw : w[a]? = some (.inl (0, ia w a)) ∧ (ia w a).length = n) (hn : sx_in i n = true) (hf : a = 116 ∨ a = 117 ∨ a = 119 ∨ a = 121) (hp : pc + 1 = pc2) (kk : ∀ w2, WI w2 → EM w0 w2 → (∀ j, (ia w2 112).getD j 0 = (ia w 112).getD j 0) → sx_RP xs d mi pc2 ls r w2 P) : sx_RP xs d mi pc ls (.int x :: .int i :: .ref a :: r) w P :=
  sx_RP.ist hi hw.1 hw.2 hn rfl rfl hp (kk _ (hI.set hw.1 sh_set (cOK.free (by omega))) (hE.set hw.1 (by omega) (kp_n (by omega))) (fun j => by rw [ia_ne (by omega)]))
theorem sx_RP.mB {i x : Int32} {n : Nat} (hI : WI w) (hE : EM w0 w) (hi : sx_ins mi pc = some (.bastore, 1)) (hw : w[a]? = some (.inl (1, ia w a)) ∧ (ia w a).length = n) (hn : sx_in i n = true) (hf : a = 118 ∨ a = 120) (hp : pc + 1 = pc2) (kk : ∀ w2, WI w2 → EM w0 w2 → (∀ j, (ia w2 112).getD j 0 = (ia w 112).getD j 0) → sx_RP xs d mi pc2 ls r w2 P) : sx_RP xs d mi pc ls (.int x :: .int i :: .ref a :: r) w P :=
  sx_RP.bst1 hi hw.1 hw.2 hn rfl rfl hp (kk _ (hI.set hw.1 sh_set (cOK.free (by omega))) (hE.set hw.1 (by omega) (kp_n (by omega))) (fun j => by rw [ia_ne (by omega)]))
theorem sx_RP.mN {i : Int32} {x : Int64} {n : Nat} (hI : WI w) (hE : EM w0 w) (hi : sx_ins mi pc = some (.lastore, 1)) (hw : w[a]? = some (.inr (.inl (3, ja w a))) ∧ (ja w a).length = n) (hn : sx_in i n = true) (hf : a = 124 ∨ a = 125) (hp : pc + 1 = pc2) (kk : ∀ w2, WI w2 → EM w0 w2 → (∀ j, (ia w2 112).getD j 0 = (ia w 112).getD j 0) → sx_RP xs d mi pc2 ls r w2 P) : sx_RP xs d mi pc ls (.long x :: .int i :: .ref a :: r) w P := by
  have hl := hw.2
  subst hl
  exact sx_RP.last hi hw.1 hn rfl hp (kk _ (hI.set hw.1 shj_set (cOK.free (by omega))) (hE.set hw.1 (by omega) (kp_n (by omega))) (fun j => by rw [ia_ne (by omega)]))
def mR (k : Nat) (v : Int32) : Prop := match k with
  | 12 => inR v 120
  | _ => True
theorem sx_RP.pm {k : Nat} {v : Int32} (hI : WI w) (hE : EM w0 w) (hi : sx_ins mi pc = some (.putfield idx, 3)) (hq : sx_lk (sx_fl (sx_own mi)) idx = some (6, k, p)) (hk : 12 ≤ k ∧ k < 15) (hf : sx_fin mi 6 k = true) (hv : mR k v) (hp : pc + 3 = pc2) (kk : ∀ w2, WI w2 → EM w0 w2 → fi w2 111 k = v → (∀ j, j ≠ k → fi w2 111 j = fi w 111 j) → (∀ a, a ≠ 111 → w2[a]? = w[a]?) → sx_RP xs d mi pc2 ls r w2 P) : sx_RP xs d mi pc ls (.int v :: .ref 111 :: r) w P := by
  have hw := hI.1.o111
  have q := hI.m
  have hfs : fs_ w 111 = [.ref 112, .ref 113, .ref 114, .ref 115, .int (fi w 111 4), .ref 116, .ref 117, .ref 118, .ref 119, .ref 120, .ref 121, .int (fi w 111 11), .int (fi w 111 12), .int (fi w 111 13), .int (fi w 111 14), .ref 122, .ref 123, .ref 124, .ref 125] := by unfold fs_; rw [hw]
  have hne : ∀ (fs : List Value) (j : Nat), j ≠ k → fi (w.set 111 (.inr (.inr (.inr (6, fs.set k (.int v)))))) 111 j = vi fs[j]? := by
    intro fs j hj
    unfold fi
    rw [fs_set hw, List.getElem?_set_ne (Ne.symm hj)]
  have hfr : ∀ (c : sx_C) (a : Nat), a ≠ 111 → (w.set 111 c)[a]? = w[a]? := fun c a ha => List.getElem?_set_ne (Ne.symm ha)
  rcases (show k = 12 ∨ k = 13 ∨ k = 14 by omega) with rfl | rfl | rfl
  · refine sx_RP.pf hi hq hw (by rw [hf]; rfl) rfl rfl hp (kk _ (hI.set hw rfl (cOK.m ⟨q.1, q.2.1, hv⟩)) (hE.set hw (by decide) rfl) (by unfold fi; rw [fs_set hw]; rfl) (fun j hj => ?_) (hfr _))
    rw [hne _ j hj, ← hfs]
    rfl
  · refine sx_RP.pf hi hq hw (by rw [hf]; rfl) rfl rfl hp (kk _ (hI.set hw rfl (cOK.m q)) (hE.set hw (by decide) rfl) (by unfold fi; rw [fs_set hw]; rfl) (fun j hj => ?_) (hfr _))
    rw [hne _ j hj, ← hfs]
    rfl
  · refine sx_RP.pf hi hq hw (by rw [hf]; rfl) rfl rfl hp (kk _ (hI.set hw rfl (cOK.m q)) (hE.set hw (by decide) rfl) (by unfold fi; rw [fs_set hw]; rfl) (fun j hj => ?_) (hfr _))
    rw [hne _ j hj, ← hfs]
    rfl
end SXMR
section SXMT
variable {xs : Option (List Int32)} {d : Nat} {w : List sx_C} {x : Int32}
theorem cx_131n (q : ¬ (0 ≤ x ∧ x ≤ 47)) : sx_RU xs (d + 1) 131 0 (lv_args 0 [.int x]) [] w (some (.int 0)) w := by
  refine sx_RU.step rfl rfl (sx_RU.step rfl rfl (sx_RU.step rfl rfl ?_))
  exact sx_RU.call rfl rfl rfl rfl (cx_132o q) (sx_RU.ret rfl rfl)
theorem cx_131p (q : 0 ≤ x ∧ x ≤ 47) : sx_RU xs (d + 1) 131 0 (lv_args 0 [.int x]) [] w (some (.int 1)) w := by
  refine sx_RU.step rfl rfl (sx_RU.step rfl rfl (sx_RU.step rfl rfl ?_))
  exact sx_RU.call rfl rfl rfl rfl (cx_132p q) (sx_RU.ret rfl rfl)
theorem cx_151n (q : ¬ (0 ≤ x ∧ x ≤ 5)) : sx_RU xs (d + 1) 151 0 (lv_args 0 [.int x]) [] w (some (.int 0)) w := by
  refine sx_RU.step rfl rfl (sx_RU.step rfl rfl (sx_RU.step rfl rfl ?_))
  exact sx_RU.call rfl rfl rfl rfl (cx_132o q) (sx_RU.ret rfl rfl)
theorem cx_151p (q : 0 ≤ x ∧ x ≤ 5) : sx_RU xs (d + 1) 151 0 (lv_args 0 [.int x]) [] w (some (.int 1)) w := by
  refine sx_RU.step rfl rfl (sx_RU.step rfl rfl (sx_RU.step rfl rfl ?_))
  exact sx_RU.call rfl rfl rfl rfl (cx_132p q) (sx_RU.ret rfl rfl)
theorem cx_152n (q : ¬ (0 ≤ x ∧ x ≤ 3)) : sx_RU xs (d + 1) 152 0 (lv_args 0 [.int x]) [] w (some (.int 0)) w := by
  refine sx_RU.step rfl rfl (sx_RU.step rfl rfl (sx_RU.step rfl rfl ?_))
  exact sx_RU.call rfl rfl rfl rfl (cx_132o q) (sx_RU.ret rfl rfl)
theorem cx_152p (q : 0 ≤ x ∧ x ≤ 3) : sx_RU xs (d + 1) 152 0 (lv_args 0 [.int x]) [] w (some (.int 1)) w := by
  refine sx_RU.step rfl rfl (sx_RU.step rfl rfl (sx_RU.step rfl rfl ?_))
  exact sx_RU.call rfl rfl rfl rfl (cx_132p q) (sx_RU.ret rfl rfl)
theorem cx_197n (q : ¬ (1 ≤ x ∧ x ≤ 30)) : sx_RU xs (d + 1) 197 0 (lv_args 0 [.int x]) [] w (some (.int 0)) w := by
  refine sx_RU.step rfl rfl (sx_RU.step rfl rfl (sx_RU.step rfl rfl ?_))
  exact sx_RU.call rfl rfl rfl rfl (cx_132o q) (sx_RU.ret rfl rfl)
theorem cx_197p (q : 1 ≤ x ∧ x ≤ 30) : sx_RU xs (d + 1) 197 0 (lv_args 0 [.int x]) [] w (some (.int 1)) w := by
  refine sx_RU.step rfl rfl (sx_RU.step rfl rfl (sx_RU.step rfl rfl ?_))
  exact sx_RU.call rfl rfl rfl rfl (cx_132p q) (sx_RU.ret rfl rfl)
theorem cx_231n (q : ¬ (0 ≤ x ∧ x ≤ 3)) : sx_RU xs (d + 1) 231 0 (lv_args 0 [.int x]) [] w (some (.int 0)) w := by
  refine sx_RU.step rfl rfl (sx_RU.step rfl rfl (sx_RU.step rfl rfl ?_))
  exact sx_RU.call rfl rfl rfl rfl (cx_132o q) (sx_RU.ret rfl rfl)
theorem cx_231p (q : 0 ≤ x ∧ x ≤ 3) : sx_RU xs (d + 1) 231 0 (lv_args 0 [.int x]) [] w (some (.int 1)) w := by
  refine sx_RU.step rfl rfl (sx_RU.step rfl rfl (sx_RU.step rfl rfl ?_))
  exact sx_RU.call rfl rfl rfl rfl (cx_132p q) (sx_RU.ret rfl rfl)
theorem cx_218n (q : ¬ (97 ≤ x ∧ x ≤ 122)) : sx_RU xs (d + 1) 218 0 (lv_args 0 [.int x]) [] w (some (.int 0)) w := by
  refine sx_RU.step rfl rfl (sx_RU.step rfl rfl (sx_RU.step rfl rfl ?_))
  exact sx_RU.call rfl rfl rfl rfl (cx_132o q) (sx_RU.ret rfl rfl)
theorem cx_218p (q : 97 ≤ x ∧ x ≤ 122) : sx_RU xs (d + 1) 218 0 (lv_args 0 [.int x]) [] w (some (.int 1)) w := by
  refine sx_RU.step rfl rfl (sx_RU.step rfl rfl (sx_RU.step rfl rfl ?_))
  exact sx_RU.call rfl rfl rfl rfl (cx_132p q) (sx_RU.ret rfl rfl)
theorem cx_221n (q : ¬ (48 ≤ x ∧ x ≤ 57)) : sx_RU xs (d + 1) 221 0 (lv_args 0 [.int x]) [] w (some (.int 0)) w := by
  refine sx_RU.step rfl rfl (sx_RU.step rfl rfl (sx_RU.step rfl rfl ?_))
  exact sx_RU.call rfl rfl rfl rfl (cx_132o q) (sx_RU.ret rfl rfl)
theorem cx_221p (q : 48 ≤ x ∧ x ≤ 57) : sx_RU xs (d + 1) 221 0 (lv_args 0 [.int x]) [] w (some (.int 1)) w := by
  refine sx_RU.step rfl rfl (sx_RU.step rfl rfl (sx_RU.step rfl rfl ?_))
  exact sx_RU.call rfl rfl rfl rfl (cx_132p q) (sx_RU.ret rfl rfl)
end SXMT
theorem ia_of {w w2 : List sx_C} {a : Nat} (h : w2[a]? = w[a]?) : ia w2 a = ia w a := by
  unfold ia
  rw [h]
