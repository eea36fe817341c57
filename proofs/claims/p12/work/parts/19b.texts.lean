-- the texts at the law's start
def sx_kx : List Nat := [88, 59, 136, 156, 50, 154, 146, 152, 111, 86, 148, 115, 140, 138, 150, 82, 76, 144, 142, 94]
def sx_km : List Nat := [285, 328, 292, 312, 326, 310, 302, 308, 288, 280, 304, 290, 296, 294, 306, 278, 276, 300, 298, 287]
def sx_qx : List (Nat × Nat × Nat × Nat × Nat × Nat) := [(212, 213, 214, 215, 216, 401), (233, 234, 235, 236, 237, 428), (93, 94, 95, 96, 97, 270), (186, 187, 188, 189, 190, 374), (225, 226, 227, 228, 229, 418), (177, 178, 179, 180, 181, 365), (140, 141, 142, 143, 144, 326), (169, 170, 171, 172, 173, 355), (242, 243, 244, 245, 246, 439), (204, 205, 206, 207, 208, 394), (151, 152, 153, 154, 155, 338), (252, 253, 254, 255, 256, 450), (109, 110, 111, 112, 113, 288), (101, 102, 103, 104, 105, 279), (162, 163, 164, 165, 166, 346), (194, 195, 196, 197, 198, 385), (134, 135, 136, 137, 138, 314), (126, 127, 128, 129, 130, 307), (117, 118, 119, 120, 121, 298), (218, 219, 220, 221, 222, 409)]
def sx_qq (k : Nat) : Nat × Nat × Nat × Nat × Nat × Nat := sx_qx.getD k (0, 0, 0, 0, 0, 0)
def sx_tm (k : Nat) : Term := .string "PeasDrum$Text" (sx_kx.getD k 0)
def sx_tn (k : Nat) : Term := .string "PeasDrumModel" (sx_km.getD k 0)
theorem sx_kSok : (List.range 12).all (fun o => (sx_kS o).all (fun e => decide (lw_tbl[e.2.2]? = some (.stringRef (sx_cn.getD o "") e.1 (sx_tx.getD e.2.1 ""))) && Nat.blt e.2.1 20 && (Nat.beq o 4 && Nat.beq e.1 (sx_kx.getD e.2.1 0) || Nat.beq o 6 && Nat.beq e.1 (sx_km.getD e.2.1 0)))) = true := by decide +kernel
theorem sx_q_ex : ∀ k, k < 20 → (flatC (Jvm.Cond.and given_1 narrow_1))[(sx_qq k).1]? = some (Cond.exactly (sx_tm k) "java/lang/String") := by decide +kernel
theorem sx_q_co : ∀ k, k < 20 → (flatC (Jvm.Cond.and given_1 narrow_1))[(sx_qq k).2.1]? = some (Cond.eq (.field (sx_tm k) "java/lang/String" "coder" "B") (.int 0)) := by decide +kernel
theorem sx_q_ar : ∀ k, k < 20 → (flatC (Jvm.Cond.and given_1 narrow_1))[(sx_qq k).2.2.1]? = some (Cond.arrayOf (.field (sx_tm k) "java/lang/String" "value" "[B") .byte) := by decide +kernel
theorem sx_q_le : ∀ k, k < 20 → (flatC (Jvm.Cond.and given_1 narrow_1))[(sx_qq k).2.2.2.1]? = some (Cond.eq (.length (.field (sx_tm k) "java/lang/String" "value" "[B")) (.int (Int32.ofNat (sx_sn.getD k 0)))) := by decide +kernel
theorem sx_q_eq : ∀ k, k < 20 → (flatC (Jvm.Cond.and given_1 narrow_1))[(sx_qq k).2.2.2.2.2]? = some (Cond.eq (sx_tm k) (sx_tn k)) := by decide +kernel
theorem sx_q_el : ∀ k, k < 20 → ∀ j, j < sx_sn.getD k 0 → (flatC (Jvm.Cond.and given_1 narrow_1))[(sx_qq k).2.2.2.2.1 + j]? = some (Cond.eq (.elem (.field (sx_tm k) "java/lang/String" "value" "[B") (.int (Int32.ofNat j))) (.int ((sx_sb.getD k []).getD j 0))) := by decide +kernel
theorem sx_q_ln : ∀ k, k < 20 → sx_sn.getD k 0 < 2 ^ 31 := by decide +kernel
theorem sx_texts {args : Array Value} {s : State} {h0 : Nat} (hts : ∀ w ∈ lw_tbl, w.before args s = true) (hs : ∀ c ∈ flatC (Jvm.Cond.and given_1 narrow_1), c.before args s = true) (hA : ∀ a : Nat, a < s.heap.size → ¬ sx_A h0 a) : ∃ adK adV : Nat → Nat, ∀ sa : Nat → Nat, (∀ k, k < 20 → sa (100 + k) = adK k ∧ sa (200 + k) = adV k) → sx_TX h0 sa s s.heap := by
  have h0 : ∀ i : Nat, ∃ q : Nat × Nat, i < 20 → (sx_tm i).eval args s none [] s = some (.ref q.1) ∧ va_O "java/lang/String" q.1 (sx_A h0) s s.heap ∧ va_OF "java/lang/String" "coder" "B" (.int 0) q.1 (sx_A h0) s s.heap ∧ va_OF "java/lang/String" "value" "[B" (.ref q.2) q.1 (sx_A h0) s s.heap ∧ va_T .byte q.2 (sx_sn.getD i 0) (fun j => .int ((sx_sb.getD i []).getD j 0)) (sx_A h0) s s.heap := by
    intro i
    by_cases hi : i < 20
    · have hm : ∀ {j : Nat} {c : Cond}, (flatC (Jvm.Cond.and given_1 narrow_1))[j]? = some c → c.before args s = true := fun h => hs _ (List.mem_of_getElem? h)
      obtain ⟨a, c, cA, kA, q1, q2, q3, q4, q5, q6, -⟩ := Cond.exactly_spec (args := args) (first := s) (o := none) (s := s) (idx := []) (t := sx_tm i) (cls := "java/lang/String") (hm (sx_q_ex i hi))
      obtain ⟨t, ht, hT⟩ := va_Tof (f := fun j => .int ((sx_sb.getD i []).getD j 0)) (A := sx_A h0) (sx_q_ln i hi) (hm (sx_q_ar i hi)) (va_eqt (hm (sx_q_le i hi))) (fun j hj => va_eqt (hm (sx_q_el i hi j hj))) hA
      exact ⟨(a, t), fun _ => ⟨q1, ⟨cA, q3, q5, by rw [q6]; exact q2, hA a (Array.getElem?_eq_some_iff.mp q3).1⟩, vk_OFof q1 (va_eqt (hm (sx_q_co i hi))) hA, vk_OFof q1 ht hA, hT⟩⟩
    · exact ⟨(0, 0), fun h => absurd h hi⟩
  obtain ⟨ad, had⟩ := Classical.axiomOfChoice h0
  refine ⟨fun i => (ad i).1, fun i => (ad i).2, fun sa hsa => ⟨?_, ?_, ?_, ?_⟩⟩
  · intro o q hq
    by_cases ho : o < 12
    · have h1 := List.all_eq_true.mp (sx_all sx_kSok ho) _ hq
      simp only [Bool.and_eq_true, Bool.or_eq_true] at h1
      obtain ⟨⟨h2, h3⟩, h4⟩ := h1
      have hk : q.2.1 < 20 := Nat.le_of_ble_eq_true h3
      have hev := (had q.2.1 hk).1
      rw [(hsa q.2.1 hk).1]
      refine vk_R.of (A := args) (hts _ (sx_memp h2)) ?_
      rcases h4 with ⟨h5, h6⟩ | ⟨h5, h6⟩
      · rw [Nat.eq_of_beq_eq_true h5, Nat.eq_of_beq_eq_true h6]
        exact hev
      · rw [Nat.eq_of_beq_eq_true h5, Nat.eq_of_beq_eq_true h6]
        exact va_eqR (hs _ (List.mem_of_getElem? (sx_q_eq q.2.1 hk))) hev
    · have e : sx_kS o = [] := by
        unfold sx_kS
        split
        · omega
        · omega
        · rfl
      rw [e] at hq
      cases hq
  · intro k hk
    rw [(hsa k hk).1, (hsa k hk).2]
    exact (had k hk).2
  · exact va_Zof (hts _ (sx_memp (i := 713) (by decide +kernel))) (hts _ (sx_memp (i := 87) (by decide +kernel))) (va_eqi (hs _ (List.mem_of_getElem? (i := 74) (by decide +kernel)))) hA
  · exact va_Zqof (hts _ (sx_memp (i := 729) (by decide +kernel))) (hts _ (sx_memp (i := 89) (by decide +kernel))) (hs _ (List.mem_of_getElem? (i := 75) (by decide +kernel))) hA
/-- where the static arrays, the script and the texts lie -/
def sx_sa (t0 t1 t2 t3 b : Nat) (adK adV : Nat → Nat) (k : Nat) : Nat := if 200 ≤ k then adV (k - 200) else if 100 ≤ k then adK (k - 100) else match k with
  | 0 => t0
  | 1 => t1
  | 2 => t2
  | 3 => t3
  | _ => b
theorem sx_sa_t {t0 t1 t2 t3 b : Nat} {adK adV : Nat → Nat} : ∀ k, k < 20 → sx_sa t0 t1 t2 t3 b adK adV (100 + k) = adK k ∧ sx_sa t0 t1 t2 t3 b adK adV (200 + k) = adV k := by
  intro k hk
  unfold sx_sa
  rw [if_neg (by omega), if_pos (by omega), if_pos (by omega), Nat.add_sub_cancel_left, Nat.add_sub_cancel_left]
  exact ⟨rfl, rfl⟩
