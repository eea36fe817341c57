-- what the law keeps: the bread's ranges, bytes in rows of bytes
theorem BR.same {b b2 : BB} (h : BR b) (e : b2.2.2 = b.2.2) : BR b2 := by
  unfold BR at h ⊢
  rw [e]
  exact h
theorem BR.o {b : BB} {o : Nat} (h : BR b) (ho : o ≤ 999999) : BR (setO (nI o) b) := by
  obtain ⟨_, m, r, _, _, h3⟩ := h
  exact ⟨o, m, r, rfl, ho, h3⟩
theorem BR.m {b : BB} {m : Nat} (h : BR b) (h1 : 1 ≤ m) (h2 : m ≤ 999) : BR (setM (nI m) b) := by
  obtain ⟨o, _, r, q1, q2, _, _, _, q6⟩ := h
  exact ⟨o, m, r, q1, q2, rfl, h1, h2, q6⟩
theorem BR.r {b : BB} {r : Nat} (h : BR b) (h1 : 1 ≤ r) (h2 : r ≤ 99) : BR (setR (nI r) b) := by
  obtain ⟨o, m, _, q1, q2, q3, q4, q5, _⟩ := h
  exact ⟨o, m, r, q1, q2, q3, q4, q5, rfl, h1, h2⟩
theorem rngB {a : Int32} {lo hi : Nat} (h1 : nI lo ≤ a) (h2 : a ≤ nI hi) (hl : lo < 2 ^ 31) (hh : hi < 2 ^ 31) : ∃ x, lo ≤ x ∧ x ≤ hi ∧ a = nI x := by
  have h0 : ¬ a < 0 := by
    intro z
    rw [Int32.lt_iff_toInt_lt, show (0 : Int32).toInt = 0 by decide] at z
    rw [Int32.le_iff_toInt_le, nI_toInt hl] at h1
    omega
  obtain ⟨x, hx, rfl⟩ := nI_of h0
  exact ⟨x, (nI_leI hl hx).mp h1, (nI_leI hx hh).mp h2, rfl⟩
def GT (t : BT) : Prop := BR t.1 ∧ (t.2.1 = 1 → BR t.2.2.1)
section SXGT
variable {t : BT}
theorem GT.c {b : BB} (h : GT t) (hb : BR b) : GT (b, t.2) := ⟨hb, h.2⟩
theorem GT.gal (h : GT t) (a1 a2 a3 a4 : Int32) : GT (galU t a1 a2 a3 a4) := by
  unfold galU
  split
  · split
    · exact h.c (h.1.same rfl)
    · exact h
  · exact h
theorem GT.bec (h : GT t) (a1 a2 : Int32) : GT (becU t a1 a2) := by
  unfold becU
  split
  · exact h.c (h.1.same rfl)
  · exact h
theorem GT.dis (h : GT t) (a1 : Int32) : GT (disU t a1) := by
  unfold disU
  split
  · split
    · exact h.c (h.1.same rfl)
    · exact h
  · exact h
theorem GT.mov (h : GT t) (a1 a2 : Int32) : GT (movU t a1 a2) := by
  unfold movU
  split
  · exact h.c (h.1.same rfl)
  · exact h
theorem GT.bre (h : GT t) (a1 a2 : Int32) : GT (breU t a1 a2) := by
  unfold breU
  split
  · rename_i q
    obtain ⟨x, _, h2, rfl⟩ := rngB (lo := 0) (hi := 999999) q.2.1 q.2.2 (by decide) (by decide)
    exact h.c (h.1.o h2)
  · split
    · rename_i q
      obtain ⟨x, h1, h2, rfl⟩ := rngB (lo := 1) (hi := 999) q.2.1 q.2.2 (by decide) (by decide)
      exact h.c (h.1.m h1 h2)
    · split
      · rename_i q
        obtain ⟨x, h1, h2, rfl⟩ := rngB (lo := 1) (hi := 99) q.2.1 q.2.2 (by decide) (by decide)
        exact h.c (h.1.r h1 h2)
      · exact h
theorem GT.img (h : GT t) : GT (imgU t) := ⟨h.1, fun _ => h.1⟩
theorem GT.und (h : GT t) : GT (undU t) := by
  unfold undU
  split
  · rename_i q
    exact ⟨h.2 q, h.2⟩
  · exact h
theorem GT.tea (h : GT t) : GT (teaU t) := ⟨h.1, fun z => absurd (show (0 : Int32) = 1 from z) (by decide)⟩
theorem GT.wip (h : GT t) : GT (wipU t) := ⟨h.1, h.2⟩
theorem GT.fee (h : GT t) (a1 a2 : Int32) : GT (feeU t a1 a2) := by
  unfold feeU
  split
  · split
    · exact ⟨h.1, h.2⟩
    · exact h
  · exact h
end SXGT
section SXBT
variable {n : Nat} {X : Nat → Nat}
theorem grT_b {b : BB} {last p : Nat} : (grT n X b last p).2.2 = b := by
  unfold grT
  split
  · split <;> rfl
  · rfl
theorem grL_b {b : BB} : ∀ f last p, (grL n X b f last p).2.2 = b
  | 0, last, p => grT_b
  | f + 1, last, p => by
    unfold grL
    split
    · split
      · exact grL_b f _ _
      · rfl
    · exact grT_b
theorem groT_b {b : BB} {p : Nat} : (groT n X p b).2.2 = b := by
  unfold groT
  split
  · exact grL_b _ _ _
  · rfl
theorem br2_b {b : BB} {p : Nat} (h : BR b) : BR (br2 n X p b).2.2 := by
  unfold br2
  split
  · split
    · rename_i q
      have e := wtT_t q
      have v := nmT_in e.2.1
      rw [e.2.2]
      exact h.r v.1 v.2
    · exact h
  · exact h
theorem br1_b {b : BB} {p : Nat} (h : BR b) : BR (br1 n X p b).2.2 := by
  unfold br1
  split
  · split
    · rename_i q
      have e := wtT_t q
      have v := nmT_in e.2.1
      rw [e.2.2]
      exact br2_b (h.m v.1 v.2)
    · exact h
  · exact br2_b h
theorem breT_b {b : BB} {p : Nat} (h : BR b) : BR (breT n X p b).2.2 := by
  unfold breT
  split
  · rename_i q
    exact br1_b (h.o (nmT_in q).2)
  · exact h
theorem disT_b {b : BB} {p : Nat} (h : BR b) : BR (disT n X p b).2.2 := by
  unfold disT
  split
  · split
    · exact h.same rfl
    · exact h
  · exact h
theorem galT_b {b : BB} {k p : Nat} (h : BR b) : BR (galT n X k p b).2.2 := by
  unfold galT
  split
  · split
    · split
      · split
        · exact h.same rfl
        · exact h
      · exact h
    · exact h
  · exact h
theorem itT_b {b : BB} {p : Nat} (h : BR b) : BR (itT n X p b).2.2 := by
  unfold itT
  split
  · split
    · split
      · exact disT_b h
      · split
        · exact breT_b h
        · exact h
    · exact galT_b h
  · rw [groT_b]
    exact h
theorem teL_b : ∀ (f it p : Nat) (b : BB), BR b → BR (teL n X f it p b).2
  | 0, it, p, b, h => h
  | f + 1, it, p, b, h => by
    unfold teL
    split
    · split
      · exact itT_b h
      · split
        · exact teL_b f _ _ _ (itT_b h)
        · exact h
    · exact h
end SXBT
theorem GT.sie {t : BT} (h : GT t) : GT (sieU t) := by
  refine ⟨?_, h.2⟩
  show BR (if 0 ≤ (sieT t).1 then (sieT t).2 else t.1)
  split
  · exact teL_b _ _ _ _ h.1
  · exact h.1
-- bytes
def bOK (w : List sx_C) : Prop := ∀ (a : Nat) (l : List Int32), w[a]? = some (.inl (2, l)) → ∀ v, v ∈ l → ∃ j, j < 256 ∧ v = sgn j
def sx_by (w w2 : List sx_C) : Prop := bOK w → bOK w2
theorem sx_by.rf (w : List sx_C) : sx_by w w := id
theorem sx_by.of {w w2 : List sx_C} (h : w2 = w) : sx_by w w2 := by subst h; exact sx_by.rf w2
theorem sx_by.tr {a b c : List sx_C} (h : sx_by a b) (h2 : sx_by b c) : sx_by a c := fun z => h2 (h z)
theorem sx_by.set {w : List sx_C} {a : Nat} {c : sx_C} (hc : bOK w → ∀ l : List Int32, c = .inl (2, l) → ∀ v, v ∈ l → ∃ j, j < 256 ∧ v = sgn j) : sx_by w (w.set a c) := by
  intro hb b l hl
  by_cases e : a = b
  · subst e
    have hlt : a < w.length := by
      have := (List.getElem?_eq_some_iff.mp hl).1
      rwa [List.length_set] at this
    rw [List.getElem?_set_self hlt] at hl
    exact hc hb l (Option.some.inj hl)
  · rw [List.getElem?_set_ne e] at hl
    exact hb b l hl
theorem nar_back : ∀ c : Fin 256, (nI c.val).toInt8.toBitVec = BitVec.ofNat 8 c.val := by decide +kernel
theorem nar_sgn (x : Int32) : ∃ j, j < 256 ∧ vp_nar .byte x = sgn j := by
  have hlt : x.toInt8.toBitVec.toNat < 256 := x.toInt8.toBitVec.isLt
  refine ⟨x.toInt8.toBitVec.toNat, hlt, ?_⟩
  rw [vp_nar_byte]
  unfold sgn
  congr 1
  apply Int8.toBitVec_inj.mp
  rw [nar_back ⟨_, hlt⟩]
  simp
theorem sx_y_pf {mi : Nat} {idx : Nat} {ls : sx_L} {pc : Nat} {st : List Value} {w : List sx_C} {F : sx_F} (h : sx_pf mi idx ls pc st w = some F) : sx_by w F.2.2.2 := by
  simp only [sx_pf, Bool.cond_eq_ite] at h
  (repeat' split at h) <;> first | (cases h; done) | (cases h; exact sx_by.set (fun _ l e => by cases e))
theorem sx_y_iast {ls : sx_L} {pc : Nat} {st : List Value} {w : List sx_C} {F : sx_F} (h : sx_iast ls pc st w = some F) : sx_by w F.2.2.2 := by
  simp only [sx_iast, Bool.cond_eq_ite] at h
  (repeat' split at h) <;> first | (cases h; done) | (cases h; exact sx_by.set (fun _ l e => absurd (Prod.mk.inj (Sum.inl.inj e)).1 (by decide)))
theorem sx_y_bast {ls : sx_L} {pc : Nat} {st : List Value} {w : List sx_C} {F : sx_F} (h : sx_bast ls pc st w = some F) : sx_by w F.2.2.2 := by
  simp only [sx_bast, Bool.cond_eq_ite] at h
  (repeat' split at h) <;> first | (cases h; done) | (cases h; exact sx_by.set (fun _ l e => absurd (Prod.mk.inj (Sum.inl.inj e)).1 (by decide))) | skip
  rename_i x i a r l0 hl0 hin
  cases h
  refine sx_by.set (fun hb l e v hv => ?_)
  have e2 := (Prod.mk.inj (Sum.inl.inj e)).2
  subst e2
  rcases List.mem_or_eq_of_mem_set hv with q | q
  · exact hb _ _ hl0 v q
  · rw [q]
    exact nar_sgn _
theorem sx_y_last {ls : sx_L} {pc : Nat} {st : List Value} {w : List sx_C} {F : sx_F} (h : sx_last ls pc st w = some F) : sx_by w F.2.2.2 := by
  simp only [sx_last, Bool.cond_eq_ite] at h
  (repeat' split at h) <;> first | (cases h; done) | (cases h; exact sx_by.set (fun _ l e => by cases e))
theorem sx_y_aast {ls : sx_L} {pc : Nat} {st : List Value} {w : List sx_C} {F : sx_F} (h : sx_aast ls pc st w = some F) : sx_by w F.2.2.2 := by
  simp only [sx_aast, Bool.cond_eq_ite] at h
  (repeat' split at h) <;> first | (cases h; done) | (cases h; exact sx_by.set (fun _ l e => by cases e))
theorem sx_y_acp {o idx : Nat} {ls : sx_L} {pc : Nat} {st : List Value} {w : List sx_C} {F : sx_F} (h : sx_acp o idx ls pc st w = some F) : sx_by w F.2.2.2 := by
  simp only [sx_acp, Bool.cond_eq_ite] at h
  (repeat' split at h) <;> first | (cases h; done) | (cases h; exact sx_by.set (fun _ l e => by cases e)) | (cases h; exact sx_by.set (fun _ l e => absurd (Prod.mk.inj (Sum.inl.inj e)).1 (by decide)))
set_option maxHeartbeats 4000000 in
theorem sx_y_step {md : Bool} (hm : md = false) {xs : Option (List Int32)} {mi pc n : Nat} {i : Instr} {ls : sx_L} {st : List Value} {w : List sx_C} {F : sx_F} (h : sx_step md xs mi pc i n ls st w = some F) : sx_by w F.2.2.2 := by
  unfold sx_step at h
  split at h
  · cases h; exact sx_by.rf _
  · cases h; exact sx_by.rf _
  · cases h; exact sx_by.rf _
  · cases h; exact sx_by.rf _
  · exact sx_by.of (sx_w_kc h)
  · exact sx_by.of (sx_w_kc h)
  · exact sx_by.of (sx_w_kj h)
  · exact sx_by.of (sx_w_ldi h)
  · exact sx_by.of (sx_w_ldi h)
  · exact sx_by.of (sx_w_ldl h)
  · exact sx_by.of (sx_w_ldl h)
  · exact sx_by.of (sx_w_lda h)
  · exact sx_by.of (sx_w_lda h)
  · exact sx_by.of (sx_w_sti h)
  · exact sx_by.of (sx_w_sti h)
  · exact sx_by.of (sx_w_stl h)
  · exact sx_by.of (sx_w_stl h)
  · exact sx_by.of (sx_w_sta h)
  · exact sx_by.of (sx_w_sta h)
  · exact sx_by.of (sx_w_inc h)
  · exact sx_by.of (sx_w_ii h)
  · exact sx_by.of (sx_w_ii h)
  · exact sx_by.of (sx_w_ii h)
  · exact sx_by.of (sx_w_ii h)
  · exact sx_by.of (sx_w_ii h)
  · exact sx_by.of (sx_w_ii h)
  · exact sx_by.of (sx_w_iz h)
  · exact sx_by.of (sx_w_iz h)
  · exact sx_by.of (sx_w_i1 h)
  · exact sx_by.of (sx_w_i1 h)
  · exact sx_by.of (sx_w_i1 h)
  · exact sx_by.of (sx_w_jj h)
  · exact sx_by.of (sx_w_jj h)
  · exact sx_by.of (sx_w_jj h)
  · exact sx_by.of (sx_w_jj h)
  · exact sx_by.of (sx_w_jj h)
  · exact sx_by.of (sx_w_jj h)
  · exact sx_by.of (sx_w_ji h)
  · exact sx_by.of (sx_w_ji h)
  · split at h
    · cases h; exact sx_by.rf _
    · cases h
  · split at h
    · cases h; exact sx_by.rf _
    · cases h
  · split at h
    · cases h; exact sx_by.rf _
    · cases h
  · exact sx_by.of (sx_w_dup h)
  · exact sx_by.of (sx_w_pop h)
  · exact sx_by.of (sx_w_dup2 h)
  · exact sx_by.of (sx_w_pop2 h)
  · exact sx_by.of (sx_w_b1 h)
  · exact sx_by.of (sx_w_b2 h)
  · exact sx_by.of (sx_w_b1 h)
  · exact sx_by.of (sx_w_b2 h)
  · exact sx_by.of (sx_w_b1 h)
  · exact sx_by.of (sx_w_b2 h)
  · exact sx_by.of (sx_w_b1 h)
  · exact sx_by.of (sx_w_b2 h)
  · exact sx_by.of (sx_w_b1 h)
  · exact sx_by.of (sx_w_b2 h)
  · exact sx_by.of (sx_w_b1 h)
  · exact sx_by.of (sx_w_b2 h)
  · split at h
    · cases h; exact sx_by.rf _
    · cases h
  · exact sx_by.of (sx_w_sw h)
  · exact sx_by.of (sx_w_gf h)
  · exact sx_y_pf h
  · exact sx_by.of (sx_w_gs h)
  · exact sx_by.of (sx_w_iald h)
  · exact sx_by.of (sx_w_bald h)
  · exact sx_by.of (sx_w_lald h)
  · exact sx_by.of (sx_w_aald h)
  · exact sx_y_iast h
  · exact sx_y_bast h
  · exact sx_y_last h
  · exact sx_y_aast h
  · exact sx_by.of (sx_w_len h)
  · cases md with
    | false => cases h
    | true => cases hm
  · cases md with
    | false => cases h
    | true => cases hm
  · cases md with
    | false => cases h
    | true => cases hm
  · cases md with
    | false => cases h
    | true => cases hm
  · exact sx_by.of (sx_w_obj h)
  · cases md with
    | true => cases h
    | false => exact sx_y_acp h
  · exact sx_by.of (sx_w_str h)
  · cases h
theorem sx_y_run (xs : Option (List Int32)) : ∀ (f d mi pc : Nat) (ls : sx_L) (st : List Value) (w : List sx_C) (r : Option Value) (w2 : List sx_C), sx_run false xs f d mi pc ls st w = some (r, w2) → sx_by w w2
  | 0, d, mi, pc, ls, st, w, r, w2, h => by cases h
  | f + 1, d, mi, pc, ls, st, w, r, w2, h => by
    unfold sx_run at h
    split at h
    · cases h
    · rename_i i n hi
      split at h
      · rename_i pc2 ls2 st2 w3 hs
        exact (sx_y_step rfl hs).tr (sx_y_run xs f d mi pc2 ls2 st2 w3 r w2 h)
      · split at h
        · cases h
          exact sx_by.rf _
        · split at h
          · rename_i mi2 as rest d2 hinv
            simp only [Bool.cond_eq_ite] at h
            split at h
            · split at h
              · rename_i r2 w4 hc
                exact (sx_y_run xs f d2 mi2 0 _ [] w r2 w4 hc).tr (sx_y_run xs f (d2 + 1) mi (pc + 3) ls _ w4 r w2 h)
              · cases h
            · cases h
          · cases h
theorem sx_RP.byk {xs : Option (List Int32)} {d mi pc : Nat} {ls : sx_L} {st : List Value} {w : List sx_C} {P : Option Value → List sx_C → Prop} (h : sx_RP xs d mi pc ls st w P) : sx_RP xs d mi pc ls st w (fun r w2 => P r w2 ∧ (bOK w → bOK w2)) := by
  obtain ⟨r, w2, ⟨f, hf⟩, hp⟩ := h
  exact ⟨r, w2, ⟨f, hf⟩, hp, sx_y_run xs f d mi pc ls st w r w2 hf⟩
theorem sgn_0 : sgn 0 = 0 := by decide
theorem TBy_of {w : List sx_C} (hI : WI w) (hb : bOK w) : TBy w := by
  intro i
  by_cases hi : i < (ia w 97).length
  · have hm : (ia w 97).getD i 0 ∈ ia w 97 := by
      rw [List.getD_eq_getElem?_getD, List.getElem?_eq_getElem hi]
      exact List.getElem_mem hi
    obtain ⟨j, hj, e⟩ := hb 97 _ hI.1.a97.1 _ hm
    exact ⟨j, hj, e⟩
  · refine ⟨0, by decide, ?_⟩
    rw [List.getD_eq_getElem?_getD, List.getElem?_eq_none (by omega), sgn_0]
    rfl
