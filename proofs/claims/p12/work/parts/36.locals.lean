-- a run needs of its locals no more than what they hold
def sx_lr (a b : sx_L) : Prop := ∀ q ∈ a, sx_lk b q.1 = some q.2
theorem sx_lr.lk {a b : sx_L} (h : sx_lr a b) {i : Nat} {v : Value} (e : sx_lk a i = some v) : sx_lk b i = some v := h (i, v) (sx_lk_mem _ _ _ e)
theorem sx_lk_flt {p : Nat × Value → Bool} {j : Nat} {u : Value} (hp : p (j, u) = true) : ∀ b : sx_L, sx_lk b j = some u → sx_lk (b.filter p) j = some u
  | [], h => by cases h
  | q :: r, h => by
    unfold sx_lk at h
    cases hb : Nat.beq q.1 j with
    | true =>
      rw [hb] at h
      have e : q = (j, u) := Prod.ext (Nat.eq_of_beq_eq_true hb) (Option.some.inj h)
      subst e
      rw [List.filter_cons_of_pos hp]
      unfold sx_lk
      rw [hb]
      rfl
    | false =>
      rw [hb] at h
      have ih := sx_lk_flt hp r h
      by_cases hq : p q = true
      · rw [List.filter_cons_of_pos hq]
        unfold sx_lk
        rw [hb]
        exact ih
      · rw [List.filter_cons_of_neg hq]
        exact ih
theorem sx_lr.put {a b : sx_L} {i : Nat} {v : Value} {p : Nat × Value → Bool} (hp : ∀ q, p q = true → q.1 ≠ i) (h : sx_lr a b) : sx_lr ((i, v) :: a.filter p) ((i, v) :: b.filter p) := by
  intro q hq
  rcases List.mem_cons.mp hq with rfl | hq
  · unfold sx_lk
    rw [show Nat.beq (i, v).1 (i, v).1 = true from Nat.beq_refl i]
    rfl
  · obtain ⟨h1, h2⟩ := List.mem_filter.mp hq
    unfold sx_lk
    have hne : Nat.beq (i, v).1 q.1 = false := by
      cases hb : Nat.beq (i, v).1 q.1 with
      | false => rfl
      | true => exact absurd (Nat.eq_of_beq_eq_true hb).symm (hp q h2)
    rw [hne]
    exact sx_lk_flt (u := q.2) h2 b (h q h1)
theorem sx_lr.s1 {a b : sx_L} (h : sx_lr a b) (i : Nat) (v : Value) : sx_lr (sx_s1 a i v) (sx_s1 b i v) := sx_lr.put (fun q hq => by
  simp only [Bool.and_eq_true, Bool.not_eq_true', beq_eq_false_iff_ne] at hq
  exact hq.1) h
theorem sx_lr.s2 {a b : sx_L} (h : sx_lr a b) (i : Nat) (v : Value) : sx_lr (sx_s2 a i v) (sx_s2 b i v) := sx_lr.put (fun q hq => by
  simp only [Bool.and_eq_true, Bool.not_eq_true', beq_eq_false_iff_ne] at hq
  exact hq.1) h
/-- what hands the locals on as they are -/
def sx_pt (X : sx_L → Option sx_F) : Prop := ∀ a b, X b = (X a).map (fun F => (F.1, b, F.2.2))
theorem sx_pt.use {X : sx_L → Option sx_F} (hX : sx_pt X) {a b a2 : sx_L} {pc2 : Nat} {st2 : List Value} {w2 : List sx_C} (h : sx_lr a b) (e : X a = some (pc2, a2, st2, w2)) : ∃ b2, X b = some (pc2, b2, st2, w2) ∧ sx_lr a2 b2 := by
  have h1 := hX a a
  have h2 := hX a b
  rw [e] at h1 h2
  have e2 : a2 = a := (Prod.mk.inj (Prod.mk.inj (Option.some.inj h1)).2).1
  subst e2
  exact ⟨b, h2, h⟩
section SXPT
variable {md : Bool} {xs : Option (List Int32)} {mi o idx dim pc n nL i : Nat} {st : List Value} {w : List sx_C}
theorem sx_pt_kc : sx_pt (fun ls => sx_kc o idx pc n ls st w) := by
  intro a b
  simp only [sx_kc, Bool.cond_eq_ite]
  (repeat' split) <;> first | rfl | simp_all
theorem sx_pt_kj : sx_pt (fun ls => sx_kj o idx ls pc st w) := by
  intro a b
  simp only [sx_kj, Bool.cond_eq_ite]
  (repeat' split) <;> first | rfl | simp_all
theorem sx_pt_dup : sx_pt (fun ls => sx_dup ls pc st w) := by
  intro a b
  simp only [sx_dup, Bool.cond_eq_ite]
  (repeat' split) <;> first | rfl | simp_all
theorem sx_pt_pop : sx_pt (fun ls => sx_pop ls pc st w) := by
  intro a b
  simp only [sx_pop, Bool.cond_eq_ite]
  (repeat' split) <;> first | rfl | simp_all
theorem sx_pt_pop2 : sx_pt (fun ls => sx_pop2 ls pc st w) := by
  intro a b
  simp only [sx_pop2, Bool.cond_eq_ite]
  (repeat' split) <;> first | rfl | simp_all
theorem sx_pt_dup2 : sx_pt (fun ls => sx_dup2 ls pc st w) := by
  intro a b
  simp only [sx_dup2, Bool.cond_eq_ite]
  (repeat' split) <;> first | rfl | simp_all
theorem sx_pt_gf : sx_pt (fun ls => sx_gf o idx ls pc st w) := by
  intro a b
  simp only [sx_gf, Bool.cond_eq_ite]
  (repeat' split) <;> first | rfl | simp_all
theorem sx_pt_pf : sx_pt (fun ls => sx_pf mi idx ls pc st w) := by
  intro a b
  simp only [sx_pf, Bool.cond_eq_ite]
  (repeat' split) <;> first | rfl | simp_all
theorem sx_pt_gs : sx_pt (fun ls => sx_gs o idx ls pc st w) := by
  intro a b
  simp only [sx_gs, Bool.cond_eq_ite]
  (repeat' split) <;> first | rfl | simp_all
theorem sx_pt_iald : sx_pt (fun ls => sx_iald xs ls pc st w) := by
  intro a b
  simp only [sx_iald, sx_al, Bool.cond_eq_ite]
  (repeat' split) <;> first | rfl | simp_all
theorem sx_pt_bald : sx_pt (fun ls => sx_bald ls pc st w) := by
  intro a b
  simp only [sx_bald, sx_al, Bool.cond_eq_ite]
  (repeat' split) <;> first | rfl | simp_all
theorem sx_pt_lald : sx_pt (fun ls => sx_lald ls pc st w) := by
  intro a b
  simp only [sx_lald, Bool.cond_eq_ite]
  (repeat' split) <;> first | rfl | simp_all
theorem sx_pt_aald : sx_pt (fun ls => sx_aald ls pc st w) := by
  intro a b
  simp only [sx_aald, Bool.cond_eq_ite]
  (repeat' split) <;> first | rfl | simp_all
theorem sx_pt_iast : sx_pt (fun ls => sx_iast ls pc st w) := by
  intro a b
  simp only [sx_iast, Bool.cond_eq_ite]
  (repeat' split) <;> first | rfl | simp_all
theorem sx_pt_bast : sx_pt (fun ls => sx_bast ls pc st w) := by
  intro a b
  simp only [sx_bast, Bool.cond_eq_ite]
  (repeat' split) <;> first | rfl | simp_all
theorem sx_pt_last : sx_pt (fun ls => sx_last ls pc st w) := by
  intro a b
  simp only [sx_last, Bool.cond_eq_ite]
  (repeat' split) <;> first | rfl | simp_all
theorem sx_pt_aast : sx_pt (fun ls => sx_aast ls pc st w) := by
  intro a b
  simp only [sx_aast, Bool.cond_eq_ite]
  (repeat' split) <;> first | rfl | simp_all
theorem sx_pt_len : sx_pt (fun ls => sx_len xs ls pc st w) := by
  intro a b
  simp only [sx_len, Bool.cond_eq_ite]
  (repeat' split) <;> first | rfl | simp_all
theorem sx_pt_new : sx_pt (fun ls => sx_new o idx ls pc st w) := by
  intro a b
  simp only [sx_new, Bool.cond_eq_ite]
  (repeat' split) <;> first | rfl | simp_all
theorem sx_pt_anew : sx_pt (fun ls => sx_anew o idx ls pc st w) := by
  intro a b
  simp only [sx_anew, Bool.cond_eq_ite]
  (repeat' split) <;> first | rfl | simp_all
theorem sx_pt_mna : sx_pt (fun ls => sx_mna o idx dim ls pc st w) := by
  intro a b
  simp only [sx_mna, Bool.cond_eq_ite]
  (repeat' split) <;> first | rfl | simp_all
theorem sx_pt_obj : sx_pt (fun ls => sx_obj o idx ls pc st w) := by
  intro a b
  simp only [sx_obj, Bool.cond_eq_ite]
  (repeat' split) <;> first | rfl | simp_all
theorem sx_pt_acp : sx_pt (fun ls => sx_acp o idx ls pc st w) := by
  intro a b
  simp only [sx_acp, Bool.cond_eq_ite]
  (repeat' split) <;> first | rfl | simp_all
theorem sx_pt_str : sx_pt (fun ls => sx_str o idx ls pc st w) := by
  intro a b
  simp only [sx_str, Bool.cond_eq_ite]
  (repeat' split) <;> first | rfl | simp_all
theorem sx_pt_ii {f : Int32 → Int32 → Int32} : sx_pt (fun ls => sx_ii f ls pc st w) := by
  intro a b
  simp only [sx_ii, Bool.cond_eq_ite]
  (repeat' split) <;> first | rfl | simp_all
theorem sx_pt_iz {f : Int32 → Int32 → Int32} : sx_pt (fun ls => sx_iz f ls pc st w) := by
  intro a b
  simp only [sx_iz, Bool.cond_eq_ite]
  (repeat' split) <;> first | rfl | simp_all
theorem sx_pt_i1 {f : Int32 → Int32} : sx_pt (fun ls => sx_i1 f ls pc st w) := by
  intro a b
  simp only [sx_i1, Bool.cond_eq_ite]
  (repeat' split) <;> first | rfl | simp_all
theorem sx_pt_jj {f : Int64 → Int64 → Int64} : sx_pt (fun ls => sx_jj f ls pc st w) := by
  intro a b
  simp only [sx_jj, Bool.cond_eq_ite]
  (repeat' split) <;> first | rfl | simp_all
theorem sx_pt_ji {f : Int64 → Int32 → Int64} : sx_pt (fun ls => sx_ji f ls pc st w) := by
  intro a b
  simp only [sx_ji, Bool.cond_eq_ite]
  (repeat' split) <;> first | rfl | simp_all
theorem sx_pt_b1 {f : Int32 → Bool} {off : Int} : sx_pt (fun ls => sx_b1 f off ls pc st w) := by
  intro a b
  simp only [sx_b1, Bool.cond_eq_ite]
  (repeat' split) <;> first | rfl | simp_all
theorem sx_pt_b2 {f : Int32 → Int32 → Bool} {off : Int} : sx_pt (fun ls => sx_b2 f off ls pc st w) := by
  intro a b
  simp only [sx_b2, Bool.cond_eq_ite]
  (repeat' split) <;> first | rfl | simp_all
theorem sx_pt_sw {d lo hi : Int} {offs : Array Int} : sx_pt (fun ls => sx_sw d lo hi offs ls pc st w) := by
  intro a b
  simp only [sx_sw, Bool.cond_eq_ite]
  (repeat' split) <;> first | rfl | simp_all
theorem sx_pt_na {t : ArrayType} : sx_pt (fun ls => sx_na t ls pc st w) := by
  intro a b
  simp only [sx_na, Bool.cond_eq_ite]
  (repeat' split) <;> first | rfl | simp_all
theorem sx_lr_ldi {a b a2 : sx_L} {pc2 : Nat} {st2 : List Value} {w2 : List sx_C} (h : sx_lr a b) (e : sx_ldi a i pc st w = some (pc2, a2, st2, w2)) : ∃ b2, sx_ldi b i pc st w = some (pc2, b2, st2, w2) ∧ sx_lr a2 b2 := by
  unfold sx_ldi at e
  split at e
  · rename_i v hk
    cases e
    refine ⟨b, ?_, h⟩
    unfold sx_ldi
    rw [h.lk hk]
  · cases e
theorem sx_lr_ldl {a b a2 : sx_L} {pc2 : Nat} {st2 : List Value} {w2 : List sx_C} (h : sx_lr a b) (e : sx_ldl a i pc st w = some (pc2, a2, st2, w2)) : ∃ b2, sx_ldl b i pc st w = some (pc2, b2, st2, w2) ∧ sx_lr a2 b2 := by
  unfold sx_ldl at e
  split at e
  · rename_i v hk
    cases e
    refine ⟨b, ?_, h⟩
    unfold sx_ldl
    rw [h.lk hk]
  · cases e
theorem sx_lr_lda {a b a2 : sx_L} {pc2 : Nat} {st2 : List Value} {w2 : List sx_C} (h : sx_lr a b) (e : sx_lda a i pc st w = some (pc2, a2, st2, w2)) : ∃ b2, sx_lda b i pc st w = some (pc2, b2, st2, w2) ∧ sx_lr a2 b2 := by
  unfold sx_lda at e
  split at e
  · rename_i v hk
    cases e
    refine ⟨b, ?_, h⟩
    unfold sx_lda
    rw [h.lk hk]
  · rename_i v hk
    cases e
    refine ⟨b, ?_, h⟩
    unfold sx_lda
    rw [h.lk hk]
  · cases e
theorem sx_lr_sti {a b a2 : sx_L} {pc2 : Nat} {st2 : List Value} {w2 : List sx_C} (h : sx_lr a b) (e : sx_sti nL a i pc st w = some (pc2, a2, st2, w2)) : ∃ b2, sx_sti nL b i pc st w = some (pc2, b2, st2, w2) ∧ sx_lr a2 b2 := by
  simp only [sx_sti, Bool.cond_eq_ite] at e ⊢
  split at e
  · split at e
    · rename_i hc
      cases e
      exact ⟨_, if_pos hc, h.s1 _ _⟩
    · cases e
  · cases e
theorem sx_lr_sta {a b a2 : sx_L} {pc2 : Nat} {st2 : List Value} {w2 : List sx_C} (h : sx_lr a b) (e : sx_sta nL a i pc st w = some (pc2, a2, st2, w2)) : ∃ b2, sx_sta nL b i pc st w = some (pc2, b2, st2, w2) ∧ sx_lr a2 b2 := by
  simp only [sx_sta, Bool.cond_eq_ite] at e ⊢
  split at e
  · split at e
    · rename_i hc
      cases e
      exact ⟨_, if_pos hc, h.s1 _ _⟩
    · cases e
  · split at e
    · rename_i hc
      cases e
      exact ⟨_, if_pos hc, h.s1 _ _⟩
    · cases e
  · cases e
theorem sx_lr_stl {a b a2 : sx_L} {pc2 : Nat} {st2 : List Value} {w2 : List sx_C} (h : sx_lr a b) (e : sx_stl nL a i pc st w = some (pc2, a2, st2, w2)) : ∃ b2, sx_stl nL b i pc st w = some (pc2, b2, st2, w2) ∧ sx_lr a2 b2 := by
  simp only [sx_stl, Bool.cond_eq_ite] at e ⊢
  split at e
  · split at e
    · rename_i hc
      cases e
      exact ⟨_, if_pos hc, h.s2 _ _⟩
    · cases e
  · cases e
theorem sx_lr_inc {a b a2 : sx_L} {k : Int} {pc2 : Nat} {st2 : List Value} {w2 : List sx_C} (h : sx_lr a b) (e : sx_inc nL i k a pc st w = some (pc2, a2, st2, w2)) : ∃ b2, sx_inc nL i k b pc st w = some (pc2, b2, st2, w2) ∧ sx_lr a2 b2 := by
  unfold sx_inc at e
  split at e
  · rename_i v hk
    cases hc : Nat.blt i nL with
    | false => rw [hc] at e; cases e
    | true =>
      rw [hc] at e
      cases e
      refine ⟨sx_s1 b i (.int (v + Int32.ofInt k)), ?_, h.s1 _ _⟩
      unfold sx_inc
      rw [h.lk hk]
      simp only
      rw [hc]
      rfl
  · cases e
set_option maxHeartbeats 4000000 in
theorem sx_lr_step {a b a2 : sx_L} {ins : Instr} {pc2 : Nat} {st2 : List Value} {w2 : List sx_C} (h : sx_lr a b) (e : sx_step md xs mi pc ins n a st w = some (pc2, a2, st2, w2)) : ∃ b2, sx_step md xs mi pc ins n b st w = some (pc2, b2, st2, w2) ∧ sx_lr a2 b2 := by
  unfold sx_step at e
  split at e
  · cases e; exact ⟨b, rfl, h⟩
  · cases e; exact ⟨b, rfl, h⟩
  · cases e; exact ⟨b, rfl, h⟩
  · cases e; exact ⟨b, rfl, h⟩
  · exact sx_pt_kc.use h e
  · exact sx_pt_kc.use h e
  · exact sx_pt_kj.use h e
  · exact sx_lr_ldi h e
  · exact sx_lr_ldi h e
  · exact sx_lr_ldl h e
  · exact sx_lr_ldl h e
  · exact sx_lr_lda h e
  · exact sx_lr_lda h e
  · exact sx_lr_sti h e
  · exact sx_lr_sti h e
  · exact sx_lr_stl h e
  · exact sx_lr_stl h e
  · exact sx_lr_sta h e
  · exact sx_lr_sta h e
  · exact sx_lr_inc h e
  · exact sx_pt_ii.use h e
  · exact sx_pt_ii.use h e
  · exact sx_pt_ii.use h e
  · exact sx_pt_ii.use h e
  · exact sx_pt_ii.use h e
  · exact sx_pt_ii.use h e
  · exact sx_pt_iz.use h e
  · exact sx_pt_iz.use h e
  · exact sx_pt_i1.use h e
  · exact sx_pt_i1.use h e
  · exact sx_pt_i1.use h e
  · exact sx_pt_jj.use h e
  · exact sx_pt_jj.use h e
  · exact sx_pt_jj.use h e
  · exact sx_pt_jj.use h e
  · exact sx_pt_jj.use h e
  · exact sx_pt_jj.use h e
  · exact sx_pt_ji.use h e
  · exact sx_pt_ji.use h e
  · split at e
    · cases e; exact ⟨b, rfl, h⟩
    · cases e
  · split at e
    · cases e; exact ⟨b, rfl, h⟩
    · cases e
  · split at e
    · cases e; exact ⟨b, rfl, h⟩
    · cases e
  · exact sx_pt_dup.use h e
  · exact sx_pt_pop.use h e
  · exact sx_pt_dup2.use h e
  · exact sx_pt_pop2.use h e
  · exact sx_pt_b1.use h e
  · exact sx_pt_b2.use h e
  · exact sx_pt_b1.use h e
  · exact sx_pt_b2.use h e
  · exact sx_pt_b1.use h e
  · exact sx_pt_b2.use h e
  · exact sx_pt_b1.use h e
  · exact sx_pt_b2.use h e
  · exact sx_pt_b1.use h e
  · exact sx_pt_b2.use h e
  · exact sx_pt_b1.use h e
  · exact sx_pt_b2.use h e
  · split at e
    · rename_i t ht
      cases e
      refine ⟨b, ?_, h⟩
      unfold sx_step
      simp only
      rw [ht]
    · cases e
  · exact sx_pt_sw.use h e
  · exact sx_pt_gf.use h e
  · exact sx_pt_pf.use h e
  · exact sx_pt_gs.use h e
  · exact sx_pt_iald.use h e
  · exact sx_pt_bald.use h e
  · exact sx_pt_lald.use h e
  · exact sx_pt_aald.use h e
  · exact sx_pt_iast.use h e
  · exact sx_pt_bast.use h e
  · exact sx_pt_last.use h e
  · exact sx_pt_aast.use h e
  · exact sx_pt_len.use h e
  · cases md with
    | false => cases e
    | true => exact sx_pt_new.use h e
  · cases md with
    | false => cases e
    | true => exact sx_pt_na.use h e
  · cases md with
    | false => cases e
    | true => exact sx_pt_anew.use h e
  · cases md with
    | false => cases e
    | true => exact sx_pt_mna.use h e
  · exact sx_pt_obj.use h e
  · cases md with
    | true => cases e
    | false => exact sx_pt_acp.use h e
  · exact sx_pt_str.use h e
  · cases e
theorem sx_lr_inv {a b : sx_L} {ins : Instr} {q : Nat × List Value × List Value} (hq : sx_inv mi ins st w = some q) (e : sx_step md xs mi pc ins 3 a st w = none) : sx_step md xs mi pc ins 3 b st w = none := by
  rcases sx_inv_i hq with ⟨k, rfl⟩ | ⟨k, rfl⟩ | ⟨k, rfl⟩
  · cases md with
    | true => rfl
    | false =>
      have h2 := sx_pt_acp (o := sx_own mi) (idx := k) (pc := pc) (st := st) (w := w) a b
      have e2 : sx_acp (sx_own mi) k a pc st w = none := e
      simp only [e2] at h2
      exact h2
  · have h2 := sx_pt_str (o := sx_own mi) (idx := k) (pc := pc) (st := st) (w := w) a b
    have e2 : sx_str (sx_own mi) k a pc st w = none := e
    simp only [e2] at h2
    exact h2
  · have h2 := sx_pt_obj (o := sx_own mi) (idx := k) (pc := pc) (st := st) (w := w) a b
    have e2 : sx_obj (sx_own mi) k a pc st w = none := e
    simp only [e2] at h2
    exact h2
end SXPT
theorem sx_lr_run (md : Bool) (xs : Option (List Int32)) : ∀ (f d mi pc : Nat) (a b : sx_L) (st : List Value) (w : List sx_C) (r : Option Value) (w2 : List sx_C), sx_lr a b → sx_run md xs f d mi pc a st w = some (r, w2) → sx_run md xs f d mi pc b st w = some (r, w2)
  | 0, d, mi, pc, a, b, st, w, r, w2, _, h => by cases h
  | f + 1, d, mi, pc, a, b, st, w, r, w2, hl, h => by
    unfold sx_run at h
    unfold sx_run
    split at h
    · cases h
    · rename_i i n hi
      try rw [hi]
      try simp only
      split at h
      · rename_i pc2 ls2 st2 w3 hs
        obtain ⟨b2, hb, hl2⟩ := sx_lr_step hl hs
        rw [hb]
        exact sx_lr_run md xs f d mi pc2 ls2 b2 st2 w3 r w2 hl2 h
      · rename_i hs
        split at h
        · rename_i r2 hr
          obtain ⟨hn, hr2⟩ := sx_cbeq hr
          subst hn
          try rw [sx_step_r hr2]
          try simp only
          try rw [hr]
          exact h
        · rename_i hr
          split at h
          · rename_i mi2 as rest d2 hinv
            obtain ⟨hn, hinv2⟩ := sx_cbeq hinv
            subst hn
            try rw [sx_lr_inv (b := b) hinv2 hs]
            try simp only
            try rw [hr]
            try simp only
            try rw [hinv]
            try simp only
            simp only [Bool.cond_eq_ite] at h ⊢
            split at h
            · rename_i hsum
              rw [if_pos hsum]
              split at h
              · rename_i r2 w4 hc
                try rw [hc]
                exact sx_lr_run md xs f (d2 + 1) mi (pc + 3) a b _ w4 r w2 hl h
              · cases h
            · cases h
          · cases h
theorem sx_RP.ls {xs : Option (List Int32)} {d mi pc : Nat} {a b : sx_L} {st : List Value} {w : List sx_C} {P : Option Value → List sx_C → Prop} (h : sx_lr a b) (k : sx_RP xs d mi pc a st w P) : sx_RP xs d mi pc b st w P := by
  obtain ⟨r, w2, ⟨f, hf⟩, hp⟩ := k
  exact ⟨r, w2, ⟨f, sx_lr_run false xs f d mi pc a b st w r w2 h hf⟩, hp⟩
theorem sx_lr.nil {b : sx_L} : sx_lr [] b := fun q h => by cases h
theorem sx_lr.cons {a b : sx_L} {i : Nat} {v : Value} (h1 : sx_lk b i = some v) (h2 : sx_lr a b) : sx_lr ((i, v) :: a) b := fun q h => by
  rcases List.mem_cons.mp h with rfl | h
  · exact h1
  · exact h2 q h
