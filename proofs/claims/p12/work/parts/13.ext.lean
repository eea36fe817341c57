-- a run keeps or grows the cells
def sx_ext (w w2 : List sx_C) : Prop := w.length ≤ w2.length ∧ sx_sz w ≤ sx_sz w2
theorem sx_ext.rf (w : List sx_C) : sx_ext w w := ⟨Nat.le_refl _, Nat.le_refl _⟩
theorem sx_ext.of {w w2 : List sx_C} (h : w2 = w) : sx_ext w w2 := by subst h; exact sx_ext.rf w2
theorem sx_ext.tr {a b c : List sx_C} (h : sx_ext a b) (h2 : sx_ext b c) : sx_ext a c := ⟨Nat.le_trans h.1 h2.1, Nat.le_trans h.2 h2.2⟩
theorem sx_ext.set {w : List sx_C} {a : Nat} {c0 c : sx_C} (h : w[a]? = some c0) (hs : sx_s c = sx_s c0) : sx_ext w (w.set a c) := ⟨by rw [List.length_set]; exact Nat.le_refl _, by rw [sx_sz_set w a c0 c h hs]; exact Nat.le_refl _⟩
theorem sx_ext.app (w w2 : List sx_C) : sx_ext w (w ++ w2) := ⟨by rw [List.length_append]; exact Nat.le_add_right _ _, by rw [sx_sz_app]; exact Nat.le_add_right _ _⟩
theorem sx_w_kc {o : Nat} {idx : Nat} {pc : Nat} {n : Nat} {ls : sx_L} {st : List Value} {w : List sx_C} {F : sx_F} (h : sx_kc o idx pc n ls st w = some F) : F.2.2.2 = w := by
  simp only [sx_kc, Bool.cond_eq_ite] at h
  (repeat' split at h) <;> first | (cases h; done) | (cases h; rfl)
theorem sx_w_kj {o : Nat} {idx : Nat} {ls : sx_L} {pc : Nat} {st : List Value} {w : List sx_C} {F : sx_F} (h : sx_kj o idx ls pc st w = some F) : F.2.2.2 = w := by
  simp only [sx_kj, Bool.cond_eq_ite] at h
  (repeat' split at h) <;> first | (cases h; done) | (cases h; rfl)
theorem sx_w_ldi {ls : sx_L} {i : Nat} {pc : Nat} {st : List Value} {w : List sx_C} {F : sx_F} (h : sx_ldi ls i pc st w = some F) : F.2.2.2 = w := by
  simp only [sx_ldi, Bool.cond_eq_ite] at h
  (repeat' split at h) <;> first | (cases h; done) | (cases h; rfl)
theorem sx_w_ldl {ls : sx_L} {i : Nat} {pc : Nat} {st : List Value} {w : List sx_C} {F : sx_F} (h : sx_ldl ls i pc st w = some F) : F.2.2.2 = w := by
  simp only [sx_ldl, Bool.cond_eq_ite] at h
  (repeat' split at h) <;> first | (cases h; done) | (cases h; rfl)
theorem sx_w_lda {ls : sx_L} {i : Nat} {pc : Nat} {st : List Value} {w : List sx_C} {F : sx_F} (h : sx_lda ls i pc st w = some F) : F.2.2.2 = w := by
  simp only [sx_lda, Bool.cond_eq_ite] at h
  (repeat' split at h) <;> first | (cases h; done) | (cases h; rfl)
theorem sx_w_sti {nL : Nat} {ls : sx_L} {i : Nat} {pc : Nat} {st : List Value} {w : List sx_C} {F : sx_F} (h : sx_sti nL ls i pc st w = some F) : F.2.2.2 = w := by
  simp only [sx_sti, Bool.cond_eq_ite] at h
  (repeat' split at h) <;> first | (cases h; done) | (cases h; rfl)
theorem sx_w_stl {nL : Nat} {ls : sx_L} {i : Nat} {pc : Nat} {st : List Value} {w : List sx_C} {F : sx_F} (h : sx_stl nL ls i pc st w = some F) : F.2.2.2 = w := by
  simp only [sx_stl, Bool.cond_eq_ite] at h
  (repeat' split at h) <;> first | (cases h; done) | (cases h; rfl)
theorem sx_w_sta {nL : Nat} {ls : sx_L} {i : Nat} {pc : Nat} {st : List Value} {w : List sx_C} {F : sx_F} (h : sx_sta nL ls i pc st w = some F) : F.2.2.2 = w := by
  simp only [sx_sta, Bool.cond_eq_ite] at h
  (repeat' split at h) <;> first | (cases h; done) | (cases h; rfl)
theorem sx_w_inc {nL : Nat} {i : Nat} {k : Int} {ls : sx_L} {pc : Nat} {st : List Value} {w : List sx_C} {F : sx_F} (h : sx_inc nL i k ls pc st w = some F) : F.2.2.2 = w := by
  simp only [sx_inc, Bool.cond_eq_ite] at h
  (repeat' split at h) <;> first | (cases h; done) | (cases h; rfl)
theorem sx_w_ii {f : Int32 → Int32 → Int32} {ls : sx_L} {pc : Nat} {st : List Value} {w : List sx_C} {F : sx_F} (h : sx_ii f ls pc st w = some F) : F.2.2.2 = w := by
  simp only [sx_ii, Bool.cond_eq_ite] at h
  (repeat' split at h) <;> first | (cases h; done) | (cases h; rfl)
theorem sx_w_iz {f : Int32 → Int32 → Int32} {ls : sx_L} {pc : Nat} {st : List Value} {w : List sx_C} {F : sx_F} (h : sx_iz f ls pc st w = some F) : F.2.2.2 = w := by
  simp only [sx_iz, Bool.cond_eq_ite] at h
  (repeat' split at h) <;> first | (cases h; done) | (cases h; rfl)
theorem sx_w_i1 {f : Int32 → Int32} {ls : sx_L} {pc : Nat} {st : List Value} {w : List sx_C} {F : sx_F} (h : sx_i1 f ls pc st w = some F) : F.2.2.2 = w := by
  simp only [sx_i1, Bool.cond_eq_ite] at h
  (repeat' split at h) <;> first | (cases h; done) | (cases h; rfl)
theorem sx_w_jj {f : Int64 → Int64 → Int64} {ls : sx_L} {pc : Nat} {st : List Value} {w : List sx_C} {F : sx_F} (h : sx_jj f ls pc st w = some F) : F.2.2.2 = w := by
  simp only [sx_jj, Bool.cond_eq_ite] at h
  (repeat' split at h) <;> first | (cases h; done) | (cases h; rfl)
theorem sx_w_ji {f : Int64 → Int32 → Int64} {ls : sx_L} {pc : Nat} {st : List Value} {w : List sx_C} {F : sx_F} (h : sx_ji f ls pc st w = some F) : F.2.2.2 = w := by
  simp only [sx_ji, Bool.cond_eq_ite] at h
  (repeat' split at h) <;> first | (cases h; done) | (cases h; rfl)
theorem sx_w_dup {ls : sx_L} {pc : Nat} {st : List Value} {w : List sx_C} {F : sx_F} (h : sx_dup ls pc st w = some F) : F.2.2.2 = w := by
  simp only [sx_dup, Bool.cond_eq_ite] at h
  (repeat' split at h) <;> first | (cases h; done) | (cases h; rfl)
theorem sx_w_pop {ls : sx_L} {pc : Nat} {st : List Value} {w : List sx_C} {F : sx_F} (h : sx_pop ls pc st w = some F) : F.2.2.2 = w := by
  simp only [sx_pop, Bool.cond_eq_ite] at h
  (repeat' split at h) <;> first | (cases h; done) | (cases h; rfl)
theorem sx_w_pop2 {ls : sx_L} {pc : Nat} {st : List Value} {w : List sx_C} {F : sx_F} (h : sx_pop2 ls pc st w = some F) : F.2.2.2 = w := by
  simp only [sx_pop2, Bool.cond_eq_ite] at h
  (repeat' split at h) <;> first | (cases h; done) | (cases h; rfl)
theorem sx_w_dup2 {ls : sx_L} {pc : Nat} {st : List Value} {w : List sx_C} {F : sx_F} (h : sx_dup2 ls pc st w = some F) : F.2.2.2 = w := by
  simp only [sx_dup2, Bool.cond_eq_ite] at h
  (repeat' split at h) <;> first | (cases h; done) | (cases h; rfl)
theorem sx_w_b1 {f : Int32 → Bool} {off : Int} {ls : sx_L} {pc : Nat} {st : List Value} {w : List sx_C} {F : sx_F} (h : sx_b1 f off ls pc st w = some F) : F.2.2.2 = w := by
  simp only [sx_b1, Bool.cond_eq_ite] at h
  (repeat' split at h) <;> first | (cases h; done) | (cases h; rfl)
theorem sx_w_b2 {f : Int32 → Int32 → Bool} {off : Int} {ls : sx_L} {pc : Nat} {st : List Value} {w : List sx_C} {F : sx_F} (h : sx_b2 f off ls pc st w = some F) : F.2.2.2 = w := by
  simp only [sx_b2, Bool.cond_eq_ite] at h
  (repeat' split at h) <;> first | (cases h; done) | (cases h; rfl)
theorem sx_w_sw {a : Int} {b : Int} {c2 : Int} {offs : Array Int} {ls : sx_L} {pc : Nat} {st : List Value} {w : List sx_C} {F : sx_F} (h : sx_sw a b c2 offs ls pc st w = some F) : F.2.2.2 = w := by
  simp only [sx_sw, Bool.cond_eq_ite] at h
  (repeat' split at h) <;> first | (cases h; done) | (cases h; rfl)
theorem sx_w_gf {o : Nat} {idx : Nat} {ls : sx_L} {pc : Nat} {st : List Value} {w : List sx_C} {F : sx_F} (h : sx_gf o idx ls pc st w = some F) : F.2.2.2 = w := by
  simp only [sx_gf, Bool.cond_eq_ite] at h
  (repeat' split at h) <;> first | (cases h; done) | (cases h; rfl)
theorem sx_w_gs {o : Nat} {idx : Nat} {ls : sx_L} {pc : Nat} {st : List Value} {w : List sx_C} {F : sx_F} (h : sx_gs o idx ls pc st w = some F) : F.2.2.2 = w := by
  simp only [sx_gs, Bool.cond_eq_ite] at h
  (repeat' split at h) <;> first | (cases h; done) | (cases h; rfl)
theorem sx_w_iald {xs : Option (List Int32)} {ls : sx_L} {pc : Nat} {st : List Value} {w : List sx_C} {F : sx_F} (h : sx_iald xs ls pc st w = some F) : F.2.2.2 = w := by
  simp only [sx_iald, sx_al, Bool.cond_eq_ite] at h
  (repeat' split at h) <;> first | (cases h; done) | (cases h; rfl)
theorem sx_w_bald {ls : sx_L} {pc : Nat} {st : List Value} {w : List sx_C} {F : sx_F} (h : sx_bald ls pc st w = some F) : F.2.2.2 = w := by
  simp only [sx_bald, sx_al, Bool.cond_eq_ite] at h
  (repeat' split at h) <;> first | (cases h; done) | (cases h; rfl)
theorem sx_w_lald {ls : sx_L} {pc : Nat} {st : List Value} {w : List sx_C} {F : sx_F} (h : sx_lald ls pc st w = some F) : F.2.2.2 = w := by
  simp only [sx_lald, Bool.cond_eq_ite] at h
  (repeat' split at h) <;> first | (cases h; done) | (cases h; rfl)
theorem sx_w_aald {ls : sx_L} {pc : Nat} {st : List Value} {w : List sx_C} {F : sx_F} (h : sx_aald ls pc st w = some F) : F.2.2.2 = w := by
  simp only [sx_aald, Bool.cond_eq_ite] at h
  (repeat' split at h) <;> first | (cases h; done) | (cases h; rfl)
theorem sx_w_len {xs : Option (List Int32)} {ls : sx_L} {pc : Nat} {st : List Value} {w : List sx_C} {F : sx_F} (h : sx_len xs ls pc st w = some F) : F.2.2.2 = w := by
  simp only [sx_len, Bool.cond_eq_ite] at h
  (repeat' split at h) <;> first | (cases h; done) | (cases h; rfl)
theorem sx_w_obj {o : Nat} {idx : Nat} {ls : sx_L} {pc : Nat} {st : List Value} {w : List sx_C} {F : sx_F} (h : sx_obj o idx ls pc st w = some F) : F.2.2.2 = w := by
  simp only [sx_obj, Bool.cond_eq_ite] at h
  (repeat' split at h) <;> first | (cases h; done) | (cases h; rfl)
theorem sx_x_pf {mi : Nat} {idx : Nat} {ls : sx_L} {pc : Nat} {st : List Value} {w : List sx_C} {F : sx_F} (h : sx_pf mi idx ls pc st w = some F) : sx_ext w F.2.2.2 := by
  simp only [sx_pf, Bool.cond_eq_ite] at h
  (repeat' split at h) <;> first | (cases h; done) | (cases h; exact sx_ext.set (by assumption) (by simp [sx_s]))
theorem sx_x_iast {ls : sx_L} {pc : Nat} {st : List Value} {w : List sx_C} {F : sx_F} (h : sx_iast ls pc st w = some F) : sx_ext w F.2.2.2 := by
  simp only [sx_iast, Bool.cond_eq_ite] at h
  (repeat' split at h) <;> first | (cases h; done) | (cases h; exact sx_ext.set (by assumption) (by simp [sx_s]))
theorem sx_x_bast {ls : sx_L} {pc : Nat} {st : List Value} {w : List sx_C} {F : sx_F} (h : sx_bast ls pc st w = some F) : sx_ext w F.2.2.2 := by
  simp only [sx_bast, Bool.cond_eq_ite] at h
  (repeat' split at h) <;> first | (cases h; done) | (cases h; exact sx_ext.set (by assumption) (by simp [sx_s]))
theorem sx_x_last {ls : sx_L} {pc : Nat} {st : List Value} {w : List sx_C} {F : sx_F} (h : sx_last ls pc st w = some F) : sx_ext w F.2.2.2 := by
  simp only [sx_last, Bool.cond_eq_ite] at h
  (repeat' split at h) <;> first | (cases h; done) | (cases h; exact sx_ext.set (by assumption) (by simp [sx_s]))
theorem sx_x_aast {ls : sx_L} {pc : Nat} {st : List Value} {w : List sx_C} {F : sx_F} (h : sx_aast ls pc st w = some F) : sx_ext w F.2.2.2 := by
  simp only [sx_aast, Bool.cond_eq_ite] at h
  (repeat' split at h) <;> first | (cases h; done) | (cases h; exact sx_ext.set (by assumption) (by simp [sx_s]))
theorem sx_x_new {o : Nat} {idx : Nat} {ls : sx_L} {pc : Nat} {st : List Value} {w : List sx_C} {F : sx_F} (h : sx_new o idx ls pc st w = some F) : sx_ext w F.2.2.2 := by
  simp only [sx_new, Bool.cond_eq_ite] at h
  (repeat' split at h) <;> first | (cases h; done) | (cases h; exact sx_ext.app _ _)
theorem sx_x_na {t : ArrayType} {ls : sx_L} {pc : Nat} {st : List Value} {w : List sx_C} {F : sx_F} (h : sx_na t ls pc st w = some F) : sx_ext w F.2.2.2 := by
  simp only [sx_na, Bool.cond_eq_ite] at h
  (repeat' split at h) <;> first | (cases h; done) | (cases h; exact sx_ext.app _ _)
theorem sx_x_anew {o : Nat} {idx : Nat} {ls : sx_L} {pc : Nat} {st : List Value} {w : List sx_C} {F : sx_F} (h : sx_anew o idx ls pc st w = some F) : sx_ext w F.2.2.2 := by
  simp only [sx_anew, Bool.cond_eq_ite] at h
  (repeat' split at h) <;> first | (cases h; done) | (cases h; exact sx_ext.app _ _)
theorem sx_x_mna {o : Nat} {idx : Nat} {dim : Nat} {ls : sx_L} {pc : Nat} {st : List Value} {w : List sx_C} {F : sx_F} (h : sx_mna o idx dim ls pc st w = some F) : sx_ext w F.2.2.2 := by
  simp only [sx_mna, Bool.cond_eq_ite] at h
  (repeat' split at h) <;> first | (cases h; done) | (cases h; exact sx_ext.app _ _)
theorem sx_x_acp {o idx : Nat} {ls : sx_L} {pc : Nat} {st : List Value} {w : List sx_C} {F : sx_F} (h : sx_acp o idx ls pc st w = some F) : sx_ext w F.2.2.2 := by
  unfold sx_acp at h
  split at h
  · rename_i n dp a sp a0 r
    split at h
    · cases hbt : (!(decide (sp < 0)) && !(decide (dp < 0)) && !(decide (n < 0)) && Nat.ble (r.map (fun v => v.category)).sum 8) with
      | false => rw [hbt] at h; cases h
      | true =>
        rw [hbt] at h
        simp only [cond_true] at h
        split at h
        · rename_i f g hw0 hw1
          cases hc2 : (Nat.ble (sp.toNatClampNeg + n.toNatClampNeg) f.length && Nat.ble (dp.toNatClampNeg + n.toNatClampNeg) g.length) with
          | false => rw [hc2] at h; cases h
          | true =>
            rw [hc2] at h
            cases h
            simp only [Bool.and_eq_true] at hc2
            exact sx_ext.set hw1 (sx_cpy_len (Nat.le_of_ble_eq_true hc2.1) (Nat.le_of_ble_eq_true hc2.2))
        · rename_i f g hw0 hw1
          cases hc2 : (Nat.ble (sp.toNatClampNeg + n.toNatClampNeg) f.length && Nat.ble (dp.toNatClampNeg + n.toNatClampNeg) g.length) with
          | false => rw [hc2] at h; cases h
          | true =>
            rw [hc2] at h
            cases h
            simp only [Bool.and_eq_true] at hc2
            exact sx_ext.set hw1 (sx_cpy_len (Nat.le_of_ble_eq_true hc2.1) (Nat.le_of_ble_eq_true hc2.2))
        · cases h
    · cases h
  · cases h
theorem sx_w_str {o : Nat} {idx : Nat} {ls : sx_L} {pc : Nat} {st : List Value} {w : List sx_C} {F : sx_F} (h : sx_str o idx ls pc st w = some F) : F.2.2.2 = w := by
  simp only [sx_str, Bool.cond_eq_ite] at h
  (repeat' split at h) <;> first | (cases h; done) | (cases h; rfl)
set_option maxHeartbeats 4000000 in
theorem sx_x_step {md : Bool} {xs : Option (List Int32)} {mi pc n : Nat} {i : Instr} {ls : sx_L} {st : List Value} {w : List sx_C} {F : sx_F} (h : sx_step md xs mi pc i n ls st w = some F) : sx_ext w F.2.2.2 := by
  unfold sx_step at h
  split at h
  · cases h; exact sx_ext.rf _
  · cases h; exact sx_ext.rf _
  · cases h; exact sx_ext.rf _
  · cases h; exact sx_ext.rf _
  · exact sx_ext.of (sx_w_kc h)
  · exact sx_ext.of (sx_w_kc h)
  · exact sx_ext.of (sx_w_kj h)
  · exact sx_ext.of (sx_w_ldi h)
  · exact sx_ext.of (sx_w_ldi h)
  · exact sx_ext.of (sx_w_ldl h)
  · exact sx_ext.of (sx_w_ldl h)
  · exact sx_ext.of (sx_w_lda h)
  · exact sx_ext.of (sx_w_lda h)
  · exact sx_ext.of (sx_w_sti h)
  · exact sx_ext.of (sx_w_sti h)
  · exact sx_ext.of (sx_w_stl h)
  · exact sx_ext.of (sx_w_stl h)
  · exact sx_ext.of (sx_w_sta h)
  · exact sx_ext.of (sx_w_sta h)
  · exact sx_ext.of (sx_w_inc h)
  · exact sx_ext.of (sx_w_ii h)
  · exact sx_ext.of (sx_w_ii h)
  · exact sx_ext.of (sx_w_ii h)
  · exact sx_ext.of (sx_w_ii h)
  · exact sx_ext.of (sx_w_ii h)
  · exact sx_ext.of (sx_w_ii h)
  · exact sx_ext.of (sx_w_iz h)
  · exact sx_ext.of (sx_w_iz h)
  · exact sx_ext.of (sx_w_i1 h)
  · exact sx_ext.of (sx_w_i1 h)
  · exact sx_ext.of (sx_w_i1 h)
  · exact sx_ext.of (sx_w_jj h)
  · exact sx_ext.of (sx_w_jj h)
  · exact sx_ext.of (sx_w_jj h)
  · exact sx_ext.of (sx_w_jj h)
  · exact sx_ext.of (sx_w_jj h)
  · exact sx_ext.of (sx_w_jj h)
  · exact sx_ext.of (sx_w_ji h)
  · exact sx_ext.of (sx_w_ji h)
  · split at h
    · cases h; exact sx_ext.rf _
    · cases h
  · split at h
    · cases h; exact sx_ext.rf _
    · cases h
  · split at h
    · cases h; exact sx_ext.rf _
    · cases h
  · exact sx_ext.of (sx_w_dup h)
  · exact sx_ext.of (sx_w_pop h)
  · exact sx_ext.of (sx_w_dup2 h)
  · exact sx_ext.of (sx_w_pop2 h)
  · exact sx_ext.of (sx_w_b1 h)
  · exact sx_ext.of (sx_w_b2 h)
  · exact sx_ext.of (sx_w_b1 h)
  · exact sx_ext.of (sx_w_b2 h)
  · exact sx_ext.of (sx_w_b1 h)
  · exact sx_ext.of (sx_w_b2 h)
  · exact sx_ext.of (sx_w_b1 h)
  · exact sx_ext.of (sx_w_b2 h)
  · exact sx_ext.of (sx_w_b1 h)
  · exact sx_ext.of (sx_w_b2 h)
  · exact sx_ext.of (sx_w_b1 h)
  · exact sx_ext.of (sx_w_b2 h)
  · split at h
    · cases h; exact sx_ext.rf _
    · cases h
  · exact sx_ext.of (sx_w_sw h)
  · exact sx_ext.of (sx_w_gf h)
  · exact sx_x_pf h
  · exact sx_ext.of (sx_w_gs h)
  · exact sx_ext.of (sx_w_iald h)
  · exact sx_ext.of (sx_w_bald h)
  · exact sx_ext.of (sx_w_lald h)
  · exact sx_ext.of (sx_w_aald h)
  · exact sx_x_iast h
  · exact sx_x_bast h
  · exact sx_x_last h
  · exact sx_x_aast h
  · exact sx_ext.of (sx_w_len h)
  · cases md with
    | false => cases h
    | true => exact sx_x_new h
  · cases md with
    | false => cases h
    | true => exact sx_x_na h
  · cases md with
    | false => cases h
    | true => exact sx_x_anew h
  · cases md with
    | false => cases h
    | true => exact sx_x_mna h
  · exact sx_ext.of (sx_w_obj h)
  · cases md with
    | true => cases h
    | false => exact sx_x_acp h
  · exact sx_ext.of (sx_w_str h)
  · cases h
theorem sx_x_run (md : Bool) (xs : Option (List Int32)) : ∀ (f d mi pc : Nat) (ls : sx_L) (st : List Value) (w : List sx_C) (r : Option Value) (w2 : List sx_C), sx_run md xs f d mi pc ls st w = some (r, w2) → sx_ext w w2
  | 0, d, mi, pc, ls, st, w, r, w2, h => by cases h
  | f + 1, d, mi, pc, ls, st, w, r, w2, h => by
    unfold sx_run at h
    split at h
    · cases h
    · rename_i i n hi
      split at h
      · rename_i pc2 ls2 st2 w3 hs
        exact (sx_x_step hs).tr (sx_x_run md xs f d mi pc2 ls2 st2 w3 r w2 h)
      · split at h
        · cases h
          exact sx_ext.rf _
        · split at h
          · rename_i mi2 as rest d2 hinv
            simp only [Bool.cond_eq_ite] at h
            split at h
            · split at h
              · rename_i r2 w4 hc
                exact (sx_x_run md xs f d2 mi2 0 _ [] w r2 w4 hc).tr (sx_x_run md xs f (d2 + 1) mi (pc + 3) ls _ w4 r w2 h)
              · cases h
            · cases h
          · cases h
