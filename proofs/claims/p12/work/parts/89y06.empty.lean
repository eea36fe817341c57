-- a run that needs no world
theorem sx_e_kc {o : Nat} {idx : Nat} {pc : Nat} {n : Nat} {ls : sx_L} {st : List Value} {F : sx_F} (h : sx_kc o idx pc n ls st [] = some F) : F.2.2.2 = [] ∧ ∀ w, sx_kc o idx pc n ls st w = some (F.1, F.2.1, F.2.2.1, w) := by
  simp only [sx_kc, List.getElem?_nil, Bool.cond_eq_ite] at h ⊢
  (repeat' split at h) <;> first | (cases h; done) | (cases h; exact ⟨rfl, fun w => by simp_all⟩)
theorem sx_e_kj {o : Nat} {idx : Nat} {ls : sx_L} {pc : Nat} {st : List Value} {F : sx_F} (h : sx_kj o idx ls pc st [] = some F) : F.2.2.2 = [] ∧ ∀ w, sx_kj o idx ls pc st w = some (F.1, F.2.1, F.2.2.1, w) := by
  simp only [sx_kj, List.getElem?_nil, Bool.cond_eq_ite] at h ⊢
  (repeat' split at h) <;> first | (cases h; done) | (cases h; exact ⟨rfl, fun w => by simp_all⟩)
theorem sx_e_ldi {ls : sx_L} {i : Nat} {pc : Nat} {st : List Value} {F : sx_F} (h : sx_ldi ls i pc st [] = some F) : F.2.2.2 = [] ∧ ∀ w, sx_ldi ls i pc st w = some (F.1, F.2.1, F.2.2.1, w) := by
  simp only [sx_ldi, List.getElem?_nil, Bool.cond_eq_ite] at h ⊢
  (repeat' split at h) <;> first | (cases h; done) | (cases h; exact ⟨rfl, fun w => by simp_all⟩)
theorem sx_e_ldl {ls : sx_L} {i : Nat} {pc : Nat} {st : List Value} {F : sx_F} (h : sx_ldl ls i pc st [] = some F) : F.2.2.2 = [] ∧ ∀ w, sx_ldl ls i pc st w = some (F.1, F.2.1, F.2.2.1, w) := by
  simp only [sx_ldl, List.getElem?_nil, Bool.cond_eq_ite] at h ⊢
  (repeat' split at h) <;> first | (cases h; done) | (cases h; exact ⟨rfl, fun w => by simp_all⟩)
theorem sx_e_lda {ls : sx_L} {i : Nat} {pc : Nat} {st : List Value} {F : sx_F} (h : sx_lda ls i pc st [] = some F) : F.2.2.2 = [] ∧ ∀ w, sx_lda ls i pc st w = some (F.1, F.2.1, F.2.2.1, w) := by
  simp only [sx_lda, List.getElem?_nil, Bool.cond_eq_ite] at h ⊢
  (repeat' split at h) <;> first | (cases h; done) | (cases h; exact ⟨rfl, fun w => by simp_all⟩)
theorem sx_e_sti {nL : Nat} {ls : sx_L} {i : Nat} {pc : Nat} {st : List Value} {F : sx_F} (h : sx_sti nL ls i pc st [] = some F) : F.2.2.2 = [] ∧ ∀ w, sx_sti nL ls i pc st w = some (F.1, F.2.1, F.2.2.1, w) := by
  simp only [sx_sti, List.getElem?_nil, Bool.cond_eq_ite] at h ⊢
  (repeat' split at h) <;> first | (cases h; done) | (cases h; exact ⟨rfl, fun w => by simp_all⟩)
theorem sx_e_stl {nL : Nat} {ls : sx_L} {i : Nat} {pc : Nat} {st : List Value} {F : sx_F} (h : sx_stl nL ls i pc st [] = some F) : F.2.2.2 = [] ∧ ∀ w, sx_stl nL ls i pc st w = some (F.1, F.2.1, F.2.2.1, w) := by
  simp only [sx_stl, List.getElem?_nil, Bool.cond_eq_ite] at h ⊢
  (repeat' split at h) <;> first | (cases h; done) | (cases h; exact ⟨rfl, fun w => by simp_all⟩)
theorem sx_e_sta {nL : Nat} {ls : sx_L} {i : Nat} {pc : Nat} {st : List Value} {F : sx_F} (h : sx_sta nL ls i pc st [] = some F) : F.2.2.2 = [] ∧ ∀ w, sx_sta nL ls i pc st w = some (F.1, F.2.1, F.2.2.1, w) := by
  simp only [sx_sta, List.getElem?_nil, Bool.cond_eq_ite] at h ⊢
  (repeat' split at h) <;> first | (cases h; done) | (cases h; exact ⟨rfl, fun w => by simp_all⟩)
theorem sx_e_inc {nL : Nat} {i : Nat} {k : Int} {ls : sx_L} {pc : Nat} {st : List Value} {F : sx_F} (h : sx_inc nL i k ls pc st [] = some F) : F.2.2.2 = [] ∧ ∀ w, sx_inc nL i k ls pc st w = some (F.1, F.2.1, F.2.2.1, w) := by
  simp only [sx_inc, List.getElem?_nil, Bool.cond_eq_ite] at h ⊢
  (repeat' split at h) <;> first | (cases h; done) | (cases h; exact ⟨rfl, fun w => by simp_all⟩)
theorem sx_e_ii {f : Int32 → Int32 → Int32} {ls : sx_L} {pc : Nat} {st : List Value} {F : sx_F} (h : sx_ii f ls pc st [] = some F) : F.2.2.2 = [] ∧ ∀ w, sx_ii f ls pc st w = some (F.1, F.2.1, F.2.2.1, w) := by
  simp only [sx_ii, List.getElem?_nil, Bool.cond_eq_ite] at h ⊢
  (repeat' split at h) <;> first | (cases h; done) | (cases h; exact ⟨rfl, fun w => by simp_all⟩)
theorem sx_e_iz {f : Int32 → Int32 → Int32} {ls : sx_L} {pc : Nat} {st : List Value} {F : sx_F} (h : sx_iz f ls pc st [] = some F) : F.2.2.2 = [] ∧ ∀ w, sx_iz f ls pc st w = some (F.1, F.2.1, F.2.2.1, w) := by
  simp only [sx_iz, List.getElem?_nil, Bool.cond_eq_ite] at h ⊢
  (repeat' split at h) <;> first | (cases h; done) | (cases h; exact ⟨rfl, fun w => by simp_all⟩)
theorem sx_e_i1 {f : Int32 → Int32} {ls : sx_L} {pc : Nat} {st : List Value} {F : sx_F} (h : sx_i1 f ls pc st [] = some F) : F.2.2.2 = [] ∧ ∀ w, sx_i1 f ls pc st w = some (F.1, F.2.1, F.2.2.1, w) := by
  simp only [sx_i1, List.getElem?_nil, Bool.cond_eq_ite] at h ⊢
  (repeat' split at h) <;> first | (cases h; done) | (cases h; exact ⟨rfl, fun w => by simp_all⟩)
theorem sx_e_jj {f : Int64 → Int64 → Int64} {ls : sx_L} {pc : Nat} {st : List Value} {F : sx_F} (h : sx_jj f ls pc st [] = some F) : F.2.2.2 = [] ∧ ∀ w, sx_jj f ls pc st w = some (F.1, F.2.1, F.2.2.1, w) := by
  simp only [sx_jj, List.getElem?_nil, Bool.cond_eq_ite] at h ⊢
  (repeat' split at h) <;> first | (cases h; done) | (cases h; exact ⟨rfl, fun w => by simp_all⟩)
theorem sx_e_ji {f : Int64 → Int32 → Int64} {ls : sx_L} {pc : Nat} {st : List Value} {F : sx_F} (h : sx_ji f ls pc st [] = some F) : F.2.2.2 = [] ∧ ∀ w, sx_ji f ls pc st w = some (F.1, F.2.1, F.2.2.1, w) := by
  simp only [sx_ji, List.getElem?_nil, Bool.cond_eq_ite] at h ⊢
  (repeat' split at h) <;> first | (cases h; done) | (cases h; exact ⟨rfl, fun w => by simp_all⟩)
theorem sx_e_dup {ls : sx_L} {pc : Nat} {st : List Value} {F : sx_F} (h : sx_dup ls pc st [] = some F) : F.2.2.2 = [] ∧ ∀ w, sx_dup ls pc st w = some (F.1, F.2.1, F.2.2.1, w) := by
  simp only [sx_dup, List.getElem?_nil, Bool.cond_eq_ite] at h ⊢
  (repeat' split at h) <;> first | (cases h; done) | (cases h; exact ⟨rfl, fun w => by simp_all⟩)
theorem sx_e_pop {ls : sx_L} {pc : Nat} {st : List Value} {F : sx_F} (h : sx_pop ls pc st [] = some F) : F.2.2.2 = [] ∧ ∀ w, sx_pop ls pc st w = some (F.1, F.2.1, F.2.2.1, w) := by
  simp only [sx_pop, List.getElem?_nil, Bool.cond_eq_ite] at h ⊢
  (repeat' split at h) <;> first | (cases h; done) | (cases h; exact ⟨rfl, fun w => by simp_all⟩)
theorem sx_e_pop2 {ls : sx_L} {pc : Nat} {st : List Value} {F : sx_F} (h : sx_pop2 ls pc st [] = some F) : F.2.2.2 = [] ∧ ∀ w, sx_pop2 ls pc st w = some (F.1, F.2.1, F.2.2.1, w) := by
  simp only [sx_pop2, List.getElem?_nil, Bool.cond_eq_ite] at h ⊢
  (repeat' split at h) <;> first | (cases h; done) | (cases h; exact ⟨rfl, fun w => by simp_all⟩)
theorem sx_e_dup2 {ls : sx_L} {pc : Nat} {st : List Value} {F : sx_F} (h : sx_dup2 ls pc st [] = some F) : F.2.2.2 = [] ∧ ∀ w, sx_dup2 ls pc st w = some (F.1, F.2.1, F.2.2.1, w) := by
  simp only [sx_dup2, List.getElem?_nil, Bool.cond_eq_ite] at h ⊢
  (repeat' split at h) <;> first | (cases h; done) | (cases h; exact ⟨rfl, fun w => by simp_all⟩)
theorem sx_e_b1 {f : Int32 → Bool} {off : Int} {ls : sx_L} {pc : Nat} {st : List Value} {F : sx_F} (h : sx_b1 f off ls pc st [] = some F) : F.2.2.2 = [] ∧ ∀ w, sx_b1 f off ls pc st w = some (F.1, F.2.1, F.2.2.1, w) := by
  simp only [sx_b1, List.getElem?_nil, Bool.cond_eq_ite] at h ⊢
  (repeat' split at h) <;> first | (cases h; done) | (cases h; exact ⟨rfl, fun w => by simp_all⟩)
theorem sx_e_b2 {f : Int32 → Int32 → Bool} {off : Int} {ls : sx_L} {pc : Nat} {st : List Value} {F : sx_F} (h : sx_b2 f off ls pc st [] = some F) : F.2.2.2 = [] ∧ ∀ w, sx_b2 f off ls pc st w = some (F.1, F.2.1, F.2.2.1, w) := by
  simp only [sx_b2, List.getElem?_nil, Bool.cond_eq_ite] at h ⊢
  (repeat' split at h) <;> first | (cases h; done) | (cases h; exact ⟨rfl, fun w => by simp_all⟩)
theorem sx_e_sw {a : Int} {b : Int} {c2 : Int} {offs : Array Int} {ls : sx_L} {pc : Nat} {st : List Value} {F : sx_F} (h : sx_sw a b c2 offs ls pc st [] = some F) : F.2.2.2 = [] ∧ ∀ w, sx_sw a b c2 offs ls pc st w = some (F.1, F.2.1, F.2.2.1, w) := by
  simp only [sx_sw, List.getElem?_nil, Bool.cond_eq_ite] at h ⊢
  (repeat' split at h) <;> first | (cases h; done) | (cases h; refine ⟨rfl, fun w => ?_⟩; simp_all; done) | (cases h; refine ⟨rfl, fun w => ?_⟩; simp_all; intro hh; exfalso; omega)
theorem sx_e_gf {o : Nat} {idx : Nat} {ls : sx_L} {pc : Nat} {st : List Value} {F : sx_F} (h : sx_gf o idx ls pc st [] = some F) : F.2.2.2 = [] ∧ ∀ w, sx_gf o idx ls pc st w = some (F.1, F.2.1, F.2.2.1, w) := by
  simp only [sx_gf, List.getElem?_nil, Bool.cond_eq_ite] at h ⊢
  (repeat' split at h) <;> first | (cases h; done) | (cases h; exact ⟨rfl, fun w => by simp_all⟩)
theorem sx_e_gs {o : Nat} {idx : Nat} {ls : sx_L} {pc : Nat} {st : List Value} {F : sx_F} (h : sx_gs o idx ls pc st [] = some F) : F.2.2.2 = [] ∧ ∀ w, sx_gs o idx ls pc st w = some (F.1, F.2.1, F.2.2.1, w) := by
  simp only [sx_gs, List.getElem?_nil, Bool.cond_eq_ite] at h ⊢
  (repeat' split at h) <;> first | (cases h; done) | (cases h; exact ⟨rfl, fun w => by simp_all⟩)
theorem sx_e_iald {xs : Option (List Int32)} {ls : sx_L} {pc : Nat} {st : List Value} {F : sx_F} (h : sx_iald xs ls pc st [] = some F) : F.2.2.2 = [] ∧ ∀ w, sx_iald xs ls pc st w = some (F.1, F.2.1, F.2.2.1, w) := by
  simp only [sx_iald, sx_al, List.getElem?_nil, Bool.cond_eq_ite] at h ⊢
  (repeat' split at h) <;> first | (cases h; done) | (cases h; exact ⟨rfl, fun w => by simp_all⟩)
theorem sx_e_bald {ls : sx_L} {pc : Nat} {st : List Value} {F : sx_F} (h : sx_bald ls pc st [] = some F) : F.2.2.2 = [] ∧ ∀ w, sx_bald ls pc st w = some (F.1, F.2.1, F.2.2.1, w) := by
  simp only [sx_bald, sx_al, List.getElem?_nil, Bool.cond_eq_ite] at h ⊢
  (repeat' split at h) <;> first | (cases h; done) | (cases h; exact ⟨rfl, fun w => by simp_all⟩)
theorem sx_e_lald {ls : sx_L} {pc : Nat} {st : List Value} {F : sx_F} (h : sx_lald ls pc st [] = some F) : F.2.2.2 = [] ∧ ∀ w, sx_lald ls pc st w = some (F.1, F.2.1, F.2.2.1, w) := by
  simp only [sx_lald, List.getElem?_nil, Bool.cond_eq_ite] at h ⊢
  (repeat' split at h) <;> first | (cases h; done) | (cases h; exact ⟨rfl, fun w => by simp_all⟩)
theorem sx_e_aald {ls : sx_L} {pc : Nat} {st : List Value} {F : sx_F} (h : sx_aald ls pc st [] = some F) : F.2.2.2 = [] ∧ ∀ w, sx_aald ls pc st w = some (F.1, F.2.1, F.2.2.1, w) := by
  simp only [sx_aald, List.getElem?_nil, Bool.cond_eq_ite] at h ⊢
  (repeat' split at h) <;> first | (cases h; done) | (cases h; exact ⟨rfl, fun w => by simp_all⟩)
theorem sx_e_len {xs : Option (List Int32)} {ls : sx_L} {pc : Nat} {st : List Value} {F : sx_F} (h : sx_len xs ls pc st [] = some F) : F.2.2.2 = [] ∧ ∀ w, sx_len xs ls pc st w = some (F.1, F.2.1, F.2.2.1, w) := by
  simp only [sx_len, List.getElem?_nil, Bool.cond_eq_ite] at h ⊢
  (repeat' split at h) <;> first | (cases h; done) | (cases h; exact ⟨rfl, fun w => by simp_all⟩)
theorem sx_e_obj {o : Nat} {idx : Nat} {ls : sx_L} {pc : Nat} {st : List Value} {F : sx_F} (h : sx_obj o idx ls pc st [] = some F) : F.2.2.2 = [] ∧ ∀ w, sx_obj o idx ls pc st w = some (F.1, F.2.1, F.2.2.1, w) := by
  simp only [sx_obj, List.getElem?_nil, Bool.cond_eq_ite] at h ⊢
  (repeat' split at h) <;> first | (cases h; done) | (cases h; exact ⟨rfl, fun w => by simp_all⟩)
theorem sx_e_pf {mi : Nat} {idx : Nat} {ls : sx_L} {pc : Nat} {st : List Value} {F : sx_F} (h : sx_pf mi idx ls pc st [] = some F) : F.2.2.2 = [] ∧ ∀ w, sx_pf mi idx ls pc st w = some (F.1, F.2.1, F.2.2.1, w) := by
  simp only [sx_pf, List.getElem?_nil, Bool.cond_eq_ite] at h ⊢
  (repeat' split at h) <;> first | (cases h; done) | (cases h; exact ⟨rfl, fun w => by simp_all⟩)
theorem sx_e_iast {ls : sx_L} {pc : Nat} {st : List Value} {F : sx_F} (h : sx_iast ls pc st [] = some F) : F.2.2.2 = [] ∧ ∀ w, sx_iast ls pc st w = some (F.1, F.2.1, F.2.2.1, w) := by
  simp only [sx_iast, List.getElem?_nil, Bool.cond_eq_ite] at h ⊢
  (repeat' split at h) <;> first | (cases h; done) | (cases h; exact ⟨rfl, fun w => by simp_all⟩)
theorem sx_e_bast {ls : sx_L} {pc : Nat} {st : List Value} {F : sx_F} (h : sx_bast ls pc st [] = some F) : F.2.2.2 = [] ∧ ∀ w, sx_bast ls pc st w = some (F.1, F.2.1, F.2.2.1, w) := by
  simp only [sx_bast, List.getElem?_nil, Bool.cond_eq_ite] at h ⊢
  (repeat' split at h) <;> first | (cases h; done) | (cases h; exact ⟨rfl, fun w => by simp_all⟩)
theorem sx_e_last {ls : sx_L} {pc : Nat} {st : List Value} {F : sx_F} (h : sx_last ls pc st [] = some F) : F.2.2.2 = [] ∧ ∀ w, sx_last ls pc st w = some (F.1, F.2.1, F.2.2.1, w) := by
  simp only [sx_last, List.getElem?_nil, Bool.cond_eq_ite] at h ⊢
  (repeat' split at h) <;> first | (cases h; done) | (cases h; exact ⟨rfl, fun w => by simp_all⟩)
theorem sx_e_aast {ls : sx_L} {pc : Nat} {st : List Value} {F : sx_F} (h : sx_aast ls pc st [] = some F) : F.2.2.2 = [] ∧ ∀ w, sx_aast ls pc st w = some (F.1, F.2.1, F.2.2.1, w) := by
  simp only [sx_aast, List.getElem?_nil, Bool.cond_eq_ite] at h ⊢
  (repeat' split at h) <;> first | (cases h; done) | (cases h; exact ⟨rfl, fun w => by simp_all⟩)
theorem sx_e_acp {o idx : Nat} {ls : sx_L} {pc : Nat} {st : List Value} {F : sx_F} (h : sx_acp o idx ls pc st [] = some F) : F.2.2.2 = [] ∧ ∀ w, sx_acp o idx ls pc st w = some (F.1, F.2.1, F.2.2.1, w) := by
  simp only [sx_acp, List.getElem?_nil, Bool.cond_eq_ite] at h ⊢
  (repeat' split at h) <;> first | (cases h; done) | (cases h; exact ⟨rfl, fun w => by simp_all⟩)
theorem sx_e_str {o : Nat} {idx : Nat} {ls : sx_L} {pc : Nat} {st : List Value} {F : sx_F} (h : sx_str o idx ls pc st [] = some F) : F.2.2.2 = [] ∧ ∀ w, sx_str o idx ls pc st w = some (F.1, F.2.1, F.2.2.1, w) := by
  simp only [sx_str, List.getElem?_nil, Bool.cond_eq_ite] at h ⊢
  (repeat' split at h) <;> first | (cases h; done) | (cases h; exact ⟨rfl, fun w => by simp_all⟩)
set_option maxHeartbeats 4000000 in
theorem sx_e_step {md : Bool} (hm : md = false) {xs : Option (List Int32)} {mi pc n : Nat} {i : Instr} {ls : sx_L} {st : List Value} {F : sx_F} (h : sx_step md xs mi pc i n ls st [] = some F) : F.2.2.2 = [] ∧ ∀ w, sx_step md xs mi pc i n ls st w = some (F.1, F.2.1, F.2.2.1, w) := by
  unfold sx_step at h
  split at h
  · cases h; exact ⟨rfl, fun _ => rfl⟩
  · cases h; exact ⟨rfl, fun _ => rfl⟩
  · cases h; exact ⟨rfl, fun _ => rfl⟩
  · cases h; exact ⟨rfl, fun _ => rfl⟩
  · exact sx_e_kc h
  · exact sx_e_kc h
  · exact sx_e_kj h
  · exact sx_e_ldi h
  · exact sx_e_ldi h
  · exact sx_e_ldl h
  · exact sx_e_ldl h
  · exact sx_e_lda h
  · exact sx_e_lda h
  · exact sx_e_sti h
  · exact sx_e_sti h
  · exact sx_e_stl h
  · exact sx_e_stl h
  · exact sx_e_sta h
  · exact sx_e_sta h
  · exact sx_e_inc h
  · exact sx_e_ii h
  · exact sx_e_ii h
  · exact sx_e_ii h
  · exact sx_e_ii h
  · exact sx_e_ii h
  · exact sx_e_ii h
  · exact sx_e_iz h
  · exact sx_e_iz h
  · exact sx_e_i1 h
  · exact sx_e_i1 h
  · exact sx_e_i1 h
  · exact sx_e_jj h
  · exact sx_e_jj h
  · exact sx_e_jj h
  · exact sx_e_jj h
  · exact sx_e_jj h
  · exact sx_e_jj h
  · exact sx_e_ji h
  · exact sx_e_ji h
  · split at h
    · cases h; exact ⟨rfl, fun _ => rfl⟩
    · cases h
  · split at h
    · cases h; exact ⟨rfl, fun _ => rfl⟩
    · cases h
  · split at h
    · cases h; exact ⟨rfl, fun _ => rfl⟩
    · cases h
  · exact sx_e_dup h
  · exact sx_e_pop h
  · exact sx_e_dup2 h
  · exact sx_e_pop2 h
  · exact sx_e_b1 h
  · exact sx_e_b2 h
  · exact sx_e_b1 h
  · exact sx_e_b2 h
  · exact sx_e_b1 h
  · exact sx_e_b2 h
  · exact sx_e_b1 h
  · exact sx_e_b2 h
  · exact sx_e_b1 h
  · exact sx_e_b2 h
  · exact sx_e_b1 h
  · exact sx_e_b2 h
  · split at h
    · rename_i t ht
      cases h
      refine ⟨rfl, fun w => ?_⟩
      unfold sx_step
      simp only
      rw [ht]
    · cases h
  · exact sx_e_sw h
  · exact sx_e_gf h
  · exact sx_e_pf h
  · exact sx_e_gs h
  · exact sx_e_iald h
  · exact sx_e_bald h
  · exact sx_e_lald h
  · exact sx_e_aald h
  · exact sx_e_iast h
  · exact sx_e_bast h
  · exact sx_e_last h
  · exact sx_e_aast h
  · exact sx_e_len h
  · cases md with
    | false => cases h
    | true => cases hm
  · cases md with
    | false => cases h
    | true => cases hm
  · cases md with
    | false => cases h
    | true => cases hm
  · cases md with
    | false => cases h
    | true => cases hm
  · exact sx_e_obj h
  · cases md with
    | true => cases h
    | false => exact sx_e_acp h
  · exact sx_e_str h
  · cases h
/-- runs without calls that touch no cell -/
noncomputable def sx_free : Nat → Nat → Nat → sx_L → List Value → Option (Option Value)
  | 0, _, _, _, _ => none
  | f + 1, mi, pc, ls, st => match sx_ins mi pc with
    | none => none
    | some (i, n) => match sx_step false none mi pc i n ls st [] with
      | some (pc2, ls2, st2, _) => sx_free f mi pc2 ls2 st2
      | none => cond (Nat.beq n 1) (sx_ret mi i st) none
theorem sx_free_ok : ∀ (f mi pc : Nat) (ls : sx_L) (st : List Value) (r : Option Value), sx_free f mi pc ls st = some r → ∀ (d : Nat) (w : List sx_C), sx_RU none d mi pc ls st w r w
  | 0, _, _, _, _, _, h, _, _ => by cases h
  | f + 1, mi, pc, ls, st, r, h, d, w => by
    unfold sx_free at h
    split at h
    · cases h
    · rename_i i n hi
      split at h
      · rename_i pc2 ls2 st2 w3 hs
        exact sx_RU.step hi ((sx_e_step rfl hs).2 w) (sx_free_ok f mi pc2 ls2 st2 r h d w)
      · cases hn : Nat.beq n 1 with
        | false => rw [hn] at h; cases h
        | true =>
          rw [hn] at h
          have e := Nat.eq_of_beq_eq_true hn
          subst e
          exact sx_RU.ret hi h
noncomputable def frI (f mi : Nat) (as : List Value) (v : Int32) : Bool := match sx_free f mi 0 (lv_args 0 as) [] with
  | some (some (.int x)) => x == v
  | _ => false
theorem frI_ok {f mi : Nat} {as : List Value} {v : Int32} (h : frI f mi as v = true) (xs : Option (List Int32)) (d : Nat) (w : List sx_C) : sx_RU xs d mi 0 (lv_args 0 as) [] w (some (.int v)) w := by
  unfold frI at h
  split at h
  · rename_i x hx
    have e : x = v := eq_of_beq h
    subst e
    have h2 := sx_free_ok f mi 0 _ [] _ hx d w
    cases xs with
    | none => exact h2
    | some ys =>
      obtain ⟨g, hg⟩ := h2
      exact ⟨g, sx_lift_run false ys g d mi 0 _ [] w _ w hg⟩
  · cases h
-- tables of the kinds
def tmT : List Nat := [1, 2, 4, 0, 2, 3, 5, 0, 1, 1, 2, 0, 2, 3, 5, 0, 1, 1, 2, 0, 2, 3, 3, 0]
def ldT : List Nat := [12, 8, 20, 0, 10, 6, 18, 0, 6, 4, 10, 0, 5, 3, 9, 0, 18, 12, 30, 0, 5, 3, 9, 0]
def tmV (k s : Nat) (v : Int32) : Int32 := nI (tmT.getD (4 * k + s) 0) + (if k = 3 ∨ (k = 5 ∧ ¬ s = 2) then v else 0)
def ldV (k s : Nat) : Int32 := nI (ldT.getD (4 * k + s) 0)
def prB (k : Nat) : Bool := k == 1 || k == 3 || k == 5
def fmB (k s : Nat) : Bool := !(s == 1) || prB k
/-- whether a kind is another one, or under it -/
def unB (k o : Nat) : Bool := match o with
  | 0 => true
  | 1 => prB k
  | 2 => k == 2 || k == 4
  | 3 => k == 3 || k == 5
  | o => k == o
theorem t34 : ∀ k, k < 6 → ∀ s, s < 4 → ∀ b, b < 2 → frI 60 34 [.int (nI k), .int (nI s), .int (nI b)] (tmV k s (nI b)) = true := by decide +kernel
theorem t36 : ∀ k, k < 6 → ∀ s, s < 4 → frI 40 36 [.int (nI k), .int (nI s)] (ldV k s) = true := by decide +kernel
theorem t31 : ∀ k, k < 6 → ∀ o, o < 6 → frI 120 31 [.int (nI k), .int (nI o)] (b01 (unB k o)) = true := by decide +kernel
theorem t145 : ∀ k, k < 6 → frI 40 145 [.int (nI k)] (b01 (prB k)) = true := by decide +kernel
theorem t148 : ∀ s, s < 4 → frI 40 148 [.int (nI s)] (if s = 0 then 1 else if s = 1 then 2 else 4) = true := by decide +kernel
theorem t163 : ∀ s, s < 4 → frI 40 163 [.int (nI s)] (if s = 0 then 12 else if s = 1 then 8 else if s = 2 then 20 else 0) = true := by decide +kernel
-- how far apart, and near
def abF (x : Int32) : Int32 := if x < 0 then -x else x
def apF (a b : Nat) : Int32 := abF (nI a / 8 - nI b / 8) + abF ((nI a - nI a / 8 * 8) - (nI b - nI b / 8 * 8))
def nearB (a b : Nat) : Bool := (a == b) || nbb a b
theorem near_sym : ∀ a, a < 48 → ∀ b, b < 48 → nearB a b = nearB b a := by decide +kernel
theorem ap_near : ∀ a, a < 48 → ∀ b, b < 48 → (decide (apF a b ≤ 1)) = nearB a b := by decide +kernel
theorem ap_in : ∀ a, a < 48 → ∀ b, b < 48 → ∃ n, n ≤ 12 ∧ apF a b = nI n := by
  have key : ∀ a, a < 48 → ∀ b, b < 48 → ((iN (apF a b)).ble 12 && (apF a b == nI (iN (apF a b)))) = true := by decide +kernel
  intro a ha b hb
  have h := key a ha b hb
  rw [Bool.and_eq_true] at h
  exact ⟨iN (apF a b), Nat.le_of_ble_eq_true h.1, eq_of_beq h.2⟩
