-- the classes of the objects
def sx_cf (ci : Nat) (q : vw_C) : Prop := (∀ w ∈ u_ws q.1 q.2.1 q.2.2, w ∈ sx_tw) ∧ (∀ a, a < q.2.2 → ∀ b, b < q.2.2 → a ≠ b → (q.2.1 a).2.1 ≠ (q.2.1 b).2.1) ∧ (∀ k, k < q.2.2 → parseFieldDescriptor (q.2.1 k).2.2.1 = some (sx_ty ci k)) ∧ Cond.instantiable q.1 q.2.2 ∈ sx_tw ∧ Cond.initialized q.1 ∈ sx_tw ∧ (∀ j, j < q.2.2 → defaultValue (sx_ty ci j) = vp_V (sx_df ci) j) ∧ (sx_df ci).length = q.2.2 ∧ (∀ h0 sa, (sx_df ci).map (sx_v h0 sa) = sx_df ci) ∧ q.1 = sx_cn.getD ci ""
theorem sx_c0 : sx_cf 0 ("PeasDrum", sx_T0, 12) := ⟨sx_ws0, sx_n0, sx_z0, sx_twm (sx_memp (i := 92) (by decide +kernel)) rfl, sx_twm (sx_memp (i := 75) (by decide +kernel)) rfl, by decide +kernel, by decide +kernel, fun _ _ => rfl, by decide +kernel⟩
theorem sx_c1 : sx_cf 1 ("PeasDrum$Camp", sx_T1, 11) := ⟨sx_ws1, sx_n1, sx_z1, sx_twm (sx_memp (i := 100) (by decide +kernel)) rfl, sx_twm (sx_memp (i := 76) (by decide +kernel)) rfl, by decide +kernel, by decide +kernel, fun _ _ => rfl, by decide +kernel⟩
theorem sx_c2 : sx_cf 2 ("PeasDrum$Gallery", sx_T2, 6) := ⟨sx_ws2, sx_n2, sx_z2, sx_twm (sx_memp (i := 107) (by decide +kernel)) rfl, sx_twm (sx_memp (i := 77) (by decide +kernel)) rfl, by decide +kernel, by decide +kernel, fun _ _ => rfl, by decide +kernel⟩
theorem sx_c3 : sx_cf 3 ("PeasDrum$Sound", sx_T3, 3) := ⟨sx_ws3, sx_n3, sx_z3, sx_twm (sx_memp (i := 195) (by decide +kernel)) rfl, sx_twm (sx_memp (i := 78) (by decide +kernel)) rfl, by decide +kernel, by decide +kernel, fun _ _ => rfl, by decide +kernel⟩
theorem sx_c4 : sx_cf 4 ("PeasDrum$Text", sx_T4, 6) := ⟨sx_ws4, sx_n4, sx_z4, sx_twm (sx_memp (i := 214) (by decide +kernel)) rfl, sx_twm (sx_memp (i := 79) (by decide +kernel)) rfl, by decide +kernel, by decide +kernel, fun _ _ => rfl, by decide +kernel⟩
theorem sx_c5 : sx_cf 5 ("PeasDrum$Sheet", sx_T5, 3) := ⟨sx_ws5, sx_n5, sx_z5, sx_twm (sx_memp (i := 242) (by decide +kernel)) rfl, sx_twm (sx_memp (i := 80) (by decide +kernel)) rfl, by decide +kernel, by decide +kernel, fun _ _ => rfl, by decide +kernel⟩
theorem sx_c6 : sx_cf 6 ("PeasDrumModel", sx_T6, 19) := ⟨sx_ws6, sx_n6, sx_z6, sx_twm (sx_memp (i := 883) (by decide +kernel)) rfl, sx_twm (sx_memp (i := 81) (by decide +kernel)) rfl, by decide +kernel, by decide +kernel, fun _ _ => rfl, by decide +kernel⟩
theorem sx_cok {ci : Nat} {q : vw_C} (h : sx_cl[ci]? = some q) : sx_cf ci q := by
  match ci, h with
  | 0, h => cases h; exact sx_c0
  | 1, h => cases h; exact sx_c1
  | 2, h => cases h; exact sx_c2
  | 3, h => cases h; exact sx_c3
  | 4, h => cases h; exact sx_c4
  | 5, h => cases h; exact sx_c5
  | 6, h => cases h; exact sx_c6
  | k + 7, h => simp [sx_cl] at h
theorem sx_decl {ci : Nat} {C : String} {T : u_T} {N : Nat} (h : sx_cl[ci]? = some (C, T, N)) {k : Nat} (hk : k < N) : (T k).1 = C := by
  match ci, h with
  | 0, h => cases h; exact (by decide +kernel : ∀ k, k < 12 → (sx_T0 k).1 = "PeasDrum") k hk
  | 1, h => cases h; exact (by decide +kernel : ∀ k, k < 11 → (sx_T1 k).1 = "PeasDrum$Camp") k hk
  | 2, h => cases h; exact (by decide +kernel : ∀ k, k < 6 → (sx_T2 k).1 = "PeasDrum$Gallery") k hk
  | 3, h => cases h; exact (by decide +kernel : ∀ k, k < 3 → (sx_T3 k).1 = "PeasDrum$Sound") k hk
  | 4, h => cases h; exact (by decide +kernel : ∀ k, k < 6 → (sx_T4 k).1 = "PeasDrum$Text") k hk
  | 5, h => cases h; exact (by decide +kernel : ∀ k, k < 3 → (sx_T5 k).1 = "PeasDrum$Sheet") k hk
  | 6, h => cases h; exact (by decide +kernel : ∀ k, k < 19 → (sx_T6 k).1 = "PeasDrumModel") k hk
  | k + 7, h => simp [sx_cl] at h
