-- far on a fresh object
abbrev zz48 : List Int32 := List.replicate 48 0
abbrev oo48 : List Int32 := List.replicate 48 1
theorem e_fit : ftF zz48 48 0 (zz48, 1) = (oo48, 0) := by decide +kernel
theorem e_kn : knF 0 zz48 = zz48 := by decide +kernel
def mdi (a b : Nat) : Int32 := nI ((a / 8 - b / 8) + (b / 8 - a / 8) + ((a % 8 - b % 8) + (b % 8 - a % 8)))
theorem mdi_c (a b : Nat) : mdi a b = mdi b a := by
  unfold mdi
  rw [Nat.add_comm (a / 8 - b / 8), Nat.add_comm (a % 8 - b % 8)]
theorem map_at {g : Nat → Int32} {c : Nat} (hc : c < 48) : ((List.range 48).map g).getD c 0 = g c := by
  rw [List.getD_eq_getElem?_getD, List.getElem?_map, List.getElem?_range hc]
  rfl
theorem e_fc0 : ∀ t, t < 8 → adF oo48 (0 + t) 48 0 (spF oo48 (0 + t) zz48) = (List.range 48).map (mdi (0 + t)) := by decide +kernel
theorem e_fc8 : ∀ t, t < 8 → adF oo48 (8 + t) 48 0 (spF oo48 (8 + t) zz48) = (List.range 48).map (mdi (8 + t)) := by decide +kernel
theorem e_fc16 : ∀ t, t < 8 → adF oo48 (16 + t) 48 0 (spF oo48 (16 + t) zz48) = (List.range 48).map (mdi (16 + t)) := by decide +kernel
theorem e_fc24 : ∀ t, t < 8 → adF oo48 (24 + t) 48 0 (spF oo48 (24 + t) zz48) = (List.range 48).map (mdi (24 + t)) := by decide +kernel
theorem e_fc32 : ∀ t, t < 8 → adF oo48 (32 + t) 48 0 (spF oo48 (32 + t) zz48) = (List.range 48).map (mdi (32 + t)) := by decide +kernel
theorem e_fc40 : ∀ t, t < 8 → adF oo48 (40 + t) 48 0 (spF oo48 (40 + t) zz48) = (List.range 48).map (mdi (40 + t)) := by decide +kernel
theorem e_fr0 : ∀ t, t < 4 → (wlF sx_s0 (0 + t) zz48 zz48).1 = (List.range 48).map (mdi (0 + t)) := by decide +kernel
theorem e_fr4 : ∀ t, t < 4 → (wlF sx_s0 (4 + t) zz48 zz48).1 = (List.range 48).map (mdi (4 + t)) := by decide +kernel
theorem e_fr8 : ∀ t, t < 4 → (wlF sx_s0 (8 + t) zz48 zz48).1 = (List.range 48).map (mdi (8 + t)) := by decide +kernel
theorem e_fr12 : ∀ t, t < 4 → (wlF sx_s0 (12 + t) zz48 zz48).1 = (List.range 48).map (mdi (12 + t)) := by decide +kernel
theorem e_fr16 : ∀ t, t < 4 → (wlF sx_s0 (16 + t) zz48 zz48).1 = (List.range 48).map (mdi (16 + t)) := by decide +kernel
theorem e_fr20 : ∀ t, t < 4 → (wlF sx_s0 (20 + t) zz48 zz48).1 = (List.range 48).map (mdi (20 + t)) := by decide +kernel
theorem e_fr24 : ∀ t, t < 4 → (wlF sx_s0 (24 + t) zz48 zz48).1 = (List.range 48).map (mdi (24 + t)) := by decide +kernel
theorem e_fr28 : ∀ t, t < 4 → (wlF sx_s0 (28 + t) zz48 zz48).1 = (List.range 48).map (mdi (28 + t)) := by decide +kernel
theorem e_fr32 : ∀ t, t < 4 → (wlF sx_s0 (32 + t) zz48 zz48).1 = (List.range 48).map (mdi (32 + t)) := by decide +kernel
theorem e_fr36 : ∀ t, t < 4 → (wlF sx_s0 (36 + t) zz48 zz48).1 = (List.range 48).map (mdi (36 + t)) := by decide +kernel
theorem e_fr40 : ∀ t, t < 4 → (wlF sx_s0 (40 + t) zz48 zz48).1 = (List.range 48).map (mdi (40 + t)) := by decide +kernel
theorem e_fr44 : ∀ t, t < 4 → (wlF sx_s0 (44 + t) zz48 zz48).1 = (List.range 48).map (mdi (44 + t)) := by decide +kernel
theorem e_fc (t : Nat) (ht : t < 48) : adF oo48 t 48 0 (spF oo48 t zz48) = (List.range 48).map (mdi t) := by
  by_cases h0 : t < 8
  · have h := e_fc0 (t - 0) (by omega)
    rw [show 0 + (t - 0) = t by omega] at h
    exact h
  by_cases h8 : t < 16
  · have h := e_fc8 (t - 8) (by omega)
    rw [show 8 + (t - 8) = t by omega] at h
    exact h
  by_cases h16 : t < 24
  · have h := e_fc16 (t - 16) (by omega)
    rw [show 16 + (t - 16) = t by omega] at h
    exact h
  by_cases h24 : t < 32
  · have h := e_fc24 (t - 24) (by omega)
    rw [show 24 + (t - 24) = t by omega] at h
    exact h
  by_cases h32 : t < 40
  · have h := e_fc32 (t - 32) (by omega)
    rw [show 32 + (t - 32) = t by omega] at h
    exact h
  have h := e_fc40 (t - 40) (by omega)
  rw [show 40 + (t - 40) = t by omega] at h
  exact h
theorem e_fr (t : Nat) (ht : t < 48) : (wlF sx_s0 t zz48 zz48).1 = (List.range 48).map (mdi t) := by
  by_cases h0 : t < 4
  · have h := e_fr0 (t - 0) (by omega)
    rw [show 0 + (t - 0) = t by omega] at h
    exact h
  by_cases h4 : t < 8
  · have h := e_fr4 (t - 4) (by omega)
    rw [show 4 + (t - 4) = t by omega] at h
    exact h
  by_cases h8 : t < 12
  · have h := e_fr8 (t - 8) (by omega)
    rw [show 8 + (t - 8) = t by omega] at h
    exact h
  by_cases h12 : t < 16
  · have h := e_fr12 (t - 12) (by omega)
    rw [show 12 + (t - 12) = t by omega] at h
    exact h
  by_cases h16 : t < 20
  · have h := e_fr16 (t - 16) (by omega)
    rw [show 16 + (t - 16) = t by omega] at h
    exact h
  by_cases h20 : t < 24
  · have h := e_fr20 (t - 20) (by omega)
    rw [show 20 + (t - 20) = t by omega] at h
    exact h
  by_cases h24 : t < 28
  · have h := e_fr24 (t - 24) (by omega)
    rw [show 24 + (t - 24) = t by omega] at h
    exact h
  by_cases h28 : t < 32
  · have h := e_fr28 (t - 28) (by omega)
    rw [show 28 + (t - 28) = t by omega] at h
    exact h
  by_cases h32 : t < 36
  · have h := e_fr32 (t - 32) (by omega)
    rw [show 32 + (t - 32) = t by omega] at h
    exact h
  by_cases h36 : t < 40
  · have h := e_fr36 (t - 36) (by omega)
    rw [show 36 + (t - 36) = t by omega] at h
    exact h
  by_cases h40 : t < 44
  · have h := e_fr40 (t - 40) (by omega)
    rw [show 40 + (t - 40) = t by omega] at h
    exact h
  have h := e_fr44 (t - 44) (by omega)
  rw [show 44 + (t - 44) = t by omega] at h
  exact h
