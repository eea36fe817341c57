-- siege of the reference over group B's state
def TBm (t : BT) : Prop := ∀ i, i < t.2.2.2.length → ∃ j, j < 256 ∧ t.2.2.2.getD i 0 = nI j
theorem tapM_len9 {w : List sx_C} {n : Nat} (en : fi w 111 11 = nI n) (hn : n ≤ 120) : (FMb w).2.2.2.length = n := by
  show (tapM w).length = n
  unfold tapM
  rw [List.length_map, List.length_range, en, iN_n (by omega)]
theorem MT_of {w : List sx_C} (hI : WI w) (hY : TBm (FMb w)) : MT (FMb w).2.2.2.length (sieX (FMb w)) w := by
  obtain ⟨n, hn, en⟩ := hI.m.2.1
  have el := tapM_len9 en hn
  have hY2 := hY
  unfold TBm at hY2
  rw [el] at hY2 ⊢
  refine ⟨en, hn, fun i hi => ?_⟩
  obtain ⟨j, hj, e⟩ := hY2 i hi
  have ea : (tapM w).getD i 0 = (ia w 121).getD i 0 := by
    unfold tapM
    rw [map_at (by rw [en, iN_n (by omega)]; exact hi)]
  have ex : sieX (FMb w) i = j := by
    show iN ((tapM w).getD i 0) = j
    rw [show (tapM w).getD i 0 = nI j from e, iN_n (by omega)]
  rw [ex]
  exact ⟨ea.symm.trans e, hj⟩
theorem B210 {xs : Option (List Int32)} {d : Nat} {w : List sx_C} (hI : WI w) (hY : TBm (FMb w)) : sx_RP xs (d + 8) 210 0 (lv_args 0 [.ref 111]) [] w (fun r w2 => (r = some (.int ((sieT (FMb w)).1)) ∧ FMb w2 = sieU (FMb w)) ∧ WI w2 ∧ ∀ a, a < 111 → w2[a]? = w[a]?) := by
  refine (y210 hI (MT_of hI hY)).mono9 ?_
  rintro r w2 ⟨⟨h1, h2, h3, h4⟩, h5, h6⟩
  refine ⟨⟨h1, ?_⟩, h5, fun a ha => h6 a (by omega) (by omega) (by omega)⟩
  have et : tapM w2 = [] := by
    unfold tapM
    rw [h3]
    rfl
  show (rowB (ia w2 112), fi w2 111 4, (if fi w2 111 4 = 1 then rowB (ia w2 113) else nilB), tapM w2) = _
  rw [et, h4 4 (by decide), ia_of (h6 113 (by decide) (by decide) (by decide)), h2]
  rfl
theorem TBm_of {w : List sx_C} (hI : WI w) (hY : TBy w) (e : FCb w = FMb w) : TBm (FMb w) := by
  rw [← e]
  intro i hi
  obtain ⟨n, hn, en⟩ := hI.t.1
  rw [tapC_len en hn] at hi
  obtain ⟨j, hj, ej⟩ := hY i
  refine ⟨j, hj, ?_⟩
  show (tapC w).getD i 0 = nI j
  unfold tapC
  rw [map_at (by rw [en, iN_n (by omega)]; exact hi), ej]
  exact sgn_and ⟨j, hj⟩
