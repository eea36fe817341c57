theorem e_rows0 : ∀ t, t < 48 → (match (sx_w0[47 + t]? : Option sx_C) with
  | some c => sx_eqC c (.inl (0, zz48))
  | none => false) = true := by decide +kernel
theorem e_rows (t : Nat) (ht : t < 48) : sx_w0[47 + t]? = some (.inl (0, zz48)) := by
  have h := e_rows0 t ht
  split at h
  · rename_i c hc
    rw [hc, sx_eqC_of h]
  · cases h
theorem st4_z : st4 zz48 := fun c _ => ⟨0, by decide, sx_rep0⟩
theorem z48_len : zz48.length = 48 := by decide
theorem o48_len : oo48.length = 48 := by decide
theorem cf_fit (xs : Option (List Int32)) (d : Nat) : sx_RU xs d 16 0 (lv_args 0 [.ref 44, .ref 2]) [] sx_w0 none ((sx_w0.set 45 (.inl (0, oo48))).set 95 (.inl (1, zz48))) := by
  have h := cp_16 (xs := xs) (d := d) (w := sx_w0) (sa := 2) (st := zz48) (l0 := zz48) (kn := zz48) rfl rfl rfl rfl (by decide) (by decide) z48_len st4_z z48_len z48_len
  rw [e_fit, e_kn] at h
  exact h
theorem cf_row {xs : Option (List Int32)} {d t : Nat} (ht : t < 48) : sx_RU xs (d + 3) 17 0 (lv_args 0 [.ref 44, .int (nI t)]) [] ((sx_w0.set 45 (.inl (0, oo48))).set 95 (.inl (1, zz48))) (some (.ref (47 + t))) (((sx_w0.set 45 (.inl (0, oo48))).set 95 (.inl (1, zz48.set t 1))).set (47 + t) (.inl (0, adF oo48 t 48 0 (spF oo48 t zz48)))) := by
  have h := cp_17 (xs := xs) (d := d) (w := ((sx_w0.set 45 (.inl (0, oo48))).set 95 (.inl (1, zz48)))) (sx_gn2 (by decide) (sx_gn2 (by decide) (show sx_w0[44]? = some (.inr (.inr (.inr (3, [.ref 45, .ref 46, .ref 95])))) from rfl))) (sx_gn2 (by decide) (sx_gs2 (show sx_w0[45]? = some (.inl (0, zz48)) from rfl))) (sx_gn2 (by decide) (sx_gn2 (by decide) (show sx_w0[46]? = some (.inr (.inr (.inl (6, rr48)))) from rfl))) (sx_gs2 (sx_gn2 (by decide) (show sx_w0[95]? = some (.inl (1, zz48)) from rfl))) (sx_gn2 (by omega) (sx_gn2 (by omega) (e_rows t ht))) o48_len z48_len ht z48_len sx_rep0
  rw [List.set_set] at h
  exact h
theorem in47 {c : Nat} (hc : c < 48) : 0 ≤ nI c ∧ nI c ≤ 47 := ⟨nI_pos' (by omega), nI_le (b := 47) (by omega) (by omega)⟩
set_option maxRecDepth 20000 in
set_option maxHeartbeats 4000000 in
theorem cf_far {xs : Option (List Int32)} {d : Nat} {f t : Nat} (hf : f < 48) (ht : t < 48) : sx_RU xs (d + 4) 15 0 (lv_args 0 [.ref 0, .int (nI f), .int (nI t)]) [] sx_w0 (some (.int ((adF oo48 t 48 0 (spF oo48 t zz48)).getD f 0))) (((sx_w0.set 45 (.inl (0, oo48))).set 95 (.inl (1, zz48.set t 1))).set (47 + t) (.inl (0, adF oo48 t 48 0 (spF oo48 t zz48)))) := by
  have h : sx_RP xs (d + 4) 15 0 (lv_args 0 [.ref 0, .int (nI f), .int (nI t)]) [] sx_w0 (fun r w2 => r = (some (.int ((adF oo48 t 48 0 (spF oo48 t zz48)).getD f 0))) ∧ w2 = (((sx_w0.set 45 (.inl (0, oo48))).set 95 (.inl (1, zz48.set t 1))).set (47 + t) (.inl (0, adF oo48 t 48 0 (spF oo48 t zz48))))) := by
    refine sx_RP.step (pc2 := 1) (ls2 := [(0, .ref 0), (1, .int (nI f)), (2, .int (nI t))]) (st2 := [.int (nI f)]) (w3 := sx_w0) rfl rfl ?_
    have q7 := cx_7 xs (d + 3) sx_w0 (nI f)
    rw [if_pos (in47 hf)] at q7
    refine sx_RP.cu (as := [.int (nI f)]) (rest2 := []) (st3 := [.int 1]) rfl rfl rfl rfl rfl (q7) rfl ?_
    refine sx_RP.step (pc2 := 7) (ls2 := [(0, .ref 0), (1, .int (nI f)), (2, .int (nI t))]) (st2 := []) (w3 := sx_w0) rfl rfl ?_
    refine sx_RP.step (pc2 := 8) (ls2 := [(0, .ref 0), (1, .int (nI f)), (2, .int (nI t))]) (st2 := [.int (nI t)]) (w3 := sx_w0) rfl rfl ?_
    have q7 := cx_7 xs (d + 3) sx_w0 (nI t)
    rw [if_pos (in47 ht)] at q7
    refine sx_RP.cu (as := [.int (nI t)]) (rest2 := []) (st3 := [.int 1]) rfl rfl rfl rfl rfl (q7) rfl ?_
    refine sx_RP.step (pc2 := 21) (ls2 := [(0, .ref 0), (1, .int (nI f)), (2, .int (nI t))]) (st2 := []) (w3 := sx_w0) rfl rfl ?_
    refine sx_RP.step (pc2 := 22) (ls2 := [(0, .ref 0), (1, .int (nI f)), (2, .int (nI t))]) (st2 := [.ref 0]) (w3 := sx_w0) rfl rfl ?_
    refine sx_RP.gf (v := .ref 44) rfl rfl (show sx_w0[0]? = some (.inr (.inr (.inr (0, [.ref 1, .ref 15, .ref 29, .int 0, .ref 43, .ref 44, .ref 96, .ref 98, .ref 99, .ref 100, .ref 101, .ref 102])))) from rfl) rfl rfl (show _ = 25 from rfl) ?_
    refine sx_RP.step (pc2 := 26) (ls2 := [(0, .ref 0), (1, .int (nI f)), (2, .int (nI t))]) (st2 := [.ref 0, .ref 44]) (w3 := sx_w0) rfl rfl ?_
    refine sx_RP.gf (v := .ref 1) rfl rfl (show sx_w0[0]? = some (.inr (.inr (.inr (0, [.ref 1, .ref 15, .ref 29, .int 0, .ref 43, .ref 44, .ref 96, .ref 98, .ref 99, .ref 100, .ref 101, .ref 102])))) from rfl) rfl rfl (show _ = 29 from rfl) ?_
    refine sx_RP.gf (v := .ref 2) rfl rfl (show sx_w0[1]? = some (.inr (.inr (.inr (1, [.ref 2, .long 0, .ref 3, .int 0, .ref 4, .int 0, .int 0, .int 0, .int 0, .int 10, .int 16])))) from rfl) rfl rfl (show _ = 32 from rfl) ?_
    refine sx_RP.cu (as := [.ref 44, .ref 2]) (rest2 := []) (st3 := []) rfl rfl (sx_inv_v2 (mi := 15) (k := 95) (st := [.ref 2, .ref 44]) (w := sx_w0) rfl rfl (show sx_w0[44]? = some (.inr (.inr (.inr (3, [.ref 45, .ref 46, .ref 95])))) from rfl) rfl rfl rfl) rfl rfl (cf_fit _ _) rfl ?_
    refine sx_RP.step (pc2 := 36) (ls2 := [(0, .ref 0), (1, .int (nI f)), (2, .int (nI t))]) (st2 := [.ref 0]) (w3 := ((sx_w0.set 45 (.inl (0, oo48))).set 95 (.inl (1, zz48)))) rfl rfl ?_
    refine sx_RP.gf (v := .ref 44) rfl rfl (sx_gn2 (by decide) (sx_gn2 (by decide) (show sx_w0[0]? = some (.inr (.inr (.inr (0, [.ref 1, .ref 15, .ref 29, .int 0, .ref 43, .ref 44, .ref 96, .ref 98, .ref 99, .ref 100, .ref 101, .ref 102])))) from rfl))) rfl rfl (show _ = 39 from rfl) ?_
    refine sx_RP.step (pc2 := 40) (ls2 := [(0, .ref 0), (1, .int (nI f)), (2, .int (nI t))]) (st2 := [.int (nI t), .ref 44]) (w3 := ((sx_w0.set 45 (.inl (0, oo48))).set 95 (.inl (1, zz48)))) rfl rfl ?_
    refine sx_RP.cu (as := [.ref 44, .int (nI t)]) (rest2 := []) (st3 := [.ref (47 + t)]) rfl rfl (sx_inv_v2 (mi := 15) (k := 99) (st := [.int (nI t), .ref 44]) (w := ((sx_w0.set 45 (.inl (0, oo48))).set 95 (.inl (1, zz48)))) rfl rfl (sx_gn2 (by decide) (sx_gn2 (by decide) (show sx_w0[44]? = some (.inr (.inr (.inr (3, [.ref 45, .ref 46, .ref 95])))) from rfl))) rfl rfl rfl) rfl rfl (cf_row ht) rfl ?_
    refine sx_RP.step (pc2 := 44) (ls2 := [(0, .ref 0), (1, .int (nI f)), (2, .int (nI t))]) (st2 := [.int (nI f), .ref (47 + t)]) (w3 := (((sx_w0.set 45 (.inl (0, oo48))).set 95 (.inl (1, zz48.set t 1))).set (47 + t) (.inl (0, adF oo48 t 48 0 (spF oo48 t zz48))))) rfl rfl ?_
    refine sx_RP.ild (c := f) rfl (sx_gs2 (sx_gn2 (by omega) (sx_gn2 (by omega) (e_rows t ht)))) (adF_len 48 0 _ (spF_len z48_len)) (sx_in_nI hf (by decide)) (nI_clamp (by have := hf; omega)) (show _ = 45 from rfl) ?_
    refine sx_RP.ret (r := (some (.int ((adF oo48 t 48 0 (spF oo48 t zz48)).getD f 0)))) rfl rfl ?_
    exact ⟨rfl, rfl⟩
  obtain ⟨r, w2, h1, rfl, rfl⟩ := h
  exact h1
theorem wkF_len {s : List Int32} {m : Nat} : ∀ (f : Nat) (b : Int32) (wy su : List Int32), wy.length = m → (wkF s f b wy su).1.length = m
  | 0, _, _, _, h => h
  | f + 1, b, wy, su, h => by
    rw [wkF]
    split
    · exact h
    · exact wkF_len f _ _ _ (wrF_len 4 0 _ h)
theorem wlF_len {s wy su : List Int32} {f : Nat} (h : wy.length = 48) : (wlF s f wy su).1.length = 48 := wkF_len _ _ _ _ (wiF_len 48 0 _ h)
set_option maxRecDepth 20000 in
set_option maxHeartbeats 4000000 in
theorem cp_140 {xs : Option (List Int32)} {d : Nat} {w : List sx_C} {mk mt mh mf mv : Int32} {s wy0 su0 : List Int32} (h111 : w[111]? = some (.inr (.inr (.inr (6, [.ref 112, .ref 113, .ref 114, .ref 115, .int mk, .ref 116, .ref 117, .ref 118, .ref 119, .ref 120, .ref 121, .int mt, .int mh, .int mf, .int mv, .ref 122, .ref 123, .ref 124, .ref 125]))))) (h112 : w[112]? = some (.inl (0, s))) (h117 : w[117]? = some (.inl (0, wy0))) (h118 : w[118]? = some (.inl (1, su0))) (hs : s.length = 172) (hwy0 : wy0.length = 48) (hsu0 : su0.length = 48) {f t : Nat} (hf : f < 48) (ht : t < 48) : sx_RU xs (d + 2) 140 0 (lv_args 0 [.ref 111, .int (nI f), .int (nI t)]) [] w (some (.int ((wlF s f wy0 su0).1.getD t 0))) ((w.set 117 (.inl (0, (wlF s f wy0 su0).1))).set 118 (.inl (1, (wlF s f wy0 su0).2))) := by
  have h : sx_RP xs (d + 2) 140 0 (lv_args 0 [.ref 111, .int (nI f), .int (nI t)]) [] w (fun r w2 => r = (some (.int ((wlF s f wy0 su0).1.getD t 0))) ∧ w2 = ((w.set 117 (.inl (0, (wlF s f wy0 su0).1))).set 118 (.inl (1, (wlF s f wy0 su0).2)))) := by
    refine sx_RP.step (pc2 := 1) (ls2 := [(0, .ref 111), (1, .int (nI f)), (2, .int (nI t))]) (st2 := [.int (nI f)]) (w3 := w) rfl rfl ?_
    have q7 := cx_131 xs d w (nI f)
    rw [if_pos (in47 hf)] at q7
    refine sx_RP.cu (as := [.int (nI f)]) (rest2 := []) (st3 := [.int 1]) rfl rfl rfl rfl rfl (q7) rfl ?_
    refine sx_RP.step (pc2 := 7) (ls2 := [(0, .ref 111), (1, .int (nI f)), (2, .int (nI t))]) (st2 := []) (w3 := w) rfl rfl ?_
    refine sx_RP.step (pc2 := 8) (ls2 := [(0, .ref 111), (1, .int (nI f)), (2, .int (nI t))]) (st2 := [.int (nI t)]) (w3 := w) rfl rfl ?_
    have q7 := cx_131 xs d w (nI t)
    rw [if_pos (in47 ht)] at q7
    refine sx_RP.cu (as := [.int (nI t)]) (rest2 := []) (st3 := [.int 1]) rfl rfl rfl rfl rfl (q7) rfl ?_
    refine sx_RP.step (pc2 := 20) (ls2 := [(0, .ref 111), (1, .int (nI f)), (2, .int (nI t))]) (st2 := []) (w3 := w) rfl rfl ?_
    refine sx_RP.step (pc2 := 21) (ls2 := [(0, .ref 111), (1, .int (nI f)), (2, .int (nI t))]) (st2 := [.ref 111]) (w3 := w) rfl rfl ?_
    refine sx_RP.step (pc2 := 22) (ls2 := [(0, .ref 111), (1, .int (nI f)), (2, .int (nI t))]) (st2 := [.int (nI f), .ref 111]) (w3 := w) rfl rfl ?_
    refine sx_RP.step (pc2 := 23) (ls2 := [(0, .ref 111), (1, .int (nI f)), (2, .int (nI t))]) (st2 := [.int (-1), .int (nI f), .ref 111]) (w3 := w) rfl rfl ?_
    refine sx_RP.cu (as := [.ref 111, .int (nI f), .int (-1)]) (rest2 := []) (st3 := []) rfl rfl (sx_inv_v2 (mi := 140) (k := 94) (st := [.int (-1), .int (nI f), .ref 111]) (w := w) rfl rfl h111 rfl rfl rfl) rfl rfl (cp_141 h111 h112 h117 h118 hs hwy0 hsu0 hf) rfl ?_
    refine sx_RP.step (pc2 := 27) (ls2 := [(0, .ref 111), (1, .int (nI f)), (2, .int (nI t))]) (st2 := [.ref 111]) (w3 := ((w.set 117 (.inl (0, (wlF s f wy0 su0).1))).set 118 (.inl (1, (wlF s f wy0 su0).2)))) rfl rfl ?_
    refine sx_RP.gf (v := .ref 117) rfl rfl (sx_gn2 (by decide) (sx_gn2 (by decide) h111)) rfl rfl (show _ = 30 from rfl) ?_
    refine sx_RP.step (pc2 := 31) (ls2 := [(0, .ref 111), (1, .int (nI f)), (2, .int (nI t))]) (st2 := [.int (nI t), .ref 117]) (w3 := ((w.set 117 (.inl (0, (wlF s f wy0 su0).1))).set 118 (.inl (1, (wlF s f wy0 su0).2)))) rfl rfl ?_
    refine sx_RP.ild (c := t) rfl (sx_gn2 (by decide) (sx_gs2 h117)) (wlF_len hwy0) (sx_in_nI ht (by decide)) (nI_clamp (by have := ht; omega)) (show _ = 32 from rfl) ?_
    refine sx_RP.ret (r := (some (.int (((wlF s f wy0 su0).1).getD t 0)))) rfl rfl ?_
    exact ⟨rfl, rfl⟩
  obtain ⟨r, w2, h1, rfl, rfl⟩ := h
  exact h1
set_option maxRecDepth 20000 in
set_option maxHeartbeats 4000000 in
theorem k_far_in (ys : List Int32) (a1 a2 : Int32) (p0 : 0 ≤ a1 ∧ a1 ≤ 47) (p1 : 0 ≤ a2 ∧ a2 ≤ 47) : sx_twoI ys 15 140 [.int a1, .int a2] := by
  obtain ⟨f, hf, rfl⟩ := sx_rng (n := 47) p0 (by decide) (by decide)
  obtain ⟨t, ht, rfl⟩ := sx_rng (n := 47) p1 (by decide) (by decide)
  replace hf : f < 48 := by omega
  replace ht : t < 48 := by omega
  have h1 := cf_far (xs := some ys) (d := 3) hf ht
  have h2 := cp_140 (xs := some ys) (d := 5) (w := (((sx_w0.set 45 (.inl (0, oo48))).set 95 (.inl (1, zz48.set t 1))).set (47 + t) (.inl (0, adF oo48 t 48 0 (spF oo48 t zz48))))) (sx_gn2 (by omega) (sx_gn2 (by decide) (sx_gn2 (by decide) (show sx_w0[111]? = some (.inr (.inr (.inr (6, [.ref 112, .ref 113, .ref 114, .ref 115, .int 0, .ref 116, .ref 117, .ref 118, .ref 119, .ref 120, .ref 121, .int 0, .int 0, .int 0, .int 0, .ref 122, .ref 123, .ref 124, .ref 125])))) from rfl)))) (sx_gn2 (by omega) (sx_gn2 (by decide) (sx_gn2 (by decide) (show sx_w0[112]? = some (.inl (0, sx_s0)) from rfl)))) (sx_gn2 (by omega) (sx_gn2 (by decide) (sx_gn2 (by decide) (show sx_w0[117]? = some (.inl (0, zz48)) from rfl)))) (sx_gn2 (by omega) (sx_gn2 (by decide) (sx_gn2 (by decide) (show sx_w0[118]? = some (.inl (1, zz48)) from rfl)))) (by decide) z48_len z48_len hf ht
  rw [e_fc t ht, map_at hf] at h1
  rw [e_fc t ht, e_fr f hf, map_at ht, mdi_c f t] at h2
  exact ⟨_, _, _, _, (sx_gn2 (by omega) (sx_gn2 (by decide) (sx_gn2 (by decide) (show sx_w0[111]? = some (.inr (.inr (.inr (6, [.ref 112, .ref 113, .ref 114, .ref 115, .int 0, .ref 116, .ref 117, .ref 118, .ref 119, .ref 120, .ref 121, .int 0, .int 0, .int 0, .int 0, .ref 122, .ref 123, .ref 124, .ref 125])))) from rfl)))), h1, h2⟩
