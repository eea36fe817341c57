-- must, number of the reference
set_option maxRecDepth 20000 in
set_option maxHeartbeats 4000000 in
theorem y228 {xs : Option (List Int32)} {d : Nat} {w : List sx_C} (hI : WI w) {n p : Nat} {X : Nat → Nat} (hM : MT n X w) (hp : p ≤ n) (ep : fi w 111 12 = nI p) (ef : fi w 111 13 = -1) {k : UInt32} {m : Nat} (hk : 100 ≤ k.toNat ∧ k.toNat < 120) (en : sx_sn.getD (k.toNat - 100) 0 = m) (hm : m ≤ 7) (h1 : 1 ≤ m) : sx_RP xs (d + 5) 228 0 (lv_args 0 [.ref 111, .float k]) [] w (fun r w2 => (r = some (.int (b01 (wdT n X (rE blk n X p) k))) ∧ (wdT n X (rE blk n X p) k = true → fi w2 111 12 = nI (rE blk n X p + m) ∧ fi w2 111 13 = -1) ∧ (wdT n X (rE blk n X p) k = false → fi w2 111 13 = nI (rE blk n X p))) ∧ WI w2 ∧ HS w w2) := by
  refine sx_RP.step (pc2 := 1) (ls2 := [(0, .ref 111), (1, .float k)]) (st2 := [.ref 111]) (w3 := w) rfl rfl ?_
  refine sx_RP.step (pc2 := 2) (ls2 := [(0, .ref 111), (1, .float k)]) (st2 := [.float k, .ref 111]) (w3 := w) rfl rfl ?_
  refine sx_RP.callp (as2 := [.ref 111, .float k]) (rest2 := []) rfl rfl (sx_inv_v2 (mi := 228) (k := 243) (st := [.float k, .ref 111]) (w := w) rfl rfl hI.1.o111 rfl rfl rfl) rfl rfl rfl (y213 hI hM hp ep ef hk en hm h1) (show _ = 5 from rfl) ?_
  rintro r4 w3 ⟨⟨rfl, ep1⟩, hI4, hO2⟩
  show sx_RP _ _ _ _ _ [.int (b01 (wdT n X (rE blk n X p) k))] _ _
  refine sx_RP.br (p1 := 15) (l1 := [(0, .ref 111), (1, .float k)]) (s1 := []) (v1 := w3) (p2 := 8) (l2 := [(0, .ref 111), (1, .float k)]) (s2 := []) (v2 := w3) rfl rfl (fun q5 => ?_) (fun q5 => ?_)
  · replace q5 := of_decide_eq_true q5
    refine sx_RP.step (pc2 := 16) (ls2 := [(0, .ref 111), (1, .float k)]) (st2 := [.int 1]) (w3 := w3) rfl rfl ?_
    refine sx_RP.step (pc2 := 20) (ls2 := [(0, .ref 111), (1, .float k)]) (st2 := [.int 1]) (w3 := w3) rfl rfl ?_
    refine sx_RP.ret (r := (some (.int 1))) rfl rfl ?_
    rw [b01_t q5] at ep1
    rw [b01_t q5]
    exact ⟨⟨rfl, fun _ => ⟨ep1, (hO2.2 13 (by decide)).trans ef⟩, fun z => absurd z (by decide)⟩, hI4, hO2.hs⟩
  · replace q5 := Decidable.not_not.mp (of_decide_eq_false q5)
    refine sx_RP.step (pc2 := 9) (ls2 := [(0, .ref 111), (1, .float k)]) (st2 := [.ref 111]) (w3 := w3) rfl rfl ?_
    rw [b01_f q5] at ep1
    refine sx_RP.callp (as2 := [.ref 111]) (rest2 := []) rfl rfl (sx_inv_v2 (mi := 228) (k := 245) (st := [.ref 111]) (w := w3) rfl rfl hI4.1.o111 rfl rfl rfl) rfl rfl rfl (y222 (p := rE blk n X p) hI4 ((hO2.2 13 (by decide)).trans ef) ep1) (show _ = 12 from rfl) ?_
    rintro r4 w9 ⟨⟨rfl, hv6⟩, hI10, hO7⟩
    show sx_RP _ _ _ _ _ [.int 0] _ _
    refine sx_RP.step (pc2 := 19) (ls2 := [(0, .ref 111), (1, .float k)]) (st2 := []) (w3 := w9) rfl rfl ?_
    refine sx_RP.step (pc2 := 20) (ls2 := [(0, .ref 111), (1, .float k)]) (st2 := [.int 0]) (w3 := w9) rfl rfl ?_
    refine sx_RP.ret (r := (some (.int 0))) rfl rfl ?_
    rw [b01_f q5]
    exact ⟨⟨rfl, fun z => absurd z (by decide), fun _ => hv6⟩, hI10, hO2.hs.tr hO7.hs⟩
