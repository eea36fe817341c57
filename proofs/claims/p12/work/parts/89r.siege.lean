-- the reference's readers by cases
def OM (w w2 : List sx_C) : Prop := (∀ a, a ≠ 111 → a ≠ 112 → w2[a]? = w[a]?) ∧ ∀ j, j < 12 → fi w2 111 j = fi w 111 j
theorem OM.rf {w : List sx_C} : OM w w := ⟨fun _ _ _ => rfl, fun _ _ => rfl⟩
theorem OM.tr {w w1 w2 : List sx_C} (h : OM w w1) (h2 : OM w1 w2) : OM w w2 := ⟨fun a h3 h4 => (h2.1 a h3 h4).trans (h.1 a h3 h4), fun j hj => (h2.2 j hj).trans (h.2 j hj)⟩
theorem HS.om {w w2 : List sx_C} (h : HS w w2) : OM w w2 := ⟨fun a h1 _ => h.1 a h1, h.2⟩
theorem OM.st {w w2 : List sx_C} (h : Same 112 w w2) : OM w w2 := ⟨fun a _ h2 => h a h2, fun j _ => fi_same j (h 111 (by decide))⟩
theorem MT.om {n : Nat} {X : Nat → Nat} {w w2 : List sx_C} (h : MT n X w) (e : OM w w2) : MT n X w2 := ⟨(e.2 11 (by decide)).trans h.1, h.2.1, fun i hi => by rw [ia_of (e.1 121 (by decide) (by decide))]; exact h.2.2 i hi⟩
theorem HS.row {w w2 : List sx_C} (h : HS w w2) : ia w2 112 = ia w 112 := ia_of (h.1 112 (by decide))
theorem y214t {xs : Option (List Int32)} {d n h q : Nat} {X : Nat → Nat} {w : List sx_C} (hI : WI w) (hM : MT n X w) (hp : h ≤ n) (ep : fi w 111 12 = nI h) {k : UInt32} {m : Nat} (hk : 100 ≤ k.toNat ∧ k.toNat < 120) (en : sx_sn.getD (k.toNat - 100) 0 = m) (hm : m ≤ 7) (h1 : 1 ≤ m) (hP : rE blk n X h = q) (c : wdT n X q k = true) : sx_RP xs (d + 3) 214 0 (lv_args 0 [.ref 111, .float k]) [] w (fun r w2 => (r = some (.int 1) ∧ fi w2 111 12 = nI q) ∧ WI w2 ∧ H12 w w2) := by
  subst hP
  have z := y214 (xs := xs) (d := d) hI hM hp ep hk en hm h1
  rw [c] at z
  exact z
theorem y214f {xs : Option (List Int32)} {d n h q : Nat} {X : Nat → Nat} {w : List sx_C} (hI : WI w) (hM : MT n X w) (hp : h ≤ n) (ep : fi w 111 12 = nI h) {k : UInt32} {m : Nat} (hk : 100 ≤ k.toNat ∧ k.toNat < 120) (en : sx_sn.getD (k.toNat - 100) 0 = m) (hm : m ≤ 7) (h1 : 1 ≤ m) (hP : rE blk n X h = q) (c : wdT n X q k = false) : sx_RP xs (d + 3) 214 0 (lv_args 0 [.ref 111, .float k]) [] w (fun r w2 => (r = some (.int 0) ∧ fi w2 111 12 = nI q) ∧ WI w2 ∧ H12 w w2) := by
  subst hP
  have z := y214 (xs := xs) (d := d) hI hM hp ep hk en hm h1
  rw [c] at z
  exact z
theorem y213t {xs : Option (List Int32)} {d n h q : Nat} {X : Nat → Nat} {w : List sx_C} (hI : WI w) (hM : MT n X w) (hp : h ≤ n) (ep : fi w 111 12 = nI h) (ef : fi w 111 13 = -1) {k : UInt32} {m : Nat} (hk : 100 ≤ k.toNat ∧ k.toNat < 120) (en : sx_sn.getD (k.toNat - 100) 0 = m) (hm : m ≤ 7) (h1 : 1 ≤ m) (hP : rE blk n X h = q) (c : wdT n X q k = true) : sx_RP xs (d + 4) 213 0 (lv_args 0 [.ref 111, .float k]) [] w (fun r w2 => (r = some (.int 1) ∧ fi w2 111 12 = nI (beT n X q)) ∧ WI w2 ∧ H12 w w2) := by
  subst hP
  have z := y213 (xs := xs) (d := d) hI hM hp ep ef hk en hm h1
  have t := wd_to (fun i hi => hM.x hi) (rE_le hp) (show 1 ≤ wl k by rw [show wl k = m from en]; exact h1) c
  rw [show wl k = m from en] at t
  rw [c, cond_true, t.1] at z
  exact z
theorem y213f {xs : Option (List Int32)} {d n h q : Nat} {X : Nat → Nat} {w : List sx_C} (hI : WI w) (hM : MT n X w) (hp : h ≤ n) (ep : fi w 111 12 = nI h) (ef : fi w 111 13 = -1) {k : UInt32} {m : Nat} (hk : 100 ≤ k.toNat ∧ k.toNat < 120) (en : sx_sn.getD (k.toNat - 100) 0 = m) (hm : m ≤ 7) (h1 : 1 ≤ m) (hP : rE blk n X h = q) (c : wdT n X q k = false) : sx_RP xs (d + 4) 213 0 (lv_args 0 [.ref 111, .float k]) [] w (fun r w2 => (r = some (.int 0) ∧ fi w2 111 12 = nI q) ∧ WI w2 ∧ H12 w w2) := by
  subst hP
  have z := y213 (xs := xs) (d := d) hI hM hp ep ef hk en hm h1
  rw [c, cond_false, Nat.add_zero] at z
  exact z
theorem y228t {xs : Option (List Int32)} {d n h q : Nat} {X : Nat → Nat} {w : List sx_C} (hI : WI w) (hM : MT n X w) (hp : h ≤ n) (ep : fi w 111 12 = nI h) (ef : fi w 111 13 = -1) {k : UInt32} {m : Nat} (hk : 100 ≤ k.toNat ∧ k.toNat < 120) (en : sx_sn.getD (k.toNat - 100) 0 = m) (hm : m ≤ 7) (h1 : 1 ≤ m) (hP : rE blk n X h = q) (c : wdT n X q k = true) : sx_RP xs (d + 5) 228 0 (lv_args 0 [.ref 111, .float k]) [] w (fun r w2 => (r = some (.int 1) ∧ fi w2 111 12 = nI (beT n X q) ∧ fi w2 111 13 = -1) ∧ WI w2 ∧ HS w w2) := by
  subst hP
  have t := wd_to (fun i hi => hM.x hi) (rE_le hp) (show 1 ≤ wl k by rw [show wl k = m from en]; exact h1) c
  rw [show wl k = m from en] at t
  refine (y228 (xs := xs) (d := d) hI hM hp ep ef hk en hm h1).mono9 ?_
  rintro r9 w9 ⟨⟨e1, e2, e3⟩, e4, e5⟩
  have e6 := e2 c
  rw [t.1] at e6
  rw [c] at e1
  exact ⟨⟨e1, e6⟩, e4, e5⟩
theorem y228f {xs : Option (List Int32)} {d n h q : Nat} {X : Nat → Nat} {w : List sx_C} (hI : WI w) (hM : MT n X w) (hp : h ≤ n) (ep : fi w 111 12 = nI h) (ef : fi w 111 13 = -1) {k : UInt32} {m : Nat} (hk : 100 ≤ k.toNat ∧ k.toNat < 120) (en : sx_sn.getD (k.toNat - 100) 0 = m) (hm : m ≤ 7) (h1 : 1 ≤ m) (hP : rE blk n X h = q) (c : wdT n X q k = false) : sx_RP xs (d + 5) 228 0 (lv_args 0 [.ref 111, .float k]) [] w (fun r w2 => (r = some (.int 0) ∧ fi w2 111 13 = nI q) ∧ WI w2 ∧ HS w w2) := by
  subst hP
  refine (y228 (xs := xs) (d := d) hI hM hp ep ef hk en hm h1).mono9 ?_
  rintro r9 w9 ⟨⟨e1, e2, e3⟩, e4, e5⟩
  rw [c] at e1
  exact ⟨⟨e1, e3 c⟩, e4, e5⟩
theorem y220t {xs : Option (List Int32)} {d n h q : Nat} {X : Nat → Nat} {w : List sx_C} (hI : WI w) (hM : MT n X w) (hp : h ≤ n) (ep : fi w 111 12 = nI h) (ef : fi w 111 13 = -1) {lo hi : Nat} (hlo : lo < 2 ^ 31) (hhi : hi < 1000000) (hP : rE blk n X h = q) (c : nmT n X q lo hi = true) : sx_RP xs (d + 3) 220 0 (lv_args 0 [.ref 111, .int (nI lo), .int (nI hi)]) [] w (fun r w2 => (r = some (.int 1) ∧ fi w2 111 12 = nI (beT n X q) ∧ fi w2 111 14 = nI (vaT n X q) ∧ fi w2 111 13 = -1) ∧ WI w2 ∧ HS w w2) := by
  subst hP
  refine (y220 (xs := xs) (d := d) hI hM hp ep ef hlo hhi).mono9 ?_
  rintro r9 w9 ⟨⟨e1, e2, e3⟩, e4, e5⟩
  rw [c] at e1
  exact ⟨⟨e1, e2 c⟩, e4, e5⟩
theorem y220f {xs : Option (List Int32)} {d n h q : Nat} {X : Nat → Nat} {w : List sx_C} (hI : WI w) (hM : MT n X w) (hp : h ≤ n) (ep : fi w 111 12 = nI h) (ef : fi w 111 13 = -1) {lo hi : Nat} (hlo : lo < 2 ^ 31) (hhi : hi < 1000000) (hP : rE blk n X h = q) (c : nmT n X q lo hi = false) : sx_RP xs (d + 3) 220 0 (lv_args 0 [.ref 111, .int (nI lo), .int (nI hi)]) [] w (fun r w2 => (r = some (.int 0) ∧ fi w2 111 13 = nI q) ∧ WI w2 ∧ HS w w2) := by
  subst hP
  refine (y220 (xs := xs) (d := d) hI hM hp ep ef hlo hhi).mono9 ?_
  rintro r9 w9 ⟨⟨e1, e2, e3⟩, e4, e5⟩
  rw [c] at e1
  exact ⟨⟨e1, e3 c⟩, e4, e5⟩
set_option maxRecDepth 20000 in
set_option maxHeartbeats 4000000 in
theorem y225 {xs : Option (List Int32)} {d : Nat} {w : List sx_C} (hI : WI w) {n p : Nat} {X : Nat → Nat} (hM : MT n X w) (hp : p ≤ n) (ep : fi w 111 12 = nI p) (ef : fi w 111 13 = -1) : sx_RP xs (d + 3) 225 0 (lv_args 0 [.ref 111]) [] w (fun r w2 => (r = some (.int (b01 (decide (soT n X (rE blk n X p) = 2)))) ∧ fi w2 111 12 = nI (rE blk n X p)) ∧ WI w2 ∧ H12 w w2) := by
  have hn := hM.2.1
  refine sx_RP.step (pc2 := 1) (ls2 := [(0, .ref 111)]) (st2 := [.ref 111]) (w3 := w) rfl rfl ?_
  refine sx_RP.callp (as2 := [.ref 111]) (rest2 := []) rfl rfl (sx_inv_v2 (mi := 225) (k := 224) (st := [.ref 111]) (w := w) rfl rfl hI.1.o111 rfl rfl rfl) rfl rfl rfl (y215 hI hM hp ep) (show _ = 4 from rfl) ?_
  rintro r4 w3 ⟨⟨rfl, ep1⟩, hI4, hO2⟩
  show sx_RP _ _ _ _ _ [] _ _
  have hM2 := hM.hs hO2.hs
  have hq : rE blk n X p ≤ n := rE_le hp
  have ef2 := (hO2.2 13 (by decide)).trans ef
  refine sx_RP.step (pc2 := 5) (ls2 := [(0, .ref 111)]) (st2 := [.ref 111]) (w3 := w3) rfl rfl ?_
  refine sx_RP.gf (v := .int (fi w3 111 13)) rfl rfl hI4.1.o111 rfl rfl (show _ = 8 from rfl) ?_
  rw [ef2]
  refine sx_RP.step (pc2 := 11) (ls2 := [(0, .ref 111)]) (st2 := []) (w3 := w3) rfl rfl ?_
  refine sx_RP.step (pc2 := 12) (ls2 := [(0, .ref 111)]) (st2 := [.ref 111]) (w3 := w3) rfl rfl ?_
  refine sx_RP.step (pc2 := 13) (ls2 := [(0, .ref 111)]) (st2 := [.ref 111, .ref 111]) (w3 := w3) rfl rfl ?_
  refine sx_RP.gf (v := .int (fi w3 111 12)) rfl rfl hI4.1.o111 rfl rfl (show _ = 16 from rfl) ?_
  rw [ep1]
  refine sx_RP.cu (as := [.ref 111, .int (nI (rE blk n X p))]) (rest2 := []) (st3 := [.int (bA n X (rE blk n X p))]) rfl rfl (sx_inv_v2 (mi := 225) (k := 215) (st := [.int (nI (rE blk n X p)), .ref 111]) (w := w3) rfl rfl hI4.1.o111 rfl rfl rfl) rfl rfl (y216 hI4 hM2 (by omega)) rfl ?_
  rcases Classical.em (rE blk n X p < n ∧ digi (X (rE blk n X p)) = true) with c5 | c5
  · refine sx_RP.cu (as := [.int (bA n X (rE blk n X p))]) (rest2 := []) (st3 := [.int 1]) rfl rfl rfl rfl rfl (cx_221p ((bA_digi (fun z => hM.x z)).mpr c5)) rfl ?_
    refine sx_RP.step (pc2 := 25) (ls2 := [(0, .ref 111)]) (st2 := []) (w3 := w3) rfl rfl ?_
    refine sx_RP.step (pc2 := 26) (ls2 := [(0, .ref 111)]) (st2 := [.int 1]) (w3 := w3) rfl rfl ?_
    refine sx_RP.step (pc2 := 30) (ls2 := [(0, .ref 111)]) (st2 := [.int 1]) (w3 := w3) rfl rfl ?_
    refine sx_RP.ret (r := (some (.int 1))) rfl rfl ?_
    rw [decide_eq_true ((so_digi (fun i hi => hM.x hi)).mpr c5)]
    exact ⟨⟨rfl, ep1⟩, hI4, hO2⟩
  · refine sx_RP.cu (as := [.int (bA n X (rE blk n X p))]) (rest2 := []) (st3 := [.int 0]) rfl rfl rfl rfl rfl (cx_221n (fun z => c5 ((bA_digi (fun z => hM.x z)).mp z))) rfl ?_
    refine sx_RP.step (pc2 := 29) (ls2 := [(0, .ref 111)]) (st2 := []) (w3 := w3) rfl rfl ?_
    refine sx_RP.step (pc2 := 30) (ls2 := [(0, .ref 111)]) (st2 := [.int 0]) (w3 := w3) rfl rfl ?_
    refine sx_RP.ret (r := (some (.int 0))) rfl rfl ?_
    rw [decide_eq_false (fun z => c5 ((so_digi (fun i hi => hM.x hi)).mp z))]
    exact ⟨⟨rfl, ep1⟩, hI4, hO2⟩
