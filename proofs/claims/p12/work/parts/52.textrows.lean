-- rows of the text
def ET (w w2 : List sx_C) : Prop := (∀ a, a ≠ 96 → w2[a]? = w[a]?) ∧ (w2[96]?).map (kp 96) = (w[96]?).map (kp 96)
theorem ET.rf {w : List sx_C} : ET w w := ⟨fun _ _ => rfl, rfl⟩
theorem ET.tr {w w1 w2 : List sx_C} (h : ET w w1) (h2 : ET w1 w2) : ET w w2 := ⟨fun a ha => (h2.1 a ha).trans (h.1 a ha), h2.2.trans h.2⟩
theorem ET.ec {w w2 : List sx_C} (h : ET w w2) : EC w w2 := by
  intro a
  by_cases e : a = 96
  · subst e
    exact ⟨fun _ => h.2, fun z => by omega⟩
  · rw [h.1 a e]
    exact ⟨fun _ => rfl, fun _ => rfl⟩
theorem ET.fi {w w2 : List sx_C} (h : ET w w2) {a : Nat} (ha : a ≠ 96) (k : Nat) : fi w2 a k = fi w a k := by
  show vi (fs_ w2 a)[k]? = vi (fs_ w a)[k]?
  unfold fs_
  rw [h.1 a ha]
theorem sub_eqN {a b c : Nat} (ha : a < 2 ^ 30) (hb : b < 2 ^ 30) (hc : c < 2 ^ 30) (h : nI a - nI b = nI c) : a = b + c := by
  have e : nI a = nI (c + b) := by rw [← nI_add, ← h, Int32.sub_add_cancel]
  have := (nI_eq (by omega) (by omega)).mp e
  omega
theorem val_of {x : Int32} {m n : Nat} (hm : m < 2 ^ 31) (hn : n < 2 ^ 31) (q1 : ¬ x < nI m) (q2 : ¬ nI n < x) : ∃ v, (m ≤ v ∧ v ≤ n) ∧ x = nI v := by
  have a1 := mt Int32.lt_iff_toInt_lt.mpr q1
  rw [nI_toInt hm] at a1
  have e0 : (0 : Int32).toInt = 0 := rfl
  obtain ⟨v, hv, rfl⟩ := nI_of (x := x) (fun z => by
    have := Int32.lt_iff_toInt_lt.mp z
    omega)
  refine ⟨v, ⟨?_, ?_⟩, rfl⟩
  · have := mt (nI_ltI hv hm).mpr q1
    omega
  · have := mt (nI_ltI hn hv).mpr q2
    omega
theorem sn_le : ∀ k, k < 20 → sx_sn.getD k 0 ≤ 7 := by decide +kernel
section SXT3
variable {xs : Option (List Int32)} {d mi pc pc2 idx p : Nat} {ls : sx_L} {r : List Value} {w w0 : List sx_C} {P : Option Value → List sx_C → Prop}
theorem sx_RP.ptT {k : Nat} {v : Int32} (hI : WI w) (hE : ET w0 w) (hi : sx_ins mi pc = some (.putfield idx, 3)) (hq : sx_lk (sx_fl (sx_own mi)) idx = some (4, k, p)) (hk : 2 ≤ k ∧ k < 6) (hf : sx_fin mi 4 k = true) (hv : tR k v) (hp : pc + 3 = pc2) (kk : ∀ w2, WI w2 → ET w0 w2 → fi w2 96 k = v → (∀ j, j ≠ k → fi w2 96 j = fi w 96 j) → sx_RP xs d mi pc2 ls r w2 P) : sx_RP xs d mi pc ls (.int v :: .ref 96 :: r) w P := by
  have hw := hI.1.o96
  have q := hI.t
  have hT : ∀ c : sx_C, kp 96 c = kp 96 (.inr (.inr (.inr (4, [.ref 97, .int (fi w 96 1), .int (fi w 96 2), .int (fi w 96 3), .int (fi w 96 4), .int (fi w 96 5)])))) → ET w0 (w.set 96 c) := fun c hc => hE.tr ⟨fun a ha => List.getElem?_set_ne (Ne.symm ha), by rw [sx_gs2 hw, hw, Option.map_some, Option.map_some, hc]⟩
  have hne : ∀ (fs : List Value) (j : Nat), j ≠ k → fi (w.set 96 (.inr (.inr (.inr (4, fs.set k (.int v)))))) 96 j = vi fs[j]? := by
    intro fs j hj
    unfold fi
    rw [fs_set hw, List.getElem?_set_ne (Ne.symm hj)]
  have hfs : fs_ w 96 = [.ref 97, .int (fi w 96 1), .int (fi w 96 2), .int (fi w 96 3), .int (fi w 96 4), .int (fi w 96 5)] := by unfold fs_; rw [hw]
  rcases (show k = 2 ∨ k = 3 ∨ k = 4 ∨ k = 5 by omega) with rfl | rfl | rfl | rfl
  · refine sx_RP.pf hi hq hw (by rw [hf]; rfl) rfl rfl hp (kk _ (hI.set hw rfl (cOK.t q)) (hT _ rfl) (by unfold fi; rw [fs_set hw]; rfl) (fun j hj => ?_))
    rw [hne _ j hj, ← hfs]
    rfl
  · refine sx_RP.pf hi hq hw (by rw [hf]; rfl) rfl rfl hp (kk _ (hI.set hw rfl (cOK.t ⟨q.1, hv, q.2.2⟩)) (hT _ rfl) (by unfold fi; rw [fs_set hw]; rfl) (fun j hj => ?_))
    rw [hne _ j hj, ← hfs]
    rfl
  · refine sx_RP.pf hi hq hw (by rw [hf]; rfl) rfl rfl hp (kk _ (hI.set hw rfl (cOK.t ⟨q.1, q.2.1, hv⟩)) (hT _ rfl) (by unfold fi; rw [fs_set hw]; rfl) (fun j hj => ?_))
    rw [hne _ j hj, ← hfs]
    rfl
  · refine sx_RP.pf hi hq hw (by rw [hf]; rfl) rfl rfl hp (kk _ (hI.set hw rfl (cOK.t q)) (hT _ rfl) (by unfold fi; rw [fs_set hw]; rfl) (fun j hj => ?_))
    rw [hne _ j hj, ← hfs]
    rfl
theorem sx_RP.slen {k : UInt32} {n : Nat} (hk : 100 ≤ k.toNat ∧ k.toNat < 120) (en : sx_sn.getD (k.toNat - 100) 0 = n) (hi : sx_ins mi pc = some (.invokevirtual idx, 3)) (hq : sx_lk (sx_sm (sx_own mi)) idx = some (0, p)) (hr : Nat.ble (r.map (fun v => v.category)).sum 8 = true) (hp : pc + 3 = pc2) (kk : sx_RP xs d mi pc2 ls (.int (nI n) :: r) w P) : sx_RP xs d mi pc ls (.float k :: r) w P := by
  subst hp
  subst en
  refine sx_RP.step hi (show sx_str (sx_own mi) idx ls pc (.float k :: r) w = some (pc + 3, ls, .int (nI (sx_sn.getD (k.toNat - 100) 0)) :: r, w) from ?_) kk
  unfold sx_str
  rw [hq]
  simp only
  rw [show Nat.ble 100 k.toNat = true from Nat.ble_eq.mpr hk.1, show Nat.blt k.toNat 120 = true from Nat.ble_eq.mpr hk.2, hr]
  rfl
theorem sx_RP.schr {k : UInt32} {n x : Nat} (hk : 100 ≤ k.toNat ∧ k.toNat < 120) (en : sx_sn.getD (k.toNat - 100) 0 = n) (hn : n ≤ 7) (hx : x < n) (hi : sx_ins mi pc = some (.invokevirtual idx, 3)) (hq : sx_lk (sx_sm (sx_own mi)) idx = some (1, p)) (hr : Nat.ble (r.map (fun v => v.category)).sum 8 = true) (hp : pc + 3 = pc2) (kk : sx_RP xs d mi pc2 ls (.int ((sx_sb.getD (k.toNat - 100) []).getD x 0) :: r) w P) : sx_RP xs d mi pc ls (.int (nI x) :: .float k :: r) w P := by
  subst hp
  subst en
  refine sx_RP.step hi (show sx_str (sx_own mi) idx ls pc (.int (nI x) :: .float k :: r) w = some (pc + 3, ls, .int ((sx_sb.getD (k.toNat - 100) []).getD x 0) :: r, w) from ?_) kk
  unfold sx_str
  rw [hq]
  simp only
  rw [show Nat.ble 100 k.toNat = true from Nat.ble_eq.mpr hk.1, show Nat.blt k.toNat 120 = true from Nat.ble_eq.mpr hk.2, sx_in_nI hx (by omega), hr, nI_clamp (by omega)]
  rfl
end SXT3
