-- what a method's body stands in, and the judgement of a pure frame
/-- the texts: their constants, String's fields, the bytes -/
def sx_TX (h0 : Nat) (sa : Nat → Nat) (U : State) (H : Heap) : Prop :=
  (∀ o, ∀ q ∈ sx_kS o, vk_R (sx_cn.getD o "") q.1 (sx_tx.getD q.2.1 "") (sa (100 + q.2.1)) U) ∧ (∀ k, k < 20 → va_O "java/lang/String" (sa (100 + k)) (sx_A h0) U H ∧ va_OF "java/lang/String" "coder" "B" (.int 0) (sa (100 + k)) (sx_A h0) U H ∧ va_OF "java/lang/String" "value" "[B" (.ref (sa (200 + k))) (sa (100 + k)) (sx_A h0) U H ∧ va_T .byte (sa (200 + k)) (sx_sn.getD k 0) (fun j => .int ((sx_sb.getD k []).getD j 0)) (sx_A h0) U H) ∧ va_Z "java/lang/String" "COMPACT_STRINGS" "Z" (.int 1) (sx_A h0) U H ∧ va_Zq "jdk/internal/util/Preconditions" "SIOOBE_FORMATTER" "Ljava/util/function/BiFunction;" (sx_A h0) U H
theorem sx_TX.warm {h0 : Nat} {sa : Nat → Nat} {s U : State} {H H1 : Heap} (hW : s.WarmedH U.vm) (hq : ∀ a : Nat, a < H.size → ¬ sx_A h0 a → H1[a]? = H[a]?) (h : sx_TX h0 sa s H) : sx_TX h0 sa U H1 :=
  ⟨fun o q hm => vk_R.warm hW (h.1 o q hm), fun k hk => ⟨(va_O.moved hW.alike (h.2.1 k hk).1).kept hq, (va_OF.moved hW.alike (h.2.1 k hk).2.1).kept hq, (va_OF.moved hW.alike (h.2.1 k hk).2.2.1).kept hq, (va_T.moved hW.alike (h.2.1 k hk).2.2.2).kept hq⟩, (va_Z.moved hW.alike h.2.2.1).kept hq, (va_Zq.moved hW.alike h.2.2.2).kept hq⟩
theorem sx_TX.same {h0 : Nat} {sa : Nat → Nat} {s U : State} {H : Heap} (hv : s.vm = U.vm) (h : sx_TX h0 sa s H) : sx_TX h0 sa U H := by
  have hA : s.vm.Alike U.vm := by rw [hv]; exact Vm.Alike.refl U.vm
  exact ⟨fun o q hm => vk_R.same hv.symm (h.1 o q hm), fun k hk => ⟨va_O.moved hA (h.2.1 k hk).1, va_OF.moved hA (h.2.1 k hk).2.1, va_OF.moved hA (h.2.1 k hk).2.2.1, va_T.moved hA (h.2.1 k hk).2.2.2⟩, va_Z.moved hA h.2.2.1, va_Zq.moved hA h.2.2.2⟩
def sx_G (D : va_G) (dA : Nat → ClassId) (h0 : Nat) (sa : Nat → Nat) (xs : Option (List Int32)) (U : State) (H : Heap) : Prop :=
  va_K D sx_cl (sx_tys dA) U ∧ (∀ k, k < 4 → va_Z (sx_SC k).1 (sx_SC k).2 "[I" (.ref (sa k)) (sx_A h0) U H) ∧ (∀ k, k < 5 → va_T .int (sa k) (sx_st xs k).length (fun j => .int ((sx_st xs k).getD j 0)) (sx_A h0) U H) ∧ va_AO "PeasDrum$Gallery" U ∧ va_AO "PeasDrum$Sheet" U ∧ (Cond.arrayOver (.array .int)).before #[] U = true ∧ (∀ o, ∀ q ∈ sx_mn o, va_Nw (.methodLinkNest (sx_cn.getD o "") q.1 (sx_M q.2.1).1 "PeasDrum") U) ∧ sx_TX h0 sa U H
def sx_Ctx (p : Program) (s : State) (m : MethodId) (args : Array Value) (meth : Method) (c : Code) (R : Room) (D : va_G) (dA : Nat → ClassId) (h0 : Nat) (sa : Nat → Nat) (xs : Option (List Int32)) (mi d : Nat) : Prop :=
  p.tables.exec = Jvm.exec ∧ c.code = (sx_M mi).2.1 ∧ c.maxLocals = sx_maxL mi ∧ s.vm.findClass (sx_cn.getD (sx_own mi) "") = some m.cls ∧ (∀ w ∈ sx_tw, w.before args s = true) ∧ (mi < 246 → meth.name = (sx_M mi).1.name) ∧ sx_fr mi + 2 ≤ R.frames ∧ sx_lo mi + 30 ≤ R.locals ∧ sx_G D dA h0 sa xs s s.heap ∧ h0 ≤ s.heap.size ∧ mi < 247
def sx_J (p : Program) (l : Launch) (e : Env) (R : Room) (s : State) (m : MethodId) (args : Array Value) (below : List Frame) (meth : Method) (c : Code) (D : va_G) (dA : Nat → ClassId) (h0 : Nat) (sa : Nat → Nat) (md : Bool) (n0 z0 nL : Nat) (Q : State → Prop) (F : sx_F) : Prop :=
  ∀ (H : Heap) (locs : List Loc) (lsA : Array Slot), sx_P D dA h0 sa md F.2.2.2 H → va_S (sx_A h0) s.heap H locs → lv_has lsA nL (F.2.1.map (sx_q h0 sa)) → n0 ≤ F.2.2.2.length → z0 ≤ sx_sz F.2.2.2 → W p l e R s m args below meth c H locs (sx_ck md n0 F.2.2.2) (sx_cs md z0 F.2.2.2) Q (F0 m F.1 lsA (F.2.2.1.map (sx_v h0 sa)))
section SXJ
variable {p : Program} {l : Launch} {e : Env} {R : Room} {s : State} {m : MethodId} {args : Array Value} {below : List Frame} {meth : Method} {c : Code} {Q : State → Prop}
variable {D : va_G} {dA : Nat → ClassId} {h0 : Nat} {sa : Nat → Nat} {md : Bool} {n0 z0 nL : Nat} {cc : ByteArray} {pc : Nat} {ls : sx_L} {st : List Value} {w : List sx_C} {F : sx_F}
/-- a row of the kit that changes the pc and the stack alone -/
theorem sx_o_go {pc' : Nat} {st' : List Value} (row : ∀ (H : Heap) (locs : List Loc) (lsA : Array Slot) (cells slots : Nat), W p l e R s m args below meth c H locs cells slots Q (F0 m pc' lsA (st'.map (sx_v h0 sa))) → W p l e R s m args below meth c H locs cells slots Q (F0 m pc lsA (st.map (sx_v h0 sa)))) (K : sx_J p l e R s m args below meth c D dA h0 sa md n0 z0 nL Q (pc', ls, st', w)) : sx_J p l e R s m args below meth c D dA h0 sa md n0 z0 nL Q (pc, ls, st, w) :=
  fun H locs lsA hP hS hl h1 h2 => row H locs lsA _ _ (K H locs lsA hP hS hl h1 h2)
theorem sx_o_ii {f : Int32 → Int32 → Int32} (row : ∀ (x y : Int32) (rest : List Value) (H : Heap) (locs : List Loc) (lsA : Array Slot) (cells slots : Nat), W p l e R s m args below meth c H locs cells slots Q (F0 m (pc + 1) lsA (.int (f x y) :: rest)) → W p l e R s m args below meth c H locs cells slots Q (F0 m pc lsA (.int y :: .int x :: rest))) (h : sx_ii f ls pc st w = some F) (K : sx_J p l e R s m args below meth c D dA h0 sa md n0 z0 nL Q F) : sx_J p l e R s m args below meth c D dA h0 sa md n0 z0 nL Q (pc, ls, st, w) := by
  unfold sx_ii at h
  split at h
  · cases h
    exact sx_o_go (fun H locs lsA cells slots k => row _ _ _ H locs lsA cells slots k) K
  · cases h
theorem sx_o_iz {f : Int32 → Int32 → Int32} (row : ∀ (x y : Int32) (rest : List Value) (H : Heap) (locs : List Loc) (lsA : Array Slot) (cells slots : Nat), ¬ y = 0 → W p l e R s m args below meth c H locs cells slots Q (F0 m (pc + 1) lsA (.int (f x y) :: rest)) → W p l e R s m args below meth c H locs cells slots Q (F0 m pc lsA (.int y :: .int x :: rest))) (h : sx_iz f ls pc st w = some F) (K : sx_J p l e R s m args below meth c D dA h0 sa md n0 z0 nL Q F) : sx_J p l e R s m args below meth c D dA h0 sa md n0 z0 nL Q (pc, ls, st, w) := by
  unfold sx_iz at h
  split at h
  · split at h
    · cases h
    · rename_i hz
      cases h
      exact sx_o_go (fun H locs lsA cells slots k => row _ _ _ H locs lsA cells slots hz k) K
  · cases h
theorem sx_o_i1 {f : Int32 → Int32} (row : ∀ (x : Int32) (rest : List Value) (H : Heap) (locs : List Loc) (lsA : Array Slot) (cells slots : Nat), W p l e R s m args below meth c H locs cells slots Q (F0 m (pc + 1) lsA (.int (f x) :: rest)) → W p l e R s m args below meth c H locs cells slots Q (F0 m pc lsA (.int x :: rest))) (h : sx_i1 f ls pc st w = some F) (K : sx_J p l e R s m args below meth c D dA h0 sa md n0 z0 nL Q F) : sx_J p l e R s m args below meth c D dA h0 sa md n0 z0 nL Q (pc, ls, st, w) := by
  unfold sx_i1 at h
  split at h
  · cases h
    exact sx_o_go (fun H locs lsA cells slots k => row _ _ H locs lsA cells slots k) K
  · cases h
theorem sx_o_jj {f : Int64 → Int64 → Int64} (row : ∀ (x y : Int64) (rest : List Value) (H : Heap) (locs : List Loc) (lsA : Array Slot) (cells slots : Nat), W p l e R s m args below meth c H locs cells slots Q (F0 m (pc + 1) lsA (.long (f x y) :: rest)) → W p l e R s m args below meth c H locs cells slots Q (F0 m pc lsA (.long y :: .long x :: rest))) (h : sx_jj f ls pc st w = some F) (K : sx_J p l e R s m args below meth c D dA h0 sa md n0 z0 nL Q F) : sx_J p l e R s m args below meth c D dA h0 sa md n0 z0 nL Q (pc, ls, st, w) := by
  unfold sx_jj at h
  split at h
  · cases h
    exact sx_o_go (fun H locs lsA cells slots k => row _ _ _ H locs lsA cells slots k) K
  · cases h
theorem sx_o_ji {f : Int64 → Int32 → Int64} (row : ∀ (x : Int64) (y : Int32) (rest : List Value) (H : Heap) (locs : List Loc) (lsA : Array Slot) (cells slots : Nat), W p l e R s m args below meth c H locs cells slots Q (F0 m (pc + 1) lsA (.long (f x y) :: rest)) → W p l e R s m args below meth c H locs cells slots Q (F0 m pc lsA (.int y :: .long x :: rest))) (h : sx_ji f ls pc st w = some F) (K : sx_J p l e R s m args below meth c D dA h0 sa md n0 z0 nL Q F) : sx_J p l e R s m args below meth c D dA h0 sa md n0 z0 nL Q (pc, ls, st, w) := by
  unfold sx_ji at h
  split at h
  · cases h
    exact sx_o_go (fun H locs lsA cells slots k => row _ _ _ H locs lsA cells slots k) K
  · cases h
theorem sx_to_eq {off : Int} {t : Nat} (h : sx_to pc off = some t) : (pc : Int) + off = (t : Int) := by
  unfold sx_to at h
  split at h
  · rename_i u hu
    cases h
    exact hu
  · cases h
theorem sx_o_b1 {f : Int32 → Prop} (fd : ∀ x, Decidable (f x)) {off : Int} (row : ∀ (x : Int32) (t : Nat) (rest : List Value) (H : Heap) (locs : List Loc) (lsA : Array Slot) (cells slots : Nat), (pc : Int) + off = (t : Int) → (f x → W p l e R s m args below meth c H locs cells slots Q (F0 m t lsA rest)) → (¬ f x → W p l e R s m args below meth c H locs cells slots Q (F0 m (pc + 3) lsA rest)) → W p l e R s m args below meth c H locs cells slots Q (F0 m pc lsA (.int x :: rest))) (h : sx_b1 (fun x => decide (f x)) off ls pc st w = some F) (K : sx_J p l e R s m args below meth c D dA h0 sa md n0 z0 nL Q F) : sx_J p l e R s m args below meth c D dA h0 sa md n0 z0 nL Q (pc, ls, st, w) := by
  unfold sx_b1 at h
  split at h
  · rename_i x r
    split at h
    · rename_i t ht
      intro H locs lsA hP hS hl h1 h2
      refine row x t _ H locs lsA _ _ (sx_to_eq ht) (fun hc => ?_) (fun hc => ?_)
      · simp only [hc, decide_true, cond_true] at h
        cases h
        exact K H locs lsA hP hS hl h1 h2
      · simp only [hc, decide_false, cond_false] at h
        cases h
        exact K H locs lsA hP hS hl h1 h2
    · cases h
  · cases h
theorem sx_o_b2 {f : Int32 → Int32 → Prop} (fd : ∀ x y, Decidable (f x y)) {off : Int} (row : ∀ (x y : Int32) (t : Nat) (rest : List Value) (H : Heap) (locs : List Loc) (lsA : Array Slot) (cells slots : Nat), (pc : Int) + off = (t : Int) → (f x y → W p l e R s m args below meth c H locs cells slots Q (F0 m t lsA rest)) → (¬ f x y → W p l e R s m args below meth c H locs cells slots Q (F0 m (pc + 3) lsA rest)) → W p l e R s m args below meth c H locs cells slots Q (F0 m pc lsA (.int y :: .int x :: rest))) (h : sx_b2 (fun x y => decide (f x y)) off ls pc st w = some F) (K : sx_J p l e R s m args below meth c D dA h0 sa md n0 z0 nL Q F) : sx_J p l e R s m args below meth c D dA h0 sa md n0 z0 nL Q (pc, ls, st, w) := by
  unfold sx_b2 at h
  split at h
  · rename_i y x r
    split at h
    · rename_i t ht
      intro H locs lsA hP hS hl h1 h2
      refine row x y t _ H locs lsA _ _ (sx_to_eq ht) (fun hc => ?_) (fun hc => ?_)
      · simp only [hc, decide_true, cond_true] at h
        cases h
        exact K H locs lsA hP hS hl h1 h2
      · simp only [hc, decide_false, cond_false] at h
        cases h
        exact K H locs lsA hP hS hl h1 h2
    · cases h
  · cases h
theorem sx_o_sw (hx : p.tables.exec = Jvm.exec) (hb : c.code = cc) {d lo hi : Int} {offs : Array Int} {len : Nat} (hd : decode cc pc = .ok (.tableswitch d lo hi offs, len)) (h : sx_sw d lo hi offs ls pc st w = some F) (K : sx_J p l e R s m args below meth c D dA h0 sa md n0 z0 nL Q F) : sx_J p l e R s m args below meth c D dA h0 sa md n0 z0 nL Q (pc, ls, st, w) := by
  unfold sx_sw at h
  split at h
  · rename_i x r
    split at h
    · rename_i ho
      split at h
      · rename_i t ht
        cases h
        exact sx_o_go (fun H locs lsA cells slots k => lv_tableOut hx hb hd ho (sx_to_eq ht) k) K
      · cases h
    · rename_i ho
      split at h
      · rename_i off hoff
        split at h
        · rename_i t ht
          cases h
          refine sx_o_go (fun H locs lsA cells slots k => lv_tableIn hx hb hd (fun q => ho (Or.inl q)) (fun q => ho (Or.inr q)) (by rw [← Array.getElem?_toList]; exact hoff) (sx_to_eq ht) k) K
        · cases h
      · cases h
  · cases h
theorem sx_o_ldi {i pc' : Nat} (row : ∀ (x : Int32) (rest : List Value) (H : Heap) (locs : List Loc) (lsA : Array Slot) (cells slots : Nat), lsA[i]? = some (.val (.int x)) → W p l e R s m args below meth c H locs cells slots Q (F0 m pc' lsA (.int x :: rest)) → W p l e R s m args below meth c H locs cells slots Q (F0 m pc lsA rest)) (h : sx_ldi ls i pc' st w = some F) (K : sx_J p l e R s m args below meth c D dA h0 sa md n0 z0 nL Q F) : sx_J p l e R s m args below meth c D dA h0 sa md n0 z0 nL Q (pc, ls, st, w) := by
  unfold sx_ldi at h
  split at h
  · rename_i v hv
    cases h
    exact fun H locs lsA hP hS hl h1 h2 => row v _ H locs lsA _ _ (sx_has hl hv) (K H locs lsA hP hS hl h1 h2)
  · cases h
theorem sx_o_ldl {i pc' : Nat} (row : ∀ (x : Int64) (rest : List Value) (H : Heap) (locs : List Loc) (lsA : Array Slot) (cells slots : Nat), lsA[i]? = some (.val (.long x)) → W p l e R s m args below meth c H locs cells slots Q (F0 m pc' lsA (.long x :: rest)) → W p l e R s m args below meth c H locs cells slots Q (F0 m pc lsA rest)) (h : sx_ldl ls i pc' st w = some F) (K : sx_J p l e R s m args below meth c D dA h0 sa md n0 z0 nL Q F) : sx_J p l e R s m args below meth c D dA h0 sa md n0 z0 nL Q (pc, ls, st, w) := by
  unfold sx_ldl at h
  split at h
  · rename_i v hv
    cases h
    exact fun H locs lsA hP hS hl h1 h2 => row v _ H locs lsA _ _ (sx_has hl hv) (K H locs lsA hP hS hl h1 h2)
  · cases h
theorem sx_o_lda {i pc' : Nat} (row : ∀ (x : Nat) (rest : List Value) (H : Heap) (locs : List Loc) (lsA : Array Slot) (cells slots : Nat), lsA[i]? = some (.val (.ref x)) → W p l e R s m args below meth c H locs cells slots Q (F0 m pc' lsA (.ref x :: rest)) → W p l e R s m args below meth c H locs cells slots Q (F0 m pc lsA rest)) (h : sx_lda ls i pc' st w = some F) (K : sx_J p l e R s m args below meth c D dA h0 sa md n0 z0 nL Q F) : sx_J p l e R s m args below meth c D dA h0 sa md n0 z0 nL Q (pc, ls, st, w) := by
  unfold sx_lda at h
  split at h
  · rename_i v hv
    cases h
    exact fun H locs lsA hP hS hl h1 h2 => row _ _ H locs lsA _ _ (sx_has hl hv) (K H locs lsA hP hS hl h1 h2)
  · rename_i v hv
    cases h
    exact fun H locs lsA hP hS hl h1 h2 => row _ _ H locs lsA _ _ (sx_has hl hv) (K H locs lsA hP hS hl h1 h2)
  · cases h
theorem sx_o_sti {i pc' : Nat} (row : ∀ (x : Int32) (rest : List Value) (H : Heap) (locs : List Loc) (lsA : Array Slot) (cells slots : Nat) (lv lv' : List (Nat × Value)), lv_has lsA nL lv → i < nL → (i, Value.int x) :: lv.filter (fun q => !(q.1 == i) && !(q.1 + 1 == i && q.2.category == 2)) = lv' → (∀ ls' : Array Slot, lv_has ls' nL lv' → W p l e R s m args below meth c H locs cells slots Q (F0 m pc' ls' rest)) → W p l e R s m args below meth c H locs cells slots Q (F0 m pc lsA (.int x :: rest))) (h : sx_sti nL ls i pc' st w = some F) (K : sx_J p l e R s m args below meth c D dA h0 sa md n0 z0 nL Q F) : sx_J p l e R s m args below meth c D dA h0 sa md n0 z0 nL Q (pc, ls, st, w) := by
  unfold sx_sti at h
  split at h
  · rename_i v r
    cases hb : Nat.blt i nL with
    | false => rw [hb] at h; cases h
    | true =>
      rw [hb] at h
      cases h
      exact fun H locs lsA hP hS hl h1 h2 => row v _ H locs lsA _ _ _ _ hl (Nat.le_of_ble_eq_true hb) (sx_s1_map h0 sa ls i (.int v)) (fun ls' h' => K H locs ls' hP hS h' h1 h2)
  · cases h
theorem sx_o_stl {i pc' : Nat} (row : ∀ (x : Int64) (rest : List Value) (H : Heap) (locs : List Loc) (lsA : Array Slot) (cells slots : Nat) (lv lv' : List (Nat × Value)), lv_has lsA nL lv → i + 1 < nL → (i, Value.long x) :: lv.filter (fun q => !(q.1 == i) && (!(q.1 == i + 1) && !(q.1 + 1 == i && q.2.category == 2))) = lv' → (∀ ls' : Array Slot, lv_has ls' nL lv' → W p l e R s m args below meth c H locs cells slots Q (F0 m pc' ls' rest)) → W p l e R s m args below meth c H locs cells slots Q (F0 m pc lsA (.long x :: rest))) (h : sx_stl nL ls i pc' st w = some F) (K : sx_J p l e R s m args below meth c D dA h0 sa md n0 z0 nL Q F) : sx_J p l e R s m args below meth c D dA h0 sa md n0 z0 nL Q (pc, ls, st, w) := by
  unfold sx_stl at h
  split at h
  · rename_i v r
    cases hb : Nat.blt (i + 1) nL with
    | false => rw [hb] at h; cases h
    | true =>
      rw [hb] at h
      cases h
      exact fun H locs lsA hP hS hl h1 h2 => row v _ H locs lsA _ _ _ _ hl (Nat.le_of_ble_eq_true hb) (sx_s2_map h0 sa ls i (.long v)) (fun ls' h' => K H locs ls' hP hS h' h1 h2)
  · cases h
theorem sx_o_sta {i pc' : Nat} (row : ∀ (x : Nat) (rest : List Value) (H : Heap) (locs : List Loc) (lsA : Array Slot) (cells slots : Nat) (lv lv' : List (Nat × Value)), lv_has lsA nL lv → i < nL → (i, Value.ref x) :: lv.filter (fun q => !(q.1 == i) && !(q.1 + 1 == i && q.2.category == 2)) = lv' → (∀ ls' : Array Slot, lv_has ls' nL lv' → W p l e R s m args below meth c H locs cells slots Q (F0 m pc' ls' rest)) → W p l e R s m args below meth c H locs cells slots Q (F0 m pc lsA (.ref x :: rest))) (h : sx_sta nL ls i pc' st w = some F) (K : sx_J p l e R s m args below meth c D dA h0 sa md n0 z0 nL Q F) : sx_J p l e R s m args below meth c D dA h0 sa md n0 z0 nL Q (pc, ls, st, w) := by
  unfold sx_sta at h
  split at h
  · rename_i v r
    cases hb : Nat.blt i nL with
    | false => rw [hb] at h; cases h
    | true =>
      rw [hb] at h
      cases h
      exact fun H locs lsA hP hS hl h1 h2 => row _ _ H locs lsA _ _ _ _ hl (Nat.le_of_ble_eq_true hb) (sx_s1_map h0 sa ls i (.ref v)) (fun ls' h' => K H locs ls' hP hS h' h1 h2)
  · rename_i v r
    cases hb : Nat.blt i nL with
    | false => rw [hb] at h; cases h
    | true =>
      rw [hb] at h
      cases h
      exact fun H locs lsA hP hS hl h1 h2 => row _ _ H locs lsA _ _ _ _ hl (Nat.le_of_ble_eq_true hb) (sx_s1_map h0 sa ls i (.float v)) (fun ls' h' => K H locs ls' hP hS h' h1 h2)
  · cases h
theorem sx_o_inc (hx : p.tables.exec = Jvm.exec) (hb : c.code = cc) {i : Nat} {k : Int} (hd : decode cc pc = .ok (.iinc i k, 3)) (h : sx_inc nL i k ls pc st w = some F) (K : sx_J p l e R s m args below meth c D dA h0 sa md n0 z0 nL Q F) : sx_J p l e R s m args below meth c D dA h0 sa md n0 z0 nL Q (pc, ls, st, w) := by
  unfold sx_inc at h
  split at h
  · rename_i v hv
    cases hbt : Nat.blt i nL with
    | false => rw [hbt] at h; cases h
    | true =>
      rw [hbt] at h
      cases h
      intro H locs lsA hP hS hl h1 h2
      obtain ⟨k9, hk9⟩ := List.getElem?_of_mem (List.mem_map.mpr ⟨(i, .int v), sx_lk_mem ls i _ hv, rfl⟩ : (i, Value.int v) ∈ ls.map (sx_q h0 sa))
      exact lv_iinc hx hb hd hl hk9 rfl (Nat.le_of_ble_eq_true hbt) (sx_s1_map h0 sa ls i (.int (v + Int32.ofInt k))) (fun ls' h' => K H locs ls' hP hS h' h1 h2)
  · cases h
theorem sx_o_dup (hx : p.tables.exec = Jvm.exec) (hb : c.code = cc) (hd : decode cc pc = .ok (.dup, 1)) (h : sx_dup ls pc st w = some F) (K : sx_J p l e R s m args below meth c D dA h0 sa md n0 z0 nL Q F) : sx_J p l e R s m args below meth c D dA h0 sa md n0 z0 nL Q (pc, ls, st, w) := by
  unfold sx_dup at h
  split at h
  · rename_i v r
    cases hbt : Nat.beq v.category 1 with
    | false => rw [hbt] at h; cases h
    | true =>
      rw [hbt] at h
      cases h
      exact sx_o_go (fun H locs lsA cells slots k => lv_dup hx hb hd (by rw [sx_vc]; exact Nat.eq_of_beq_eq_true hbt) k) K
  · cases h
theorem sx_o_pop (hx : p.tables.exec = Jvm.exec) (hb : c.code = cc) (hd : decode cc pc = .ok (.pop, 1)) (h : sx_pop ls pc st w = some F) (K : sx_J p l e R s m args below meth c D dA h0 sa md n0 z0 nL Q F) : sx_J p l e R s m args below meth c D dA h0 sa md n0 z0 nL Q (pc, ls, st, w) := by
  unfold sx_pop at h
  split at h
  · rename_i v r
    cases hbt : Nat.beq v.category 1 with
    | false => rw [hbt] at h; cases h
    | true =>
      rw [hbt] at h
      cases h
      exact sx_o_go (fun H locs lsA cells slots k => lv_pop hx hb hd (by rw [sx_vc]; exact Nat.eq_of_beq_eq_true hbt) k) K
  · cases h
theorem sx_o_pop2 (hx : p.tables.exec = Jvm.exec) (hb : c.code = cc) (hd : decode cc pc = .ok (.pop2, 1)) (h : sx_pop2 ls pc st w = some F) (K : sx_J p l e R s m args below meth c D dA h0 sa md n0 z0 nL Q F) : sx_J p l e R s m args below meth c D dA h0 sa md n0 z0 nL Q (pc, ls, st, w) := by
  unfold sx_pop2 at h
  split at h
  · rename_i v r
    cases hbt : Nat.beq v.category 2 with
    | false => rw [hbt] at h; cases h
    | true =>
      rw [hbt] at h
      cases h
      exact sx_o_go (fun H locs lsA cells slots k => lv_pop2_2 hx hb hd (by rw [sx_vc]; exact Nat.eq_of_beq_eq_true hbt) k) K
  · cases h
theorem sx_o_dup2 (hx : p.tables.exec = Jvm.exec) (hb : c.code = cc) (hd : decode cc pc = .ok (.dup2, 1)) (h : sx_dup2 ls pc st w = some F) (K : sx_J p l e R s m args below meth c D dA h0 sa md n0 z0 nL Q F) : sx_J p l e R s m args below meth c D dA h0 sa md n0 z0 nL Q (pc, ls, st, w) := by
  unfold sx_dup2 at h
  split at h
  · rename_i v u r
    cases hbt : (Nat.beq v.category 1 && Nat.beq u.category 1) with
    | false => rw [hbt] at h; cases h
    | true =>
      rw [hbt] at h
      cases h
      have hq := Bool.and_eq_true_iff.mp hbt
      exact sx_o_go (fun H locs lsA cells slots k => lv_dup2_11 hx hb hd (by rw [sx_vc]; exact Nat.eq_of_beq_eq_true hq.1) (by rw [sx_vc]; exact Nat.eq_of_beq_eq_true hq.2) k) K
  · cases h
end SXJ
