-- the pure machine's cells in the heap, and the judgement that a pure frame stands for
def sx_v (h0 : Nat) (sa : Nat → Nat) (v : Value) : Value := match v with
  | .ref i => .ref (h0 + i)
  | .float k => .ref (sa k.toNat)
  | .int x => .int x
  | .long x => .long x
  | .double x => .double x
  | .null => .null
  | .retAddr x => .retAddr x
def sx_q (h0 : Nat) (sa : Nat → Nat) (q : Nat × Value) : Nat × Value := (q.1, sx_v h0 sa q.2)
theorem sx_vc (h0 : Nat) (sa : Nat → Nat) (v : Value) : (sx_v h0 sa v).category = v.category := by cases v <;> rfl
theorem sx_vrf (h0 : Nat) (sa : Nat → Nat) (r : Option Nat) : sx_v h0 sa (sx_rf r) = va_rf (r.map (fun i => h0 + i)) := by cases r <;> rfl
def sx_E (dA : Nat → ClassId) (h0 : Nat) (sa : Nat → Nat) (c : sx_C) : va_E := match c with
  | .inl q => .inl (dA q.1, q.2.length, .inl (fun j => q.2.getD j 0))
  | .inr (.inl q) => .inl (dA q.1, q.2.length, .inr (.inl (fun j => q.2.getD j 0)))
  | .inr (.inr (.inl q)) => .inl (dA q.1, q.2.length, .inr (.inr (.inr (.inr (fun j => (q.2.getD j none).map (fun i => h0 + i))))))
  | .inr (.inr (.inr q)) => .inr (q.1, q.2.map (sx_v h0 sa))
def sx_tys (dA : Nat → ClassId) : List (ClassId × FieldType) := [(dA 0, .int), (dA 1, .boolean), (dA 2, .byte), (dA 3, .long), (dA 4, .object "PeasDrum$Gallery"), (dA 5, .object "PeasDrum$Sheet"), (dA 6, .array .int)]
def sx_A (h0 : Nat) : Nat → Prop := fun q => h0 ≤ q
def sx_W (dA : Nat → ClassId) (h0 : Nat) (sa : Nat → Nat) (w : List sx_C) : va_W := w.zipIdx.map (fun q => (h0 + q.2, sx_E dA h0 sa q.1))
theorem sx_W_get (dA : Nat → ClassId) (h0 : Nat) (sa : Nat → Nat) (w : List sx_C) (i : Nat) : (sx_W dA h0 sa w)[i]? = (w[i]?).map (fun c => (h0 + i, sx_E dA h0 sa c)) := by
  unfold sx_W
  rw [List.getElem?_map, List.getElem?_zipIdx]
  cases w[i]? <;> simp
theorem sx_W_set (dA : Nat → ClassId) (h0 : Nat) (sa : Nat → Nat) (w : List sx_C) (i : Nat) (c : sx_C) : (sx_W dA h0 sa w).set i (h0 + i, sx_E dA h0 sa c) = sx_W dA h0 sa (w.set i c) := by
  apply List.ext_getElem?
  intro k
  rw [sx_W_get, List.getElem?_set, List.getElem?_set, sx_W_get]
  have hl : (sx_W dA h0 sa w).length = w.length := by simp [sx_W]
  by_cases h : i = k
  · subst h
    rw [hl]
    by_cases h2 : i < w.length <;> simp [h2]
  · simp [h]
theorem sx_W_app (dA : Nat → ClassId) (h0 : Nat) (sa : Nat → Nat) (w : List sx_C) (c : sx_C) : sx_W dA h0 sa (w ++ [c]) = sx_W dA h0 sa w ++ [(h0 + w.length, sx_E dA h0 sa c)] := by
  unfold sx_W
  rw [List.zipIdx_append]
  simp
def sx_P (D : va_G) (dA : Nat → ClassId) (h0 : Nat) (sa : Nat → Nat) (md : Bool) (w : List sx_C) (H : Heap) : Prop := va_P D sx_cl (sx_W dA h0 sa w) H ∧ (md = true → H.size = h0 + w.length)
theorem sx_D (dA : Nat → ClassId) (h0 : Nat) (sa : Nat → Nat) (w : List sx_C) : va_D (sx_A h0) (sx_W dA h0 sa w) := by
  refine ⟨fun i j p q hi hj h => ?_, fun k q hk => ?_⟩
  · rw [sx_W_get] at hi hj
    cases hw : w[i]? with
    | none => rw [hw] at hi; cases hi
    | some c =>
      cases hw2 : w[j]? with
      | none => rw [hw2] at hj; cases hj
      | some c2 =>
        rw [hw] at hi
        rw [hw2] at hj
        cases hi
        cases hj
        exact Nat.add_left_cancel h
  · rw [sx_W_get] at hk
    cases hw : w[k]? with
    | none => rw [hw] at hk; cases hk
    | some c => rw [hw] at hk; cases hk; exact Nat.le_add_right _ _
theorem sx_P.at {D : va_G} {dA : Nat → ClassId} {h0 : Nat} {sa : Nat → Nat} {md : Bool} {w : List sx_C} {H : Heap} (h : sx_P D dA h0 sa md w H) {i : Nat} {c : sx_C} (hi : w[i]? = some c) : va_at D sx_cl (h0 + i, sx_E dA h0 sa c) H := h.1 i _ (by rw [sx_W_get, hi]; rfl)
theorem sx_P.one {D : va_G} {dA : Nat → ClassId} {h0 : Nat} {sa : Nat → Nat} {md : Bool} {w : List sx_C} {H : Heap} (h : sx_P D dA h0 sa md w H) {i : Nat} {c : sx_C} (hi : w[i]? = some c) : va_P D sx_cl [(h0 + i, sx_E dA h0 sa c)] H := by
  intro k q hk
  have h0k : k < 1 := (List.getElem?_eq_some_iff.mp hk).1
  rw [show k = 0 by omega] at hk
  cases hk
  exact h.at hi
theorem sx_P.set {D : va_G} {dA : Nat → ClassId} {h0 : Nat} {sa : Nat → Nat} {md : Bool} {w : List sx_C} {H H1 : Heap} (h : sx_P D dA h0 sa md w H) {i : Nat} {c0 c : sx_C} (hi : w[i]? = some c0) (he : va_at D sx_cl (h0 + i, sx_E dA h0 sa c) H1) (z : H1.size = H.size) (oq : ∀ q : Nat, q ≠ h0 + i → H1[q]? = H[q]?) : sx_P D dA h0 sa md (w.set i c) H1 := by
  refine ⟨?_, fun hm => by rw [z, h.2 hm, List.length_set]⟩
  rw [← sx_W_set]
  exact h.1.set (sx_D dA h0 sa w) (e0 := sx_E dA h0 sa c0) (by rw [sx_W_get, hi]; rfl) he oq
theorem sx_P.push {D : va_G} {dA : Nat → ClassId} {h0 : Nat} {sa : Nat → Nat} {w : List sx_C} {H H1 : Heap} (h : sx_P D dA h0 sa true w H) {c : sx_C} (he : va_at D sx_cl (h0 + w.length, sx_E dA h0 sa c) H1) (z : H1.size = H.size + 1) (oq : ∀ q : Nat, q < H.size → H1[q]? = H[q]?) : sx_P D dA h0 sa true (w ++ [c]) H1 := by
  refine ⟨?_, fun hm => by rw [z, h.2 hm, List.length_append]; rfl⟩
  rw [sx_W_app]
  refine (h.1.kept (fun k q hk => oq q.1 ((h.1 k q hk).lt))).app (fun k q hk => ?_)
  have h0k : k < 1 := (List.getElem?_eq_some_iff.mp hk).1
  rw [show k = 0 by omega] at hk
  cases hk
  exact he
def sx_s (c : sx_C) : Nat := match c with
  | .inl q => q.2.length
  | .inr (.inl q) => q.2.length
  | .inr (.inr (.inl q)) => q.2.length
  | .inr (.inr (.inr q)) => q.2.length
def sx_sz : List sx_C → Nat
  | [] => 0
  | c :: r => sx_s c + sx_sz r
theorem sx_sz_app : ∀ (w w2 : List sx_C), sx_sz (w ++ w2) = sx_sz w + sx_sz w2
  | [], w2 => by simp [sx_sz]
  | c :: r, w2 => by
    show sx_s c + sx_sz (r ++ w2) = sx_s c + sx_sz r + sx_sz w2
    rw [sx_sz_app r w2]
    omega
theorem sx_sz_set : ∀ (w : List sx_C) (i : Nat) (c0 c : sx_C), w[i]? = some c0 → sx_s c = sx_s c0 → sx_sz (w.set i c) = sx_sz w
  | [], i, c0, c, h, _ => by simp at h
  | b :: r, 0, c0, c, h, hs => by
    have hb : b = c0 := by simpa using h
    show sx_s c + sx_sz r = sx_s b + sx_sz r
    rw [hs, hb]
  | b :: r, i + 1, c0, c, h, hs => by
    show sx_s b + sx_sz (r.set i c) = sx_s b + sx_sz r
    rw [sx_sz_set r i c0 c (by simpa using h) hs]
def sx_ck (md : Bool) (n0 : Nat) (w : List sx_C) : Nat := cond md (w.length - n0) n0
def sx_cs (md : Bool) (z0 : Nat) (w : List sx_C) : Nat := cond md (sx_sz w - z0) z0
/-- where a method's own count begins -/
def sx_cn0 (md : Bool) (w : List sx_C) : Nat := cond md w.length 0
def sx_cz0 (md : Bool) (w : List sx_C) : Nat := cond md (sx_sz w) 0
theorem sx_lk_mem {α : Type} : ∀ (l : List (Nat × α)) (i : Nat) (v : α), sx_lk l i = some v → (i, v) ∈ l
  | [], i, v, h => by cases h
  | q :: r, i, v, h => by
    unfold sx_lk at h
    cases hb : Nat.beq q.1 i with
    | true =>
      rw [hb] at h
      have e1 : q.1 = i := Nat.eq_of_beq_eq_true hb
      have e2 : q.2 = v := Option.some.inj h
      rw [← e1, ← e2]
      exact List.mem_cons_self
    | false =>
      rw [hb] at h
      exact List.mem_cons_of_mem _ (sx_lk_mem r i v h)
theorem sx_has {lsA : Array Slot} {nL : Nat} {ls : sx_L} {h0 : Nat} {sa : Nat → Nat} (hl : lv_has lsA nL (ls.map (sx_q h0 sa))) {i : Nat} {v : Value} (h : sx_lk ls i = some v) : lsA[i]? = some (.val (sx_v h0 sa v)) :=
  hl.2.2 _ (List.mem_map.mpr ⟨(i, v), sx_lk_mem ls i v h, rfl⟩)
theorem sx_s1_map (h0 : Nat) (sa : Nat → Nat) (ls : sx_L) (i : Nat) (v : Value) : (i, sx_v h0 sa v) :: (ls.map (sx_q h0 sa)).filter (fun q => !(q.1 == i) && !(q.1 + 1 == i && q.2.category == 2)) = (sx_s1 ls i v).map (sx_q h0 sa) := by
  unfold sx_s1
  rw [List.map_cons, List.filter_map]
  congr 2
  apply List.filter_congr
  intro q _
  simp [sx_q, sx_vc]
theorem sx_s2_map (h0 : Nat) (sa : Nat → Nat) (ls : sx_L) (i : Nat) (v : Value) : (i, sx_v h0 sa v) :: (ls.map (sx_q h0 sa)).filter (fun q => !(q.1 == i) && (!(q.1 == i + 1) && !(q.1 + 1 == i && q.2.category == 2))) = (sx_s2 ls i v).map (sx_q h0 sa) := by
  unfold sx_s2
  rw [List.map_cons, List.filter_map]
  congr 2
  apply List.filter_congr
  intro q _
  simp [sx_q, sx_vc]
theorem sx_args_map (h0 : Nat) (sa : Nat → Nat) : ∀ (vs : List Value) (i : Nat), lv_args i (vs.map (sx_v h0 sa)) = (lv_args i vs).map (sx_q h0 sa)
  | [], i => rfl
  | v :: vs, i => by
    show (i, sx_v h0 sa v) :: lv_args (if (sx_v h0 sa v).category = 2 then i + 2 else i + 1) (vs.map (sx_v h0 sa)) = (i, sx_v h0 sa v) :: (lv_args (if v.category = 2 then i + 2 else i + 1) vs).map (sx_q h0 sa)
    rw [sx_vc, sx_args_map h0 sa vs]
theorem sx_cat_map (h0 : Nat) (sa : Nat → Nat) (st : List Value) : ((st.map (sx_v h0 sa)).map (fun v => v.category)).sum = (st.map (fun v => v.category)).sum := by
  rw [List.map_map]
  congr 1
  apply List.map_congr_left
  intro v _
  exact sx_vc h0 sa v
