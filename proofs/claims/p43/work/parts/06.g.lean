-- 06.pure.lean.txt
section
noncomputable section SXA
abbrev sx_C : Type := (Nat × List Int32) ⊕ ((Nat × List Int64) ⊕ ((Nat × List (Option Nat)) ⊕ (Nat × List Value)))
abbrev sx_L : Type := List (Nat × Value)
abbrev sx_F : Type := Nat × sx_L × List Value × List sx_C
def sx_lk {α : Type} : List (Nat × α) → Nat → Option α
  | [], _ => none
  | q :: r, i => cond (Nat.beq q.1 i) (some q.2) (sx_lk r i)
def sx_s1 (ls : sx_L) (i : Nat) (v : Value) : sx_L := (i, v) :: ls.filter (fun q => !(q.1 == i) && !(q.1 + 1 == i && q.2.category == 2))
def sx_s2 (ls : sx_L) (i : Nat) (v : Value) : sx_L := (i, v) :: ls.filter (fun q => !(q.1 == i) && (!(q.1 == i + 1) && !(q.1 + 1 == i && q.2.category == 2)))
def sx_rf (r : Option Nat) : Value := match r with
  | none => .null
  | some a => .ref a
def sx_st (xs : Option (List Int32)) (k : Nat) : List Int32 := match k with
  | 0 => [1, 2, 1, 4]
  | 1 => [-1, 0, 0, 1, 2, 3]
  | 2 => [1, 2, 4, 0, 2, 3, 5, 0, 1, 1, 2, 0, 2, 3, 5, 0, 1, 1, 2, 0, 2, 3, 3, 0]
  | 3 => [12, 8, 20, 0, 10, 6, 18, 0, 6, 4, 10, 0, 5, 3, 9, 0, 18, 12, 30, 0, 5, 3, 9, 0]
  | _ => xs.getD []
def sx_okv (ty : FieldType) (v : Value) : Bool := match ty, v with
  | .int, .int _ => true
  | .boolean, .int x => x == 0 || x == 1
  | .long, .long _ => true
  | .object _, .ref _ => true
  | .object _, .null => true
  | .array _, .ref _ => true
  | .array _, .null => true
  | _, _ => false
def sx_in (i : Int32) (n : Nat) : Bool := !(decide (i < 0)) && decide (i.toNatClampNeg < n)
def sx_ldi (ls : sx_L) (i pc : Nat) (st : List Value) (w : List sx_C) : Option sx_F := match sx_lk ls i with
  | some (.int v) => some (pc, ls, .int v :: st, w)
  | _ => none
def sx_ldl (ls : sx_L) (i pc : Nat) (st : List Value) (w : List sx_C) : Option sx_F := match sx_lk ls i with
  | some (.long v) => some (pc, ls, .long v :: st, w)
  | _ => none
def sx_lda (ls : sx_L) (i pc : Nat) (st : List Value) (w : List sx_C) : Option sx_F := match sx_lk ls i with
  | some (.ref v) => some (pc, ls, .ref v :: st, w)
  | some (.float v) => some (pc, ls, .float v :: st, w)
  | _ => none
def sx_sti (nL : Nat) (ls : sx_L) (i pc : Nat) (st : List Value) (w : List sx_C) : Option sx_F := match st with
  | .int v :: r => cond (Nat.blt i nL) (some (pc, sx_s1 ls i (.int v), r, w)) none
  | _ => none
def sx_sta (nL : Nat) (ls : sx_L) (i pc : Nat) (st : List Value) (w : List sx_C) : Option sx_F := match st with
  | .ref v :: r => cond (Nat.blt i nL) (some (pc, sx_s1 ls i (.ref v), r, w)) none
  | .float v :: r => cond (Nat.blt i nL) (some (pc, sx_s1 ls i (.float v), r, w)) none
  | _ => none
def sx_stl (nL : Nat) (ls : sx_L) (i pc : Nat) (st : List Value) (w : List sx_C) : Option sx_F := match st with
  | .long v :: r => cond (Nat.blt (i + 1) nL) (some (pc, sx_s2 ls i (.long v), r, w)) none
  | _ => none
def sx_ii (f : Int32 → Int32 → Int32) (ls : sx_L) (pc : Nat) (st : List Value) (w : List sx_C) : Option sx_F := match st with
  | .int y :: .int x :: r => some (pc + 1, ls, .int (f x y) :: r, w)
  | _ => none
def sx_iz (f : Int32 → Int32 → Int32) (ls : sx_L) (pc : Nat) (st : List Value) (w : List sx_C) : Option sx_F := match st with
  | .int y :: .int x :: r => if y = 0 then none else some (pc + 1, ls, .int (f x y) :: r, w)
  | _ => none
def sx_i1 (f : Int32 → Int32) (ls : sx_L) (pc : Nat) (st : List Value) (w : List sx_C) : Option sx_F := match st with
  | .int x :: r => some (pc + 1, ls, .int (f x) :: r, w)
  | _ => none
def sx_jj (f : Int64 → Int64 → Int64) (ls : sx_L) (pc : Nat) (st : List Value) (w : List sx_C) : Option sx_F := match st with
  | .long y :: .long x :: r => some (pc + 1, ls, .long (f x y) :: r, w)
  | _ => none
def sx_ji (f : Int64 → Int32 → Int64) (ls : sx_L) (pc : Nat) (st : List Value) (w : List sx_C) : Option sx_F := match st with
  | .int y :: .long x :: r => some (pc + 1, ls, .long (f x y) :: r, w)
  | _ => none
def sx_to (pc : Nat) (off : Int) : Option Nat := match (pc : Int) + off with
  | .ofNat t => some t
  | .negSucc _ => none
def sx_b1 (c : Int32 → Bool) (off : Int) (ls : sx_L) (pc : Nat) (st : List Value) (w : List sx_C) : Option sx_F := match st with
  | .int x :: r => match sx_to pc off with
    | some t => cond (c x) (some (t, ls, r, w)) (some (pc + 3, ls, r, w))
    | none => none
  | _ => none
def sx_b2 (c : Int32 → Int32 → Bool) (off : Int) (ls : sx_L) (pc : Nat) (st : List Value) (w : List sx_C) : Option sx_F := match st with
  | .int y :: .int x :: r => match sx_to pc off with
    | some t => cond (c x y) (some (t, ls, r, w)) (some (pc + 3, ls, r, w))
    | none => none
  | _ => none
def sx_sw (dflt lo hi : Int) (offs : Array Int) (ls : sx_L) (pc : Nat) (st : List Value) (w : List sx_C) : Option sx_F := match st with
  | .int x :: r => if x.toInt < lo ∨ hi < x.toInt then (match sx_to pc dflt with
      | some t => some (t, ls, r, w)
      | none => none)
    else (match offs.toList[(x.toInt - lo).toNat]? with
      | some off => (match sx_to pc off with
        | some t => some (t, ls, r, w)
        | none => none)
      | none => none)
  | _ => none
def sx_gf (o idx : Nat) (ls : sx_L) (pc : Nat) (st : List Value) (w : List sx_C) : Option sx_F := match st with
  | .ref a :: r => match sx_lk (sx_fl o) idx, w[a]? with
    | some q, some (.inr (.inr (.inr (ci, fs)))) => cond (Nat.beq ci q.1) (match fs[q.2.1]? with
      | some v => some (pc + 3, ls, v :: r, w)
      | none => none) none
    | _, _ => none
  | _ => none
def sx_fin (mi ci k : Nat) : Bool := match sx_cl[ci]? with
  | some q => cond (q.2.1 k).2.2.2 (Nat.beq (sx_own mi) ci && decide ((sx_M mi).1.name = "<init>")) true
  | none => false
def sx_pf (mi idx : Nat) (ls : sx_L) (pc : Nat) (st : List Value) (w : List sx_C) : Option sx_F := match st with
  | v :: .ref a :: r => match sx_lk (sx_fl (sx_own mi)) idx, w[a]? with
    | some q, some (.inr (.inr (.inr (ci, fs)))) => cond (Nat.beq ci q.1 && Nat.blt q.2.1 fs.length && sx_okv (sx_ty ci q.2.1) v && sx_fin mi ci q.2.1) (some (pc + 3, ls, r, w.set a (.inr (.inr (.inr (ci, fs.set q.2.1 v)))))) none
    | _, _ => none
  | _ => none
def sx_al (t : Nat) (l : List Int32) (i : Int32) (ls : sx_L) (pc : Nat) (r : List Value) (w : List sx_C) : Option sx_F := cond (sx_in i l.length) (some (pc + 1, ls, .int (l.getD i.toNatClampNeg 0) :: r, w)) none
def sx_iald (xs : Option (List Int32)) (ls : sx_L) (pc : Nat) (st : List Value) (w : List sx_C) : Option sx_F := match st with
  | .int i :: .ref a :: r => match w[a]? with
    | some (.inl (0, l)) => sx_al 0 l i ls pc r w
    | _ => none
  | .int i :: .float k :: r => cond (Nat.blt k.toNat 5) (sx_al 0 (sx_st xs k.toNat) i ls pc r w) none
  | _ => none
def sx_bald (ls : sx_L) (pc : Nat) (st : List Value) (w : List sx_C) : Option sx_F := match st with
  | .int i :: .ref a :: r => match w[a]? with
    | some (.inl (1, l)) => sx_al 1 l i ls pc r w
    | some (.inl (2, l)) => sx_al 2 l i ls pc r w
    | _ => none
  | _ => none
def sx_lald (ls : sx_L) (pc : Nat) (st : List Value) (w : List sx_C) : Option sx_F := match st with
  | .int i :: .ref a :: r => match w[a]? with
    | some (.inr (.inl (3, l))) => cond (sx_in i l.length) (some (pc + 1, ls, .long (l.getD i.toNatClampNeg 0) :: r, w)) none
    | _ => none
  | _ => none
def sx_aald (ls : sx_L) (pc : Nat) (st : List Value) (w : List sx_C) : Option sx_F := match st with
  | .int i :: .ref a :: r => match w[a]? with
    | some (.inr (.inr (.inl (t, l)))) => cond (sx_in i l.length && Nat.ble 4 t && Nat.ble t 6) (some (pc + 1, ls, sx_rf (l.getD i.toNatClampNeg none) :: r, w)) none
    | _ => none
  | _ => none
def sx_iast (ls : sx_L) (pc : Nat) (st : List Value) (w : List sx_C) : Option sx_F := match st with
  | .int x :: .int i :: .ref a :: r => match w[a]? with
    | some (.inl (0, l)) => cond (sx_in i l.length) (some (pc + 1, ls, r, w.set a (.inl (0, l.set i.toNatClampNeg x)))) none
    | _ => none
  | _ => none
def sx_bast (ls : sx_L) (pc : Nat) (st : List Value) (w : List sx_C) : Option sx_F := match st with
  | .int x :: .int i :: .ref a :: r => match w[a]? with
    | some (.inl (1, l)) => cond (sx_in i l.length) (some (pc + 1, ls, r, w.set a (.inl (1, l.set i.toNatClampNeg (vp_nar .boolean x))))) none
    | some (.inl (2, l)) => cond (sx_in i l.length) (some (pc + 1, ls, r, w.set a (.inl (2, l.set i.toNatClampNeg (vp_nar .byte x))))) none
    | _ => none
  | _ => none
def sx_last (ls : sx_L) (pc : Nat) (st : List Value) (w : List sx_C) : Option sx_F := match st with
  | .long x :: .int i :: .ref a :: r => match w[a]? with
    | some (.inr (.inl (3, l))) => cond (sx_in i l.length) (some (pc + 1, ls, r, w.set a (.inr (.inl (3, l.set i.toNatClampNeg x))))) none
    | _ => none
  | _ => none
def sx_oc (t : Nat) : Nat := match t with
  | 4 => 2
  | 5 => 5
  | _ => 99
def sx_aast (ls : sx_L) (pc : Nat) (st : List Value) (w : List sx_C) : Option sx_F := match st with
  | .ref v :: .int i :: .ref a :: r => match w[a]?, w[v]? with
    | some (.inr (.inr (.inl (t, l)))), some (.inr (.inr (.inr (ci, _)))) => cond (sx_in i l.length && Nat.beq ci (sx_oc t)) (some (pc + 1, ls, r, w.set a (.inr (.inr (.inl (t, l.set i.toNatClampNeg (some v))))))) none
    | _, _ => none
  | _ => none
def sx_new (o idx : Nat) (ls : sx_L) (pc : Nat) (st : List Value) (w : List sx_C) : Option sx_F := match sx_lk (sx_kl o) idx with
  | some q => some (pc + 3, ls, .ref w.length :: st, w ++ [.inr (.inr (.inr (q.1, sx_df q.1)))])
  | none => none
def sx_ln (n : Int32) : Bool := !(decide (n < 0)) && Nat.ble n.toNatClampNeg 4096
def sx_na (at_ : ArrayType) (ls : sx_L) (pc : Nat) (st : List Value) (w : List sx_C) : Option sx_F := match st with
  | .int n :: r => cond (sx_ln n) (match at_ with
    | .int => some (pc + 2, ls, .ref w.length :: r, w ++ [.inl (0, List.replicate n.toNatClampNeg 0)])
    | .boolean => some (pc + 2, ls, .ref w.length :: r, w ++ [.inl (1, List.replicate n.toNatClampNeg 0)])
    | .byte => some (pc + 2, ls, .ref w.length :: r, w ++ [.inl (2, List.replicate n.toNatClampNeg 0)])
    | .long => some (pc + 2, ls, .ref w.length :: r, w ++ [.inr (.inl (3, List.replicate n.toNatClampNeg 0))])
    | _ => none) none
  | _ => none
def sx_anew (o idx : Nat) (ls : sx_L) (pc : Nat) (st : List Value) (w : List sx_C) : Option sx_F := match st with
  | .int n :: r => match sx_lk (sx_kl o) idx with
    | some (2, _) => cond (sx_ln n) (some (pc + 3, ls, .ref w.length :: r, w ++ [.inr (.inr (.inl (4, List.replicate n.toNatClampNeg none)))])) none
    | some (5, _) => cond (sx_ln n) (some (pc + 3, ls, .ref w.length :: r, w ++ [.inr (.inr (.inl (5, List.replicate n.toNatClampNeg none)))])) none
    | _ => none
  | _ => none
def sx_mna (o idx dim : Nat) (ls : sx_L) (pc : Nat) (st : List Value) (w : List sx_C) : Option sx_F := match st with
  | .int k :: .int n :: r => cond (Nat.beq o 3 && Nat.beq idx 15 && Nat.beq dim 2 && sx_ln n && sx_ln k) (some (pc + 4, ls, .ref w.length :: r, w ++ (.inr (.inr (.inl (6, (List.range n.toNatClampNeg).map (fun i => some (w.length + 1 + i))))) :: List.replicate n.toNatClampNeg (.inl (0, List.replicate k.toNatClampNeg 0))))) none
  | _ => none
def sx_kc (o idx pc n : Nat) (ls : sx_L) (st : List Value) (w : List sx_C) : Option sx_F := match sx_lk (sx_kI o) idx with
  | some q => some (pc + n, ls, .int q.1 :: st, w)
  | none => match sx_lk (sx_kS o) idx with
    | some q => cond (Nat.blt q.1 20) (some (pc + n, ls, .float (UInt32.ofNat (100 + q.1)) :: st, w)) none
    | none => none
def sx_sn : List Nat := [2, 5, 4, 4, 4, 5, 7, 4, 6, 4, 7, 6, 4, 4, 3, 6, 2, 4, 5, 3]
def sx_sb : List (List Int32) := [[97, 116], [98, 114, 101, 97, 100], [99, 108, 97, 121], [100, 101, 101, 112], [100, 105, 115, 104], [102, 101, 105, 110, 116], [103, 97, 108, 108, 101, 114, 121], [109, 105, 110, 101], [109, 111, 117, 116, 104, 115], [111, 117, 114, 115], [112, 114, 111, 112, 112, 101, 100], [114, 97, 116, 105, 111, 110], [114, 111, 99, 107], [115, 97, 110, 100], [115, 97, 112], [116, 104, 101, 105, 114, 115], [116, 111], [119, 97, 108, 108], [119, 97, 116, 101, 114], [119, 97, 121]]
def sx_sm (o : Nat) : List (Nat × (Nat × Nat)) := match o with
  | 4 => [(119, 0, 704), (123, 1, 714)]
  | 6 => [(230, 0, 1293), (235, 1, 1294)]
  | _ => []
def sx_str (o idx : Nat) (ls : sx_L) (pc : Nat) (st : List Value) (w : List sx_C) : Option sx_F := match sx_lk (sx_sm o) idx, st with
  | some (0, _), .float k :: r => cond (Nat.ble 100 k.toNat && Nat.blt k.toNat 120 && Nat.ble (r.map (fun v => v.category)).sum 8) (some (pc + 3, ls, .int (nI (sx_sn.getD (k.toNat - 100) 0)) :: r, w)) none
  | some (1, _), .int i :: .float k :: r => cond (Nat.ble 100 k.toNat && Nat.blt k.toNat 120 && sx_in i (sx_sn.getD (k.toNat - 100) 0) && Nat.ble (r.map (fun v => v.category)).sum 8) (some (pc + 3, ls, .int ((sx_sb.getD (k.toNat - 100) []).getD i.toNatClampNeg 0) :: r, w)) none
  | _, _ => none
def sx_cpy {α : Type} (f g : List α) (sp dp n : Nat) : List α := g.take dp ++ (f.drop sp).take n ++ g.drop (dp + n)
def sx_acp (o idx : Nat) (ls : sx_L) (pc : Nat) (st : List Value) (w : List sx_C) : Option sx_F := match st with
  | .int n :: .int dp :: .ref a :: .int sp :: .ref a0 :: r => match sx_lk (sx_ac o) idx with
    | some _ => cond (!(decide (sp < 0)) && !(decide (dp < 0)) && !(decide (n < 0)) && Nat.ble (r.map (fun v => v.category)).sum 8) (match w[a0]?, w[a]? with
      | some (.inl (0, f)), some (.inl (0, g)) => cond (Nat.ble (sp.toNatClampNeg + n.toNatClampNeg) f.length && Nat.ble (dp.toNatClampNeg + n.toNatClampNeg) g.length) (some (pc + 3, ls, r, w.set a (.inl (0, sx_cpy f g sp.toNatClampNeg dp.toNatClampNeg n.toNatClampNeg)))) none
      | some (.inr (.inl (3, f))), some (.inr (.inl (3, g))) => cond (Nat.ble (sp.toNatClampNeg + n.toNatClampNeg) f.length && Nat.ble (dp.toNatClampNeg + n.toNatClampNeg) g.length) (some (pc + 3, ls, r, w.set a (.inr (.inl (3, sx_cpy f g sp.toNatClampNeg dp.toNatClampNeg n.toNatClampNeg))))) none
      | _, _ => none) none
    | none => none
  | _ => none
def sx_dup (ls : sx_L) (pc : Nat) (st : List Value) (w : List sx_C) : Option sx_F := match st with
  | v :: r => cond (Nat.beq v.category 1) (some (pc + 1, ls, v :: v :: r, w)) none
  | _ => none
def sx_pop (ls : sx_L) (pc : Nat) (st : List Value) (w : List sx_C) : Option sx_F := match st with
  | v :: r => cond (Nat.beq v.category 1) (some (pc + 1, ls, r, w)) none
  | _ => none
def sx_dup2 (ls : sx_L) (pc : Nat) (st : List Value) (w : List sx_C) : Option sx_F := match st with
  | v :: u :: r => cond (Nat.beq v.category 1 && Nat.beq u.category 1) (some (pc + 1, ls, v :: u :: v :: u :: r, w)) none
  | _ => none
def sx_pop2 (ls : sx_L) (pc : Nat) (st : List Value) (w : List sx_C) : Option sx_F := match st with
  | v :: r => cond (Nat.beq v.category 2) (some (pc + 1, ls, r, w)) none
  | _ => none
def sx_inc (nL : Nat) (i : Nat) (k : Int) (ls : sx_L) (pc : Nat) (st : List Value) (w : List sx_C) : Option sx_F := match sx_lk ls i with
  | some (.int v) => cond (Nat.blt i nL) (some (pc + 3, sx_s1 ls i (.int (v + Int32.ofInt k)), st, w)) none
  | _ => none
def sx_gs (o idx : Nat) (ls : sx_L) (pc : Nat) (st : List Value) (w : List sx_C) : Option sx_F := match sx_lk (sx_sl o) idx with
  | some q => cond (Nat.blt q.1 4) (some (pc + 3, ls, .float (UInt32.ofNat q.1) :: st, w)) none
  | none => none
def sx_kj (o idx : Nat) (ls : sx_L) (pc : Nat) (st : List Value) (w : List sx_C) : Option sx_F := match sx_lk (sx_kJ o) idx with
  | some q => some (pc + 3, ls, .long q.1 :: st, w)
  | none => none
def sx_obj (o idx : Nat) (ls : sx_L) (pc : Nat) (st : List Value) (w : List sx_C) : Option sx_F := match sx_lk (sx_oi o) idx, st with
  | some _, .ref _ :: r => cond (Nat.ble (r.map (fun v => v.category)).sum 8) (some (pc + 3, ls, r, w)) none
  | _, _ => none
def sx_len (xs : Option (List Int32)) (ls : sx_L) (pc : Nat) (st : List Value) (w : List sx_C) : Option sx_F := match st, xs with
  | .float k :: r, some ys => cond (Nat.beq k.toNat 4) (some (pc + 1, ls, .int (Int32.ofNat ys.length) :: r, w)) none
  | _, _ => none
def sx_step (md : Bool) (xs : Option (List Int32)) (mi pc : Nat) (i : Instr) (n : Nat) (ls : sx_L) (st : List Value) (w : List sx_C) : Option sx_F := match i, n with
  | .iconst k, 1 => some (pc + 1, ls, .int (Int32.ofInt k) :: st, w)
  | .bipush k, 2 => some (pc + 2, ls, .int (Int8.ofInt k).toInt32 :: st, w)
  | .sipush k, 3 => some (pc + 3, ls, .int (Int16.ofInt k).toInt32 :: st, w)
  | .lconst k, 1 => some (pc + 1, ls, .long (Int64.ofNat (k : Nat)) :: st, w)
  | .ldc k, 2 => sx_kc (sx_own mi) k pc 2 ls st w
  | .ldc_w k, 3 => sx_kc (sx_own mi) k pc 3 ls st w
  | .ldc2_w k, 3 => sx_kj (sx_own mi) k ls pc st w
  | .iload_n k, 1 => sx_ldi ls k (pc + 1) st w
  | .iload k, 2 => sx_ldi ls k (pc + 2) st w
  | .lload_n k, 1 => sx_ldl ls k (pc + 1) st w
  | .lload k, 2 => sx_ldl ls k (pc + 2) st w
  | .aload_n k, 1 => sx_lda ls k (pc + 1) st w
  | .aload k, 2 => sx_lda ls k (pc + 2) st w
  | .istore_n k, 1 => sx_sti (sx_maxL mi) ls k (pc + 1) st w
  | .istore k, 2 => sx_sti (sx_maxL mi) ls k (pc + 2) st w
  | .lstore_n k, 1 => sx_stl (sx_maxL mi) ls k (pc + 1) st w
  | .lstore k, 2 => sx_stl (sx_maxL mi) ls k (pc + 2) st w
  | .astore_n k, 1 => sx_sta (sx_maxL mi) ls k (pc + 1) st w
  | .astore k, 2 => sx_sta (sx_maxL mi) ls k (pc + 2) st w
  | .iinc i k, 3 => sx_inc (sx_maxL mi) i k ls pc st w
  | .iadd, 1 => sx_ii (fun x y => x + y) ls pc st w
  | .isub, 1 => sx_ii (fun x y => x - y) ls pc st w
  | .imul, 1 => sx_ii (fun x y => x * y) ls pc st w
  | .iand, 1 => sx_ii (fun x y => x &&& y) ls pc st w
  | .ishl, 1 => sx_ii (fun x y => x <<< (y &&& 31)) ls pc st w
  | .ishr, 1 => sx_ii (fun x y => x >>> (y &&& 31)) ls pc st w
  | .idiv, 1 => sx_iz (fun x y => x / y) ls pc st w
  | .irem, 1 => sx_iz (fun x y => x - x / y * y) ls pc st w
  | .ineg, 1 => sx_i1 (fun x => -x) ls pc st w
  | .i2b, 1 => sx_i1 (fun x => x.toInt8.toInt32) ls pc st w
  | .i2s, 1 => sx_i1 (fun x => x.toInt16.toInt32) ls pc st w
  | .ladd, 1 => sx_jj (fun x y => x + y) ls pc st w
  | .lsub, 1 => sx_jj (fun x y => x - y) ls pc st w
  | .lmul, 1 => sx_jj (fun x y => x * y) ls pc st w
  | .land, 1 => sx_jj (fun x y => x &&& y) ls pc st w
  | .lor, 1 => sx_jj (fun x y => x ||| y) ls pc st w
  | .lxor, 1 => sx_jj (fun x y => x ^^^ y) ls pc st w
  | .lshl, 1 => sx_ji (fun x y => x <<< (y.toInt64 &&& 63)) ls pc st w
  | .lushr, 1 => sx_ji (fun x y => (x.toUInt64 >>> (y.toInt64.toUInt64 &&& Int64.toUInt64 63)).toInt64) ls pc st w
  | .lcmp, 1 => match st with | .long y :: .long x :: r => some (pc + 1, ls, .int (lg_cmp x y) :: r, w) | _ => none
  | .i2l, 1 => match st with | .int x :: r => some (pc + 1, ls, .long x.toInt64 :: r, w) | _ => none
  | .l2i, 1 => match st with | .long x :: r => some (pc + 1, ls, .int x.toInt32 :: r, w) | _ => none
  | .dup, 1 => sx_dup ls pc st w
  | .pop, 1 => sx_pop ls pc st w
  | .dup2, 1 => sx_dup2 ls pc st w
  | .pop2, 1 => sx_pop2 ls pc st w
  | .ifCond .eq off, 3 => sx_b1 (fun x => decide (x = 0)) off ls pc st w
  | .if_icmp .eq off, 3 => sx_b2 (fun x y => decide (x = y)) off ls pc st w
  | .ifCond .ne off, 3 => sx_b1 (fun x => decide (¬ x = 0)) off ls pc st w
  | .if_icmp .ne off, 3 => sx_b2 (fun x y => decide (¬ x = y)) off ls pc st w
  | .ifCond .lt off, 3 => sx_b1 (fun x => decide (x < 0)) off ls pc st w
  | .if_icmp .lt off, 3 => sx_b2 (fun x y => decide (x < y)) off ls pc st w
  | .ifCond .ge off, 3 => sx_b1 (fun x => decide (0 ≤ x)) off ls pc st w
  | .if_icmp .ge off, 3 => sx_b2 (fun x y => decide (y ≤ x)) off ls pc st w
  | .ifCond .gt off, 3 => sx_b1 (fun x => decide (0 < x)) off ls pc st w
  | .if_icmp .gt off, 3 => sx_b2 (fun x y => decide (y < x)) off ls pc st w
  | .ifCond .le off, 3 => sx_b1 (fun x => decide (x ≤ 0)) off ls pc st w
  | .if_icmp .le off, 3 => sx_b2 (fun x y => decide (x ≤ y)) off ls pc st w
  | .goto off, 3 => match sx_to pc off with | some t => some (t, ls, st, w) | none => none
  | .tableswitch d lo hi offs, len => sx_sw d lo hi offs ls pc st w
  | .getfield k, 3 => sx_gf (sx_own mi) k ls pc st w
  | .putfield k, 3 => sx_pf mi k ls pc st w
  | .getstatic k, 3 => sx_gs (sx_own mi) k ls pc st w
  | .iaload, 1 => sx_iald xs ls pc st w
  | .baload, 1 => sx_bald ls pc st w
  | .laload, 1 => sx_lald ls pc st w
  | .aaload, 1 => sx_aald ls pc st w
  | .iastore, 1 => sx_iast ls pc st w
  | .bastore, 1 => sx_bast ls pc st w
  | .lastore, 1 => sx_last ls pc st w
  | .aastore, 1 => sx_aast ls pc st w
  | .arraylength, 1 => sx_len xs ls pc st w
  | .new k, 3 => cond md (sx_new (sx_own mi) k ls pc st w) none
  | .newarray t, 2 => cond md (sx_na t ls pc st w) none
  | .anewarray k, 3 => cond md (sx_anew (sx_own mi) k ls pc st w) none
  | .multianewarray k dim, 4 => cond md (sx_mna (sx_own mi) k dim ls pc st w) none
  | .invokespecial k, 3 => sx_obj (sx_own mi) k ls pc st w
  | .invokestatic k, 3 => cond md none (sx_acp (sx_own mi) k ls pc st w)
  | .invokevirtual k, 3 => sx_str (sx_own mi) k ls pc st w
  | _, _ => none
def sx_inv (mi : Nat) (i : Instr) (st : List Value) (w : List sx_C) : Option (Nat × List Value × List Value) := match i with
  | .invokestatic k => match sx_lk (sx_ml (sx_own mi)) k with
    | some q => cond (Nat.beq (sx_kd q.1) 0 && Nat.ble (sx_nar q.1) st.length && Nat.ble ((st.drop (sx_nar q.1)).map (fun v => v.category)).sum 8) (some (q.1, (st.take (sx_nar q.1)).reverse, st.drop (sx_nar q.1))) none
    | none => none
  | .invokevirtual k => match sx_lk (sx_ml (sx_own mi)) k with
    | some q => match st.drop (sx_nar q.1) with
      | .ref a :: r => match w[a]? with
        | some (.inr (.inr (.inr (ci, _)))) => cond (Nat.beq (sx_kd q.1) 1 && Nat.beq ci (sx_own q.1) && Nat.ble (r.map (fun v => v.category)).sum 8) (some (q.1, .ref a :: (st.take (sx_nar q.1)).reverse, r)) none
        | _ => none
      | _ => none
    | none => none
  | .invokespecial k => match sx_lk (sx_ml (sx_own mi)) k with
    | some q => match st with
      | .ref a :: r => cond (Nat.beq (sx_kd q.1) 2 && Nat.beq (sx_nar q.1) 0 && Nat.ble (r.map (fun v => v.category)).sum 8) (some (q.1, [.ref a], r)) none
      | _ => none
    | none => match sx_lk (sx_mn (sx_own mi)) k with
      | some q => match st with
        | .ref a :: r => cond (Nat.beq (sx_kd q.1) 2 && Nat.beq (sx_nar q.1) 0 && Nat.ble (r.map (fun v => v.category)).sum 8) (some (q.1, [.ref a], r)) none
        | _ => none
      | none => none
  | _ => none
def sx_ret (mi : Nat) (i : Instr) (st : List Value) : Option (Option Value) := match i, (sx_M mi).2.2.2.1, st with
  | .ireturn, some .int, [.int v] => some (some (.int v))
  | .ireturn, some .boolean, [.int v] => cond (v == 0 || v == 1) (some (some (.int v))) none
  | .lreturn, some .long, [.long v] => some (some (.long v))
  | .areturn, some (.object _), [.ref v] => some (some (.ref v))
  | .areturn, some (.object _), [.float v] => some (some (.float v))
  | .areturn, some (.array _), [.ref v] => some (some (.ref v))
  | .return_, none, [] => some none
  | _, _, _ => none
def sx_run (md : Bool) (xs : Option (List Int32)) : Nat → Nat → Nat → Nat → sx_L → List Value → List sx_C → Option (Option Value × List sx_C)
  | 0, _, _, _, _, _, _ => none
  | f + 1, d, mi, pc, ls, st, w => match sx_ins mi pc with
    | none => none
    | some (i, n) => match sx_step md xs mi pc i n ls st w with
      | some (pc', ls', st', w') => sx_run md xs f d mi pc' ls' st' w'
      | none => match cond (Nat.beq n 1) (sx_ret mi i st) none with
        | some r => some (r, w)
        | none => match cond (Nat.beq n 3) (sx_inv mi i st w) none, d with
          | some (mi', as, rest), d' + 1 => cond (Nat.ble (as.map (fun v => v.category)).sum (sx_maxL mi')) (match sx_run md xs f d' mi' 0 (lv_args 0 as) [] w with
            | some (r, w') => sx_run md xs f (d' + 1) mi (pc + 3) ls (r.toList ++ rest) w'
            | none => none) none
          | _, _ => none
end SXA
end
-- 06b.rooms.lean.txt
section
def sx_fr (mi : Nat) : Nat := cond (Nat.blt mi 123) (cond (Nat.blt mi 61) (cond (Nat.blt mi 30) (cond (Nat.blt mi 15) (cond (Nat.blt mi 7) (cond (Nat.blt mi 3) (cond (Nat.blt mi 1) (2) (cond (Nat.blt mi 2) (1) (0))) (cond (Nat.blt mi 5) (0) (cond (Nat.blt mi 6) (0) (2)))) (cond (Nat.blt mi 11) (cond (Nat.blt mi 9) (0) (cond (Nat.blt mi 10) (1) (2))) (cond (Nat.blt mi 13) (cond (Nat.blt mi 12) (0) (2)) (0)))) (cond (Nat.blt mi 22) (cond (Nat.blt mi 18) (cond (Nat.blt mi 16) (4) (cond (Nat.blt mi 17) (0) (3))) (cond (Nat.blt mi 20) (cond (Nat.blt mi 19) (2) (1)) (cond (Nat.blt mi 21) (0) (2)))) (cond (Nat.blt mi 26) (0) (cond (Nat.blt mi 28) (cond (Nat.blt mi 27) (2) (0)) (2))))) (cond (Nat.blt mi 45) (cond (Nat.blt mi 37) (cond (Nat.blt mi 33) (cond (Nat.blt mi 31) (2) (cond (Nat.blt mi 32) (0) (3))) (cond (Nat.blt mi 35) (cond (Nat.blt mi 34) (1) (0)) (cond (Nat.blt mi 36) (1) (0)))) (cond (Nat.blt mi 41) (cond (Nat.blt mi 39) (cond (Nat.blt mi 38) (2) (1)) (cond (Nat.blt mi 40) (5) (0))) (cond (Nat.blt mi 43) (cond (Nat.blt mi 42) (4) (1)) (cond (Nat.blt mi 44) (0) (3))))) (cond (Nat.blt mi 53) (cond (Nat.blt mi 49) (cond (Nat.blt mi 47) (cond (Nat.blt mi 46) (2) (1)) (cond (Nat.blt mi 48) (0) (2))) (cond (Nat.blt mi 51) (cond (Nat.blt mi 50) (5) (1)) (cond (Nat.blt mi 52) (0) (5)))) (cond (Nat.blt mi 57) (cond (Nat.blt mi 55) (cond (Nat.blt mi 54) (5) (1)) (cond (Nat.blt mi 56) (5) (4))) (cond (Nat.blt mi 59) (cond (Nat.blt mi 58) (3) (6)) (cond (Nat.blt mi 60) (5) (1))))))) (cond (Nat.blt mi 92) (cond (Nat.blt mi 76) (cond (Nat.blt mi 68) (cond (Nat.blt mi 64) (cond (Nat.blt mi 62) (6) (cond (Nat.blt mi 63) (2) (0))) (cond (Nat.blt mi 66) (cond (Nat.blt mi 65) (0) (2)) (cond (Nat.blt mi 67) (0) (5)))) (cond (Nat.blt mi 72) (cond (Nat.blt mi 70) (cond (Nat.blt mi 69) (4) (2)) (cond (Nat.blt mi 71) (4) (6))) (cond (Nat.blt mi 74) (cond (Nat.blt mi 73) (5) (4)) (cond (Nat.blt mi 75) (6) (5))))) (cond (Nat.blt mi 84) (cond (Nat.blt mi 80) (cond (Nat.blt mi 78) (cond (Nat.blt mi 77) (3) (2)) (cond (Nat.blt mi 79) (0) (3))) (cond (Nat.blt mi 82) (cond (Nat.blt mi 81) (0) (3)) (2))) (cond (Nat.blt mi 88) (cond (Nat.blt mi 86) (cond (Nat.blt mi 85) (1) (0)) (2)) (cond (Nat.blt mi 90) (0) (cond (Nat.blt mi 91) (1) (0)))))) (cond (Nat.blt mi 107) (cond (Nat.blt mi 99) (cond (Nat.blt mi 95) (cond (Nat.blt mi 93) (8) (cond (Nat.blt mi 94) (7) (2))) (cond (Nat.blt mi 97) (cond (Nat.blt mi 96) (0) (1)) (cond (Nat.blt mi 98) (0) (6)))) (cond (Nat.blt mi 103) (cond (Nat.blt mi 101) (cond (Nat.blt mi 100) (4) (0)) (cond (Nat.blt mi 102) (3) (4))) (cond (Nat.blt mi 105) (0) (cond (Nat.blt mi 106) (4) (0))))) (cond (Nat.blt mi 115) (cond (Nat.blt mi 111) (cond (Nat.blt mi 109) (cond (Nat.blt mi 108) (5) (4)) (cond (Nat.blt mi 110) (3) (5))) (cond (Nat.blt mi 113) (cond (Nat.blt mi 112) (2) (1)) (0))) (cond (Nat.blt mi 119) (cond (Nat.blt mi 117) (cond (Nat.blt mi 116) (2) (0)) (cond (Nat.blt mi 118) (0) (2))) (cond (Nat.blt mi 121) (cond (Nat.blt mi 120) (0) (2)) (cond (Nat.blt mi 122) (5) (6)))))))) (cond (Nat.blt mi 185) (cond (Nat.blt mi 154) (cond (Nat.blt mi 138) (cond (Nat.blt mi 130) (cond (Nat.blt mi 126) (cond (Nat.blt mi 124) (5) (2)) (cond (Nat.blt mi 128) (cond (Nat.blt mi 127) (0) (2)) (cond (Nat.blt mi 129) (2) (0)))) (cond (Nat.blt mi 134) (cond (Nat.blt mi 132) (cond (Nat.blt mi 131) (2) (1)) (0)) (cond (Nat.blt mi 136) (cond (Nat.blt mi 135) (2) (3)) (cond (Nat.blt mi 137) (2) (1))))) (cond (Nat.blt mi 146) (cond (Nat.blt mi 142) (cond (Nat.blt mi 140) (0) (cond (Nat.blt mi 141) (4) (3))) (cond (Nat.blt mi 144) (cond (Nat.blt mi 143) (0) (2)) (cond (Nat.blt mi 145) (1) (0)))) (cond (Nat.blt mi 150) (cond (Nat.blt mi 148) (cond (Nat.blt mi 147) (0) (1)) (0)) (cond (Nat.blt mi 152) (cond (Nat.blt mi 151) (3) (1)) (cond (Nat.blt mi 153) (1) (2)))))) (cond (Nat.blt mi 169) (cond (Nat.blt mi 161) (cond (Nat.blt mi 157) (cond (Nat.blt mi 155) (1) (cond (Nat.blt mi 156) (2) (1))) (cond (Nat.blt mi 159) (2) (cond (Nat.blt mi 160) (2) (1)))) (cond (Nat.blt mi 165) (cond (Nat.blt mi 163) (cond (Nat.blt mi 162) (2) (1)) (cond (Nat.blt mi 164) (0) (5))) (cond (Nat.blt mi 167) (cond (Nat.blt mi 166) (0) (3)) (cond (Nat.blt mi 168) (2) (4))))) (cond (Nat.blt mi 177) (cond (Nat.blt mi 173) (cond (Nat.blt mi 171) (cond (Nat.blt mi 170) (3) (2)) (cond (Nat.blt mi 172) (2) (1))) (cond (Nat.blt mi 175) (cond (Nat.blt mi 174) (3) (5)) (cond (Nat.blt mi 176) (0) (4)))) (cond (Nat.blt mi 181) (cond (Nat.blt mi 179) (cond (Nat.blt mi 178) (4) (2)) (cond (Nat.blt mi 180) (4) (5))) (cond (Nat.blt mi 183) (cond (Nat.blt mi 182) (2) (4)) (cond (Nat.blt mi 184) (5) (2))))))) (cond (Nat.blt mi 216) (cond (Nat.blt mi 200) (cond (Nat.blt mi 192) (cond (Nat.blt mi 188) (cond (Nat.blt mi 186) (2) (cond (Nat.blt mi 187) (1) (7))) (cond (Nat.blt mi 190) (cond (Nat.blt mi 189) (6) (5)) (cond (Nat.blt mi 191) (4) (5)))) (cond (Nat.blt mi 196) (cond (Nat.blt mi 194) (cond (Nat.blt mi 193) (8) (7)) (cond (Nat.blt mi 195) (8) (6))) (cond (Nat.blt mi 198) (cond (Nat.blt mi 197) (3) (1)) (cond (Nat.blt mi 199) (2) (1))))) (cond (Nat.blt mi 208) (cond (Nat.blt mi 204) (cond (Nat.blt mi 202) (cond (Nat.blt mi 201) (0) (2)) (cond (Nat.blt mi 203) (3) (2))) (cond (Nat.blt mi 206) (1) (cond (Nat.blt mi 207) (0) (1)))) (cond (Nat.blt mi 212) (cond (Nat.blt mi 210) (cond (Nat.blt mi 209) (1) (0)) (cond (Nat.blt mi 211) (8) (7))) (cond (Nat.blt mi 214) (cond (Nat.blt mi 213) (0) (4)) (cond (Nat.blt mi 215) (3) (1)))))) (cond (Nat.blt mi 231) (cond (Nat.blt mi 223) (cond (Nat.blt mi 219) (cond (Nat.blt mi 217) (0) (cond (Nat.blt mi 218) (2) (1))) (cond (Nat.blt mi 221) (cond (Nat.blt mi 220) (5) (2)) (cond (Nat.blt mi 222) (1) (0)))) (cond (Nat.blt mi 227) (cond (Nat.blt mi 225) (0) (cond (Nat.blt mi 226) (2) (0))) (cond (Nat.blt mi 229) (cond (Nat.blt mi 228) (6) (5)) (cond (Nat.blt mi 230) (5) (2))))) (cond (Nat.blt mi 239) (cond (Nat.blt mi 235) (cond (Nat.blt mi 233) (cond (Nat.blt mi 232) (1) (2)) (cond (Nat.blt mi 234) (0) (2))) (cond (Nat.blt mi 237) (cond (Nat.blt mi 236) (2) (7)) (cond (Nat.blt mi 238) (0) (8)))) (cond (Nat.blt mi 243) (cond (Nat.blt mi 241) (cond (Nat.blt mi 240) (7) (1)) (cond (Nat.blt mi 242) (1) (0))) (cond (Nat.blt mi 245) (cond (Nat.blt mi 244) (1) (0)) (cond (Nat.blt mi 246) (1) (9))))))))
def sx_lo (mi : Nat) : Nat := cond (Nat.blt mi 123) (cond (Nat.blt mi 61) (cond (Nat.blt mi 30) (cond (Nat.blt mi 15) (cond (Nat.blt mi 7) (cond (Nat.blt mi 3) (cond (Nat.blt mi 1) (41) (cond (Nat.blt mi 2) (20) (0))) (cond (Nat.blt mi 5) (0) (cond (Nat.blt mi 6) (0) (44)))) (cond (Nat.blt mi 11) (cond (Nat.blt mi 9) (0) (cond (Nat.blt mi 10) (22) (44))) (cond (Nat.blt mi 13) (cond (Nat.blt mi 12) (0) (44)) (0)))) (cond (Nat.blt mi 22) (cond (Nat.blt mi 18) (cond (Nat.blt mi 16) (96) (cond (Nat.blt mi 17) (0) (73))) (cond (Nat.blt mi 20) (cond (Nat.blt mi 19) (46) (22)) (cond (Nat.blt mi 21) (0) (44)))) (cond (Nat.blt mi 26) (0) (cond (Nat.blt mi 28) (cond (Nat.blt mi 27) (44) (0)) (44))))) (cond (Nat.blt mi 45) (cond (Nat.blt mi 37) (cond (Nat.blt mi 33) (cond (Nat.blt mi 31) (44) (cond (Nat.blt mi 32) (0) (66))) (cond (Nat.blt mi 35) (cond (Nat.blt mi 34) (23) (0)) (cond (Nat.blt mi 36) (21) (0)))) (cond (Nat.blt mi 41) (cond (Nat.blt mi 39) (cond (Nat.blt mi 38) (44) (23)) (cond (Nat.blt mi 40) (110) (0))) (cond (Nat.blt mi 43) (cond (Nat.blt mi 42) (88) (21)) (cond (Nat.blt mi 44) (0) (66))))) (cond (Nat.blt mi 53) (cond (Nat.blt mi 49) (cond (Nat.blt mi 47) (cond (Nat.blt mi 46) (41) (20)) (cond (Nat.blt mi 48) (0) (44))) (cond (Nat.blt mi 51) (cond (Nat.blt mi 50) (110) (21)) (cond (Nat.blt mi 52) (0) (110)))) (cond (Nat.blt mi 57) (cond (Nat.blt mi 55) (cond (Nat.blt mi 54) (110) (21)) (cond (Nat.blt mi 56) (110) (88))) (cond (Nat.blt mi 59) (cond (Nat.blt mi 58) (66) (133)) (cond (Nat.blt mi 60) (110) (22))))))) (cond (Nat.blt mi 92) (cond (Nat.blt mi 76) (cond (Nat.blt mi 68) (cond (Nat.blt mi 64) (cond (Nat.blt mi 62) (133) (cond (Nat.blt mi 63) (44) (0))) (cond (Nat.blt mi 66) (cond (Nat.blt mi 65) (0) (44)) (cond (Nat.blt mi 67) (0) (122)))) (cond (Nat.blt mi 72) (cond (Nat.blt mi 70) (cond (Nat.blt mi 69) (96) (43)) (cond (Nat.blt mi 71) (96) (146))) (cond (Nat.blt mi 74) (cond (Nat.blt mi 73) (122) (96)) (cond (Nat.blt mi 75) (150) (122))))) (cond (Nat.blt mi 84) (cond (Nat.blt mi 80) (cond (Nat.blt mi 78) (cond (Nat.blt mi 77) (67) (41)) (cond (Nat.blt mi 79) (0) (67))) (cond (Nat.blt mi 82) (cond (Nat.blt mi 81) (0) (67)) (cond (Nat.blt mi 83) (44) (45)))) (cond (Nat.blt mi 88) (cond (Nat.blt mi 86) (cond (Nat.blt mi 85) (21) (0)) (cond (Nat.blt mi 87) (45) (44))) (cond (Nat.blt mi 90) (0) (cond (Nat.blt mi 91) (21) (0)))))) (cond (Nat.blt mi 107) (cond (Nat.blt mi 99) (cond (Nat.blt mi 95) (cond (Nat.blt mi 93) (190) (cond (Nat.blt mi 94) (167) (45))) (cond (Nat.blt mi 97) (cond (Nat.blt mi 96) (0) (21)) (cond (Nat.blt mi 98) (0) (144)))) (cond (Nat.blt mi 103) (cond (Nat.blt mi 101) (cond (Nat.blt mi 100) (97) (0)) (cond (Nat.blt mi 102) (75) (97))) (cond (Nat.blt mi 105) (0) (cond (Nat.blt mi 106) (97) (0))))) (cond (Nat.blt mi 115) (cond (Nat.blt mi 111) (cond (Nat.blt mi 109) (cond (Nat.blt mi 108) (120) (97)) (cond (Nat.blt mi 110) (66) (120))) (cond (Nat.blt mi 113) (cond (Nat.blt mi 112) (44) (22)) (0))) (cond (Nat.blt mi 119) (cond (Nat.blt mi 117) (cond (Nat.blt mi 116) (44) (0)) (cond (Nat.blt mi 118) (0) (44))) (cond (Nat.blt mi 121) (cond (Nat.blt mi 120) (0) (44)) (cond (Nat.blt mi 122) (122) (146)))))))) (cond (Nat.blt mi 185) (cond (Nat.blt mi 154) (cond (Nat.blt mi 138) (cond (Nat.blt mi 130) (cond (Nat.blt mi 126) (cond (Nat.blt mi 124) (122) (cond (Nat.blt mi 125) (43) (44))) (cond (Nat.blt mi 128) (cond (Nat.blt mi 127) (0) (44)) (cond (Nat.blt mi 129) (44) (0)))) (cond (Nat.blt mi 134) (cond (Nat.blt mi 132) (cond (Nat.blt mi 131) (42) (22)) (0)) (cond (Nat.blt mi 136) (cond (Nat.blt mi 135) (42) (66)) (cond (Nat.blt mi 137) (43) (22))))) (cond (Nat.blt mi 146) (cond (Nat.blt mi 142) (cond (Nat.blt mi 140) (0) (cond (Nat.blt mi 141) (93) (66))) (cond (Nat.blt mi 144) (cond (Nat.blt mi 143) (0) (44)) (cond (Nat.blt mi 145) (22) (0)))) (cond (Nat.blt mi 150) (cond (Nat.blt mi 148) (cond (Nat.blt mi 147) (0) (22)) (0)) (cond (Nat.blt mi 152) (cond (Nat.blt mi 151) (71) (22)) (cond (Nat.blt mi 153) (22) (46)))))) (cond (Nat.blt mi 169) (cond (Nat.blt mi 161) (cond (Nat.blt mi 157) (cond (Nat.blt mi 155) (22) (cond (Nat.blt mi 156) (43) (22))) (cond (Nat.blt mi 159) (46) (cond (Nat.blt mi 160) (43) (20)))) (cond (Nat.blt mi 165) (cond (Nat.blt mi 163) (cond (Nat.blt mi 162) (47) (20)) (cond (Nat.blt mi 164) (0) (114))) (cond (Nat.blt mi 167) (cond (Nat.blt mi 166) (0) (66)) (cond (Nat.blt mi 168) (43) (92))))) (cond (Nat.blt mi 177) (cond (Nat.blt mi 173) (cond (Nat.blt mi 171) (cond (Nat.blt mi 170) (71) (47)) (cond (Nat.blt mi 172) (46) (23))) (cond (Nat.blt mi 175) (cond (Nat.blt mi 174) (66) (114)) (cond (Nat.blt mi 176) (0) (92)))) (cond (Nat.blt mi 181) (cond (Nat.blt mi 179) (cond (Nat.blt mi 178) (92) (43)) (cond (Nat.blt mi 180) (93) (118))) (cond (Nat.blt mi 183) (cond (Nat.blt mi 182) (43) (93)) (cond (Nat.blt mi 184) (118) (42))))))) (cond (Nat.blt mi 216) (cond (Nat.blt mi 200) (cond (Nat.blt mi 192) (cond (Nat.blt mi 188) (cond (Nat.blt mi 186) (43) (cond (Nat.blt mi 187) (22) (160))) (cond (Nat.blt mi 190) (cond (Nat.blt mi 189) (139) (116)) (cond (Nat.blt mi 191) (93) (116)))) (cond (Nat.blt mi 196) (cond (Nat.blt mi 194) (cond (Nat.blt mi 193) (185) (160)) (cond (Nat.blt mi 195) (185) (139))) (cond (Nat.blt mi 198) (cond (Nat.blt mi 197) (70) (22)) (cond (Nat.blt mi 199) (46) (23))))) (cond (Nat.blt mi 208) (cond (Nat.blt mi 204) (cond (Nat.blt mi 202) (cond (Nat.blt mi 201) (0) (46)) (cond (Nat.blt mi 203) (70) (43))) (cond (Nat.blt mi 206) (cond (Nat.blt mi 205) (22) (24)) (cond (Nat.blt mi 207) (0) (24)))) (cond (Nat.blt mi 212) (cond (Nat.blt mi 210) (cond (Nat.blt mi 209) (22) (0)) (cond (Nat.blt mi 211) (185) (164))) (cond (Nat.blt mi 214) (cond (Nat.blt mi 213) (0) (98)) (cond (Nat.blt mi 215) (75) (21)))))) (cond (Nat.blt mi 231) (cond (Nat.blt mi 223) (cond (Nat.blt mi 219) (cond (Nat.blt mi 217) (0) (cond (Nat.blt mi 218) (42) (22))) (cond (Nat.blt mi 221) (cond (Nat.blt mi 220) (120) (42)) (cond (Nat.blt mi 222) (22) (0)))) (cond (Nat.blt mi 227) (cond (Nat.blt mi 225) (0) (cond (Nat.blt mi 226) (42) (0))) (cond (Nat.blt mi 229) (cond (Nat.blt mi 228) (141) (120)) (cond (Nat.blt mi 230) (120) (42))))) (cond (Nat.blt mi 239) (cond (Nat.blt mi 235) (cond (Nat.blt mi 233) (cond (Nat.blt mi 232) (22) (42)) (cond (Nat.blt mi 234) (0) (42))) (cond (Nat.blt mi 237) (cond (Nat.blt mi 236) (42) (160)) (cond (Nat.blt mi 238) (0) (183)))) (cond (Nat.blt mi 243) (cond (Nat.blt mi 241) (cond (Nat.blt mi 240) (160) (22)) (cond (Nat.blt mi 242) (22) (0))) (cond (Nat.blt mi 245) (cond (Nat.blt mi 244) (22) (0)) (cond (Nat.blt mi 246) (22) (211))))))))
noncomputable def sx_sv (mi : Nat) (i : Instr) : Bool := match i with
  | .invokevirtual k => (sx_lk (sx_sm (sx_own mi)) k).isSome
  | _ => false
noncomputable def sx_crok (mi m2 : Nat) : Bool := Nat.ble (sx_fr m2 + 1) (sx_fr mi) && Nat.ble (19 + sx_maxL m2 + sx_lo m2) (sx_lo mi)
noncomputable def sx_cro (mi : Nat) (q : Option (Nat × Nat)) : Bool := match q with
  | some q => sx_crok mi q.1
  | none => true
noncomputable def sx_crk (mi k : Nat) : Bool := sx_cro mi (sx_lk (sx_ml (sx_own mi)) k) && sx_cro mi (sx_lk (sx_mn (sx_own mi)) k)
noncomputable def sx_cri (mi : Nat) (i : Instr) : Bool := match i with
  | .invokestatic k => sx_crk mi k
  | .invokespecial k => sx_crk mi k
  | .invokevirtual k => sx_crk mi k && (cond (sx_sv mi (.invokevirtual k)) (Nat.ble 3 (sx_fr mi) && Nat.ble 75 (sx_lo mi)) true)
  | _ => true
noncomputable def sx_crp (mi : Nat) (x : Option (Instr × Nat)) : Bool := match x with
  | some p => sx_cri mi p.1
  | none => true
noncomputable def sx_crm (mi : Nat) : Bool := (List.range (sx_M mi).2.2.2.2.2.2.2.1).all (fun pc => sx_crp mi (sx_ins mi pc))
theorem sx_cr0 : (List.range 13).all (fun i => sx_crm (0 + i)) = true := by decide +kernel
theorem sx_cr1 : (List.range 13).all (fun i => sx_crm (13 + i)) = true := by decide +kernel
theorem sx_cr2 : (List.range 13).all (fun i => sx_crm (26 + i)) = true := by decide +kernel
theorem sx_cr3 : (List.range 13).all (fun i => sx_crm (39 + i)) = true := by decide +kernel
theorem sx_cr4 : (List.range 13).all (fun i => sx_crm (52 + i)) = true := by decide +kernel
theorem sx_cr5 : (List.range 13).all (fun i => sx_crm (65 + i)) = true := by decide +kernel
theorem sx_cr6 : (List.range 13).all (fun i => sx_crm (78 + i)) = true := by decide +kernel
theorem sx_cr7 : (List.range 13).all (fun i => sx_crm (91 + i)) = true := by decide +kernel
theorem sx_cr8 : (List.range 13).all (fun i => sx_crm (104 + i)) = true := by decide +kernel
theorem sx_cr9 : (List.range 13).all (fun i => sx_crm (117 + i)) = true := by decide +kernel
theorem sx_cr10 : (List.range 13).all (fun i => sx_crm (130 + i)) = true := by decide +kernel
theorem sx_cr11 : (List.range 13).all (fun i => sx_crm (143 + i)) = true := by decide +kernel
theorem sx_cr12 : (List.range 13).all (fun i => sx_crm (156 + i)) = true := by decide +kernel
theorem sx_cr13 : (List.range 13).all (fun i => sx_crm (169 + i)) = true := by decide +kernel
theorem sx_cr14 : (List.range 13).all (fun i => sx_crm (182 + i)) = true := by decide +kernel
theorem sx_cr15 : (List.range 13).all (fun i => sx_crm (195 + i)) = true := by decide +kernel
theorem sx_cr16 : (List.range 13).all (fun i => sx_crm (208 + i)) = true := by decide +kernel
theorem sx_cr17 : (List.range 13).all (fun i => sx_crm (221 + i)) = true := by decide +kernel
theorem sx_cr18 : (List.range 13).all (fun i => sx_crm (234 + i)) = true := by decide +kernel
theorem sx_crA {mi : Nat} (h : mi < 247) : sx_crm mi = true := by
  have key : ∀ k, k < 19 → (List.range 13).all (fun i => sx_crm (13 * k + i)) = true := by
    intro k hk
    match k, hk with
    | 0, _ => exact sx_cr0
    | 1, _ => exact sx_cr1
    | 2, _ => exact sx_cr2
    | 3, _ => exact sx_cr3
    | 4, _ => exact sx_cr4
    | 5, _ => exact sx_cr5
    | 6, _ => exact sx_cr6
    | 7, _ => exact sx_cr7
    | 8, _ => exact sx_cr8
    | 9, _ => exact sx_cr9
    | 10, _ => exact sx_cr10
    | 11, _ => exact sx_cr11
    | 12, _ => exact sx_cr12
    | 13, _ => exact sx_cr13
    | 14, _ => exact sx_cr14
    | 15, _ => exact sx_cr15
    | 16, _ => exact sx_cr16
    | 17, _ => exact sx_cr17
    | 18, _ => exact sx_cr18
    | k + 19, hk => omega
  have h2 := sx_all (key (mi / 13) (by omega)) (o := mi % 13) (by omega)
  rwa [show 13 * (mi / 13) + mi % 13 = mi by omega] at h2
theorem sx_crI {mi pc n : Nat} {i : Instr} (h : mi < 247) (hi : sx_ins mi pc = some (i, n)) : sx_cri mi i = true := by
  have hp : pc < (sx_M mi).2.2.2.2.2.2.2.1 := by
    unfold sx_ins at hi
    cases hb : Nat.blt pc (sx_M mi).2.2.2.2.2.2.2.1 with
    | false => rw [hb] at hi; cases hi
    | true => exact Nat.le_of_ble_eq_true hb
  have h1 := sx_crA h
  unfold sx_crm at h1
  have h2 := sx_all h1 hp
  rw [hi] at h2
  exact h2
def sx_crS (mi m2 : Nat) : Prop := sx_fr m2 + 1 ≤ sx_fr mi ∧ 19 + sx_maxL m2 + sx_lo m2 ≤ sx_lo mi
theorem sx_crok_s {mi m2 : Nat} (h : sx_crok mi m2 = true) : sx_crS mi m2 := by
  unfold sx_crok at h
  rw [Bool.and_eq_true] at h
  exact ⟨Nat.le_of_ble_eq_true h.1, Nat.le_of_ble_eq_true h.2⟩
theorem sx_crk_l {mi k : Nat} {q : Nat × Nat} (h : sx_crk mi k = true) (hq : sx_lk (sx_ml (sx_own mi)) k = some q) : sx_crS mi q.1 := by
  unfold sx_crk at h
  rw [Bool.and_eq_true, hq] at h
  exact sx_crok_s h.1
theorem sx_crk_n {mi k : Nat} {q : Nat × Nat} (h : sx_crk mi k = true) (hq : sx_lk (sx_mn (sx_own mi)) k = some q) : sx_crS mi q.1 := by
  unfold sx_crk at h
  rw [Bool.and_eq_true, hq] at h
  exact sx_crok_s h.2
theorem sx_cri_s {mi k : Nat} (h : sx_cri mi (.invokestatic k) = true) : sx_crk mi k = true := h
theorem sx_cri_i {mi k : Nat} (h : sx_cri mi (.invokespecial k) = true) : sx_crk mi k = true := h
theorem sx_cri_v {mi k : Nat} (h : sx_cri mi (.invokevirtual k) = true) : sx_crk mi k = true := by
  have h2 : (sx_crk mi k && (cond (sx_sv mi (.invokevirtual k)) (Nat.ble 3 (sx_fr mi) && Nat.ble 75 (sx_lo mi)) true)) = true := h
  rw [Bool.and_eq_true] at h2
  exact h2.1
theorem sx_cri_str {mi : Nat} {i : Instr} (h : sx_cri mi i = true) (hs : sx_sv mi i = true) : 3 ≤ sx_fr mi ∧ 75 ≤ sx_lo mi := by
  match i, h, hs with
  | .invokevirtual k, h, hs =>
    have h2 : (sx_crk mi k && (cond (sx_sv mi (.invokevirtual k)) (Nat.ble 3 (sx_fr mi) && Nat.ble 75 (sx_lo mi)) true)) = true := h
    rw [hs, cond_true, Bool.and_eq_true, Bool.and_eq_true] at h2
    exact ⟨Nat.le_of_ble_eq_true h2.2.1, Nat.le_of_ble_eq_true h2.2.2⟩
end
-- 07.rep.lean.txt
section
def sx_v (h0 : Nat) (sa : Nat → Nat) (v : Value) : Value := match v with
  | .ref i => .ref (h0 + i)
  | .float k => .ref (sa k.toNat)
  | .int x => .int x
  | .long x => .long x
  | .double x => .double x
  | .null => .null
  | .retAddr x => .retAddr x
def sx_q (h0 : Nat) (sa : Nat → Nat) (q : Nat × Value) : Nat × Value := (q.1, sx_v h0 sa q.2)
theorem sx_vc (h0 : Nat) (sa : Nat → Nat) (v : Value) : (sx_v h0 sa v).category = v.category := by cases v <;> rfl
theorem sx_vrf (h0 : Nat) (sa : Nat → Nat) (r : Option Nat) : sx_v h0 sa (sx_rf r) = va_rf (r.map (fun i => h0 + i)) := by cases r <;> rfl
def sx_E (dA : Nat → ClassId) (h0 : Nat) (sa : Nat → Nat) (c : sx_C) : va_E := match c with
  | .inl q => .inl (dA q.1, q.2.length, .inl (fun j => q.2.getD j 0))
  | .inr (.inl q) => .inl (dA q.1, q.2.length, .inr (.inl (fun j => q.2.getD j 0)))
  | .inr (.inr (.inl q)) => .inl (dA q.1, q.2.length, .inr (.inr (.inr (.inr (fun j => (q.2.getD j none).map (fun i => h0 + i))))))
  | .inr (.inr (.inr q)) => .inr (q.1, q.2.map (sx_v h0 sa))
def sx_tys (dA : Nat → ClassId) : List (ClassId × FieldType) := [(dA 0, .int), (dA 1, .boolean), (dA 2, .byte), (dA 3, .long), (dA 4, .object "PeasDrum$Gallery"), (dA 5, .object "PeasDrum$Sheet"), (dA 6, .array .int)]
def sx_A (h0 : Nat) : Nat → Prop := fun q => h0 ≤ q
def sx_W (dA : Nat → ClassId) (h0 : Nat) (sa : Nat → Nat) (w : List sx_C) : va_W := w.zipIdx.map (fun q => (h0 + q.2, sx_E dA h0 sa q.1))
theorem sx_W_get (dA : Nat → ClassId) (h0 : Nat) (sa : Nat → Nat) (w : List sx_C) (i : Nat) : (sx_W dA h0 sa w)[i]? = (w[i]?).map (fun c => (h0 + i, sx_E dA h0 sa c)) := by
  unfold sx_W
  rw [List.getElem?_map, List.getElem?_zipIdx]
  cases w[i]? <;> simp
theorem sx_W_set (dA : Nat → ClassId) (h0 : Nat) (sa : Nat → Nat) (w : List sx_C) (i : Nat) (c : sx_C) : (sx_W dA h0 sa w).set i (h0 + i, sx_E dA h0 sa c) = sx_W dA h0 sa (w.set i c) := by
  apply List.ext_getElem?
  intro k
  rw [sx_W_get, List.getElem?_set, List.getElem?_set, sx_W_get]
  have hl : (sx_W dA h0 sa w).length = w.length := by simp [sx_W]
  by_cases h : i = k
  · subst h
    rw [hl]
    by_cases h2 : i < w.length <;> simp [h2]
  · simp [h]
theorem sx_W_app (dA : Nat → ClassId) (h0 : Nat) (sa : Nat → Nat) (w : List sx_C) (c : sx_C) : sx_W dA h0 sa (w ++ [c]) = sx_W dA h0 sa w ++ [(h0 + w.length, sx_E dA h0 sa c)] := by
  unfold sx_W
  rw [List.zipIdx_append]
  simp
def sx_P (D : va_G) (dA : Nat → ClassId) (h0 : Nat) (sa : Nat → Nat) (md : Bool) (w : List sx_C) (H : Heap) : Prop := va_P D sx_cl (sx_W dA h0 sa w) H ∧ (md = true → H.size = h0 + w.length)
theorem sx_D (dA : Nat → ClassId) (h0 : Nat) (sa : Nat → Nat) (w : List sx_C) : va_D (sx_A h0) (sx_W dA h0 sa w) := by
  refine ⟨fun i j p q hi hj h => ?_, fun k q hk => ?_⟩
  · rw [sx_W_get] at hi hj
    cases hw : w[i]? with
    | none => rw [hw] at hi; cases hi
    | some c =>
      cases hw2 : w[j]? with
      | none => rw [hw2] at hj; cases hj
      | some c2 =>
        rw [hw] at hi
        rw [hw2] at hj
        cases hi
        cases hj
        exact Nat.add_left_cancel h
  · rw [sx_W_get] at hk
    cases hw : w[k]? with
    | none => rw [hw] at hk; cases hk
    | some c => rw [hw] at hk; cases hk; exact Nat.le_add_right _ _
theorem sx_P.at {D : va_G} {dA : Nat → ClassId} {h0 : Nat} {sa : Nat → Nat} {md : Bool} {w : List sx_C} {H : Heap} (h : sx_P D dA h0 sa md w H) {i : Nat} {c : sx_C} (hi : w[i]? = some c) : va_at D sx_cl (h0 + i, sx_E dA h0 sa c) H := h.1 i _ (by rw [sx_W_get, hi]; rfl)
theorem sx_P.one {D : va_G} {dA : Nat → ClassId} {h0 : Nat} {sa : Nat → Nat} {md : Bool} {w : List sx_C} {H : Heap} (h : sx_P D dA h0 sa md w H) {i : Nat} {c : sx_C} (hi : w[i]? = some c) : va_P D sx_cl [(h0 + i, sx_E dA h0 sa c)] H := by
  intro k q hk
  have h0k : k < 1 := (List.getElem?_eq_some_iff.mp hk).1
  rw [show k = 0 by omega] at hk
  cases hk
  exact h.at hi
theorem sx_P.set {D : va_G} {dA : Nat → ClassId} {h0 : Nat} {sa : Nat → Nat} {md : Bool} {w : List sx_C} {H H1 : Heap} (h : sx_P D dA h0 sa md w H) {i : Nat} {c0 c : sx_C} (hi : w[i]? = some c0) (he : va_at D sx_cl (h0 + i, sx_E dA h0 sa c) H1) (z : H1.size = H.size) (oq : ∀ q : Nat, q ≠ h0 + i → H1[q]? = H[q]?) : sx_P D dA h0 sa md (w.set i c) H1 := by
  refine ⟨?_, fun hm => by rw [z, h.2 hm, List.length_set]⟩
  rw [← sx_W_set]
  exact h.1.set (sx_D dA h0 sa w) (e0 := sx_E dA h0 sa c0) (by rw [sx_W_get, hi]; rfl) he oq
theorem sx_P.push {D : va_G} {dA : Nat → ClassId} {h0 : Nat} {sa : Nat → Nat} {w : List sx_C} {H H1 : Heap} (h : sx_P D dA h0 sa true w H) {c : sx_C} (he : va_at D sx_cl (h0 + w.length, sx_E dA h0 sa c) H1) (z : H1.size = H.size + 1) (oq : ∀ q : Nat, q < H.size → H1[q]? = H[q]?) : sx_P D dA h0 sa true (w ++ [c]) H1 := by
  refine ⟨?_, fun hm => by rw [z, h.2 hm, List.length_append]; rfl⟩
  rw [sx_W_app]
  refine (h.1.kept (fun k q hk => oq q.1 ((h.1 k q hk).lt))).app (fun k q hk => ?_)
  have h0k : k < 1 := (List.getElem?_eq_some_iff.mp hk).1
  rw [show k = 0 by omega] at hk
  cases hk
  exact he
def sx_s (c : sx_C) : Nat := match c with
  | .inl q => q.2.length
  | .inr (.inl q) => q.2.length
  | .inr (.inr (.inl q)) => q.2.length
  | .inr (.inr (.inr q)) => q.2.length
def sx_sz : List sx_C → Nat
  | [] => 0
  | c :: r => sx_s c + sx_sz r
theorem sx_sz_app : ∀ (w w2 : List sx_C), sx_sz (w ++ w2) = sx_sz w + sx_sz w2
  | [], w2 => by simp [sx_sz]
  | c :: r, w2 => by
    show sx_s c + sx_sz (r ++ w2) = sx_s c + sx_sz r + sx_sz w2
    rw [sx_sz_app r w2]
    omega
theorem sx_sz_set : ∀ (w : List sx_C) (i : Nat) (c0 c : sx_C), w[i]? = some c0 → sx_s c = sx_s c0 → sx_sz (w.set i c) = sx_sz w
  | [], i, c0, c, h, _ => by simp at h
  | b :: r, 0, c0, c, h, hs => by
    have hb : b = c0 := by simpa using h
    show sx_s c + sx_sz r = sx_s b + sx_sz r
    rw [hs, hb]
  | b :: r, i + 1, c0, c, h, hs => by
    show sx_s b + sx_sz (r.set i c) = sx_s b + sx_sz r
    rw [sx_sz_set r i c0 c (by simpa using h) hs]
def sx_ck (md : Bool) (n0 : Nat) (w : List sx_C) : Nat := cond md (w.length - n0) n0
def sx_cs (md : Bool) (z0 : Nat) (w : List sx_C) : Nat := cond md (sx_sz w - z0) z0
def sx_cn0 (md : Bool) (w : List sx_C) : Nat := cond md w.length 0
def sx_cz0 (md : Bool) (w : List sx_C) : Nat := cond md (sx_sz w) 0
theorem sx_lk_mem {α : Type} : ∀ (l : List (Nat × α)) (i : Nat) (v : α), sx_lk l i = some v → (i, v) ∈ l
  | [], i, v, h => by cases h
  | q :: r, i, v, h => by
    unfold sx_lk at h
    cases hb : Nat.beq q.1 i with
    | true =>
      rw [hb] at h
      have e1 : q.1 = i := Nat.eq_of_beq_eq_true hb
      have e2 : q.2 = v := Option.some.inj h
      rw [← e1, ← e2]
      exact List.mem_cons_self
    | false =>
      rw [hb] at h
      exact List.mem_cons_of_mem _ (sx_lk_mem r i v h)
theorem sx_has {lsA : Array Slot} {nL : Nat} {ls : sx_L} {h0 : Nat} {sa : Nat → Nat} (hl : lv_has lsA nL (ls.map (sx_q h0 sa))) {i : Nat} {v : Value} (h : sx_lk ls i = some v) : lsA[i]? = some (.val (sx_v h0 sa v)) :=
  hl.2.2 _ (List.mem_map.mpr ⟨(i, v), sx_lk_mem ls i v h, rfl⟩)
theorem sx_s1_map (h0 : Nat) (sa : Nat → Nat) (ls : sx_L) (i : Nat) (v : Value) : (i, sx_v h0 sa v) :: (ls.map (sx_q h0 sa)).filter (fun q => !(q.1 == i) && !(q.1 + 1 == i && q.2.category == 2)) = (sx_s1 ls i v).map (sx_q h0 sa) := by
  unfold sx_s1
  rw [List.map_cons, List.filter_map]
  congr 2
  apply List.filter_congr
  intro q _
  simp [sx_q, sx_vc]
theorem sx_s2_map (h0 : Nat) (sa : Nat → Nat) (ls : sx_L) (i : Nat) (v : Value) : (i, sx_v h0 sa v) :: (ls.map (sx_q h0 sa)).filter (fun q => !(q.1 == i) && (!(q.1 == i + 1) && !(q.1 + 1 == i && q.2.category == 2))) = (sx_s2 ls i v).map (sx_q h0 sa) := by
  unfold sx_s2
  rw [List.map_cons, List.filter_map]
  congr 2
  apply List.filter_congr
  intro q _
  simp [sx_q, sx_vc]
theorem sx_args_map (h0 : Nat) (sa : Nat → Nat) : ∀ (vs : List Value) (i : Nat), lv_args i (vs.map (sx_v h0 sa)) = (lv_args i vs).map (sx_q h0 sa)
  | [], i => rfl
  | v :: vs, i => by
    show (i, sx_v h0 sa v) :: lv_args (if (sx_v h0 sa v).category = 2 then i + 2 else i + 1) (vs.map (sx_v h0 sa)) = (i, sx_v h0 sa v) :: (lv_args (if v.category = 2 then i + 2 else i + 1) vs).map (sx_q h0 sa)
    rw [sx_vc, sx_args_map h0 sa vs]
theorem sx_cat_map (h0 : Nat) (sa : Nat → Nat) (st : List Value) : ((st.map (sx_v h0 sa)).map (fun v => v.category)).sum = (st.map (fun v => v.category)).sum := by
  rw [List.map_map]
  congr 1
  apply List.map_congr_left
  intro v _
  exact sx_vc h0 sa v
end
-- 08.cls.lean.txt
section
def sx_cf (ci : Nat) (q : vw_C) : Prop := (∀ w ∈ u_ws q.1 q.2.1 q.2.2, w ∈ sx_tw) ∧ (∀ a, a < q.2.2 → ∀ b, b < q.2.2 → a ≠ b → (q.2.1 a).2.1 ≠ (q.2.1 b).2.1) ∧ (∀ k, k < q.2.2 → parseFieldDescriptor (q.2.1 k).2.2.1 = some (sx_ty ci k)) ∧ Cond.instantiable q.1 q.2.2 ∈ sx_tw ∧ Cond.initialized q.1 ∈ sx_tw ∧ (∀ j, j < q.2.2 → defaultValue (sx_ty ci j) = vp_V (sx_df ci) j) ∧ (sx_df ci).length = q.2.2 ∧ (∀ h0 sa, (sx_df ci).map (sx_v h0 sa) = sx_df ci) ∧ q.1 = sx_cn.getD ci ""
theorem sx_c0 : sx_cf 0 ("PeasDrum", sx_T0, 12) := ⟨sx_ws0, sx_n0, sx_z0, sx_twm (sx_memp (i := 92) (by decide +kernel)) rfl, sx_twm (sx_memp (i := 75) (by decide +kernel)) rfl, by decide +kernel, by decide +kernel, fun _ _ => rfl, by decide +kernel⟩
theorem sx_c1 : sx_cf 1 ("PeasDrum$Camp", sx_T1, 11) := ⟨sx_ws1, sx_n1, sx_z1, sx_twm (sx_memp (i := 100) (by decide +kernel)) rfl, sx_twm (sx_memp (i := 76) (by decide +kernel)) rfl, by decide +kernel, by decide +kernel, fun _ _ => rfl, by decide +kernel⟩
theorem sx_c2 : sx_cf 2 ("PeasDrum$Gallery", sx_T2, 6) := ⟨sx_ws2, sx_n2, sx_z2, sx_twm (sx_memp (i := 107) (by decide +kernel)) rfl, sx_twm (sx_memp (i := 77) (by decide +kernel)) rfl, by decide +kernel, by decide +kernel, fun _ _ => rfl, by decide +kernel⟩
theorem sx_c3 : sx_cf 3 ("PeasDrum$Sound", sx_T3, 3) := ⟨sx_ws3, sx_n3, sx_z3, sx_twm (sx_memp (i := 195) (by decide +kernel)) rfl, sx_twm (sx_memp (i := 78) (by decide +kernel)) rfl, by decide +kernel, by decide +kernel, fun _ _ => rfl, by decide +kernel⟩
theorem sx_c4 : sx_cf 4 ("PeasDrum$Text", sx_T4, 6) := ⟨sx_ws4, sx_n4, sx_z4, sx_twm (sx_memp (i := 214) (by decide +kernel)) rfl, sx_twm (sx_memp (i := 79) (by decide +kernel)) rfl, by decide +kernel, by decide +kernel, fun _ _ => rfl, by decide +kernel⟩
theorem sx_c5 : sx_cf 5 ("PeasDrum$Sheet", sx_T5, 3) := ⟨sx_ws5, sx_n5, sx_z5, sx_twm (sx_memp (i := 242) (by decide +kernel)) rfl, sx_twm (sx_memp (i := 80) (by decide +kernel)) rfl, by decide +kernel, by decide +kernel, fun _ _ => rfl, by decide +kernel⟩
theorem sx_c6 : sx_cf 6 ("PeasDrumModel", sx_T6, 19) := ⟨sx_ws6, sx_n6, sx_z6, sx_twm (sx_memp (i := 883) (by decide +kernel)) rfl, sx_twm (sx_memp (i := 81) (by decide +kernel)) rfl, by decide +kernel, by decide +kernel, fun _ _ => rfl, by decide +kernel⟩
theorem sx_cok {ci : Nat} {q : vw_C} (h : sx_cl[ci]? = some q) : sx_cf ci q := by
  match ci, h with
  | 0, h => cases h; exact sx_c0
  | 1, h => cases h; exact sx_c1
  | 2, h => cases h; exact sx_c2
  | 3, h => cases h; exact sx_c3
  | 4, h => cases h; exact sx_c4
  | 5, h => cases h; exact sx_c5
  | 6, h => cases h; exact sx_c6
  | k + 7, h => simp [sx_cl] at h
theorem sx_decl {ci : Nat} {C : String} {T : u_T} {N : Nat} (h : sx_cl[ci]? = some (C, T, N)) {k : Nat} (hk : k < N) : (T k).1 = C := by
  match ci, h with
  | 0, h => cases h; exact (by decide +kernel : ∀ k, k < 12 → (sx_T0 k).1 = "PeasDrum") k hk
  | 1, h => cases h; exact (by decide +kernel : ∀ k, k < 11 → (sx_T1 k).1 = "PeasDrum$Camp") k hk
  | 2, h => cases h; exact (by decide +kernel : ∀ k, k < 6 → (sx_T2 k).1 = "PeasDrum$Gallery") k hk
  | 3, h => cases h; exact (by decide +kernel : ∀ k, k < 3 → (sx_T3 k).1 = "PeasDrum$Sound") k hk
  | 4, h => cases h; exact (by decide +kernel : ∀ k, k < 6 → (sx_T4 k).1 = "PeasDrum$Text") k hk
  | 5, h => cases h; exact (by decide +kernel : ∀ k, k < 3 → (sx_T5 k).1 = "PeasDrum$Sheet") k hk
  | 6, h => cases h; exact (by decide +kernel : ∀ k, k < 19 → (sx_T6 k).1 = "PeasDrumModel") k hk
  | k + 7, h => simp [sx_cl] at h
end
-- 09.rows.lean.txt
section
def sx_TX (h0 : Nat) (sa : Nat → Nat) (U : State) (H : Heap) : Prop :=
  (∀ o, ∀ q ∈ sx_kS o, vk_R (sx_cn.getD o "") q.1 (sx_tx.getD q.2.1 "") (sa (100 + q.2.1)) U) ∧ (∀ k, k < 20 → va_O "java/lang/String" (sa (100 + k)) (sx_A h0) U H ∧ va_OF "java/lang/String" "coder" "B" (.int 0) (sa (100 + k)) (sx_A h0) U H ∧ va_OF "java/lang/String" "value" "[B" (.ref (sa (200 + k))) (sa (100 + k)) (sx_A h0) U H ∧ va_T .byte (sa (200 + k)) (sx_sn.getD k 0) (fun j => .int ((sx_sb.getD k []).getD j 0)) (sx_A h0) U H) ∧ va_Z "java/lang/String" "COMPACT_STRINGS" "Z" (.int 1) (sx_A h0) U H ∧ va_Zq "jdk/internal/util/Preconditions" "SIOOBE_FORMATTER" "Ljava/util/function/BiFunction;" (sx_A h0) U H
theorem sx_TX.warm {h0 : Nat} {sa : Nat → Nat} {s U : State} {H H1 : Heap} (hW : s.WarmedH U.vm) (hq : ∀ a : Nat, a < H.size → ¬ sx_A h0 a → H1[a]? = H[a]?) (h : sx_TX h0 sa s H) : sx_TX h0 sa U H1 :=
  ⟨fun o q hm => vk_R.warm hW (h.1 o q hm), fun k hk => ⟨(va_O.moved hW.alike (h.2.1 k hk).1).kept hq, (va_OF.moved hW.alike (h.2.1 k hk).2.1).kept hq, (va_OF.moved hW.alike (h.2.1 k hk).2.2.1).kept hq, (va_T.moved hW.alike (h.2.1 k hk).2.2.2).kept hq⟩, (va_Z.moved hW.alike h.2.2.1).kept hq, (va_Zq.moved hW.alike h.2.2.2).kept hq⟩
theorem sx_TX.same {h0 : Nat} {sa : Nat → Nat} {s U : State} {H : Heap} (hv : s.vm = U.vm) (h : sx_TX h0 sa s H) : sx_TX h0 sa U H := by
  have hA : s.vm.Alike U.vm := by rw [hv]; exact Vm.Alike.refl U.vm
  exact ⟨fun o q hm => vk_R.same hv.symm (h.1 o q hm), fun k hk => ⟨va_O.moved hA (h.2.1 k hk).1, va_OF.moved hA (h.2.1 k hk).2.1, va_OF.moved hA (h.2.1 k hk).2.2.1, va_T.moved hA (h.2.1 k hk).2.2.2⟩, va_Z.moved hA h.2.2.1, va_Zq.moved hA h.2.2.2⟩
def sx_G (D : va_G) (dA : Nat → ClassId) (h0 : Nat) (sa : Nat → Nat) (xs : Option (List Int32)) (U : State) (H : Heap) : Prop :=
  va_K D sx_cl (sx_tys dA) U ∧ (∀ k, k < 4 → va_Z (sx_SC k).1 (sx_SC k).2 "[I" (.ref (sa k)) (sx_A h0) U H) ∧ (∀ k, k < 5 → va_T .int (sa k) (sx_st xs k).length (fun j => .int ((sx_st xs k).getD j 0)) (sx_A h0) U H) ∧ va_AO "PeasDrum$Gallery" U ∧ va_AO "PeasDrum$Sheet" U ∧ (Cond.arrayOver (.array .int)).before #[] U = true ∧ (∀ o, ∀ q ∈ sx_mn o, va_Nw (.methodLinkNest (sx_cn.getD o "") q.1 (sx_M q.2.1).1 "PeasDrum") U) ∧ sx_TX h0 sa U H
def sx_Ctx (p : Program) (s : State) (m : MethodId) (args : Array Value) (meth : Method) (c : Code) (R : Room) (D : va_G) (dA : Nat → ClassId) (h0 : Nat) (sa : Nat → Nat) (xs : Option (List Int32)) (mi d : Nat) : Prop :=
  p.tables.exec = Jvm.exec ∧ c.code = (sx_M mi).2.1 ∧ c.maxLocals = sx_maxL mi ∧ s.vm.findClass (sx_cn.getD (sx_own mi) "") = some m.cls ∧ (∀ w ∈ sx_tw, w.before args s = true) ∧ (mi < 246 → meth.name = (sx_M mi).1.name) ∧ sx_fr mi + 2 ≤ R.frames ∧ sx_lo mi + 30 ≤ R.locals ∧ sx_G D dA h0 sa xs s s.heap ∧ h0 ≤ s.heap.size ∧ mi < 247
def sx_J (p : Program) (l : Launch) (e : Env) (R : Room) (s : State) (m : MethodId) (args : Array Value) (below : List Frame) (meth : Method) (c : Code) (D : va_G) (dA : Nat → ClassId) (h0 : Nat) (sa : Nat → Nat) (md : Bool) (n0 z0 nL : Nat) (Q : State → Prop) (F : sx_F) : Prop :=
  ∀ (H : Heap) (locs : List Loc) (lsA : Array Slot), sx_P D dA h0 sa md F.2.2.2 H → va_S (sx_A h0) s.heap H locs → lv_has lsA nL (F.2.1.map (sx_q h0 sa)) → n0 ≤ F.2.2.2.length → z0 ≤ sx_sz F.2.2.2 → W p l e R s m args below meth c H locs (sx_ck md n0 F.2.2.2) (sx_cs md z0 F.2.2.2) Q (F0 m F.1 lsA (F.2.2.1.map (sx_v h0 sa)))
section SXJ
variable {p : Program} {l : Launch} {e : Env} {R : Room} {s : State} {m : MethodId} {args : Array Value} {below : List Frame} {meth : Method} {c : Code} {Q : State → Prop}
variable {D : va_G} {dA : Nat → ClassId} {h0 : Nat} {sa : Nat → Nat} {md : Bool} {n0 z0 nL : Nat} {cc : ByteArray} {pc : Nat} {ls : sx_L} {st : List Value} {w : List sx_C} {F : sx_F}
theorem sx_o_go {pc' : Nat} {st' : List Value} (row : ∀ (H : Heap) (locs : List Loc) (lsA : Array Slot) (cells slots : Nat), W p l e R s m args below meth c H locs cells slots Q (F0 m pc' lsA (st'.map (sx_v h0 sa))) → W p l e R s m args below meth c H locs cells slots Q (F0 m pc lsA (st.map (sx_v h0 sa)))) (K : sx_J p l e R s m args below meth c D dA h0 sa md n0 z0 nL Q (pc', ls, st', w)) : sx_J p l e R s m args below meth c D dA h0 sa md n0 z0 nL Q (pc, ls, st, w) :=
  fun H locs lsA hP hS hl h1 h2 => row H locs lsA _ _ (K H locs lsA hP hS hl h1 h2)
theorem sx_o_ii {f : Int32 → Int32 → Int32} (row : ∀ (x y : Int32) (rest : List Value) (H : Heap) (locs : List Loc) (lsA : Array Slot) (cells slots : Nat), W p l e R s m args below meth c H locs cells slots Q (F0 m (pc + 1) lsA (.int (f x y) :: rest)) → W p l e R s m args below meth c H locs cells slots Q (F0 m pc lsA (.int y :: .int x :: rest))) (h : sx_ii f ls pc st w = some F) (K : sx_J p l e R s m args below meth c D dA h0 sa md n0 z0 nL Q F) : sx_J p l e R s m args below meth c D dA h0 sa md n0 z0 nL Q (pc, ls, st, w) := by
  unfold sx_ii at h
  split at h
  · cases h
    exact sx_o_go (fun H locs lsA cells slots k => row _ _ _ H locs lsA cells slots k) K
  · cases h
theorem sx_o_iz {f : Int32 → Int32 → Int32} (row : ∀ (x y : Int32) (rest : List Value) (H : Heap) (locs : List Loc) (lsA : Array Slot) (cells slots : Nat), ¬ y = 0 → W p l e R s m args below meth c H locs cells slots Q (F0 m (pc + 1) lsA (.int (f x y) :: rest)) → W p l e R s m args below meth c H locs cells slots Q (F0 m pc lsA (.int y :: .int x :: rest))) (h : sx_iz f ls pc st w = some F) (K : sx_J p l e R s m args below meth c D dA h0 sa md n0 z0 nL Q F) : sx_J p l e R s m args below meth c D dA h0 sa md n0 z0 nL Q (pc, ls, st, w) := by
  unfold sx_iz at h
  split at h
  · split at h
    · cases h
    · rename_i hz
      cases h
      exact sx_o_go (fun H locs lsA cells slots k => row _ _ _ H locs lsA cells slots hz k) K
  · cases h
theorem sx_o_i1 {f : Int32 → Int32} (row : ∀ (x : Int32) (rest : List Value) (H : Heap) (locs : List Loc) (lsA : Array Slot) (cells slots : Nat), W p l e R s m args below meth c H locs cells slots Q (F0 m (pc + 1) lsA (.int (f x) :: rest)) → W p l e R s m args below meth c H locs cells slots Q (F0 m pc lsA (.int x :: rest))) (h : sx_i1 f ls pc st w = some F) (K : sx_J p l e R s m args below meth c D dA h0 sa md n0 z0 nL Q F) : sx_J p l e R s m args below meth c D dA h0 sa md n0 z0 nL Q (pc, ls, st, w) := by
  unfold sx_i1 at h
  split at h
  · cases h
    exact sx_o_go (fun H locs lsA cells slots k => row _ _ H locs lsA cells slots k) K
  · cases h
theorem sx_o_jj {f : Int64 → Int64 → Int64} (row : ∀ (x y : Int64) (rest : List Value) (H : Heap) (locs : List Loc) (lsA : Array Slot) (cells slots : Nat), W p l e R s m args below meth c H locs cells slots Q (F0 m (pc + 1) lsA (.long (f x y) :: rest)) → W p l e R s m args below meth c H locs cells slots Q (F0 m pc lsA (.long y :: .long x :: rest))) (h : sx_jj f ls pc st w = some F) (K : sx_J p l e R s m args below meth c D dA h0 sa md n0 z0 nL Q F) : sx_J p l e R s m args below meth c D dA h0 sa md n0 z0 nL Q (pc, ls, st, w) := by
  unfold sx_jj at h
  split at h
  · cases h
    exact sx_o_go (fun H locs lsA cells slots k => row _ _ _ H locs lsA cells slots k) K
  · cases h
theorem sx_o_ji {f : Int64 → Int32 → Int64} (row : ∀ (x : Int64) (y : Int32) (rest : List Value) (H : Heap) (locs : List Loc) (lsA : Array Slot) (cells slots : Nat), W p l e R s m args below meth c H locs cells slots Q (F0 m (pc + 1) lsA (.long (f x y) :: rest)) → W p l e R s m args below meth c H locs cells slots Q (F0 m pc lsA (.int y :: .long x :: rest))) (h : sx_ji f ls pc st w = some F) (K : sx_J p l e R s m args below meth c D dA h0 sa md n0 z0 nL Q F) : sx_J p l e R s m args below meth c D dA h0 sa md n0 z0 nL Q (pc, ls, st, w) := by
  unfold sx_ji at h
  split at h
  · cases h
    exact sx_o_go (fun H locs lsA cells slots k => row _ _ _ H locs lsA cells slots k) K
  · cases h
theorem sx_to_eq {off : Int} {t : Nat} (h : sx_to pc off = some t) : (pc : Int) + off = (t : Int) := by
  unfold sx_to at h
  split at h
  · rename_i u hu
    cases h
    exact hu
  · cases h
theorem sx_o_b1 {f : Int32 → Prop} (fd : ∀ x, Decidable (f x)) {off : Int} (row : ∀ (x : Int32) (t : Nat) (rest : List Value) (H : Heap) (locs : List Loc) (lsA : Array Slot) (cells slots : Nat), (pc : Int) + off = (t : Int) → (f x → W p l e R s m args below meth c H locs cells slots Q (F0 m t lsA rest)) → (¬ f x → W p l e R s m args below meth c H locs cells slots Q (F0 m (pc + 3) lsA rest)) → W p l e R s m args below meth c H locs cells slots Q (F0 m pc lsA (.int x :: rest))) (h : sx_b1 (fun x => decide (f x)) off ls pc st w = some F) (K : sx_J p l e R s m args below meth c D dA h0 sa md n0 z0 nL Q F) : sx_J p l e R s m args below meth c D dA h0 sa md n0 z0 nL Q (pc, ls, st, w) := by
  unfold sx_b1 at h
  split at h
  · rename_i x r
    split at h
    · rename_i t ht
      intro H locs lsA hP hS hl h1 h2
      refine row x t _ H locs lsA _ _ (sx_to_eq ht) (fun hc => ?_) (fun hc => ?_)
      · simp only [hc, decide_true, cond_true] at h
        cases h
        exact K H locs lsA hP hS hl h1 h2
      · simp only [hc, decide_false, cond_false] at h
        cases h
        exact K H locs lsA hP hS hl h1 h2
    · cases h
  · cases h
theorem sx_o_b2 {f : Int32 → Int32 → Prop} (fd : ∀ x y, Decidable (f x y)) {off : Int} (row : ∀ (x y : Int32) (t : Nat) (rest : List Value) (H : Heap) (locs : List Loc) (lsA : Array Slot) (cells slots : Nat), (pc : Int) + off = (t : Int) → (f x y → W p l e R s m args below meth c H locs cells slots Q (F0 m t lsA rest)) → (¬ f x y → W p l e R s m args below meth c H locs cells slots Q (F0 m (pc + 3) lsA rest)) → W p l e R s m args below meth c H locs cells slots Q (F0 m pc lsA (.int y :: .int x :: rest))) (h : sx_b2 (fun x y => decide (f x y)) off ls pc st w = some F) (K : sx_J p l e R s m args below meth c D dA h0 sa md n0 z0 nL Q F) : sx_J p l e R s m args below meth c D dA h0 sa md n0 z0 nL Q (pc, ls, st, w) := by
  unfold sx_b2 at h
  split at h
  · rename_i y x r
    split at h
    · rename_i t ht
      intro H locs lsA hP hS hl h1 h2
      refine row x y t _ H locs lsA _ _ (sx_to_eq ht) (fun hc => ?_) (fun hc => ?_)
      · simp only [hc, decide_true, cond_true] at h
        cases h
        exact K H locs lsA hP hS hl h1 h2
      · simp only [hc, decide_false, cond_false] at h
        cases h
        exact K H locs lsA hP hS hl h1 h2
    · cases h
  · cases h
theorem sx_o_sw (hx : p.tables.exec = Jvm.exec) (hb : c.code = cc) {d lo hi : Int} {offs : Array Int} {len : Nat} (hd : decode cc pc = .ok (.tableswitch d lo hi offs, len)) (h : sx_sw d lo hi offs ls pc st w = some F) (K : sx_J p l e R s m args below meth c D dA h0 sa md n0 z0 nL Q F) : sx_J p l e R s m args below meth c D dA h0 sa md n0 z0 nL Q (pc, ls, st, w) := by
  unfold sx_sw at h
  split at h
  · rename_i x r
    split at h
    · rename_i ho
      split at h
      · rename_i t ht
        cases h
        exact sx_o_go (fun H locs lsA cells slots k => lv_tableOut hx hb hd ho (sx_to_eq ht) k) K
      · cases h
    · rename_i ho
      split at h
      · rename_i off hoff
        split at h
        · rename_i t ht
          cases h
          refine sx_o_go (fun H locs lsA cells slots k => lv_tableIn hx hb hd (fun q => ho (Or.inl q)) (fun q => ho (Or.inr q)) (by rw [← Array.getElem?_toList]; exact hoff) (sx_to_eq ht) k) K
        · cases h
      · cases h
  · cases h
theorem sx_o_ldi {i pc' : Nat} (row : ∀ (x : Int32) (rest : List Value) (H : Heap) (locs : List Loc) (lsA : Array Slot) (cells slots : Nat), lsA[i]? = some (.val (.int x)) → W p l e R s m args below meth c H locs cells slots Q (F0 m pc' lsA (.int x :: rest)) → W p l e R s m args below meth c H locs cells slots Q (F0 m pc lsA rest)) (h : sx_ldi ls i pc' st w = some F) (K : sx_J p l e R s m args below meth c D dA h0 sa md n0 z0 nL Q F) : sx_J p l e R s m args below meth c D dA h0 sa md n0 z0 nL Q (pc, ls, st, w) := by
  unfold sx_ldi at h
  split at h
  · rename_i v hv
    cases h
    exact fun H locs lsA hP hS hl h1 h2 => row v _ H locs lsA _ _ (sx_has hl hv) (K H locs lsA hP hS hl h1 h2)
  · cases h
theorem sx_o_ldl {i pc' : Nat} (row : ∀ (x : Int64) (rest : List Value) (H : Heap) (locs : List Loc) (lsA : Array Slot) (cells slots : Nat), lsA[i]? = some (.val (.long x)) → W p l e R s m args below meth c H locs cells slots Q (F0 m pc' lsA (.long x :: rest)) → W p l e R s m args below meth c H locs cells slots Q (F0 m pc lsA rest)) (h : sx_ldl ls i pc' st w = some F) (K : sx_J p l e R s m args below meth c D dA h0 sa md n0 z0 nL Q F) : sx_J p l e R s m args below meth c D dA h0 sa md n0 z0 nL Q (pc, ls, st, w) := by
  unfold sx_ldl at h
  split at h
  · rename_i v hv
    cases h
    exact fun H locs lsA hP hS hl h1 h2 => row v _ H locs lsA _ _ (sx_has hl hv) (K H locs lsA hP hS hl h1 h2)
  · cases h
theorem sx_o_lda {i pc' : Nat} (row : ∀ (x : Nat) (rest : List Value) (H : Heap) (locs : List Loc) (lsA : Array Slot) (cells slots : Nat), lsA[i]? = some (.val (.ref x)) → W p l e R s m args below meth c H locs cells slots Q (F0 m pc' lsA (.ref x :: rest)) → W p l e R s m args below meth c H locs cells slots Q (F0 m pc lsA rest)) (h : sx_lda ls i pc' st w = some F) (K : sx_J p l e R s m args below meth c D dA h0 sa md n0 z0 nL Q F) : sx_J p l e R s m args below meth c D dA h0 sa md n0 z0 nL Q (pc, ls, st, w) := by
  unfold sx_lda at h
  split at h
  · rename_i v hv
    cases h
    exact fun H locs lsA hP hS hl h1 h2 => row _ _ H locs lsA _ _ (sx_has hl hv) (K H locs lsA hP hS hl h1 h2)
  · rename_i v hv
    cases h
    exact fun H locs lsA hP hS hl h1 h2 => row _ _ H locs lsA _ _ (sx_has hl hv) (K H locs lsA hP hS hl h1 h2)
  · cases h
theorem sx_o_sti {i pc' : Nat} (row : ∀ (x : Int32) (rest : List Value) (H : Heap) (locs : List Loc) (lsA : Array Slot) (cells slots : Nat) (lv lv' : List (Nat × Value)), lv_has lsA nL lv → i < nL → (i, Value.int x) :: lv.filter (fun q => !(q.1 == i) && !(q.1 + 1 == i && q.2.category == 2)) = lv' → (∀ ls' : Array Slot, lv_has ls' nL lv' → W p l e R s m args below meth c H locs cells slots Q (F0 m pc' ls' rest)) → W p l e R s m args below meth c H locs cells slots Q (F0 m pc lsA (.int x :: rest))) (h : sx_sti nL ls i pc' st w = some F) (K : sx_J p l e R s m args below meth c D dA h0 sa md n0 z0 nL Q F) : sx_J p l e R s m args below meth c D dA h0 sa md n0 z0 nL Q (pc, ls, st, w) := by
  unfold sx_sti at h
  split at h
  · rename_i v r
    cases hb : Nat.blt i nL with
    | false => rw [hb] at h; cases h
    | true =>
      rw [hb] at h
      cases h
      exact fun H locs lsA hP hS hl h1 h2 => row v _ H locs lsA _ _ _ _ hl (Nat.le_of_ble_eq_true hb) (sx_s1_map h0 sa ls i (.int v)) (fun ls' h' => K H locs ls' hP hS h' h1 h2)
  · cases h
theorem sx_o_stl {i pc' : Nat} (row : ∀ (x : Int64) (rest : List Value) (H : Heap) (locs : List Loc) (lsA : Array Slot) (cells slots : Nat) (lv lv' : List (Nat × Value)), lv_has lsA nL lv → i + 1 < nL → (i, Value.long x) :: lv.filter (fun q => !(q.1 == i) && (!(q.1 == i + 1) && !(q.1 + 1 == i && q.2.category == 2))) = lv' → (∀ ls' : Array Slot, lv_has ls' nL lv' → W p l e R s m args below meth c H locs cells slots Q (F0 m pc' ls' rest)) → W p l e R s m args below meth c H locs cells slots Q (F0 m pc lsA (.long x :: rest))) (h : sx_stl nL ls i pc' st w = some F) (K : sx_J p l e R s m args below meth c D dA h0 sa md n0 z0 nL Q F) : sx_J p l e R s m args below meth c D dA h0 sa md n0 z0 nL Q (pc, ls, st, w) := by
  unfold sx_stl at h
  split at h
  · rename_i v r
    cases hb : Nat.blt (i + 1) nL with
    | false => rw [hb] at h; cases h
    | true =>
      rw [hb] at h
      cases h
      exact fun H locs lsA hP hS hl h1 h2 => row v _ H locs lsA _ _ _ _ hl (Nat.le_of_ble_eq_true hb) (sx_s2_map h0 sa ls i (.long v)) (fun ls' h' => K H locs ls' hP hS h' h1 h2)
  · cases h
theorem sx_o_sta {i pc' : Nat} (row : ∀ (x : Nat) (rest : List Value) (H : Heap) (locs : List Loc) (lsA : Array Slot) (cells slots : Nat) (lv lv' : List (Nat × Value)), lv_has lsA nL lv → i < nL → (i, Value.ref x) :: lv.filter (fun q => !(q.1 == i) && !(q.1 + 1 == i && q.2.category == 2)) = lv' → (∀ ls' : Array Slot, lv_has ls' nL lv' → W p l e R s m args below meth c H locs cells slots Q (F0 m pc' ls' rest)) → W p l e R s m args below meth c H locs cells slots Q (F0 m pc lsA (.ref x :: rest))) (h : sx_sta nL ls i pc' st w = some F) (K : sx_J p l e R s m args below meth c D dA h0 sa md n0 z0 nL Q F) : sx_J p l e R s m args below meth c D dA h0 sa md n0 z0 nL Q (pc, ls, st, w) := by
  unfold sx_sta at h
  split at h
  · rename_i v r
    cases hb : Nat.blt i nL with
    | false => rw [hb] at h; cases h
    | true =>
      rw [hb] at h
      cases h
      exact fun H locs lsA hP hS hl h1 h2 => row _ _ H locs lsA _ _ _ _ hl (Nat.le_of_ble_eq_true hb) (sx_s1_map h0 sa ls i (.ref v)) (fun ls' h' => K H locs ls' hP hS h' h1 h2)
  · rename_i v r
    cases hb : Nat.blt i nL with
    | false => rw [hb] at h; cases h
    | true =>
      rw [hb] at h
      cases h
      exact fun H locs lsA hP hS hl h1 h2 => row _ _ H locs lsA _ _ _ _ hl (Nat.le_of_ble_eq_true hb) (sx_s1_map h0 sa ls i (.float v)) (fun ls' h' => K H locs ls' hP hS h' h1 h2)
  · cases h
theorem sx_o_inc (hx : p.tables.exec = Jvm.exec) (hb : c.code = cc) {i : Nat} {k : Int} (hd : decode cc pc = .ok (.iinc i k, 3)) (h : sx_inc nL i k ls pc st w = some F) (K : sx_J p l e R s m args below meth c D dA h0 sa md n0 z0 nL Q F) : sx_J p l e R s m args below meth c D dA h0 sa md n0 z0 nL Q (pc, ls, st, w) := by
  unfold sx_inc at h
  split at h
  · rename_i v hv
    cases hbt : Nat.blt i nL with
    | false => rw [hbt] at h; cases h
    | true =>
      rw [hbt] at h
      cases h
      intro H locs lsA hP hS hl h1 h2
      obtain ⟨k9, hk9⟩ := List.getElem?_of_mem (List.mem_map.mpr ⟨(i, .int v), sx_lk_mem ls i _ hv, rfl⟩ : (i, Value.int v) ∈ ls.map (sx_q h0 sa))
      exact lv_iinc hx hb hd hl hk9 rfl (Nat.le_of_ble_eq_true hbt) (sx_s1_map h0 sa ls i (.int (v + Int32.ofInt k))) (fun ls' h' => K H locs ls' hP hS h' h1 h2)
  · cases h
theorem sx_o_dup (hx : p.tables.exec = Jvm.exec) (hb : c.code = cc) (hd : decode cc pc = .ok (.dup, 1)) (h : sx_dup ls pc st w = some F) (K : sx_J p l e R s m args below meth c D dA h0 sa md n0 z0 nL Q F) : sx_J p l e R s m args below meth c D dA h0 sa md n0 z0 nL Q (pc, ls, st, w) := by
  unfold sx_dup at h
  split at h
  · rename_i v r
    cases hbt : Nat.beq v.category 1 with
    | false => rw [hbt] at h; cases h
    | true =>
      rw [hbt] at h
      cases h
      exact sx_o_go (fun H locs lsA cells slots k => lv_dup hx hb hd (by rw [sx_vc]; exact Nat.eq_of_beq_eq_true hbt) k) K
  · cases h
theorem sx_o_pop (hx : p.tables.exec = Jvm.exec) (hb : c.code = cc) (hd : decode cc pc = .ok (.pop, 1)) (h : sx_pop ls pc st w = some F) (K : sx_J p l e R s m args below meth c D dA h0 sa md n0 z0 nL Q F) : sx_J p l e R s m args below meth c D dA h0 sa md n0 z0 nL Q (pc, ls, st, w) := by
  unfold sx_pop at h
  split at h
  · rename_i v r
    cases hbt : Nat.beq v.category 1 with
    | false => rw [hbt] at h; cases h
    | true =>
      rw [hbt] at h
      cases h
      exact sx_o_go (fun H locs lsA cells slots k => lv_pop hx hb hd (by rw [sx_vc]; exact Nat.eq_of_beq_eq_true hbt) k) K
  · cases h
theorem sx_o_pop2 (hx : p.tables.exec = Jvm.exec) (hb : c.code = cc) (hd : decode cc pc = .ok (.pop2, 1)) (h : sx_pop2 ls pc st w = some F) (K : sx_J p l e R s m args below meth c D dA h0 sa md n0 z0 nL Q F) : sx_J p l e R s m args below meth c D dA h0 sa md n0 z0 nL Q (pc, ls, st, w) := by
  unfold sx_pop2 at h
  split at h
  · rename_i v r
    cases hbt : Nat.beq v.category 2 with
    | false => rw [hbt] at h; cases h
    | true =>
      rw [hbt] at h
      cases h
      exact sx_o_go (fun H locs lsA cells slots k => lv_pop2_2 hx hb hd (by rw [sx_vc]; exact Nat.eq_of_beq_eq_true hbt) k) K
  · cases h
theorem sx_o_dup2 (hx : p.tables.exec = Jvm.exec) (hb : c.code = cc) (hd : decode cc pc = .ok (.dup2, 1)) (h : sx_dup2 ls pc st w = some F) (K : sx_J p l e R s m args below meth c D dA h0 sa md n0 z0 nL Q F) : sx_J p l e R s m args below meth c D dA h0 sa md n0 z0 nL Q (pc, ls, st, w) := by
  unfold sx_dup2 at h
  split at h
  · rename_i v u r
    cases hbt : (Nat.beq v.category 1 && Nat.beq u.category 1) with
    | false => rw [hbt] at h; cases h
    | true =>
      rw [hbt] at h
      cases h
      have hq := Bool.and_eq_true_iff.mp hbt
      exact sx_o_go (fun H locs lsA cells slots k => lv_dup2_11 hx hb hd (by rw [sx_vc]; exact Nat.eq_of_beq_eq_true hq.1) (by rw [sx_vc]; exact Nat.eq_of_beq_eq_true hq.2) k) K
  · cases h
end SXJ
end
-- 10.heap.lean.txt
section
theorem sx_in_of {i : Int32} {n : Nat} (h : sx_in i n = true) : vp_in i n := by
  unfold sx_in at h
  simp only [Bool.and_eq_true, Bool.not_eq_true', decide_eq_true_eq, decide_eq_false_iff_not] at h
  intro q
  rcases q with q | q
  · exact h.1 q
  · omega
theorem sx_in_lt {i : Int32} {n : Nat} (h : sx_in i n = true) : i.toNatClampNeg < n := Nat.not_le.mp fun q => sx_in_of h (Or.inr q)
theorem sx_gd {α : Type} {l : List α} {n : Nat} (h : n < l.length) (x d : α) (j : Nat) : (l.set n x).getD j d = if j = n then x else l.getD j d := by
  rw [List.getD_eq_getElem?_getD, List.getD_eq_getElem?_getD, List.getElem?_set]
  by_cases e : n = j
  · subst e
    simp [h]
  · simp [e, Ne.symm e]
theorem sx_okv_n {ty : FieldType} {v : Value} (h : sx_okv ty v = true) (h0 : Nat) (sa : Nat → Nat) : narrow ty (sx_v h0 sa v) = sx_v h0 sa v ∧ fits ty (sx_v h0 sa v) = true := by
  cases ty <;> cases v <;> first
    | (simp [sx_okv] at h; done)
    | exact ⟨rfl, rfl⟩
    | (simp only [sx_okv, Bool.or_eq_true, beq_iff_eq] at h
       rcases h with rfl | rfl
       · exact ⟨rfl, rfl⟩
       · exact ⟨rfl, rfl⟩)
section SXH
variable {p : Program} {l : Launch} {e : Env} {R : Room} {s : State} {m : MethodId} {args : Array Value} {below : List Frame} {meth : Method} {c : Code} {Q : State → Prop}
variable {D : va_G} {dA : Nat → ClassId} {h0 : Nat} {sa : Nat → Nat} {md : Bool} {n0 z0 nL : Nat} {pc : Nat} {ls : sx_L} {st : List Value} {w : List sx_C} {F : sx_F} {xs : Option (List Int32)} {mi d : Nat}
theorem sx_J.put {pc' a : Nat} {r : List Value} {c0 cw : sx_C} (K : sx_J p l e R s m args below meth c D dA h0 sa md n0 z0 nL Q (pc', ls, r, w.set a cw)) (hw : w[a]? = some c0) (hs : sx_s cw = sx_s c0) {H H1 : Heap} {locs : List Loc} {lsA : Array Slot} (hP : sx_P D dA h0 sa md w H) (hS : va_S (sx_A h0) s.heap H locs) (hl : lv_has lsA nL (ls.map (sx_q h0 sa))) (h1 : n0 ≤ w.length) (h2 : z0 ≤ sx_sz w) (he : va_at D sx_cl (h0 + a, sx_E dA h0 sa cw) H1) (z : H1.size = H.size) (oq : ∀ q : Nat, q ≠ h0 + a → H1[q]? = H[q]?) (k : Nat) : W p l e R s m args below meth c H1 (locs ++ [⟨h0 + a, k⟩]) (sx_ck md n0 w) (sx_cs md z0 w) Q (F0 m pc' lsA (r.map (sx_v h0 sa))) := by
  have e1 : (w.set a cw).length = w.length := List.length_set
  have e2 : sx_sz (w.set a cw) = sx_sz w := sx_sz_set w a c0 cw hw hs
  have K1 := K H1 (locs ++ [⟨h0 + a, k⟩]) lsA (hP.set hw he z oq) (hS.put z oq (Nat.le_add_right h0 a)) hl (by show n0 ≤ (w.set a cw).length; rw [e1]; exact h1) (by show z0 ≤ sx_sz (w.set a cw); rw [e2]; exact h2)
  have e3 : sx_ck md n0 (w.set a cw) = sx_ck md n0 w := by unfold sx_ck; rw [e1]
  have e4 : sx_cs md z0 (w.set a cw) = sx_cs md z0 w := by unfold sx_cs; rw [e2]
  have K2 : W p l e R s m args below meth c H1 (locs ++ [⟨h0 + a, k⟩]) (sx_ck md n0 (w.set a cw)) (sx_cs md z0 (w.set a cw)) Q (F0 m pc' lsA (r.map (sx_v h0 sa))) := K1
  rw [e3, e4] at K2
  exact K2
theorem sx_J.add {pc' : Nat} {st' : List Value} {cw : sx_C} (K : sx_J p l e R s m args below meth c D dA h0 sa true n0 z0 nL Q (pc', ls, st', w ++ [cw])) {H H1 : Heap} {locs : List Loc} {lsA : Array Slot} (hP : sx_P D dA h0 sa true w H) (hS : va_S (sx_A h0) s.heap H locs) (hl : lv_has lsA nL (ls.map (sx_q h0 sa))) (h1 : n0 ≤ w.length) (h2 : z0 ≤ sx_sz w) (he : va_at D sx_cl (h0 + w.length, sx_E dA h0 sa cw) H1) (z : H1.size = H.size + 1) (oq : ∀ q : Nat, q < H.size → H1[q]? = H[q]?) : W p l e R s m args below meth c H1 locs (sx_ck true n0 w + 1) (sx_cs true z0 w + sx_s cw) Q (F0 m pc' lsA (st'.map (sx_v h0 sa))) := by
  have e1 : (w ++ [cw]).length = w.length + 1 := by simp
  have e2 : sx_sz (w ++ [cw]) = sx_sz w + sx_s cw := by rw [sx_sz_app]; simp [sx_sz]
  have K1 := K H1 locs lsA (hP.push he z oq) ⟨Nat.le_trans hS.1 (by omega), fun q g1 g2 => (oq q (Nat.lt_of_lt_of_le g1 hS.1)).trans (hS.2.1 q g1 g2), hS.2.2⟩ hl (by show n0 ≤ (w ++ [cw]).length; omega) (by show z0 ≤ sx_sz (w ++ [cw]); omega)
  have e3 : sx_ck true n0 (w ++ [cw]) = sx_ck true n0 w + 1 := by unfold sx_ck; simp only [cond_true]; omega
  have e4 : sx_cs true z0 (w ++ [cw]) = sx_cs true z0 w + sx_s cw := by unfold sx_cs; simp only [cond_true]; omega
  have K2 : W p l e R s m args below meth c H1 locs (sx_ck true n0 (w ++ [cw])) (sx_cs true z0 (w ++ [cw])) Q (F0 m pc' lsA (st'.map (sx_v h0 sa))) := K1
  rw [e3, e4] at K2
  exact K2
theorem sx_fl_use {idx : Nat} {q : Nat × Nat × Nat} (hmi : mi < 247) (h : sx_lk (sx_fl (sx_own mi)) idx = some q) : ∃ cq : vw_C, sx_cl[q.1]? = some cq ∧ q.2.1 < cq.2.2 ∧ Cond.fieldLink (sx_cn.getD (sx_own mi) "") idx (cq.2.1 q.2.1).1 (cq.2.1 q.2.1).2.1 (cq.2.1 q.2.1).2.2.1 ∈ sx_tw := by
  have h1 := List.all_eq_true.mp (sx_all sx_fok (sx_own_lt mi hmi)) _ (sx_lk_mem _ _ _ h)
  unfold sx_fchk at h1
  split at h1
  · rename_i cq hcq
    rw [Bool.and_eq_true] at h1
    exact ⟨cq, hcq, Nat.le_of_ble_eq_true h1.1, sx_twm (sx_memp h1.2) rfl⟩
  · cases h1
theorem sx_o_gf {idx : Nat} (X : sx_Ctx p s m args meth c R D dA h0 sa xs mi d) (hd : decode (sx_M mi).2.1 pc = .ok (.getfield idx, 3)) (h : sx_gf (sx_own mi) idx ls pc st w = some F) (K : sx_J p l e R s m args below meth c D dA h0 sa md n0 z0 nL Q F) : sx_J p l e R s m args below meth c D dA h0 sa md n0 z0 nL Q (pc, ls, st, w) := by
  obtain ⟨hx, hb, hml, hown, hts, hnm, hfr, hlo, hG, hh, hmi⟩ := X
  unfold sx_gf at h
  split at h
  · rename_i a r
    split at h
    · rename_i q ci fs hq hw
      cases hbt : Nat.beq ci q.1 with
      | false => rw [hbt] at h; cases h
      | true =>
        rw [hbt] at h
        have hci : ci = q.1 := Nat.eq_of_beq_eq_true hbt
        subst hci
        simp only [cond_true] at h
        split at h
        · rename_i v hv
          cases h
          obtain ⟨⟨C, T, N⟩, hcq, hk, hlk⟩ := sx_fl_use hmi hq
          intro H locs lsA hP hS hl h1 h2
          exact va_get (D := D) (C := C) (T := T) (N := N) hx hb hts (sx_cok hcq).1 hown hG.1 (hP.one hw) 0 rfl hcq q.2.1 hk (hts _ hlk) (fun _ h9 => h9) (v := sx_v h0 sa v) (by rw [List.getElem?_map, hv]; rfl) hd (K H locs lsA hP hS hl h1 h2)
        · cases h
    · cases h
  · cases h
theorem sx_o_pf {idx : Nat} (X : sx_Ctx p s m args meth c R D dA h0 sa xs mi d) (hd : decode (sx_M mi).2.1 pc = .ok (.putfield idx, 3)) (h : sx_pf mi idx ls pc st w = some F) (K : sx_J p l e R s m args below meth c D dA h0 sa md n0 z0 nL Q F) : sx_J p l e R s m args below meth c D dA h0 sa md n0 z0 nL Q (pc, ls, st, w) := by
  obtain ⟨hx, hb, hml, hown, hts, hnm, hfr, hlo, hG, hh, hmi⟩ := X
  unfold sx_pf at h
  split at h
  · rename_i v a r
    split at h
    · rename_i q ci fs hq hw
      cases hbt : (Nat.beq ci q.1 && Nat.blt q.2.1 fs.length && sx_okv (sx_ty ci q.2.1) v && sx_fin mi ci q.2.1) with
      | false => rw [hbt] at h; cases h
      | true =>
        rw [hbt] at h
        cases h
        simp only [Bool.and_eq_true] at hbt
        obtain ⟨⟨⟨g1, g2⟩, g3⟩, g4⟩ := hbt
        have hci : ci = q.1 := Nat.eq_of_beq_eq_true g1
        subst hci
        have hkl : q.2.1 < fs.length := Nat.le_of_ble_eq_true g2
        obtain ⟨⟨C, T, N⟩, hcq, hk, hlk⟩ := sx_fl_use hmi hq
        obtain ⟨f1, f2, f3, f4, f5, f6, f7, f8, f9⟩ := sx_cok hcq
        obtain ⟨hn, hfit⟩ := sx_okv_n g3 h0 sa
        have hd3 : parseFieldDescriptor (T q.2.1).2.2.1 = some (sx_ty q.1 q.2.1) := f3 q.2.1 hk
        intro H locs lsA hP hS hl h1 h2
        have hap := va_apart (own := C) hts f1 (sx_ty q.1) f3 f2 hG.1 hcq
        obtain ⟨r', hr', cell, q1, q2, q3, q4⟩ := hP.at hw
        have er : r' = (C, T, N) := Option.some.inj (hr'.symm.trans hcq)
        subst er
        obtain ⟨hSl, hfc, kC, hkC, hkind⟩ := hG.1.1 q.1 _ hcq
        obtain ⟨cf, kf, fi, f, hi, hsl⟩ := hSl q.2.1 hk
        have hst := (u_facts hfc hkC (u_lays hts f1 hk) hi).1
        have hlay := hts _ (f1 _ (u_in_lay hk))
        unfold u_lay at hlay
        have done : ∀ H' : Heap, H'[h0 + a]? = some (cell.setSlot f.slot (sx_v h0 sa v)) → H'.size = H.size → (∀ q9, q9 ≠ h0 + a → H'[q9]? = H[q9]?) → W p l e R s m args below meth c H' (locs ++ [⟨h0 + a, f.slot⟩]) (sx_ck md n0 w) (sx_cs md z0 w) Q (F0 m (pc + 3) lsA (r.map (sx_v h0 sa))) := by
          intro H' e1 e2 e3
          rw [hsl] at e1
          refine K.put hw (by simp [sx_s]) hP hS hl h1 h2 ⟨_, hcq, t_OB.to (V := updV (vp_V (fs.map (sx_v h0 sa))) q.2.1 (sx_v h0 sa v)) ⟨_, e1, q2, q3, t_set q4 hap hk (sx_v h0 sa v)⟩ (fun j _ => ?_)⟩ e2 e3 f.slot
          rw [vp_updV_set (by simpa using hkl), List.map_set]
        cases hfin : (T q.2.1).2.2.2 with
        | false =>
          rw [if_neg (by rw [hfin]; decide)] at hlay
          have h6 := u_store hfc hkC hkind hlay hi hd3 hn hfit
          exact W.putK hx hb (f := f) ⟨hown, hts _ hlk, ⟨_, _, _, hi⟩, hst⟩ (by rw [q2]; exact h6) q1 q3 (by rw [hsl]; exact k2_hasslot (q4 q.2.1 hk)) rfl rfl hd done
        | true =>
          rw [if_pos hfin] at hlay
          unfold sx_fin at g4
          rw [hcq] at g4
          simp only [hfin, cond_true, Bool.and_eq_true, decide_eq_true_eq] at g4
          have ho : sx_own mi = q.1 := Nat.eq_of_beq_eq_true g4.1
          have hm9 : mi < 246 := by
            rcases Nat.lt_or_ge mi 246 with h9 | h9
            · exact h9
            · have e9 : mi = 246 := by omega
              rw [e9] at g4
              exact absurd g4.2 (by decide +kernel)
          have hcf : m.cls = cf := by
            obtain ⟨_, _, c', _, _, _, -, -, hf', -, -, -, hown2, -⟩ := Cond.laysFinal_spec hlay
            have e1 : c' = cf := by have := hi.symm.trans hf'; simp at this; exact this.1.symm
            have e2 : (T q.2.1).1 = sx_cn.getD (sx_own mi) "" := by
              have e5 : C = sx_cn.getD q.1 "" := f9
              rw [ho, ← e5]
              exact sx_decl hcq hk
            rw [e2] at hown2
            rw [← e1]; exact Option.some.inj (hown.symm.trans hown2)
          have h6 := u_fits hfc hkC hkind (Or.inr hlay) hi hd3 hn hfit
          exact W.putFinK hx hb hown (hts _ hlk) hi hst hcf (by rw [hnm hm9]; exact g4.2) (by rw [q2]; exact h6) q1 q3 (by rw [hsl]; exact k2_hasslot (q4 q.2.1 hk)) rfl rfl hd done
    · cases h
  · cases h
theorem sx_o_iald (X : sx_Ctx p s m args meth c R D dA h0 sa xs mi d) (hd : decode (sx_M mi).2.1 pc = .ok (.iaload, 1)) (h : sx_iald xs ls pc st w = some F) (K : sx_J p l e R s m args below meth c D dA h0 sa md n0 z0 nL Q F) : sx_J p l e R s m args below meth c D dA h0 sa md n0 z0 nL Q (pc, ls, st, w) := by
  obtain ⟨hx, hb, hml, hown, hts, hnm, hfr, hlo, hG, hh, hmi⟩ := X
  unfold sx_iald at h
  split at h
  · rename_i i a r
    split at h
    · rename_i li hw
      unfold sx_al at h
      cases hbt : sx_in i li.length with
      | false => rw [hbt] at h; cases h
      | true =>
        rw [hbt] at h
        cases h
        exact fun H locs lsA hP hS hl h1 h2 => va_iald hx hb hG.1 (hP.one hw) 0 0 rfl rfl (sx_in_of hbt) hd (K H locs lsA hP hS hl h1 h2)
    · cases h
  · rename_i i k r
    cases hk5 : Nat.blt k.toNat 5 with
    | false => rw [hk5] at h; cases h
    | true =>
      rw [hk5] at h
      simp only [cond_true] at h
      unfold sx_al at h
      cases hbt : sx_in i (sx_st xs k.toNat).length with
      | false => rw [hbt] at h; cases h
      | true =>
        rw [hbt] at h
        cases h
        exact fun H locs lsA hP hS hl h1 h2 => va_ti hx hb (hG.2.2.1 k.toNat (Nat.le_of_ble_eq_true hk5)) hS (sx_in_of hbt) rfl hd (K H locs lsA hP hS hl h1 h2)
  · cases h
theorem sx_o_bald (X : sx_Ctx p s m args meth c R D dA h0 sa xs mi d) (hd : decode (sx_M mi).2.1 pc = .ok (.baload, 1)) (h : sx_bald ls pc st w = some F) (K : sx_J p l e R s m args below meth c D dA h0 sa md n0 z0 nL Q F) : sx_J p l e R s m args below meth c D dA h0 sa md n0 z0 nL Q (pc, ls, st, w) := by
  obtain ⟨hx, hb, hml, hown, hts, hnm, hfr, hlo, hG, hh, hmi⟩ := X
  unfold sx_bald at h
  split at h
  · rename_i i a r
    split at h
    · rename_i li hw
      unfold sx_al at h
      cases hbt : sx_in i li.length with
      | false => rw [hbt] at h; cases h
      | true =>
        rw [hbt] at h
        cases h
        exact fun H locs lsA hP hS hl h1 h2 => va_zald hx hb hG.1 (hP.one hw) 0 1 rfl rfl (sx_in_of hbt) hd (K H locs lsA hP hS hl h1 h2)
    · rename_i li hw
      unfold sx_al at h
      cases hbt : sx_in i li.length with
      | false => rw [hbt] at h; cases h
      | true =>
        rw [hbt] at h
        cases h
        exact fun H locs lsA hP hS hl h1 h2 => va_bald hx hb hG.1 (hP.one hw) 0 2 rfl rfl (sx_in_of hbt) hd (K H locs lsA hP hS hl h1 h2)
    · cases h
  · cases h
theorem sx_o_lald (X : sx_Ctx p s m args meth c R D dA h0 sa xs mi d) (hd : decode (sx_M mi).2.1 pc = .ok (.laload, 1)) (h : sx_lald ls pc st w = some F) (K : sx_J p l e R s m args below meth c D dA h0 sa md n0 z0 nL Q F) : sx_J p l e R s m args below meth c D dA h0 sa md n0 z0 nL Q (pc, ls, st, w) := by
  obtain ⟨hx, hb, hml, hown, hts, hnm, hfr, hlo, hG, hh, hmi⟩ := X
  unfold sx_lald at h
  split at h
  · rename_i i a r
    split at h
    · rename_i li hw
      cases hbt : sx_in i li.length with
      | false => rw [hbt] at h; cases h
      | true =>
        rw [hbt] at h
        cases h
        exact fun H locs lsA hP hS hl h1 h2 => va_lald hx hb hG.1 (hP.one hw) 0 3 rfl rfl (sx_in_of hbt) hd (K H locs lsA hP hS hl h1 h2)
    · cases h
  · cases h
theorem sx_tyref {t : Nat} (h4 : 4 ≤ t) (h6 : t ≤ 6) : ∃ ty : FieldType, (sx_tys dA)[t]? = some (dA t, ty) ∧ ty.isReference = true := by
  rcases (show t = 4 ∨ t = 5 ∨ t = 6 by omega) with rfl | rfl | rfl
  · exact ⟨_, rfl, rfl⟩
  · exact ⟨_, rfl, rfl⟩
  · exact ⟨_, rfl, rfl⟩
theorem sx_o_aald (X : sx_Ctx p s m args meth c R D dA h0 sa xs mi d) (hd : decode (sx_M mi).2.1 pc = .ok (.aaload, 1)) (h : sx_aald ls pc st w = some F) (K : sx_J p l e R s m args below meth c D dA h0 sa md n0 z0 nL Q F) : sx_J p l e R s m args below meth c D dA h0 sa md n0 z0 nL Q (pc, ls, st, w) := by
  obtain ⟨hx, hb, hml, hown, hts, hnm, hfr, hlo, hG, hh, hmi⟩ := X
  unfold sx_aald at h
  split at h
  · rename_i i a r
    split at h
    · rename_i t li hw
      cases hbt : (sx_in i li.length && Nat.ble 4 t && Nat.ble t 6) with
      | false => rw [hbt] at h; cases h
      | true =>
        rw [hbt] at h
        cases h
        simp only [Bool.and_eq_true] at hbt
        obtain ⟨⟨g1, g2⟩, g3⟩ := hbt
        obtain ⟨ty, hty, href⟩ := sx_tyref (dA := dA) (Nat.le_of_ble_eq_true g2) (Nat.le_of_ble_eq_true g3)
        intro H locs lsA hP hS hl h1 h2
        have hat : H[h0 + a]? = some (vp_cell (dA t) (li.length, .inr (.inr (.inr (.inr (fun j => (li.getD j none).map (fun i => h0 + i))))))) := hP.at hw
        refine W.aald (v := sx_v h0 sa (sx_rf (li.getD i.toNatClampNeg none))) (ty := ty) hx hb hat ((hG.1.2 t _ hty).1 li.length (fun j => va_rf ((li.getD j none).map (fun i => h0 + i)))) href (fun q => by cases q) (by show ¬ (i < 0 ∨ (arrV _ _ _).slots.size ≤ _); rw [arrV_size]; exact sx_in_of g1) ?_ rfl rfl hd (K H locs lsA hP hS hl h1 h2)
        show (arrV _ _ _).slots[_]? = _
        rw [arrV_read _ _ (sx_in_lt g1), sx_vrf]
    · cases h
  · cases h
theorem sx_o_iast (X : sx_Ctx p s m args meth c R D dA h0 sa xs mi d) (hd : decode (sx_M mi).2.1 pc = .ok (.iastore, 1)) (h : sx_iast ls pc st w = some F) (K : sx_J p l e R s m args below meth c D dA h0 sa md n0 z0 nL Q F) : sx_J p l e R s m args below meth c D dA h0 sa md n0 z0 nL Q (pc, ls, st, w) := by
  obtain ⟨hx, hb, hml, hown, hts, hnm, hfr, hlo, hG, hh, hmi⟩ := X
  unfold sx_iast at h
  split at h
  · rename_i x i a r
    split at h
    · rename_i li hw
      cases hbt : sx_in i li.length with
      | false => rw [hbt] at h; cases h
      | true =>
        rw [hbt] at h
        cases h
        intro H locs lsA hP hS hl h1 h2
        have hat : H[h0 + a]? = some (vp_cell (dA 0) (li.length, .inl (fun j => li.getD j 0))) := hP.at hw
        refine W.iast hx hb hat ((hG.1.2 0 _ rfl).1 li.length (fun j => .int (li.getD j 0))) (fun q => by cases q) (by show ¬ (i < 0 ∨ (arrV _ _ _).slots.size ≤ _); rw [arrV_size]; exact sx_in_of hbt) rfl rfl hd fun H1 e1 z oq => ?_
        refine K.put hw (by simp [sx_s]) hP hS hl h1 h2 ?_ z oq _
        show H1[h0 + a]? = some (vp_cell (dA 0) ((li.set i.toNatClampNeg x).length, .inl (fun j => (li.set i.toNatClampNeg x).getD j 0)))
        rw [e1, vp_cell_i, vp_cell_i, arrV_store, List.length_set]
        refine congrArg (fun z9 => some (arrV (dA 0) li.length z9)) (funext fun j => ?_)
        rw [sx_gd (sx_in_lt hbt)]
        by_cases hj : j = i.toNatClampNeg
        · simp [updV, hj]
        · simp [updV, hj]
    · cases h
  · cases h
theorem sx_o_bast (X : sx_Ctx p s m args meth c R D dA h0 sa xs mi d) (hd : decode (sx_M mi).2.1 pc = .ok (.bastore, 1)) (h : sx_bast ls pc st w = some F) (K : sx_J p l e R s m args below meth c D dA h0 sa md n0 z0 nL Q F) : sx_J p l e R s m args below meth c D dA h0 sa md n0 z0 nL Q (pc, ls, st, w) := by
  obtain ⟨hx, hb, hml, hown, hts, hnm, hfr, hlo, hG, hh, hmi⟩ := X
  unfold sx_bast at h
  split at h
  · rename_i x i a r
    split at h
    · rename_i li hw
      cases hbt : sx_in i li.length with
      | false => rw [hbt] at h; cases h
      | true =>
        rw [hbt] at h
        cases h
        intro H locs lsA hP hS hl h1 h2
        have hat : H[h0 + a]? = some (vp_cell (dA 1) (li.length, .inl (fun j => li.getD j 0))) := hP.at hw
        refine W.zast hx hb hat ((hG.1.2 1 _ rfl).1 li.length (fun j => .int (li.getD j 0))) (fun q => by cases q) (by show ¬ (i < 0 ∨ (arrV _ _ _).slots.size ≤ _); rw [arrV_size]; exact sx_in_of hbt) rfl rfl hd fun H1 e1 z oq => ?_
        refine K.put hw (by simp [sx_s]) hP hS hl h1 h2 ?_ z oq _
        show H1[h0 + a]? = some (vp_cell (dA 1) ((li.set i.toNatClampNeg (vp_nar .boolean x)).length, .inl (fun j => (li.set i.toNatClampNeg (vp_nar .boolean x)).getD j 0)))
        rw [e1, vp_cell_i, vp_cell_i, arrV_store, List.length_set]
        refine congrArg (fun z9 => some (arrV (dA 1) li.length z9)) (funext fun j => ?_)
        rw [sx_gd (sx_in_lt hbt)]
        by_cases hj : j = i.toNatClampNeg
        · rw [if_pos hj]
          show (if j = i.toNatClampNeg then _ else _) = _
          rw [if_pos hj]
          rfl
        · simp [updV, hj]
    · rename_i li hw
      cases hbt : sx_in i li.length with
      | false => rw [hbt] at h; cases h
      | true =>
        rw [hbt] at h
        cases h
        intro H locs lsA hP hS hl h1 h2
        have hat : H[h0 + a]? = some (vp_cell (dA 2) (li.length, .inl (fun j => li.getD j 0))) := hP.at hw
        refine W.bast hx hb hat ((hG.1.2 2 _ rfl).1 li.length (fun j => .int (li.getD j 0))) (fun q => by cases q) (by show ¬ (i < 0 ∨ (arrV _ _ _).slots.size ≤ _); rw [arrV_size]; exact sx_in_of hbt) rfl rfl hd fun H1 e1 z oq => ?_
        refine K.put hw (by simp [sx_s]) hP hS hl h1 h2 ?_ z oq _
        show H1[h0 + a]? = some (vp_cell (dA 2) ((li.set i.toNatClampNeg (vp_nar .byte x)).length, .inl (fun j => (li.set i.toNatClampNeg (vp_nar .byte x)).getD j 0)))
        rw [e1, vp_cell_i, vp_cell_i, arrV_store, List.length_set]
        refine congrArg (fun z9 => some (arrV (dA 2) li.length z9)) (funext fun j => ?_)
        rw [sx_gd (sx_in_lt hbt)]
        by_cases hj : j = i.toNatClampNeg
        · rw [if_pos hj]
          show (if j = i.toNatClampNeg then _ else _) = _
          rw [if_pos hj]
          rfl
        · simp [updV, hj]
    · cases h
  · cases h
theorem sx_o_last (X : sx_Ctx p s m args meth c R D dA h0 sa xs mi d) (hd : decode (sx_M mi).2.1 pc = .ok (.lastore, 1)) (h : sx_last ls pc st w = some F) (K : sx_J p l e R s m args below meth c D dA h0 sa md n0 z0 nL Q F) : sx_J p l e R s m args below meth c D dA h0 sa md n0 z0 nL Q (pc, ls, st, w) := by
  obtain ⟨hx, hb, hml, hown, hts, hnm, hfr, hlo, hG, hh, hmi⟩ := X
  unfold sx_last at h
  split at h
  · rename_i x i a r
    split at h
    · rename_i li hw
      cases hbt : sx_in i li.length with
      | false => rw [hbt] at h; cases h
      | true =>
        rw [hbt] at h
        cases h
        intro H locs lsA hP hS hl h1 h2
        have hat : H[h0 + a]? = some (vp_cell (dA 3) (li.length, .inr (.inl (fun j => li.getD j 0)))) := hP.at hw
        refine W.last hx hb hat ((hG.1.2 3 _ rfl).1 li.length (fun j => .long (li.getD j 0))) (fun q => by cases q) (by show ¬ (i < 0 ∨ (arrV _ _ _).slots.size ≤ _); rw [arrV_size]; exact sx_in_of hbt) rfl rfl hd fun H1 e1 z oq => ?_
        refine K.put hw (by simp [sx_s]) hP hS hl h1 h2 ?_ z oq _
        show H1[h0 + a]? = some (vp_cell (dA 3) ((li.set i.toNatClampNeg x).length, .inr (.inl (fun j => (li.set i.toNatClampNeg x).getD j 0))))
        rw [e1, vp_cell_l, vp_cell_l, arrV_store, List.length_set]
        refine congrArg (fun z9 => some (arrV (dA 3) li.length z9)) (funext fun j => ?_)
        rw [sx_gd (sx_in_lt hbt)]
        by_cases hj : j = i.toNatClampNeg
        · simp [updV, hj]
        · simp [updV, hj]
    · cases h
  · cases h
theorem sx_oc_use {t ci : Nat} (h : ci = sx_oc t) {q : vw_C} (hq : sx_cl[ci]? = some q) : (sx_tys dA)[t]? = some (dA t, .object q.1) := by
  unfold sx_oc at h
  split at h
  · subst h; cases hq; rfl
  · subst h; cases hq; rfl
  · subst h; simp [sx_cl] at hq
theorem sx_o_aast (X : sx_Ctx p s m args meth c R D dA h0 sa xs mi d) (hd : decode (sx_M mi).2.1 pc = .ok (.aastore, 1)) (h : sx_aast ls pc st w = some F) (K : sx_J p l e R s m args below meth c D dA h0 sa md n0 z0 nL Q F) : sx_J p l e R s m args below meth c D dA h0 sa md n0 z0 nL Q (pc, ls, st, w) := by
  obtain ⟨hx, hb, hml, hown, hts, hnm, hfr, hlo, hG, hh, hmi⟩ := X
  unfold sx_aast at h
  split at h
  · rename_i v i a r
    split at h
    · rename_i t li ci fs hw hv
      cases hbt : (sx_in i li.length && Nat.beq ci (sx_oc t)) with
      | false => rw [hbt] at h; cases h
      | true =>
        rw [hbt] at h
        cases h
        simp only [Bool.and_eq_true] at hbt
        obtain ⟨g1, g2⟩ := hbt
        intro H locs lsA hP hS hl h1 h2
        have hat : H[h0 + a]? = some (vp_cell (dA t) (li.length, .inr (.inr (.inr (.inr (fun j => (li.getD j none).map (fun i => h0 + i))))))) := hP.at hw
        obtain ⟨r', hr', cellV, k1, k2, k3, -⟩ := hP.at hv
        have hty := sx_oc_use (dA := dA) (Nat.eq_of_beq_eq_true g2) hr'
        have hcls := (hG.1.1 ci r' hr').2
        obtain ⟨kA, comp, y1, y2, y3, -⟩ := (hG.1.2 t _ hty).2
        have hcomp : comp = D.1 ci := Option.some.inj (y3.symm.trans hcls.1)
        subst hcomp
        obtain ⟨kC, hkC, -⟩ := hcls.2
        refine W.aast hx hb hat (fun q h => by cases h) (fun h => by cases h) y1 y2 rfl hkC ⟨fun q => sx_in_of g1 (Or.inl q), by show _ < (arrV _ _ _).slots.size; rw [arrV_size]; exact sx_in_lt g1⟩ k1 (fun q h => by rw [k3] at h; cases h) (by rw [k2]; exact hkC) (by rw [k2]; exact va_assign hcls) rfl rfl hd fun H1 e1 z oq => ?_
        refine K.put hw (by simp [sx_s]) hP hS hl h1 h2 ?_ z oq _
        show H1[h0 + a]? = some (vp_cell (dA t) ((li.set i.toNatClampNeg (some v)).length, .inr (.inr (.inr (.inr (fun j => ((li.set i.toNatClampNeg (some v)).getD j none).map (fun i => h0 + i)))))))
        rw [e1, vp_cell_q, vp_cell_q, arrV_store, List.length_set]
        refine congrArg (fun z9 => some (arrV (dA t) li.length z9)) (funext fun j => ?_)
        rw [sx_gd (sx_in_lt g1)]
        by_cases hj : j = i.toNatClampNeg
        · simp [updV, hj, va_rf]
        · simp [updV, hj]
    · cases h
  · cases h
end SXH
end
-- 11.make.lean.txt
section
theorem sx_ck_add {n0 : Nat} {w : List sx_C} (h1 : n0 ≤ w.length) (cw : sx_C) : sx_ck true n0 (w ++ [cw]) = sx_ck true n0 w + 1 := by
  unfold sx_ck
  simp only [cond_true, List.length_append, List.length_singleton]
  omega
theorem sx_cs_add {z0 : Nat} {w : List sx_C} (h2 : z0 ≤ sx_sz w) (cw : sx_C) : sx_cs true z0 (w ++ [cw]) = sx_cs true z0 w + sx_s cw := by
  unfold sx_cs
  rw [sx_sz_app]
  simp only [cond_true, sx_sz]
  omega
theorem sx_ln_of {n : Int32} (h : sx_ln n = true) : ¬ n < 0 ∧ n.toNatClampNeg ≤ 4096 := by
  unfold sx_ln at h
  simp only [Bool.and_eq_true, Bool.not_eq_true', decide_eq_false_iff_not] at h
  exact ⟨h.1, Nat.le_of_ble_eq_true h.2⟩
theorem sx_rp {α : Type} (n j : Nat) (x : α) : (List.replicate n x).getD j x = x := by
  rw [List.getD_eq_getElem?_getD, List.getElem?_replicate]
  split <;> rfl
theorem sx_w_objI : Cond.code objectInit ⟨#[0xb1]⟩ 1 none ∈ sx_tw := sx_twm (sx_memp (i := 98) (by decide +kernel)) rfl
theorem sx_w_objM : Cond.instanceMethod objectInit ∈ sx_tw := sx_twm (sx_memp (i := 97) (by decide +kernel)) rfl
theorem sx_w_acI : Cond.arrayClass .int ∈ sx_tw := sx_twm (sx_memp (i := 143) (by decide +kernel)) rfl
theorem sx_w_acZ : Cond.arrayClass .boolean ∈ sx_tw := sx_twm (sx_memp (i := 212) (by decide +kernel)) rfl
theorem sx_w_acB : Cond.arrayClass .byte ∈ sx_tw := sx_twm (sx_memp (i := 239) (by decide +kernel)) rfl
theorem sx_w_acJ : Cond.arrayClass .long ∈ sx_tw := sx_twm (sx_memp (i := 260) (by decide +kernel)) rfl
theorem sx_w_cpS : Cond.static arraycopyName ∈ sx_tw := sx_twm (sx_memp (i := 486) (by decide +kernel)) rfl
theorem sx_w_cpN : Cond.native arraycopyName ∈ sx_tw := sx_twm (sx_memp (i := 487) (by decide +kernel)) rfl
theorem sx_w_sys : Cond.initialized "java/lang/System" ∈ sx_tw := sx_twm (sx_memp (i := 85) (by decide +kernel)) rfl
theorem sx_cpy_len {α : Type} {f g : List α} {sp dp n : Nat} (h1 : sp + n ≤ f.length) (h2 : dp + n ≤ g.length) : (sx_cpy f g sp dp n).length = g.length := by
  unfold sx_cpy
  simp only [List.length_append, List.length_take, List.length_drop]
  omega
theorem sx_cpy_get {α : Type} {f g : List α} {sp dp n : Nat} (d : α) (h1 : sp + n ≤ f.length) (h2 : dp + n ≤ g.length) (j : Nat) : (sx_cpy f g sp dp n).getD j d = if dp ≤ j ∧ j < dp + n then f.getD (sp + (j - dp)) d else g.getD j d := by
  unfold sx_cpy
  rw [List.getD_eq_getElem?_getD, List.getD_eq_getElem?_getD, List.getD_eq_getElem?_getD, List.append_assoc]
  by_cases a1 : j < dp
  · rw [List.getElem?_append_left (by rw [List.length_take]; omega), List.getElem?_take, if_pos a1, if_neg (by omega)]
  · rw [List.getElem?_append_right (by rw [List.length_take]; omega)]
    have e1 : (List.take dp g).length = dp := by rw [List.length_take]; omega
    rw [e1]
    by_cases a2 : j < dp + n
    · rw [List.getElem?_append_left (by rw [List.length_take, List.length_drop]; omega), List.getElem?_take, if_pos (by omega), List.getElem?_drop, if_pos (by omega)]
    · have e2 : (List.take n (List.drop sp f)).length = n := by rw [List.length_take, List.length_drop]; omega
      rw [List.getElem?_append_right (by omega), e2, List.getElem?_drop, if_neg (by omega), show dp + n + (j - dp - n) = j by omega]
section SXN
variable {p : Program} {l : Launch} {e : Env} {R : Room} {s : State} {m : MethodId} {args : Array Value} {below : List Frame} {meth : Method} {c : Code} {Q : State → Prop}
variable {D : va_G} {dA : Nat → ClassId} {h0 : Nat} {sa : Nat → Nat} {md : Bool} {n0 z0 nL : Nat} {pc : Nat} {ls : sx_L} {st : List Value} {w : List sx_C} {F : sx_F} {xs : Option (List Int32)} {mi d : Nat}
theorem sx_kl_use {idx : Nat} {q : Nat × Nat} (hmi : mi < 247) (h : sx_lk (sx_kl (sx_own mi)) idx = some q) : ∃ cq : vw_C, sx_cl[q.1]? = some cq ∧ Cond.classLink (sx_cn.getD (sx_own mi) "") idx cq.1 ∈ sx_tw := by
  have h1 := List.all_eq_true.mp (sx_all sx_kok (sx_own_lt mi hmi)) _ (sx_lk_mem _ _ _ h)
  unfold sx_kchk at h1
  split at h1
  · rename_i cq hcq
    exact ⟨cq, hcq, sx_twm (sx_memp h1) rfl⟩
  · cases h1
theorem sx_o_new {idx : Nat} (X : sx_Ctx p s m args meth c R D dA h0 sa xs mi d) (hd : decode (sx_M mi).2.1 pc = .ok (.new idx, 3)) (h : sx_new (sx_own mi) idx ls pc st w = some F) (hR : sx_ck true n0 F.2.2.2 ≤ R.cells ∧ sx_cs true z0 F.2.2.2 ≤ R.slots) (K : sx_J p l e R s m args below meth c D dA h0 sa true n0 z0 nL Q F) : sx_J p l e R s m args below meth c D dA h0 sa true n0 z0 nL Q (pc, ls, st, w) := by
  obtain ⟨hx, hb, hml, hown, hts, hnm, hfr, hlo, hG, hh, hmi⟩ := X
  unfold sx_new at h
  split at h
  · rename_i q hq
    cases h
    obtain ⟨⟨C, T, N⟩, hcq, hlk⟩ := sx_kl_use hmi hq
    obtain ⟨f1, f2, f3, f4, f5, f6, f7, f8, f9⟩ := sx_cok hcq
    intro H locs lsA hP hS hl h1 h2
    have h1 : n0 ≤ w.length := h1
    have h2 : z0 ≤ sx_sz w := h2
    have hKn := hG.1.1 q.1 _ hcq
    have hsz : H.size = h0 + w.length := hP.2 rfl
    have e9 : sx_s (.inr (.inr (.inr (q.1, sx_df q.1))) : sx_C) = N := f7
    have hR1 : sx_ck true n0 (w ++ [.inr (.inr (.inr (q.1, sx_df q.1)))]) ≤ R.cells := hR.1
    have hR2 : sx_cs true z0 (w ++ [.inr (.inr (.inr (q.1, sx_df q.1)))]) ≤ R.slots := hR.2
    rw [sx_ck_add h1] at hR1
    rw [sx_cs_add h2, e9] at hR2
    refine W.newcK hx hb hown (hts _ hlk) (hts _ f4) (hts _ f5) rfl hd hR1 hR2 hKn.2.1 hsz fun H1 kC hkC e1 z1 o1 => ?_
    have K2 := K.add hP hS hl h1 h2 (H1 := H1) ⟨(C, T, N), hcq, by
      show t_OB (h0 + w.length) (D.1 q.1) N (D.2 q.1) H1 (vp_V ((sx_df q.1).map (sx_v h0 sa)))
      rw [f8]
      exact (u_born (sx_ty q.1) hts f1 hKn hkC e1 f3).to f6⟩ (by rw [z1, hsz]) (fun q9 h9 => o1 q9 (by rw [← hsz]; exact h9))
    rw [e9] at K2
    exact K2
  · cases h
theorem sx_na_i (X : sx_Ctx p s m args meth c R D dA h0 sa xs mi d) {t : Nat} {at_ : ArrayType} (hd : decode (sx_M mi).2.1 pc = .ok (.newarray at_, 2)) (ht : (sx_tys dA)[t]? = some (dA t, newarray.typeOf at_)) (hdv : defaultValue (newarray.typeOf at_) = .int 0) (hcb : componentBytes (newarray.typeOf at_) ≤ 8) (hra : ∀ cA, va_RA s cA (newarray.typeOf at_) → s.vm.findClass ("[" ++ (newarray.typeOf at_).toString) = some cA) (hac : Cond.arrayClass (newarray.typeOf at_) ∈ sx_tw) {n : Int32} {r : List Value} (hn : sx_ln n = true) (hR : sx_ck true n0 (w ++ [.inl (t, List.replicate n.toNatClampNeg 0)]) ≤ R.cells ∧ sx_cs true z0 (w ++ [.inl (t, List.replicate n.toNatClampNeg 0)]) ≤ R.slots) (K : sx_J p l e R s m args below meth c D dA h0 sa true n0 z0 nL Q (pc + 2, ls, .ref w.length :: r, w ++ [.inl (t, List.replicate n.toNatClampNeg 0)])) : sx_J p l e R s m args below meth c D dA h0 sa true n0 z0 nL Q (pc, ls, .int n :: r, w) := by
  obtain ⟨hx, hb, hml, hown, hts, hnm, hfr, hlo, hG, hh, hmi⟩ := X
  obtain ⟨hn0, hn1⟩ := sx_ln_of hn
  intro H locs lsA hP hS hl h1 h2
  have h1 : n0 ≤ w.length := h1
  have h2 : z0 ≤ sx_sz w := h2
  have hsz : H.size = h0 + w.length := hP.2 rfl
  have e9 : sx_s (.inl (t, List.replicate n.toNatClampNeg 0) : sx_C) = n.toNatClampNeg := List.length_replicate
  obtain ⟨hR1, hR2⟩ := hR
  rw [sx_ck_add h1] at hR1
  rw [sx_cs_add h2, e9] at hR2
  refine va_newaK hx hb (hts _ hac) rfl hd rfl hn0 rfl (Nat.le_trans (Nat.mul_le_mul hn1 hcb) (by decide)) hR1 hR2 hsz fun H1 cA e1 z1 o1 hAr hNm => ?_
  have hcA : cA = dA t := Option.some.inj (hNm.symm.trans (hra _ (hG.1.2 t _ ht).2))
  have K2 := K.add hP hS hl h1 h2 (H1 := H1) (by
    show H1[h0 + w.length]? = some (vp_cell (dA t) ((List.replicate n.toNatClampNeg (0 : Int32)).length, .inl (fun j => (List.replicate n.toNatClampNeg (0 : Int32)).getD j 0)))
    rw [e1, vp_cell_i, hcA, hdv, List.length_replicate]
    refine congrArg (fun z9 => some (arrV (dA t) n.toNatClampNeg z9)) (funext fun j => ?_)
    rw [sx_rp]) (by rw [z1, hsz]) (fun q9 h9 => o1 q9 (by rw [← hsz]; exact h9))
  rw [e9] at K2
  exact K2
theorem sx_na_l (X : sx_Ctx p s m args meth c R D dA h0 sa xs mi d) (hd : decode (sx_M mi).2.1 pc = .ok (.newarray .long, 2)) {n : Int32} {r : List Value} (hn : sx_ln n = true) (hR : sx_ck true n0 (w ++ [.inr (.inl (3, List.replicate n.toNatClampNeg 0))]) ≤ R.cells ∧ sx_cs true z0 (w ++ [.inr (.inl (3, List.replicate n.toNatClampNeg 0))]) ≤ R.slots) (K : sx_J p l e R s m args below meth c D dA h0 sa true n0 z0 nL Q (pc + 2, ls, .ref w.length :: r, w ++ [.inr (.inl (3, List.replicate n.toNatClampNeg 0))])) : sx_J p l e R s m args below meth c D dA h0 sa true n0 z0 nL Q (pc, ls, .int n :: r, w) := by
  obtain ⟨hx, hb, hml, hown, hts, hnm, hfr, hlo, hG, hh, hmi⟩ := X
  obtain ⟨hn0, hn1⟩ := sx_ln_of hn
  intro H locs lsA hP hS hl h1 h2
  have h1 : n0 ≤ w.length := h1
  have h2 : z0 ≤ sx_sz w := h2
  have hsz : H.size = h0 + w.length := hP.2 rfl
  have e9 : sx_s (.inr (.inl (3, List.replicate n.toNatClampNeg 0)) : sx_C) = n.toNatClampNeg := List.length_replicate
  obtain ⟨hR1, hR2⟩ := hR
  rw [sx_ck_add h1] at hR1
  rw [sx_cs_add h2, e9] at hR2
  refine va_newaK (atype := .long) hx hb (hts _ sx_w_acJ) rfl hd rfl hn0 rfl (Nat.le_trans (Nat.mul_le_mul hn1 (show componentBytes (newarray.typeOf .long) ≤ 8 by decide)) (by decide)) hR1 hR2 hsz fun H1 cA e1 z1 o1 hAr hNm => ?_
  have hcA : cA = dA 3 := Option.some.inj (hNm.symm.trans (hG.1.2 3 _ rfl).2)
  have K2 := K.add hP hS hl h1 h2 (H1 := H1) (by
    show H1[h0 + w.length]? = some (vp_cell (dA 3) ((List.replicate n.toNatClampNeg (0 : Int64)).length, .inr (.inl (fun j => (List.replicate n.toNatClampNeg (0 : Int64)).getD j 0))))
    rw [e1, vp_cell_l, hcA, List.length_replicate]
    refine congrArg (fun z9 => some (arrV (dA 3) n.toNatClampNeg z9)) (funext fun j => ?_)
    rw [sx_rp]
    rfl) (by rw [z1, hsz]) (fun q9 h9 => o1 q9 (by rw [← hsz]; exact h9))
  rw [e9] at K2
  exact K2
theorem sx_o_na {at_ : ArrayType} (X : sx_Ctx p s m args meth c R D dA h0 sa xs mi d) (hd : decode (sx_M mi).2.1 pc = .ok (.newarray at_, 2)) (h : sx_na at_ ls pc st w = some F) (hR : sx_ck true n0 F.2.2.2 ≤ R.cells ∧ sx_cs true z0 F.2.2.2 ≤ R.slots) (K : sx_J p l e R s m args below meth c D dA h0 sa true n0 z0 nL Q F) : sx_J p l e R s m args below meth c D dA h0 sa true n0 z0 nL Q (pc, ls, st, w) := by
  unfold sx_na at h
  split at h
  · rename_i n r
    cases hbt : sx_ln n with
    | false => rw [hbt] at h; cases h
    | true =>
      rw [hbt] at h
      simp only [cond_true] at h
      split at h
      · cases h
        exact sx_na_i X (t := 0) hd rfl rfl (by decide) (fun _ h9 => h9) sx_w_acI hbt hR K
      · cases h
        exact sx_na_i X (t := 1) hd rfl rfl (by decide) (fun _ h9 => h9) sx_w_acZ hbt hR K
      · cases h
        exact sx_na_i X (t := 2) hd rfl rfl (by decide) (fun _ h9 => h9) sx_w_acB hbt hR K
      · cases h
        exact sx_na_l X hd hbt hR K
      · cases h
  · cases h
theorem sx_an_q (X : sx_Ctx p s m args meth c R D dA h0 sa xs mi d) {t idx : Nat} {C : String} (hd : decode (sx_M mi).2.1 pc = .ok (.anewarray idx, 3)) (ht : (sx_tys dA)[t]? = some (dA t, .object C)) (hAO : va_AO C s) (hlk : Cond.classLink (sx_cn.getD (sx_own mi) "") idx C ∈ sx_tw) {n : Int32} {r : List Value} (hn : sx_ln n = true) (hR : sx_ck true n0 (w ++ [.inr (.inr (.inl (t, List.replicate n.toNatClampNeg none)))]) ≤ R.cells ∧ sx_cs true z0 (w ++ [.inr (.inr (.inl (t, List.replicate n.toNatClampNeg none)))]) ≤ R.slots) (K : sx_J p l e R s m args below meth c D dA h0 sa true n0 z0 nL Q (pc + 3, ls, .ref w.length :: r, w ++ [.inr (.inr (.inl (t, List.replicate n.toNatClampNeg none)))])) : sx_J p l e R s m args below meth c D dA h0 sa true n0 z0 nL Q (pc, ls, .int n :: r, w) := by
  obtain ⟨hx, hb, hml, hown, hts, hnm, hfr, hlo, hG, hh, hmi⟩ := X
  obtain ⟨hn0, hn1⟩ := sx_ln_of hn
  intro H locs lsA hP hS hl h1 h2
  have h1 : n0 ≤ w.length := h1
  have h2 : z0 ≤ sx_sz w := h2
  have hsz : H.size = h0 + w.length := hP.2 rfl
  have e9 : sx_s (.inr (.inr (.inl (t, List.replicate n.toNatClampNeg none))) : sx_C) = n.toNatClampNeg := List.length_replicate
  obtain ⟨hR1, hR2⟩ := hR
  rw [sx_ck_add h1] at hR1
  rw [sx_cs_add h2, e9] at hR2
  refine W.anew hx hb hown (hts _ hlk) (va_AO.use hAO) rfl hd rfl hn0 (by omega) hR1 hR2 fun cA kA comp f1 f2 f3 f4 => ?_
  obtain ⟨kA2, comp2, y1, y2, y3, y4⟩ := (hG.1.2 t _ ht).2
  have hcA : cA = dA t := Option.some.inj (f1.symm.trans y4)
  generalize hH1 : H.push ({ cls := cA, slots := Array.replicate n.toNatClampNeg .null, vm := .none } : Cell) = H1
  have z1 : H1.size = H.size + 1 := by rw [← hH1, Array.size_push]
  have e1 : H1[H.size]? = some (arrV cA n.toNatClampNeg (fun _ => .null)) := by rw [← hH1, Array.getElem?_push_size, ← arrV_new]
  have o1 : ∀ q : Nat, q < H.size → H1[q]? = H[q]? := fun q hq => by rw [← hH1, Array.getElem?_push, if_neg (Nat.ne_of_lt hq)]
  have K2 := K.add hP hS hl h1 h2 (H1 := H1) (by
    show H1[h0 + w.length]? = some (vp_cell (dA t) ((List.replicate n.toNatClampNeg (none : Option Nat)).length, .inr (.inr (.inr (.inr (fun j => ((List.replicate n.toNatClampNeg (none : Option Nat)).getD j none).map (fun i => h0 + i)))))))
    rw [← hsz, e1, vp_cell_q, hcA, List.length_replicate]
    refine congrArg (fun z9 => some (arrV (dA t) n.toNatClampNeg z9)) (funext fun j => ?_)
    rw [sx_rp]
    rfl) z1 o1
  rw [e9] at K2
  rw [hsz]
  exact K2
theorem sx_o_anew {idx : Nat} (X : sx_Ctx p s m args meth c R D dA h0 sa xs mi d) (hd : decode (sx_M mi).2.1 pc = .ok (.anewarray idx, 3)) (h : sx_anew (sx_own mi) idx ls pc st w = some F) (hR : sx_ck true n0 F.2.2.2 ≤ R.cells ∧ sx_cs true z0 F.2.2.2 ≤ R.slots) (K : sx_J p l e R s m args below meth c D dA h0 sa true n0 z0 nL Q F) : sx_J p l e R s m args below meth c D dA h0 sa true n0 z0 nL Q (pc, ls, st, w) := by
  have X0 := X
  obtain ⟨hx, hb, hml, hown, hts, hnm, hfr, hlo, hG, hh, hmi⟩ := X
  unfold sx_anew at h
  split at h
  · rename_i n r
    split at h
    · rename_i pl hq
      cases hbt : sx_ln n with
      | false => rw [hbt] at h; cases h
      | true =>
        rw [hbt] at h
        cases h
        obtain ⟨cq, hcq, hlk⟩ := sx_kl_use hmi hq
        cases hcq
        exact sx_an_q X0 (t := 4) hd rfl hG.2.2.2.1 hlk hbt hR K
    · rename_i pl hq
      cases hbt : sx_ln n with
      | false => rw [hbt] at h; cases h
      | true =>
        rw [hbt] at h
        cases h
        obtain ⟨cq, hcq, hlk⟩ := sx_kl_use hmi hq
        cases hcq
        exact sx_an_q X0 (t := 5) hd rfl hG.2.2.2.2.1 hlk hbt hR K
    · cases h
  · cases h
theorem sx_u120 {k : Nat} (h : k < 20) : (UInt32.ofNat (100 + k)).toNat = 100 + k := by
  show (100 + k) % 2 ^ 32 = 100 + k
  exact Nat.mod_eq_of_lt (by omega)
theorem sx_ldcwS {cc : ByteArray} {H : Heap} {locs : List Loc} {cells slots : Nat} {lsA : Array Slot} {rest : List Value} (hexec : p.tables.exec = Jvm.exec) (hb : c.code = cc) {own tx : String} {index q : Nat} (hown : s.vm.findClass own = some m.cls) (hZ : vk_R own index tx q s) (hdg : decode cc pc = .ok (.ldc_w index, 3))
    (k : W p l e R s m args below meth c H locs cells slots Q (F0 m (pc + 3) lsA (.ref q :: rest))) : W p l e R s m args below meth c H locs cells slots Q (F0 m pc lsA rest) := by
  intro T hT X
  obtain ⟨t, a1, b1⟩ := k T hT X
  obtain ⟨k9, cf, i9, a9, hk, hcf, hcp, -, hr, hev⟩ := Cond.stringRef_spec hown hZ.1
  cases hZ.2.symm.trans hev
  obtain ⟨k8, hk8, he⟩ := X.warmed.alike.2.2 _ _ hk
  have hr8 : k8.resolved[index]? = some (some (.string q)) := by
    rcases X.warmed.entry hk hk8 index with h | ⟨h, -⟩
    · rw [h]; exact hr
    · rw [hr] at h; cases h
  refine ⟨t, ?_, b1⟩
  jvm_step X.here [hexec, hb, hdg, ldc_w.wp_string (e := e) (s := T) (f := F0 m pc lsA rest) X.here.top hk8 (by rw [he]; exact hcf) hcp hr8]
  exact a1
theorem sx_o_kc2 {idx : Nat} (X : sx_Ctx p s m args meth c R D dA h0 sa xs mi d) (hd : decode (sx_M mi).2.1 pc = .ok (.ldc idx, 2)) (h : sx_kc (sx_own mi) idx pc 2 ls st w = some F) (K : sx_J p l e R s m args below meth c D dA h0 sa md n0 z0 nL Q F) : sx_J p l e R s m args below meth c D dA h0 sa md n0 z0 nL Q (pc, ls, st, w) := by
  obtain ⟨hx, hb, hml, hown, hts, hnm, hfr, hlo, hG, hh, hmi⟩ := X
  unfold sx_kc at h
  split at h
  · rename_i q hq
    cases h
    have h1 := List.all_eq_true.mp (sx_all sx_kIok (sx_own_lt mi hmi)) _ (sx_lk_mem _ _ _ hq)
    exact sx_o_go (fun H locs lsA cells slots k => lv_ldc hx hb hown (hts _ (sx_twm (sx_memp h1) rfl)) hd k) K
  · split at h
    · rename_i q hq
      cases hbt : Nat.blt q.1 20 with
      | false => rw [hbt] at h; cases h
      | true =>
        rw [hbt] at h
        cases h
        have hk : q.1 < 20 := Nat.le_of_ble_eq_true hbt
        have hZ := hG.2.2.2.2.2.2.2.1 _ _ (sx_lk_mem _ _ _ hq)
        have e1 : sx_v h0 sa (.float (UInt32.ofNat (100 + q.1))) = .ref (sa (100 + q.1)) := by
          show Value.ref (sa (UInt32.ofNat (100 + q.1)).toNat) = _
          rw [sx_u120 hk]
        refine sx_o_go (fun H locs lsA cells slots k => ?_) K
        rw [List.map_cons, e1] at k
        exact va_ldcS hx hb hown hZ hd k
    · cases h
theorem sx_o_kc3 {idx : Nat} (X : sx_Ctx p s m args meth c R D dA h0 sa xs mi d) (hd : decode (sx_M mi).2.1 pc = .ok (.ldc_w idx, 3)) (h : sx_kc (sx_own mi) idx pc 3 ls st w = some F) (K : sx_J p l e R s m args below meth c D dA h0 sa md n0 z0 nL Q F) : sx_J p l e R s m args below meth c D dA h0 sa md n0 z0 nL Q (pc, ls, st, w) := by
  obtain ⟨hx, hb, hml, hown, hts, hnm, hfr, hlo, hG, hh, hmi⟩ := X
  unfold sx_kc at h
  split at h
  · rename_i q hq
    cases h
    have h1 := List.all_eq_true.mp (sx_all sx_kIok (sx_own_lt mi hmi)) _ (sx_lk_mem _ _ _ hq)
    exact sx_o_go (fun H locs lsA cells slots k => lv_ldcw hx hb hown (hts _ (sx_twm (sx_memp h1) rfl)) hd k) K
  · split at h
    · rename_i q hq
      cases hbt : Nat.blt q.1 20 with
      | false => rw [hbt] at h; cases h
      | true =>
        rw [hbt] at h
        cases h
        have hk : q.1 < 20 := Nat.le_of_ble_eq_true hbt
        have hZ := hG.2.2.2.2.2.2.2.1 _ _ (sx_lk_mem _ _ _ hq)
        have e1 : sx_v h0 sa (.float (UInt32.ofNat (100 + q.1))) = .ref (sa (100 + q.1)) := by
          show Value.ref (sa (UInt32.ofNat (100 + q.1)).toNat) = _
          rw [sx_u120 hk]
        refine sx_o_go (fun H locs lsA cells slots k => ?_) K
        rw [List.map_cons, e1] at k
        exact sx_ldcwS hx hb hown hZ hd k
    · cases h
theorem sx_o_kj {idx : Nat} (X : sx_Ctx p s m args meth c R D dA h0 sa xs mi d) (hd : decode (sx_M mi).2.1 pc = .ok (.ldc2_w idx, 3)) (h : sx_kj (sx_own mi) idx ls pc st w = some F) (K : sx_J p l e R s m args below meth c D dA h0 sa md n0 z0 nL Q F) : sx_J p l e R s m args below meth c D dA h0 sa md n0 z0 nL Q (pc, ls, st, w) := by
  obtain ⟨hx, hb, hml, hown, hts, hnm, hfr, hlo, hG, hh, hmi⟩ := X
  unfold sx_kj at h
  split at h
  · rename_i q hq
    cases h
    have h1 := List.all_eq_true.mp (sx_all sx_kJok (sx_own_lt mi hmi)) _ (sx_lk_mem _ _ _ hq)
    exact sx_o_go (fun H locs lsA cells slots k => lv_ldc2 hx hb hown (hts _ (sx_twm (sx_memp h1) rfl)) hd k) K
  · cases h
theorem sx_u4 {k : Nat} (h : k < 4) : (UInt32.ofNat k).toNat = k := by
  rcases (show k = 0 ∨ k = 1 ∨ k = 2 ∨ k = 3 by omega) with rfl | rfl | rfl | rfl <;> rfl
theorem sx_o_gs {idx : Nat} (X : sx_Ctx p s m args meth c R D dA h0 sa xs mi d) (hd : decode (sx_M mi).2.1 pc = .ok (.getstatic idx, 3)) (h : sx_gs (sx_own mi) idx ls pc st w = some F) (K : sx_J p l e R s m args below meth c D dA h0 sa md n0 z0 nL Q F) : sx_J p l e R s m args below meth c D dA h0 sa md n0 z0 nL Q (pc, ls, st, w) := by
  obtain ⟨hx, hb, hml, hown, hts, hnm, hfr, hlo, hG, hh, hmi⟩ := X
  unfold sx_gs at h
  split at h
  · rename_i q hq
    cases hbt : Nat.blt q.1 4 with
    | false => rw [hbt] at h; cases h
    | true =>
      rw [hbt] at h
      cases h
      have hk : q.1 < 4 := Nat.le_of_ble_eq_true hbt
      have h1 := List.all_eq_true.mp (sx_all sx_sok (sx_own_lt mi hmi)) _ (sx_lk_mem _ _ _ hq)
      intro H locs lsA hP hS hl g1 g2
      have e1 : sx_v h0 sa (.float (UInt32.ofNat q.1)) = .ref (sa q.1) := by
        show Value.ref (sa (UInt32.ofNat q.1).toNat) = _
        rw [sx_u4 hk]
      refine va_gets hx hb (v := sx_v h0 sa (.float (UInt32.ofNat q.1))) (by rw [e1]; exact hG.2.1 q.1 hk) hS hown (hts _ (sx_twm (sx_memp h1) rfl)) (fun _ h9 => h9) hd (K H locs lsA hP hS hl g1 g2)
  · cases h
theorem sx_o_obj {idx : Nat} (X : sx_Ctx p s m args meth c R D dA h0 sa xs mi d) (hd : decode (sx_M mi).2.1 pc = .ok (.invokespecial idx, 3)) (h : sx_obj (sx_own mi) idx ls pc st w = some F) (K : sx_J p l e R s m args below meth c D dA h0 sa md n0 z0 (sx_maxL mi) Q F) : sx_J p l e R s m args below meth c D dA h0 sa md n0 z0 (sx_maxL mi) Q (pc, ls, st, w) := by
  obtain ⟨hx, hb, hml, hown, hts, hnm, hfr, hlo, hG, hh, hmi⟩ := X
  unfold sx_obj at h
  split at h
  · rename_i pl a r hq
    cases hbt : Nat.ble (r.map (fun v => v.category)).sum 8 with
    | false => rw [hbt] at h; cases h
    | true =>
      rw [hbt] at h
      cases h
      have h1 := List.all_eq_true.mp (sx_all sx_oiok (sx_own_lt mi hmi)) _ (sx_lk_mem _ _ _ hq)
      have h8 := Nat.le_of_ble_eq_true hbt
      intro H locs lsA hP hS hl g1 g2
      refine W.objInit hx hb hown (hts _ (sx_twm (sx_memp h1) rfl)) (hts _ sx_w_objM) (hts _ sx_w_objI) rfl (by rw [hml]; exact hl.1) rfl hd (by omega) ?_ (K H locs lsA hP hS hl g1 g2)
      show 2 * 0 + ((r.map (sx_v h0 sa)).map fun v => v.category).sum + 12 ≤ R.locals
      rw [sx_cat_map]
      omega
  · cases h
theorem sx_o_len (X : sx_Ctx p s m args meth c R D dA h0 sa xs mi d) (hd : decode (sx_M mi).2.1 pc = .ok (.arraylength, 1)) (h : sx_len xs ls pc st w = some F) (K : sx_J p l e R s m args below meth c D dA h0 sa md n0 z0 nL Q F) : sx_J p l e R s m args below meth c D dA h0 sa md n0 z0 nL Q (pc, ls, st, w) := by
  obtain ⟨hx, hb, hml, hown, hts, hnm, hfr, hlo, hG, hh, hmi⟩ := X
  unfold sx_len at h
  split at h
  · rename_i k r ys
    cases hbt : Nat.beq k.toNat 4 with
    | false => rw [hbt] at h; cases h
    | true =>
      rw [hbt] at h
      cases h
      have hk : k.toNat = 4 := Nat.eq_of_beq_eq_true hbt
      intro H locs lsA hP hS hl g1 g2
      have hT := hG.2.2.1 4 (by decide)
      have K1 := K H locs lsA hP hS hl g1 g2
      have e1 : sx_v h0 sa (.float k) = .ref (sa 4) := by
        show Value.ref (sa k.toNat) = _
        rw [hk]
      show W p l e R s m args below meth c H locs _ _ Q (F0 m pc lsA (sx_v h0 sa (.float k) :: r.map (sx_v h0 sa)))
      rw [e1]
      exact va_tlen hx hb hT hS rfl hd K1
  · cases h
theorem sx_o_acp {idx : Nat} (X : sx_Ctx p s m args meth c R D dA h0 sa xs mi d) (hd : decode (sx_M mi).2.1 pc = .ok (.invokestatic idx, 3)) (h : sx_acp (sx_own mi) idx ls pc st w = some F) (K : sx_J p l e R s m args below meth c D dA h0 sa false n0 z0 (sx_maxL mi) Q F) : sx_J p l e R s m args below meth c D dA h0 sa false n0 z0 (sx_maxL mi) Q (pc, ls, st, w) := by
  obtain ⟨hx, hb, hml, hown, hts, hnm, hfr, hlo, hG, hh, hmi⟩ := X
  unfold sx_acp at h
  split at h
  · rename_i n dp a sp a0 r
    split at h
    · rename_i pl hq
      cases hbt : (!(decide (sp < 0)) && !(decide (dp < 0)) && !(decide (n < 0)) && Nat.ble (r.map (fun v => v.category)).sum 8) with
      | false => rw [hbt] at h; cases h
      | true =>
        rw [hbt] at h
        simp only [cond_true] at h
        simp only [Bool.and_eq_true, Bool.not_eq_true', decide_eq_false_iff_not] at hbt
        obtain ⟨⟨⟨b1, b2⟩, b3⟩, b4⟩ := hbt
        have h8 := Nat.le_of_ble_eq_true b4
        have hlk := sx_memp (List.all_eq_true.mp (sx_all sx_aok (sx_own_lt mi hmi)) _ (sx_lk_mem _ _ _ hq))
        have hroom : ((r.map (sx_v h0 sa)).map fun v => v.category).sum + (nativeFrameWords "java/lang/System" "arraycopy" 5 + 11) ≤ R.locals := by
          rw [sx_cat_map, show nativeFrameWords "java/lang/System" "arraycopy" 5 = 7 by decide]
          omega
        split at h
        · rename_i f g hw0 hw1
          cases hc2 : (Nat.ble (sp.toNatClampNeg + n.toNatClampNeg) f.length && Nat.ble (dp.toNatClampNeg + n.toNatClampNeg) g.length) with
          | false => rw [hc2] at h; cases h
          | true =>
            rw [hc2] at h
            cases h
            simp only [Bool.and_eq_true] at hc2
            have c1 := Nat.le_of_ble_eq_true hc2.1
            have c2 := Nat.le_of_ble_eq_true hc2.2
            intro H locs lsA hP hS hl g1 g2
            refine va_copyi hx hb (by rw [hml]; exact hl.1.symm) hown (hts _ (sx_twm hlk rfl)) (hts _ sx_w_cpN) (hts _ sx_w_cpS) (hts _ sx_w_sys) hG.1 hP.1 (sx_D dA h0 sa w) hS a0 a 0 0 (by rw [sx_W_get, hw0]; rfl) (by rw [sx_W_get, hw1]; rfl) rfl rfl rfl b1 b2 b3 c1 c2 (fun _ _ => rfl) (by omega) hroom hd (fun H1 locs1 hP1 _ hS1 => ?_)
            have e1 : sx_E dA h0 sa (.inl (0, sx_cpy f g sp.toNatClampNeg dp.toNatClampNeg n.toNatClampNeg)) = .inl (dA 0, g.length, .inl (va_cpy (fun j => f.getD j 0) (fun j => g.getD j 0) sp.toNatClampNeg dp.toNatClampNeg n.toNatClampNeg)) := by
              show (Sum.inl (dA 0, (sx_cpy f g _ _ _).length, _) : va_E) = _
              rw [sx_cpy_len c1 c2]
              refine congrArg (fun z9 => (Sum.inl (dA 0, g.length, Sum.inl z9) : va_E)) (funext fun j => ?_)
              exact sx_cpy_get 0 c1 c2 j
            rw [← e1, sx_W_set] at hP1
            exact K H1 locs1 lsA ⟨hP1, fun hm => by cases hm⟩ hS1 hl (by show n0 ≤ (w.set a _).length; rw [List.length_set]; exact g1) (by show z0 ≤ sx_sz (w.set a _); rw [sx_sz_set w a _ (.inl (0, sx_cpy f g sp.toNatClampNeg dp.toNatClampNeg n.toNatClampNeg)) hw1 (sx_cpy_len c1 c2)]; exact g2)
        · rename_i f g hw0 hw1
          cases hc2 : (Nat.ble (sp.toNatClampNeg + n.toNatClampNeg) f.length && Nat.ble (dp.toNatClampNeg + n.toNatClampNeg) g.length) with
          | false => rw [hc2] at h; cases h
          | true =>
            rw [hc2] at h
            cases h
            simp only [Bool.and_eq_true] at hc2
            have c1 := Nat.le_of_ble_eq_true hc2.1
            have c2 := Nat.le_of_ble_eq_true hc2.2
            intro H locs lsA hP hS hl g1 g2
            refine va_copyl hx hb (by rw [hml]; exact hl.1.symm) hown (hts _ (sx_twm hlk rfl)) (hts _ sx_w_cpN) (hts _ sx_w_cpS) (hts _ sx_w_sys) hG.1 hP.1 (sx_D dA h0 sa w) hS a0 a 3 3 (by rw [sx_W_get, hw0]; rfl) (by rw [sx_W_get, hw1]; rfl) rfl rfl rfl b1 b2 b3 c1 c2 (fun _ _ => rfl) (by omega) hroom hd (fun H1 locs1 hP1 _ hS1 => ?_)
            have e1 : sx_E dA h0 sa (.inr (.inl (3, sx_cpy f g sp.toNatClampNeg dp.toNatClampNeg n.toNatClampNeg))) = .inl (dA 3, g.length, .inr (.inl (va_cpy (fun j => f.getD j 0) (fun j => g.getD j 0) sp.toNatClampNeg dp.toNatClampNeg n.toNatClampNeg))) := by
              show (Sum.inl (dA 3, (sx_cpy f g _ _ _).length, _) : va_E) = _
              rw [sx_cpy_len c1 c2]
              refine congrArg (fun z9 => (Sum.inl (dA 3, g.length, Sum.inr (Sum.inl z9)) : va_E)) (funext fun j => ?_)
              exact sx_cpy_get 0 c1 c2 j
            rw [← e1, sx_W_set] at hP1
            exact K H1 locs1 lsA ⟨hP1, fun hm => by cases hm⟩ hS1 hl (by show n0 ≤ (w.set a _).length; rw [List.length_set]; exact g1) (by show z0 ≤ sx_sz (w.set a _); rw [sx_sz_set w a _ (.inr (.inl (3, sx_cpy f g sp.toNatClampNeg dp.toNatClampNeg n.toNatClampNeg))) hw1 (sx_cpy_len c1 c2)]; exact g2)
        · cases h
    · cases h
  · cases h
end SXN
end
-- 12.step.lean.txt
section
def sx_MNA0 : Prop := ∀ {p : Program} {l : Launch} {e : Env} {R : Room} {s : State} {m : MethodId} {args : Array Value} {below : List Frame} {meth : Method} {c : Code} {Q : State → Prop} {D : va_G} {dA : Nat → ClassId} {h0 : Nat} {sa : Nat → Nat} {n0 z0 nL : Nat} {pc : Nat} {ls : sx_L} {st : List Value} {w : List sx_C} {F : sx_F} {xs : Option (List Int32)} {mi d idx dim : Nat}, sx_Ctx p s m args meth c R D dA h0 sa xs mi d → decode (sx_M mi).2.1 pc = .ok (.multianewarray idx dim, 4) → sx_mna (sx_own mi) idx dim ls pc st w = some F → (sx_ck true n0 F.2.2.2 ≤ R.cells ∧ sx_cs true z0 F.2.2.2 ≤ R.slots) → sx_J p l e R s m args below meth c D dA h0 sa true n0 z0 nL Q F → sx_J p l e R s m args below meth c D dA h0 sa true n0 z0 nL Q (pc, ls, st, w)
def sx_STR : Prop := ∀ {p : Program} {l : Launch} {e : Env} {R : Room} {s : State} {m : MethodId} {args : Array Value} {below : List Frame} {meth : Method} {c : Code} {Q : State → Prop} {D : va_G} {dA : Nat → ClassId} {h0 : Nat} {sa : Nat → Nat} {md : Bool} {n0 z0 : Nat} {pc : Nat} {ls : sx_L} {st : List Value} {w : List sx_C} {F : sx_F} {xs : Option (List Int32)} {mi d idx : Nat}, sx_Ctx p s m args meth c R D dA h0 sa xs mi d → decode (sx_M mi).2.1 pc = .ok (.invokevirtual idx, 3) → (sx_sv mi (.invokevirtual idx) = true → 5 ≤ R.frames ∧ 105 ≤ R.locals) → sx_str (sx_own mi) idx ls pc st w = some F → (sx_ck md n0 F.2.2.2 ≤ R.cells ∧ sx_cs md z0 F.2.2.2 ≤ R.slots) → sx_J p l e R s m args below meth c D dA h0 sa md n0 z0 (sx_maxL mi) Q F → sx_J p l e R s m args below meth c D dA h0 sa md n0 z0 (sx_maxL mi) Q (pc, ls, st, w)
def sx_MNA : Prop := sx_MNA0 ∧ sx_STR
section SXS
variable {p : Program} {l : Launch} {e : Env} {R : Room} {s : State} {m : MethodId} {args : Array Value} {below : List Frame} {meth : Method} {c : Code} {Q : State → Prop}
variable {D : va_G} {dA : Nat → ClassId} {h0 : Nat} {sa : Nat → Nat} {md : Bool} {n0 z0 : Nat} {pc : Nat} {ls : sx_L} {st : List Value} {w : List sx_C} {F : sx_F} {xs : Option (List Int32)} {mi d : Nat}
set_option maxHeartbeats 4000000 in
theorem sx_step_ok (hM : sx_MNA) {i : Instr} {n : Nat} (X : sx_Ctx p s m args meth c R D dA h0 sa xs mi d) (hd : decode (sx_M mi).2.1 pc = .ok (i, n)) (hst : sx_sv mi i = true → 5 ≤ R.frames ∧ 105 ≤ R.locals) (h : sx_step md xs mi pc i n ls st w = some F) (hR : sx_ck md n0 F.2.2.2 ≤ R.cells ∧ sx_cs md z0 F.2.2.2 ≤ R.slots) (K : sx_J p l e R s m args below meth c D dA h0 sa md n0 z0 (sx_maxL mi) Q F) : sx_J p l e R s m args below meth c D dA h0 sa md n0 z0 (sx_maxL mi) Q (pc, ls, st, w) := by
  have X0 := X
  obtain ⟨hx, hb, -⟩ := X
  unfold sx_step at h
  split at h
  · cases h; exact sx_o_go (fun H locs lsA cells slots k => lv_iconst hx hb hd rfl k) K
  · cases h; exact sx_o_go (fun H locs lsA cells slots k => lv_bipush hx hb hd rfl k) K
  · cases h; exact sx_o_go (fun H locs lsA cells slots k => lv_sipush hx hb hd rfl k) K
  · cases h; exact sx_o_go (fun H locs lsA cells slots k => lv_lconst hx hb hd rfl k) K
  · exact sx_o_kc2 X0 hd h K
  · exact sx_o_kc3 X0 hd h K
  · exact sx_o_kj X0 hd h K
  · exact sx_o_ldi (fun x rest H locs lsA cells slots hl k => lv_iload_n hx hb hd rfl hl k) h K
  · exact sx_o_ldi (fun x rest H locs lsA cells slots hl k => lv_iload hx hb hd hl k) h K
  · exact sx_o_ldl (fun x rest H locs lsA cells slots hl k => lv_lload_n hx hb hd rfl hl k) h K
  · exact sx_o_ldl (fun x rest H locs lsA cells slots hl k => lv_lload hx hb hd hl k) h K
  · exact sx_o_lda (fun x rest H locs lsA cells slots hl k => lv_aload_n hx hb hd rfl hl k) h K
  · exact sx_o_lda (fun x rest H locs lsA cells slots hl k => lv_aload hx hb hd hl k) h K
  · exact sx_o_sti (fun x rest H locs lsA cells slots lv lv2 h1 h2 h3 kk => lv_istore_n hx hb hd rfl h1 h2 h3 kk) h K
  · exact sx_o_sti (fun x rest H locs lsA cells slots lv lv2 h1 h2 h3 kk => lv_istore hx hb hd h1 h2 h3 kk) h K
  · exact sx_o_stl (fun x rest H locs lsA cells slots lv lv2 h1 h2 h3 kk => lv_lstore_n hx hb hd rfl h1 h2 h3 kk) h K
  · exact sx_o_stl (fun x rest H locs lsA cells slots lv lv2 h1 h2 h3 kk => lv_lstore hx hb hd h1 h2 h3 kk) h K
  · exact sx_o_sta (fun x rest H locs lsA cells slots lv lv2 h1 h2 h3 kk => lv_astore_n hx hb hd rfl h1 h2 h3 kk) h K
  · exact sx_o_sta (fun x rest H locs lsA cells slots lv lv2 h1 h2 h3 kk => lv_astore hx hb hd h1 h2 h3 kk) h K
  · exact sx_o_inc hx hb hd h K
  · exact sx_o_ii (fun x y rest H locs lsA cells slots k => lv_iadd hx hb hd k) h K
  · exact sx_o_ii (fun x y rest H locs lsA cells slots k => lv_isub hx hb hd k) h K
  · exact sx_o_ii (fun x y rest H locs lsA cells slots k => lv_imul hx hb hd k) h K
  · exact sx_o_ii (fun x y rest H locs lsA cells slots k => lv_iand hx hb hd k) h K
  · exact sx_o_ii (fun x y rest H locs lsA cells slots k => lv_ishl hx hb hd k) h K
  · exact sx_o_ii (fun x y rest H locs lsA cells slots k => lv_ishr hx hb hd k) h K
  · exact sx_o_iz (fun x y rest H locs lsA cells slots hz k => lv_idiv hx hb hd hz k) h K
  · exact sx_o_iz (fun x y rest H locs lsA cells slots hz k => lv_irem hx hb hd hz k) h K
  · exact sx_o_i1 (fun x rest H locs lsA cells slots k => lv_ineg hx hb hd k) h K
  · exact sx_o_i1 (fun x rest H locs lsA cells slots k => lv_i2b hx hb hd rfl k) h K
  · exact sx_o_i1 (fun x rest H locs lsA cells slots k => lv_i2s hx hb hd rfl k) h K
  · exact sx_o_jj (fun x y rest H locs lsA cells slots k => lv_ladd hx hb hd k) h K
  · exact sx_o_jj (fun x y rest H locs lsA cells slots k => lv_lsub hx hb hd k) h K
  · exact sx_o_jj (fun x y rest H locs lsA cells slots k => lv_lmul hx hb hd k) h K
  · exact sx_o_jj (fun x y rest H locs lsA cells slots k => lv_land hx hb hd k) h K
  · exact sx_o_jj (fun x y rest H locs lsA cells slots k => lv_lor hx hb hd k) h K
  · exact sx_o_jj (fun x y rest H locs lsA cells slots k => lv_lxor hx hb hd k) h K
  · exact sx_o_ji (fun x y rest H locs lsA cells slots k => lv_lshl hx hb hd rfl k) h K
  · exact sx_o_ji (fun x y rest H locs lsA cells slots k => lv_lushr hx hb hd rfl k) h K
  · split at h
    · cases h; exact sx_o_go (fun H locs lsA cells slots k => W.lcmp hx hb hd k) K
    · cases h
  · split at h
    · cases h; exact sx_o_go (fun H locs lsA cells slots k => lv_i2l hx hb hd rfl k) K
    · cases h
  · split at h
    · cases h; exact sx_o_go (fun H locs lsA cells slots k => lv_l2i hx hb hd rfl k) K
    · cases h
  · exact sx_o_dup hx hb hd h K
  · exact sx_o_pop hx hb hd h K
  · exact sx_o_dup2 hx hb hd h K
  · exact sx_o_pop2 hx hb hd h K
  · exact sx_o_b1 (fun x => inferInstance) (fun x t rest H locs lsA cells slots ht kt kf => lv_if_eq hx hb hd ht kt kf) h K
  · exact sx_o_b2 (fun x y => inferInstance) (fun x y t rest H locs lsA cells slots ht kt kf => lv_icmp_eq hx hb hd ht kt kf) h K
  · exact sx_o_b1 (fun x => inferInstance) (fun x t rest H locs lsA cells slots ht kt kf => lv_if_ne hx hb hd ht kt (fun q => kf (fun q2 => q2 q))) h K
  · exact sx_o_b2 (fun x y => inferInstance) (fun x y t rest H locs lsA cells slots ht kt kf => lv_icmp_ne hx hb hd ht kt (fun q => kf (fun q2 => q2 q))) h K
  · exact sx_o_b1 (fun x => inferInstance) (fun x t rest H locs lsA cells slots ht kt kf => lv_if_lt hx hb hd ht kt kf) h K
  · exact sx_o_b2 (fun x y => inferInstance) (fun x y t rest H locs lsA cells slots ht kt kf => lv_icmp_lt hx hb hd ht kt kf) h K
  · exact sx_o_b1 (fun x => inferInstance) (fun x t rest H locs lsA cells slots ht kt kf => lv_if_ge hx hb hd ht kt kf) h K
  · exact sx_o_b2 (fun x y => inferInstance) (fun x y t rest H locs lsA cells slots ht kt kf => lv_icmp_ge hx hb hd ht kt kf) h K
  · exact sx_o_b1 (fun x => inferInstance) (fun x t rest H locs lsA cells slots ht kt kf => lv_if_gt hx hb hd ht kt kf) h K
  · exact sx_o_b2 (fun x y => inferInstance) (fun x y t rest H locs lsA cells slots ht kt kf => lv_icmp_gt hx hb hd ht kt kf) h K
  · exact sx_o_b1 (fun x => inferInstance) (fun x t rest H locs lsA cells slots ht kt kf => lv_if_le hx hb hd ht kt kf) h K
  · exact sx_o_b2 (fun x y => inferInstance) (fun x y t rest H locs lsA cells slots ht kt kf => lv_icmp_le hx hb hd ht kt kf) h K
  · split at h
    · rename_i t ht
      cases h; exact sx_o_go (fun H locs lsA cells slots k => lv_goto hx hb hd (sx_to_eq ht) k) K
    · cases h
  · exact sx_o_sw hx hb hd h K
  · exact sx_o_gf X0 hd h K
  · exact sx_o_pf X0 hd h K
  · exact sx_o_gs X0 hd h K
  · exact sx_o_iald X0 hd h K
  · exact sx_o_bald X0 hd h K
  · exact sx_o_lald X0 hd h K
  · exact sx_o_aald X0 hd h K
  · exact sx_o_iast X0 hd h K
  · exact sx_o_bast X0 hd h K
  · exact sx_o_last X0 hd h K
  · exact sx_o_aast X0 hd h K
  · exact sx_o_len X0 hd h K
  · cases md with
    | false => cases h
    | true => exact sx_o_new X0 hd h hR K
  · cases md with
    | false => cases h
    | true => exact sx_o_na X0 hd h hR K
  · cases md with
    | false => cases h
    | true => exact sx_o_anew X0 hd h hR K
  · cases md with
    | false => cases h
    | true => exact hM.1 X0 hd h hR K
  · exact sx_o_obj X0 hd h K
  · cases md with
    | true => cases h
    | false => exact sx_o_acp X0 hd h K
  · exact hM.2 X0 hd hst h hR K
  · cases h
end SXS
end
-- 13.ext.lean.txt
section
def sx_ext (w w2 : List sx_C) : Prop := w.length ≤ w2.length ∧ sx_sz w ≤ sx_sz w2
theorem sx_ext.rf (w : List sx_C) : sx_ext w w := ⟨Nat.le_refl _, Nat.le_refl _⟩
theorem sx_ext.of {w w2 : List sx_C} (h : w2 = w) : sx_ext w w2 := by subst h; exact sx_ext.rf w2
theorem sx_ext.tr {a b c : List sx_C} (h : sx_ext a b) (h2 : sx_ext b c) : sx_ext a c := ⟨Nat.le_trans h.1 h2.1, Nat.le_trans h.2 h2.2⟩
theorem sx_ext.set {w : List sx_C} {a : Nat} {c0 c : sx_C} (h : w[a]? = some c0) (hs : sx_s c = sx_s c0) : sx_ext w (w.set a c) := ⟨by rw [List.length_set]; exact Nat.le_refl _, by rw [sx_sz_set w a c0 c h hs]; exact Nat.le_refl _⟩
theorem sx_ext.app (w w2 : List sx_C) : sx_ext w (w ++ w2) := ⟨by rw [List.length_append]; exact Nat.le_add_right _ _, by rw [sx_sz_app]; exact Nat.le_add_right _ _⟩
theorem sx_w_kc {o : Nat} {idx : Nat} {pc : Nat} {n : Nat} {ls : sx_L} {st : List Value} {w : List sx_C} {F : sx_F} (h : sx_kc o idx pc n ls st w = some F) : F.2.2.2 = w := by
  simp only [sx_kc, Bool.cond_eq_ite] at h
  (repeat' split at h) <;> first | (cases h; done) | (cases h; rfl)
theorem sx_w_kj {o : Nat} {idx : Nat} {ls : sx_L} {pc : Nat} {st : List Value} {w : List sx_C} {F : sx_F} (h : sx_kj o idx ls pc st w = some F) : F.2.2.2 = w := by
  simp only [sx_kj, Bool.cond_eq_ite] at h
  (repeat' split at h) <;> first | (cases h; done) | (cases h; rfl)
theorem sx_w_ldi {ls : sx_L} {i : Nat} {pc : Nat} {st : List Value} {w : List sx_C} {F : sx_F} (h : sx_ldi ls i pc st w = some F) : F.2.2.2 = w := by
  simp only [sx_ldi, Bool.cond_eq_ite] at h
  (repeat' split at h) <;> first | (cases h; done) | (cases h; rfl)
theorem sx_w_ldl {ls : sx_L} {i : Nat} {pc : Nat} {st : List Value} {w : List sx_C} {F : sx_F} (h : sx_ldl ls i pc st w = some F) : F.2.2.2 = w := by
  simp only [sx_ldl, Bool.cond_eq_ite] at h
  (repeat' split at h) <;> first | (cases h; done) | (cases h; rfl)
theorem sx_w_lda {ls : sx_L} {i : Nat} {pc : Nat} {st : List Value} {w : List sx_C} {F : sx_F} (h : sx_lda ls i pc st w = some F) : F.2.2.2 = w := by
  simp only [sx_lda, Bool.cond_eq_ite] at h
  (repeat' split at h) <;> first | (cases h; done) | (cases h; rfl)
theorem sx_w_sti {nL : Nat} {ls : sx_L} {i : Nat} {pc : Nat} {st : List Value} {w : List sx_C} {F : sx_F} (h : sx_sti nL ls i pc st w = some F) : F.2.2.2 = w := by
  simp only [sx_sti, Bool.cond_eq_ite] at h
  (repeat' split at h) <;> first | (cases h; done) | (cases h; rfl)
theorem sx_w_stl {nL : Nat} {ls : sx_L} {i : Nat} {pc : Nat} {st : List Value} {w : List sx_C} {F : sx_F} (h : sx_stl nL ls i pc st w = some F) : F.2.2.2 = w := by
  simp only [sx_stl, Bool.cond_eq_ite] at h
  (repeat' split at h) <;> first | (cases h; done) | (cases h; rfl)
theorem sx_w_sta {nL : Nat} {ls : sx_L} {i : Nat} {pc : Nat} {st : List Value} {w : List sx_C} {F : sx_F} (h : sx_sta nL ls i pc st w = some F) : F.2.2.2 = w := by
  simp only [sx_sta, Bool.cond_eq_ite] at h
  (repeat' split at h) <;> first | (cases h; done) | (cases h; rfl)
theorem sx_w_inc {nL : Nat} {i : Nat} {k : Int} {ls : sx_L} {pc : Nat} {st : List Value} {w : List sx_C} {F : sx_F} (h : sx_inc nL i k ls pc st w = some F) : F.2.2.2 = w := by
  simp only [sx_inc, Bool.cond_eq_ite] at h
  (repeat' split at h) <;> first | (cases h; done) | (cases h; rfl)
theorem sx_w_ii {f : Int32 → Int32 → Int32} {ls : sx_L} {pc : Nat} {st : List Value} {w : List sx_C} {F : sx_F} (h : sx_ii f ls pc st w = some F) : F.2.2.2 = w := by
  simp only [sx_ii, Bool.cond_eq_ite] at h
  (repeat' split at h) <;> first | (cases h; done) | (cases h; rfl)
theorem sx_w_iz {f : Int32 → Int32 → Int32} {ls : sx_L} {pc : Nat} {st : List Value} {w : List sx_C} {F : sx_F} (h : sx_iz f ls pc st w = some F) : F.2.2.2 = w := by
  simp only [sx_iz, Bool.cond_eq_ite] at h
  (repeat' split at h) <;> first | (cases h; done) | (cases h; rfl)
theorem sx_w_i1 {f : Int32 → Int32} {ls : sx_L} {pc : Nat} {st : List Value} {w : List sx_C} {F : sx_F} (h : sx_i1 f ls pc st w = some F) : F.2.2.2 = w := by
  simp only [sx_i1, Bool.cond_eq_ite] at h
  (repeat' split at h) <;> first | (cases h; done) | (cases h; rfl)
theorem sx_w_jj {f : Int64 → Int64 → Int64} {ls : sx_L} {pc : Nat} {st : List Value} {w : List sx_C} {F : sx_F} (h : sx_jj f ls pc st w = some F) : F.2.2.2 = w := by
  simp only [sx_jj, Bool.cond_eq_ite] at h
  (repeat' split at h) <;> first | (cases h; done) | (cases h; rfl)
theorem sx_w_ji {f : Int64 → Int32 → Int64} {ls : sx_L} {pc : Nat} {st : List Value} {w : List sx_C} {F : sx_F} (h : sx_ji f ls pc st w = some F) : F.2.2.2 = w := by
  simp only [sx_ji, Bool.cond_eq_ite] at h
  (repeat' split at h) <;> first | (cases h; done) | (cases h; rfl)
theorem sx_w_dup {ls : sx_L} {pc : Nat} {st : List Value} {w : List sx_C} {F : sx_F} (h : sx_dup ls pc st w = some F) : F.2.2.2 = w := by
  simp only [sx_dup, Bool.cond_eq_ite] at h
  (repeat' split at h) <;> first | (cases h; done) | (cases h; rfl)
theorem sx_w_pop {ls : sx_L} {pc : Nat} {st : List Value} {w : List sx_C} {F : sx_F} (h : sx_pop ls pc st w = some F) : F.2.2.2 = w := by
  simp only [sx_pop, Bool.cond_eq_ite] at h
  (repeat' split at h) <;> first | (cases h; done) | (cases h; rfl)
theorem sx_w_pop2 {ls : sx_L} {pc : Nat} {st : List Value} {w : List sx_C} {F : sx_F} (h : sx_pop2 ls pc st w = some F) : F.2.2.2 = w := by
  simp only [sx_pop2, Bool.cond_eq_ite] at h
  (repeat' split at h) <;> first | (cases h; done) | (cases h; rfl)
theorem sx_w_dup2 {ls : sx_L} {pc : Nat} {st : List Value} {w : List sx_C} {F : sx_F} (h : sx_dup2 ls pc st w = some F) : F.2.2.2 = w := by
  simp only [sx_dup2, Bool.cond_eq_ite] at h
  (repeat' split at h) <;> first | (cases h; done) | (cases h; rfl)
theorem sx_w_b1 {f : Int32 → Bool} {off : Int} {ls : sx_L} {pc : Nat} {st : List Value} {w : List sx_C} {F : sx_F} (h : sx_b1 f off ls pc st w = some F) : F.2.2.2 = w := by
  simp only [sx_b1, Bool.cond_eq_ite] at h
  (repeat' split at h) <;> first | (cases h; done) | (cases h; rfl)
theorem sx_w_b2 {f : Int32 → Int32 → Bool} {off : Int} {ls : sx_L} {pc : Nat} {st : List Value} {w : List sx_C} {F : sx_F} (h : sx_b2 f off ls pc st w = some F) : F.2.2.2 = w := by
  simp only [sx_b2, Bool.cond_eq_ite] at h
  (repeat' split at h) <;> first | (cases h; done) | (cases h; rfl)
theorem sx_w_sw {a : Int} {b : Int} {c2 : Int} {offs : Array Int} {ls : sx_L} {pc : Nat} {st : List Value} {w : List sx_C} {F : sx_F} (h : sx_sw a b c2 offs ls pc st w = some F) : F.2.2.2 = w := by
  simp only [sx_sw, Bool.cond_eq_ite] at h
  (repeat' split at h) <;> first | (cases h; done) | (cases h; rfl)
theorem sx_w_gf {o : Nat} {idx : Nat} {ls : sx_L} {pc : Nat} {st : List Value} {w : List sx_C} {F : sx_F} (h : sx_gf o idx ls pc st w = some F) : F.2.2.2 = w := by
  simp only [sx_gf, Bool.cond_eq_ite] at h
  (repeat' split at h) <;> first | (cases h; done) | (cases h; rfl)
theorem sx_w_gs {o : Nat} {idx : Nat} {ls : sx_L} {pc : Nat} {st : List Value} {w : List sx_C} {F : sx_F} (h : sx_gs o idx ls pc st w = some F) : F.2.2.2 = w := by
  simp only [sx_gs, Bool.cond_eq_ite] at h
  (repeat' split at h) <;> first | (cases h; done) | (cases h; rfl)
theorem sx_w_iald {xs : Option (List Int32)} {ls : sx_L} {pc : Nat} {st : List Value} {w : List sx_C} {F : sx_F} (h : sx_iald xs ls pc st w = some F) : F.2.2.2 = w := by
  simp only [sx_iald, sx_al, Bool.cond_eq_ite] at h
  (repeat' split at h) <;> first | (cases h; done) | (cases h; rfl)
theorem sx_w_bald {ls : sx_L} {pc : Nat} {st : List Value} {w : List sx_C} {F : sx_F} (h : sx_bald ls pc st w = some F) : F.2.2.2 = w := by
  simp only [sx_bald, sx_al, Bool.cond_eq_ite] at h
  (repeat' split at h) <;> first | (cases h; done) | (cases h; rfl)
theorem sx_w_lald {ls : sx_L} {pc : Nat} {st : List Value} {w : List sx_C} {F : sx_F} (h : sx_lald ls pc st w = some F) : F.2.2.2 = w := by
  simp only [sx_lald, Bool.cond_eq_ite] at h
  (repeat' split at h) <;> first | (cases h; done) | (cases h; rfl)
theorem sx_w_aald {ls : sx_L} {pc : Nat} {st : List Value} {w : List sx_C} {F : sx_F} (h : sx_aald ls pc st w = some F) : F.2.2.2 = w := by
  simp only [sx_aald, Bool.cond_eq_ite] at h
  (repeat' split at h) <;> first | (cases h; done) | (cases h; rfl)
theorem sx_w_len {xs : Option (List Int32)} {ls : sx_L} {pc : Nat} {st : List Value} {w : List sx_C} {F : sx_F} (h : sx_len xs ls pc st w = some F) : F.2.2.2 = w := by
  simp only [sx_len, Bool.cond_eq_ite] at h
  (repeat' split at h) <;> first | (cases h; done) | (cases h; rfl)
theorem sx_w_obj {o : Nat} {idx : Nat} {ls : sx_L} {pc : Nat} {st : List Value} {w : List sx_C} {F : sx_F} (h : sx_obj o idx ls pc st w = some F) : F.2.2.2 = w := by
  simp only [sx_obj, Bool.cond_eq_ite] at h
  (repeat' split at h) <;> first | (cases h; done) | (cases h; rfl)
theorem sx_x_pf {mi : Nat} {idx : Nat} {ls : sx_L} {pc : Nat} {st : List Value} {w : List sx_C} {F : sx_F} (h : sx_pf mi idx ls pc st w = some F) : sx_ext w F.2.2.2 := by
  simp only [sx_pf, Bool.cond_eq_ite] at h
  (repeat' split at h) <;> first | (cases h; done) | (cases h; exact sx_ext.set (by assumption) (by simp [sx_s]))
theorem sx_x_iast {ls : sx_L} {pc : Nat} {st : List Value} {w : List sx_C} {F : sx_F} (h : sx_iast ls pc st w = some F) : sx_ext w F.2.2.2 := by
  simp only [sx_iast, Bool.cond_eq_ite] at h
  (repeat' split at h) <;> first | (cases h; done) | (cases h; exact sx_ext.set (by assumption) (by simp [sx_s]))
theorem sx_x_bast {ls : sx_L} {pc : Nat} {st : List Value} {w : List sx_C} {F : sx_F} (h : sx_bast ls pc st w = some F) : sx_ext w F.2.2.2 := by
  simp only [sx_bast, Bool.cond_eq_ite] at h
  (repeat' split at h) <;> first | (cases h; done) | (cases h; exact sx_ext.set (by assumption) (by simp [sx_s]))
theorem sx_x_last {ls : sx_L} {pc : Nat} {st : List Value} {w : List sx_C} {F : sx_F} (h : sx_last ls pc st w = some F) : sx_ext w F.2.2.2 := by
  simp only [sx_last, Bool.cond_eq_ite] at h
  (repeat' split at h) <;> first | (cases h; done) | (cases h; exact sx_ext.set (by assumption) (by simp [sx_s]))
theorem sx_x_aast {ls : sx_L} {pc : Nat} {st : List Value} {w : List sx_C} {F : sx_F} (h : sx_aast ls pc st w = some F) : sx_ext w F.2.2.2 := by
  simp only [sx_aast, Bool.cond_eq_ite] at h
  (repeat' split at h) <;> first | (cases h; done) | (cases h; exact sx_ext.set (by assumption) (by simp [sx_s]))
theorem sx_x_new {o : Nat} {idx : Nat} {ls : sx_L} {pc : Nat} {st : List Value} {w : List sx_C} {F : sx_F} (h : sx_new o idx ls pc st w = some F) : sx_ext w F.2.2.2 := by
  simp only [sx_new, Bool.cond_eq_ite] at h
  (repeat' split at h) <;> first | (cases h; done) | (cases h; exact sx_ext.app _ _)
theorem sx_x_na {t : ArrayType} {ls : sx_L} {pc : Nat} {st : List Value} {w : List sx_C} {F : sx_F} (h : sx_na t ls pc st w = some F) : sx_ext w F.2.2.2 := by
  simp only [sx_na, Bool.cond_eq_ite] at h
  (repeat' split at h) <;> first | (cases h; done) | (cases h; exact sx_ext.app _ _)
theorem sx_x_anew {o : Nat} {idx : Nat} {ls : sx_L} {pc : Nat} {st : List Value} {w : List sx_C} {F : sx_F} (h : sx_anew o idx ls pc st w = some F) : sx_ext w F.2.2.2 := by
  simp only [sx_anew, Bool.cond_eq_ite] at h
  (repeat' split at h) <;> first | (cases h; done) | (cases h; exact sx_ext.app _ _)
theorem sx_x_mna {o : Nat} {idx : Nat} {dim : Nat} {ls : sx_L} {pc : Nat} {st : List Value} {w : List sx_C} {F : sx_F} (h : sx_mna o idx dim ls pc st w = some F) : sx_ext w F.2.2.2 := by
  simp only [sx_mna, Bool.cond_eq_ite] at h
  (repeat' split at h) <;> first | (cases h; done) | (cases h; exact sx_ext.app _ _)
theorem sx_x_acp {o idx : Nat} {ls : sx_L} {pc : Nat} {st : List Value} {w : List sx_C} {F : sx_F} (h : sx_acp o idx ls pc st w = some F) : sx_ext w F.2.2.2 := by
  unfold sx_acp at h
  split at h
  · rename_i n dp a sp a0 r
    split at h
    · cases hbt : (!(decide (sp < 0)) && !(decide (dp < 0)) && !(decide (n < 0)) && Nat.ble (r.map (fun v => v.category)).sum 8) with
      | false => rw [hbt] at h; cases h
      | true =>
        rw [hbt] at h
        simp only [cond_true] at h
        split at h
        · rename_i f g hw0 hw1
          cases hc2 : (Nat.ble (sp.toNatClampNeg + n.toNatClampNeg) f.length && Nat.ble (dp.toNatClampNeg + n.toNatClampNeg) g.length) with
          | false => rw [hc2] at h; cases h
          | true =>
            rw [hc2] at h
            cases h
            simp only [Bool.and_eq_true] at hc2
            exact sx_ext.set hw1 (sx_cpy_len (Nat.le_of_ble_eq_true hc2.1) (Nat.le_of_ble_eq_true hc2.2))
        · rename_i f g hw0 hw1
          cases hc2 : (Nat.ble (sp.toNatClampNeg + n.toNatClampNeg) f.length && Nat.ble (dp.toNatClampNeg + n.toNatClampNeg) g.length) with
          | false => rw [hc2] at h; cases h
          | true =>
            rw [hc2] at h
            cases h
            simp only [Bool.and_eq_true] at hc2
            exact sx_ext.set hw1 (sx_cpy_len (Nat.le_of_ble_eq_true hc2.1) (Nat.le_of_ble_eq_true hc2.2))
        · cases h
    · cases h
  · cases h
theorem sx_w_str {o : Nat} {idx : Nat} {ls : sx_L} {pc : Nat} {st : List Value} {w : List sx_C} {F : sx_F} (h : sx_str o idx ls pc st w = some F) : F.2.2.2 = w := by
  simp only [sx_str, Bool.cond_eq_ite] at h
  (repeat' split at h) <;> first | (cases h; done) | (cases h; rfl)
set_option maxHeartbeats 4000000 in
theorem sx_x_step {md : Bool} {xs : Option (List Int32)} {mi pc n : Nat} {i : Instr} {ls : sx_L} {st : List Value} {w : List sx_C} {F : sx_F} (h : sx_step md xs mi pc i n ls st w = some F) : sx_ext w F.2.2.2 := by
  unfold sx_step at h
  split at h
  · cases h; exact sx_ext.rf _
  · cases h; exact sx_ext.rf _
  · cases h; exact sx_ext.rf _
  · cases h; exact sx_ext.rf _
  · exact sx_ext.of (sx_w_kc h)
  · exact sx_ext.of (sx_w_kc h)
  · exact sx_ext.of (sx_w_kj h)
  · exact sx_ext.of (sx_w_ldi h)
  · exact sx_ext.of (sx_w_ldi h)
  · exact sx_ext.of (sx_w_ldl h)
  · exact sx_ext.of (sx_w_ldl h)
  · exact sx_ext.of (sx_w_lda h)
  · exact sx_ext.of (sx_w_lda h)
  · exact sx_ext.of (sx_w_sti h)
  · exact sx_ext.of (sx_w_sti h)
  · exact sx_ext.of (sx_w_stl h)
  · exact sx_ext.of (sx_w_stl h)
  · exact sx_ext.of (sx_w_sta h)
  · exact sx_ext.of (sx_w_sta h)
  · exact sx_ext.of (sx_w_inc h)
  · exact sx_ext.of (sx_w_ii h)
  · exact sx_ext.of (sx_w_ii h)
  · exact sx_ext.of (sx_w_ii h)
  · exact sx_ext.of (sx_w_ii h)
  · exact sx_ext.of (sx_w_ii h)
  · exact sx_ext.of (sx_w_ii h)
  · exact sx_ext.of (sx_w_iz h)
  · exact sx_ext.of (sx_w_iz h)
  · exact sx_ext.of (sx_w_i1 h)
  · exact sx_ext.of (sx_w_i1 h)
  · exact sx_ext.of (sx_w_i1 h)
  · exact sx_ext.of (sx_w_jj h)
  · exact sx_ext.of (sx_w_jj h)
  · exact sx_ext.of (sx_w_jj h)
  · exact sx_ext.of (sx_w_jj h)
  · exact sx_ext.of (sx_w_jj h)
  · exact sx_ext.of (sx_w_jj h)
  · exact sx_ext.of (sx_w_ji h)
  · exact sx_ext.of (sx_w_ji h)
  · split at h
    · cases h; exact sx_ext.rf _
    · cases h
  · split at h
    · cases h; exact sx_ext.rf _
    · cases h
  · split at h
    · cases h; exact sx_ext.rf _
    · cases h
  · exact sx_ext.of (sx_w_dup h)
  · exact sx_ext.of (sx_w_pop h)
  · exact sx_ext.of (sx_w_dup2 h)
  · exact sx_ext.of (sx_w_pop2 h)
  · exact sx_ext.of (sx_w_b1 h)
  · exact sx_ext.of (sx_w_b2 h)
  · exact sx_ext.of (sx_w_b1 h)
  · exact sx_ext.of (sx_w_b2 h)
  · exact sx_ext.of (sx_w_b1 h)
  · exact sx_ext.of (sx_w_b2 h)
  · exact sx_ext.of (sx_w_b1 h)
  · exact sx_ext.of (sx_w_b2 h)
  · exact sx_ext.of (sx_w_b1 h)
  · exact sx_ext.of (sx_w_b2 h)
  · exact sx_ext.of (sx_w_b1 h)
  · exact sx_ext.of (sx_w_b2 h)
  · split at h
    · cases h; exact sx_ext.rf _
    · cases h
  · exact sx_ext.of (sx_w_sw h)
  · exact sx_ext.of (sx_w_gf h)
  · exact sx_x_pf h
  · exact sx_ext.of (sx_w_gs h)
  · exact sx_ext.of (sx_w_iald h)
  · exact sx_ext.of (sx_w_bald h)
  · exact sx_ext.of (sx_w_lald h)
  · exact sx_ext.of (sx_w_aald h)
  · exact sx_x_iast h
  · exact sx_x_bast h
  · exact sx_x_last h
  · exact sx_x_aast h
  · exact sx_ext.of (sx_w_len h)
  · cases md with
    | false => cases h
    | true => exact sx_x_new h
  · cases md with
    | false => cases h
    | true => exact sx_x_na h
  · cases md with
    | false => cases h
    | true => exact sx_x_anew h
  · cases md with
    | false => cases h
    | true => exact sx_x_mna h
  · exact sx_ext.of (sx_w_obj h)
  · cases md with
    | true => cases h
    | false => exact sx_x_acp h
  · exact sx_ext.of (sx_w_str h)
  · cases h
theorem sx_x_run (md : Bool) (xs : Option (List Int32)) : ∀ (f d mi pc : Nat) (ls : sx_L) (st : List Value) (w : List sx_C) (r : Option Value) (w2 : List sx_C), sx_run md xs f d mi pc ls st w = some (r, w2) → sx_ext w w2
  | 0, d, mi, pc, ls, st, w, r, w2, h => by cases h
  | f + 1, d, mi, pc, ls, st, w, r, w2, h => by
    unfold sx_run at h
    split at h
    · cases h
    · rename_i i n hi
      split at h
      · rename_i pc2 ls2 st2 w3 hs
        exact (sx_x_step hs).tr (sx_x_run md xs f d mi pc2 ls2 st2 w3 r w2 h)
      · split at h
        · cases h
          exact sx_ext.rf _
        · split at h
          · rename_i mi2 as rest d2 hinv
            simp only [Bool.cond_eq_ite] at h
            split at h
            · split at h
              · rename_i r2 w4 hc
                exact (sx_x_run md xs f d2 mi2 0 _ [] w r2 w4 hc).tr (sx_x_run md xs f (d2 + 1) mi (pc + 3) ls _ w4 r w2 h)
              · cases h
            · cases h
          · cases h
end
-- 14.sound.lean.txt
section
noncomputable def sx_Ws (mi : Nat) : List Cond := .code (sx_M mi).1 (sx_M mi).2.1 (sx_M mi).2.2.1 (sx_M mi).2.2.2.1 :: sx_tw
def sx_rm (mi K N : Nat) : Room := { frames := sx_fr mi + 2, cells := K, slots := N, locals := sx_lo mi + 30 }
theorem sx_AOA {u U : State} (hvm : u.vm.Alike U.vm) (h : (Cond.arrayOver (.array .int)).before #[] u = true) : (Cond.arrayOver (.array .int)).before #[] U = true := by
  have h1 : (Cond.arrayOver (.array .int)).value #[] u none u [] = some true := by
    simpa [Cond.before, Cond.holds] using h
  simp only [Cond.value] at h1
  obtain ⟨comp, hc, h2⟩ := Option.bind_eq_some_iff.mp h1
  obtain ⟨c, hi, h3⟩ := Option.bind_eq_some_iff.mp h2
  obtain ⟨k, hk, h4⟩ := Option.map_eq_some_iff.mp h3
  obtain ⟨k2, hk2, he⟩ := hvm.2.2 _ _ hk
  have hi2 : (U.vm.classes.findIdx? fun (x : Class) => match x.kind with | .array component _ => component == comp | _ => false) = some c := by
    have e1 := va_idx_bare u.vm comp
    have e2 := va_idx_bare U.vm comp
    have e3 : U.vm.bare = u.vm.bare := by first | exact hvm.bare_eq | exact hvm.bare_eq.symm
    rw [e3] at e2
    exact e2.symm.trans (e1.trans hi)
  have hc2 : U.vm.findClass (FieldType.array .int).toString = some comp := by rw [hvm.findClass]; exact hc
  have hkk : k2.kind = k.kind := by rw [he]
  have goal : (Cond.arrayOver (.array .int)).value #[] U none U [] = some true := by
    simp only [Cond.value]
    refine Option.bind_eq_some_iff.mpr ⟨comp, hc2, Option.bind_eq_some_iff.mpr ⟨c, hi2, Option.map_eq_some_iff.mpr ⟨k2, hk2, ?_⟩⟩⟩
    rw [hkk, hvm.findClass]
    exact h4
  simpa [Cond.before, Cond.holds] using goal
theorem sx_G.warm {D : va_G} {dA : Nat → ClassId} {h0 : Nat} {sa : Nat → Nat} {xs : Option (List Int32)} {s U : State} {H H1 : Heap} (hW : s.WarmedH U.vm) (hq : ∀ a : Nat, a < H.size → ¬ sx_A h0 a → H1[a]? = H[a]?) (h : sx_G D dA h0 sa xs s H) : sx_G D dA h0 sa xs U H1 :=
  ⟨va_K.moved hW.alike h.1, fun k hk => ((h.2.1 k hk).moved hW.alike).kept hq, fun k hk => ((h.2.2.1 k hk).moved hW.alike).kept hq, h.2.2.2.1.moved hW.alike, h.2.2.2.2.1.moved hW.alike, sx_AOA hW.alike h.2.2.2.2.2.1, fun o q hq2 => va_Nw.warmM hW (h.2.2.2.2.2.2.1 o q hq2), h.2.2.2.2.2.2.2.warm hW hq⟩
theorem sx_G.same {D : va_G} {dA : Nat → ClassId} {h0 : Nat} {sa : Nat → Nat} {xs : Option (List Int32)} {s U : State} {H : Heap} (hv : s.vm = U.vm) (h : sx_G D dA h0 sa xs s H) : sx_G D dA h0 sa xs U H := by
  have hA : s.vm.Alike U.vm := by rw [hv]; exact Vm.Alike.refl U.vm
  exact ⟨va_K.moved hA h.1, fun k hk => (h.2.1 k hk).moved hA, fun k hk => (h.2.2.1 k hk).moved hA, h.2.2.2.1.moved hA, h.2.2.2.2.1.moved hA, sx_AOA hA h.2.2.2.2.2.1, fun o q hq2 => va_tabs rfl hv (h.2.2.2.2.2.2.1 o q hq2), h.2.2.2.2.2.2.2.same hv⟩
def sx_Pc (D : va_G) (dA : Nat → ClassId) (h0 : Nat) (sa : Nat → Nat) (xs : Option (List Int32)) (md : Bool) (as : List Value) (w : List sx_C) : Array Value → State → Prop := fun v U => v = (as.map (sx_v h0 sa)).toArray ∧ sx_G D dA h0 sa xs U U.heap ∧ sx_P D dA h0 sa md w U.heap ∧ h0 ≤ U.heap.size
def sx_Qc (D : va_G) (dA : Nat → ClassId) (h0 : Nat) (sa : Nat → Nat) (md : Bool) (r : Option Value) (w : List sx_C) : Array Value → State → Outcome → State → Prop := fun _ st oc t => oc = .returned (r.map (sx_v h0 sa)) ∧ sx_P D dA h0 sa md w t.heap ∧ va_F (sx_A h0) st t
theorem sx_blind {D : va_G} {dA : Nat → ClassId} {h0 : Nat} {sa : Nat → Nat} {xs : Option (List Int32)} {md : Bool} {as : List Value} {w : List sx_C} : FrameBlind (sx_Pc D dA h0 sa xs md as w) := fun a U g mk q => ⟨q.1, sx_G.same (s := U) (U := U.calling g mk a) rfl q.2.1, q.2.2.1, q.2.2.2⟩
theorem sx_ck_cat {md : Bool} {n0 : Nat} {w w1 : List sx_C} (h : n0 ≤ w.length) (h1 : md = true → w.length ≤ w1.length) : sx_ck md n0 w + sx_ck md (sx_cn0 md w) w1 = sx_ck md n0 w1 := by
  cases md with
  | false => rfl
  | true =>
    have := h1 rfl
    simp only [sx_ck, sx_cn0, cond_true]
    omega
theorem sx_cs_cat {md : Bool} {z0 : Nat} {w w1 : List sx_C} (h : z0 ≤ sx_sz w) (h1 : md = true → sx_sz w ≤ sx_sz w1) : sx_cs md z0 w + sx_cs md (sx_cz0 md w) w1 = sx_cs md z0 w1 := by
  cases md with
  | false => rfl
  | true =>
    have := h1 rfl
    simp only [sx_cs, sx_cz0, cond_true]
    omega
theorem sx_ck_le {md : Bool} {n0 : Nat} {w w1 : List sx_C} (h1 : md = true → sx_ext w w1) : sx_ck md n0 w ≤ sx_ck md n0 w1 := by
  cases md with
  | false => exact Nat.le_refl _
  | true =>
    have := (h1 rfl).1
    simp only [sx_ck, cond_true]
    omega
theorem sx_cs_le {md : Bool} {z0 : Nat} {w w1 : List sx_C} (h1 : md = true → sx_ext w w1) : sx_cs md z0 w ≤ sx_cs md z0 w1 := by
  cases md with
  | false => exact Nat.le_refl _
  | true =>
    have := (h1 rfl).2
    simp only [sx_cs, cond_true]
    omega
theorem sx_ck_0 (md : Bool) (w : List sx_C) : sx_ck md (sx_cn0 md w) w = 0 := by cases md <;> simp [sx_ck, sx_cn0]
theorem sx_cn0_le (md : Bool) (w : List sx_C) : sx_cn0 md w ≤ w.length := by cases md <;> simp [sx_cn0]
theorem sx_cz0_le (md : Bool) (w : List sx_C) : sx_cz0 md w ≤ sx_sz w := by cases md <;> simp [sx_cz0]
theorem sx_cs_0 (md : Bool) (w : List sx_C) : sx_cs md (sx_cz0 md w) w = 0 := by cases md <;> simp [sx_cs, sx_cz0]
theorem sx_sl_len (h0 : Nat) (sa : Nat → Nat) : ∀ as : List Value, (lg_sl (as.map (sx_v h0 sa))).length = (as.map (fun v => v.category)).sum
  | [] => rfl
  | v :: r => by
    have ih := sx_sl_len h0 sa r
    unfold lg_sl at ih ⊢
    rw [List.map_cons, List.flatMap_cons, List.length_append, ih, List.map_cons, List.sum_cons, sx_vc]
    congr 1
    cases v <;> rfl
theorem sx_mfacts {mi : Nat} (h : mi < 246) (hc : Cond.code (sx_M mi).1 (sx_M mi).2.1 (sx_M mi).2.2.1 (sx_M mi).2.2.2.1 ∈ lw_tbl) : Cond.code (sx_M mi).1 (sx_M mi).2.1 (sx_M mi).2.2.1 (sx_M mi).2.2.2.1 ∈ sx_tw ∧ Cond.initialized (sx_M mi).1.cls ∈ sx_tw ∧ (sx_M mi).1.cls = sx_cn.getD (sx_own mi) "" ∧ (sx_maxL mi) ≤ 21 ∧ (parseMethodDescriptor (sx_M mi).1.desc).map (fun d => d.parameters.length) = some (sx_nar mi) ∧ ((sx_M mi).1.cls ≠ "java/lang/invoke/MethodHandle" ∧ (sx_M mi).1.cls ≠ "java/lang/invoke/VarHandle") ∧ plainFor (sx_M mi).1 = true := by
  have h2 := sx_all sx_mc2 h
  have h3 := sx_all sx_mc3 h
  have h4 := sx_all sx_mc4 h
  simp only [sx_mchk2, Bool.and_eq_true] at h2
  simp only [sx_mchk3] at h3
  simp only [sx_mchk4, Bool.and_eq_true] at h4
  exact ⟨sx_twm hc rfl, sx_twm (sx_memp h2.1) rfl, of_decide_eq_true h2.2.1, Nat.le_of_ble_eq_true h2.2.2, of_decide_eq_true h3, of_decide_eq_true h4.1, h4.2⟩
end
-- 15.run.lean.txt
section
theorem sx_codes {mi : Nat} (h : mi < 246) : Cond.code (sx_M mi).1 (sx_M mi).2.1 (sx_M mi).2.2.1 (sx_M mi).2.2.2.1 ∈ lw_tbl := by
  have key : ∀ k, k < 41 → (List.range 6).all (fun i => sx_mchk1 (6 * k + i)) = true := by
    intro k hk
    match k, hk with
    | 0, _ => exact sx_e0
    | 1, _ => exact sx_e1
    | 2, _ => exact sx_e2
    | 3, _ => exact sx_e3
    | 4, _ => exact sx_e4
    | 5, _ => exact sx_e5
    | 6, _ => exact sx_e6
    | 7, _ => exact sx_e7
    | 8, _ => exact sx_e8
    | 9, _ => exact sx_e9
    | 10, _ => exact sx_e10
    | 11, _ => exact sx_e11
    | 12, _ => exact sx_e12
    | 13, _ => exact sx_e13
    | 14, _ => exact sx_e14
    | 15, _ => exact sx_e15
    | 16, _ => exact sx_e16
    | 17, _ => exact sx_e17
    | 18, _ => exact sx_e18
    | 19, _ => exact sx_e19
    | 20, _ => exact sx_e20
    | 21, _ => exact sx_e21
    | 22, _ => exact sx_e22
    | 23, _ => exact sx_e23
    | 24, _ => exact sx_e24
    | 25, _ => exact sx_e25
    | 26, _ => exact sx_e26
    | 27, _ => exact sx_e27
    | 28, _ => exact sx_e28
    | 29, _ => exact sx_e29
    | 30, _ => exact sx_e30
    | 31, _ => exact sx_e31
    | 32, _ => exact sx_e32
    | 33, _ => exact sx_e33
    | 34, _ => exact sx_e34
    | 35, _ => exact sx_e35
    | 36, _ => exact sx_e36
    | 37, _ => exact sx_e37
    | 38, _ => exact sx_e38
    | 39, _ => exact sx_e39
    | 40, _ => exact sx_e40
    | k + 41, hk => omega
  have h2 := sx_all (key (mi / 6) (by omega)) (o := mi % 6) (by omega)
  rw [show 6 * (mi / 6) + mi % 6 = mi by omega] at h2
  exact sx_memp h2
theorem sx_dlcw (a n : Nat) (hn : n = 40 ∨ a + n = 1547) (h : sx_dlc a n = true) : (List.range 40).all (fun i => decide (1547 ≤ a + i) || (match (sx_M 246).2.2.2.2.2.2.2.2 (a + i) with
    | none => true
    | some x => decide (decode (sx_M 246).2.1 (a + i) = .ok x))) = true := by
  refine List.all_eq_true.mpr (fun i hi => ?_)
  have hi := List.mem_range.mp hi
  by_cases hb : i < n
  · have h2 := sx_all h hb
    rw [Bool.or_eq_true]
    exact Or.inr h2
  · rw [Bool.or_eq_true]
    exact Or.inl (decide_eq_true (by omega))
theorem sx_decs {mi pc : Nat} {x : Instr × Nat} (h : mi < 247) (hi : sx_ins mi pc = some x) : decode (sx_M mi).2.1 pc = .ok x := by
  unfold sx_ins at hi
  cases hb : Nat.blt pc (sx_M mi).2.2.2.2.2.2.2.1 with
  | false => rw [hb] at hi; cases hi
  | true =>
    rw [hb] at hi
    have hlt : pc < (sx_M mi).2.2.2.2.2.2.2.1 := Nat.le_of_ble_eq_true hb
    have hi : (sx_M mi).2.2.2.2.2.2.2.2 pc = some x := hi
    by_cases hm : mi < 246
    · have key : ∀ k, k < 41 → (List.range 6).all (fun i => sx_dchk (6 * k + i)) = true := by
        intro k hk
        match k, hk with
        | 0, _ => exact sx_d0
        | 1, _ => exact sx_d1
        | 2, _ => exact sx_d2
        | 3, _ => exact sx_d3
        | 4, _ => exact sx_d4
        | 5, _ => exact sx_d5
        | 6, _ => exact sx_d6
        | 7, _ => exact sx_d7
        | 8, _ => exact sx_d8
        | 9, _ => exact sx_d9
        | 10, _ => exact sx_d10
        | 11, _ => exact sx_d11
        | 12, _ => exact sx_d12
        | 13, _ => exact sx_d13
        | 14, _ => exact sx_d14
        | 15, _ => exact sx_d15
        | 16, _ => exact sx_d16
        | 17, _ => exact sx_d17
        | 18, _ => exact sx_d18
        | 19, _ => exact sx_d19
        | 20, _ => exact sx_d20
        | 21, _ => exact sx_d21
        | 22, _ => exact sx_d22
        | 23, _ => exact sx_d23
        | 24, _ => exact sx_d24
        | 25, _ => exact sx_d25
        | 26, _ => exact sx_d26
        | 27, _ => exact sx_d27
        | 28, _ => exact sx_d28
        | 29, _ => exact sx_d29
        | 30, _ => exact sx_d30
        | 31, _ => exact sx_d31
        | 32, _ => exact sx_d32
        | 33, _ => exact sx_d33
        | 34, _ => exact sx_d34
        | 35, _ => exact sx_d35
        | 36, _ => exact sx_d36
        | 37, _ => exact sx_d37
        | 38, _ => exact sx_d38
        | 39, _ => exact sx_d39
        | 40, _ => exact sx_d40
        | k + 41, hk => omega
      have h2 := sx_all (key (mi / 6) (by omega)) (o := mi % 6) (by omega)
      rw [show 6 * (mi / 6) + mi % 6 = mi by omega] at h2
      have h3 := sx_all h2 hlt
      rw [hi] at h3
      exact of_decide_eq_true h3
    · have hm2 : mi = 246 := by omega
      subst hm2
      have hB : (sx_M 246).2.2.2.2.2.2.2.1 = 1547 := by decide +kernel
      rw [hB] at hlt
      have key : ∀ k, k < 39 → (List.range 40).all (fun i => decide (1547 ≤ 40 * k + i) || (match (sx_M 246).2.2.2.2.2.2.2.2 (40 * k + i) with
          | none => true
          | some x => decide (decode (sx_M 246).2.1 (40 * k + i) = .ok x))) = true := by
        intro k hk
        match k, hk with
        | 0, _ => exact sx_dlcw 0 40 (by decide) sx_dl0
        | 1, _ => exact sx_dlcw 40 40 (by decide) sx_dl1
        | 2, _ => exact sx_dlcw 80 40 (by decide) sx_dl2
        | 3, _ => exact sx_dlcw 120 40 (by decide) sx_dl3
        | 4, _ => exact sx_dlcw 160 40 (by decide) sx_dl4
        | 5, _ => exact sx_dlcw 200 40 (by decide) sx_dl5
        | 6, _ => exact sx_dlcw 240 40 (by decide) sx_dl6
        | 7, _ => exact sx_dlcw 280 40 (by decide) sx_dl7
        | 8, _ => exact sx_dlcw 320 40 (by decide) sx_dl8
        | 9, _ => exact sx_dlcw 360 40 (by decide) sx_dl9
        | 10, _ => exact sx_dlcw 400 40 (by decide) sx_dl10
        | 11, _ => exact sx_dlcw 440 40 (by decide) sx_dl11
        | 12, _ => exact sx_dlcw 480 40 (by decide) sx_dl12
        | 13, _ => exact sx_dlcw 520 40 (by decide) sx_dl13
        | 14, _ => exact sx_dlcw 560 40 (by decide) sx_dl14
        | 15, _ => exact sx_dlcw 600 40 (by decide) sx_dl15
        | 16, _ => exact sx_dlcw 640 40 (by decide) sx_dl16
        | 17, _ => exact sx_dlcw 680 40 (by decide) sx_dl17
        | 18, _ => exact sx_dlcw 720 40 (by decide) sx_dl18
        | 19, _ => exact sx_dlcw 760 40 (by decide) sx_dl19
        | 20, _ => exact sx_dlcw 800 40 (by decide) sx_dl20
        | 21, _ => exact sx_dlcw 840 40 (by decide) sx_dl21
        | 22, _ => exact sx_dlcw 880 40 (by decide) sx_dl22
        | 23, _ => exact sx_dlcw 920 40 (by decide) sx_dl23
        | 24, _ => exact sx_dlcw 960 40 (by decide) sx_dl24
        | 25, _ => exact sx_dlcw 1000 40 (by decide) sx_dl25
        | 26, _ => exact sx_dlcw 1040 40 (by decide) sx_dl26
        | 27, _ => exact sx_dlcw 1080 40 (by decide) sx_dl27
        | 28, _ => exact sx_dlcw 1120 40 (by decide) sx_dl28
        | 29, _ => exact sx_dlcw 1160 40 (by decide) sx_dl29
        | 30, _ => exact sx_dlcw 1200 40 (by decide) sx_dl30
        | 31, _ => exact sx_dlcw 1240 40 (by decide) sx_dl31
        | 32, _ => exact sx_dlcw 1280 40 (by decide) sx_dl32
        | 33, _ => exact sx_dlcw 1320 40 (by decide) sx_dl33
        | 34, _ => exact sx_dlcw 1360 40 (by decide) sx_dl34
        | 35, _ => exact sx_dlcw 1400 40 (by decide) sx_dl35
        | 36, _ => exact sx_dlcw 1440 40 (by decide) sx_dl36
        | 37, _ => exact sx_dlcw 1480 40 (by decide) sx_dl37
        | 38, _ => exact sx_dlcw 1520 27 (by decide) sx_dl38
        | k + 39, hk => omega
      have h2 := sx_all (key (pc / 40) (by omega)) (o := pc % 40) (by omega)
      rw [show 40 * (pc / 40) + pc % 40 = pc by omega] at h2
      rw [hi, show decide (1547 ≤ pc) = false from decide_eq_false (by omega), Bool.false_or] at h2
      exact of_decide_eq_true h2
section SXR
variable {p : Program} {l : Launch} {e : Env} {R : Room} {s : State} {m : MethodId} {args : Array Value} {below : List Frame} {meth : Method} {c : Code} {Q : State → Prop}
variable {D : va_G} {dA : Nat → ClassId} {h0 : Nat} {sa : Nat → Nat} {md : Bool} {n0 z0 : Nat} {pc : Nat} {ls : sx_L} {st : List Value} {w : List sx_C} {xs : Option (List Int32)} {mi d : Nat}
theorem sx_after {H : Heap} {locs : List Loc} {cells slots mc ms : Nat} {lsA : Array Slot} {st0 rest : List Value} {r : Option Value} {w2 : List sx_C} {a : Array Value} (hr : va_Run p l e R s m args below meth c H locs cells slots mc ms (F0 m pc lsA st0) rest (sx_Qc D dA h0 sa md r w2 a) (sx_A h0)) (hS : va_S (sx_A h0) s.heap H locs) (kk : ∀ (H1 : Heap) (locs1 : List Loc), sx_P D dA h0 sa md w2 H1 → va_S (sx_A h0) s.heap H1 locs1 → W p l e R s m args below meth c H1 locs1 (cells + mc) (slots + ms) Q (F0 m (pc + 3) lsA ((r.map (sx_v h0 sa)).toList ++ rest))) : W p l e R s m args below meth c H locs cells slots Q (F0 m pc lsA st0) := by
  intro T hT X
  obtain ⟨v, st₀, t, T', L, g0, X', hL, e1, e2, ⟨hv, hp, hz, hk⟩, st⟩ := hr T hT X
  have hv2 : v = r.map (sx_v h0 sa) := Outcome.returned.inj hv
  subst hv2
  rw [g0] at hz hk
  obtain ⟨t2, a1, b1⟩ := kk T'.heap (locs ++ L) (by rw [e1]; exact hp) ⟨Nat.le_trans hS.1 (by rw [e1]; exact hz), fun q h1 h2 => by rw [e1, hk q (Nat.lt_of_lt_of_le h1 hS.1) h2]; exact hS.2.1 q h1 h2, fun q hq => by
      rcases List.mem_append.mp hq with h | h
      · exact hS.2.2 q h
      · exact hL q h⟩ T' rfl X'
  exact ⟨t2, st t2 a1, b1⟩
theorem sx_pre {H : Heap} {locs : List Loc} {as : List Value} (hG : sx_G D dA h0 sa xs s s.heap) (hS : va_S (sx_A h0) s.heap H locs) (hP : sx_P D dA h0 sa md w H) (hh : h0 ≤ s.heap.size) : PreS s H (sx_Pc D dA h0 sa xs md as w) (as.map (sx_v h0 sa)) :=
  ⟨sx_blind, fun U hU hW => ⟨rfl, by rw [hU]; exact sx_G.warm hW hS.2.1 hG, by rw [hU]; exact hP, by rw [hU]; exact Nat.le_trans hh hS.1⟩⟩
theorem sx_goodW {mi2 : Nat} (hm : mi2 < 246) : GoodIn sx_tw (sx_Ws mi2) := by
  intro w2 hw
  unfold sx_Ws at hw
  rcases List.mem_cons.mp hw with rfl | hw
  · have h1 := (sx_mfacts hm (sx_codes hm)).1
    exact ⟨h1, (sx_twg _ h1).2⟩
  · exact ⟨hw, (sx_twg _ hw).2⟩
theorem sx_goodI {w2 : Cond} (h : w2 ∈ sx_tw) : w2 ∈ sx_tw ∧ ((w2.onTables && w2.keeps) = true ∨ ∃ ty, w2 = .arrayClass ty) := ⟨h, (sx_twg _ h).2⟩
def sx_CT (l : Launch) (D : va_G) (dA : Nat → ClassId) (h0 : Nat) (sa : Nat → Nat) (xs : Option (List Int32)) (md : Bool) (f : Nat) : Prop := ∀ (d mi : Nat) (as : List Value) (w : List sx_C) (r : Option Value) (w2 : List sx_C), mi < 246 → (as.map (fun v => v.category)).sum ≤ sx_maxL mi → sx_run md xs f d mi 0 (lv_args 0 as) [] w = some (r, w2) → Met l (sx_M mi).1 (sx_Ws mi) (sx_rm mi (sx_ck md (sx_cn0 md w) w2) (sx_cs md (sx_cz0 md w) w2)) (sx_Pc D dA h0 sa xs md as w) (sx_Qc D dA h0 sa md r w2) (sx_ck md (sx_cn0 md w) w2) (sx_cs md (sx_cz0 md w) w2) (sx_A h0)
theorem sx_ml_use {idx : Nat} {q : Nat × Nat} (hmi : mi < 247) (h : sx_lk (sx_ml (sx_own mi)) idx = some q) : q.1 < 246 ∧ Cond.methodLink (sx_cn.getD (sx_own mi) "") idx (sx_M q.1).1 ∈ sx_tw := by
  have h1 := List.all_eq_true.mp (sx_all sx_mok (sx_own_lt mi hmi)) _ (sx_lk_mem _ _ _ h)
  rw [Bool.and_eq_true] at h1
  exact ⟨Nat.le_of_ble_eq_true h1.1, sx_twm (sx_memp h1.2) rfl⟩
theorem sx_mn_use {idx : Nat} {q : Nat × Nat} (hmi : mi < 247) (h : sx_lk (sx_mn (sx_own mi)) idx = some q) : q.1 < 246 := by
  have h1 := List.all_eq_true.mp (sx_all sx_nok (sx_own_lt mi hmi)) _ (sx_lk_mem _ _ _ h)
  rw [Bool.and_eq_true] at h1
  exact Nat.le_of_ble_eq_true h1.1
theorem sx_stk {n : Nat} (st : List Value) : st.map (sx_v h0 sa) = (((st.take n).reverse).map (sx_v h0 sa)).reverse ++ (st.drop n).map (sx_v h0 sa) := by
  rw [List.map_reverse, List.reverse_reverse, ← List.map_append, List.take_append_drop]
theorem sx_roomC {mi0 K N : Nat} (hc : sx_crS mi0 mi) (hf : sx_fr mi0 + 2 ≤ R.frames) (hl : sx_lo mi0 + 30 ≤ R.locals) : (sx_rm mi K N).frames + 1 ≤ R.frames ∧ 8 + ((sx_M mi).2.2.1 + 11) + (sx_rm mi K N).locals ≤ R.locals := by
  obtain ⟨h1, h2⟩ := hc
  unfold sx_maxL at h2
  refine ⟨by show sx_fr mi + 2 + 1 ≤ R.frames; omega, ?_⟩
  show 8 + ((sx_M mi).2.2.1 + 11) + (sx_lo mi + 30) ≤ R.locals
  omega
theorem sx_callS {idx mi2 d2 : Nat} {as rest : List Value} {r : Option Value} {w2 : List sx_C} {n : Nat} (X : sx_Ctx p s m args meth c R D dA h0 sa xs mi (d2 + 1)) (hi : sx_ins mi pc = some (.invokestatic idx, n)) (hn : n = 3) (hinv : sx_inv mi (.invokestatic idx) st w = some (mi2, as, rest)) {f : Nat} (hC : sx_CT l D dA h0 sa xs md f) (hsum : (as.map (fun v => v.category)).sum ≤ sx_maxL mi2) (hrun : sx_run md xs f d2 mi2 0 (lv_args 0 as) [] w = some (r, w2)) (hx2 : sx_ext w w2) (hR : sx_ck md n0 w2 ≤ R.cells ∧ sx_cs md z0 w2 ≤ R.slots) (K : sx_J p l e R s m args below meth c D dA h0 sa md n0 z0 (sx_maxL mi) Q (pc + 3, ls, r.toList ++ rest, w2)) : sx_J p l e R s m args below meth c D dA h0 sa md n0 z0 (sx_maxL mi) Q (pc, ls, st, w) := by
  subst hn
  obtain ⟨hx, hb, hml, hown, hts, hnm, hfr, hlo, hG, hh, hmi⟩ := X
  have hd := sx_decs hmi hi
  have hcr := sx_cri_s (sx_crI hmi hi)
  unfold sx_inv at hinv
  simp only at hinv
  split at hinv
  · rename_i q hq
    cases hbt : (Nat.beq (sx_kd q.1) 0 && Nat.ble (sx_nar q.1) st.length && Nat.ble ((st.drop (sx_nar q.1)).map (fun v => v.category)).sum 8) with
    | false => rw [hbt] at hinv; cases hinv
    | true =>
      rw [hbt] at hinv
      simp only [cond_true, Option.some.injEq, Prod.mk.injEq] at hinv
      obtain ⟨rfl, rfl, rfl⟩ := hinv
      simp only [Bool.and_eq_true] at hbt
      obtain ⟨⟨g1, g2⟩, g3⟩ := hbt
      obtain ⟨hm2, hlk⟩ := sx_ml_use hmi hq
      obtain ⟨f1, f2, f3, f4, f5, f6, f7⟩ := sx_mfacts hm2 (sx_codes hm2)
      have hv := sx_all sx_vcok hm2
      unfold sx_vchk at hv
      rw [Nat.eq_of_beq_eq_true g1] at hv
      have hstat := sx_twm (sx_memp hv) (rfl : goodWord (.static (sx_M q.1).1) = true)
      have hMet := hC d2 q.1 _ w r w2 hm2 hsum hrun
      intro H locs lsA hP hS hl h1 h2
      have h1 : n0 ≤ w.length := h1
      have h2 : z0 ≤ sx_sz w := h2
      have hl1 : lv_has lsA (sx_maxL mi) (ls.map (sx_q h0 sa)) := hl
      have hG2 : GoodIn sx_tw (va_wsS (sx_cn.getD (sx_own mi) "") idx (sx_M q.1).1 (sx_Ws q.1)) := by
        intro w9 hw
        unfold va_wsS at hw
        rcases List.mem_append.mp hw with hw | hw
        · simp only [List.mem_cons, List.mem_singleton, List.not_mem_nil, or_false] at hw
          rcases hw with rfl | rfl | rfl
          · exact sx_goodI hlk
          · exact sx_goodI hstat
          · exact sx_goodI f2
        · exact sx_goodW hm2 w9 hw
      refine sx_after (rest := (st.drop (sx_nar q.1)).map (sx_v h0 sa)) (va_runS (Ts := sx_tw) (ws := sx_Ws q.1) (bytes := (sx_M q.1).2.1) (maxL := (sx_M q.1).2.2.1) (ret := (sx_M q.1).2.2.2.1) (n := sx_nar q.1) (nL := sx_maxL mi) (As := ((st.take (sx_nar q.1)).reverse).map (sx_v h0 sa)) (rest := (st.drop (sx_nar q.1)).map (sx_v h0 sa)) ⟨hx, hb, hml, hown, hts⟩ hMet (va_cwS (sx_nar q.1) hts hG2 rfl rfl rfl ⟨f6.1, f6.2, f5⟩ (sx_roomC (sx_crk_l hcr hq) hfr hlo)) (sx_pre hG hS hP hh) rfl ?_ hl1.1 (sx_stk st) (lv_room (by rw [sx_cat_map]; exact Nat.le_of_ble_eq_true g3)) hd ?_) hS ?_
      · rw [List.length_map, List.length_reverse, List.length_take]
        exact Nat.min_eq_left (Nat.le_of_ble_eq_true g2)
      · rw [show sx_ck md n0 (pc, ls, st, w).2.2.2 = sx_ck md n0 w from rfl, show sx_cs md z0 (pc, ls, st, w).2.2.2 = sx_cs md z0 w from rfl, sx_ck_cat h1 (fun _ => hx2.1), sx_cs_cat h2 (fun _ => hx2.2)]
        exact hR
      · intro H1 locs1 hP1 hS1
        rw [show sx_ck md n0 (pc, ls, st, w).2.2.2 = sx_ck md n0 w from rfl, show sx_cs md z0 (pc, ls, st, w).2.2.2 = sx_cs md z0 w from rfl, sx_ck_cat h1 (fun _ => hx2.1), sx_cs_cat h2 (fun _ => hx2.2)]
        have K1 := K H1 locs1 lsA hP1 hS1 hl (by
          show n0 ≤ w2.length
          exact Nat.le_trans h1 hx2.1) (by
          show z0 ≤ sx_sz w2
          exact Nat.le_trans h2 hx2.2)
        have e9 : (r.toList ++ st.drop (sx_nar q.1)).map (sx_v h0 sa) = (r.map (sx_v h0 sa)).toList ++ (st.drop (sx_nar q.1)).map (sx_v h0 sa) := by cases r <;> simp
        rw [← e9]
        exact K1
  · cases hinv
theorem sx_kk {rest : List Value} {r : Option Value} {w2 : List sx_C} {lsA : Array Slot} (hx2 : sx_ext w w2) (K : sx_J p l e R s m args below meth c D dA h0 sa md n0 z0 (sx_maxL mi) Q (pc + 3, ls, r.toList ++ rest, w2)) (hl : lv_has lsA (sx_maxL mi) (ls.map (sx_q h0 sa))) (h1 : n0 ≤ w.length) (h2 : z0 ≤ sx_sz w) : ∀ (H1 : Heap) (locs1 : List Loc), sx_P D dA h0 sa md w2 H1 → va_S (sx_A h0) s.heap H1 locs1 → W p l e R s m args below meth c H1 locs1 (sx_ck md n0 w + sx_ck md (sx_cn0 md w) w2) (sx_cs md z0 w + sx_cs md (sx_cz0 md w) w2) Q (F0 m (pc + 3) lsA ((r.map (sx_v h0 sa)).toList ++ rest.map (sx_v h0 sa))) := by
  intro H1 locs1 hP1 hS1
  rw [sx_ck_cat h1 (fun _ => hx2.1), sx_cs_cat h2 (fun _ => hx2.2)]
  have K1 := K H1 locs1 lsA hP1 hS1 hl (Nat.le_trans h1 hx2.1) (Nat.le_trans h2 hx2.2)
  have e9 : (r.toList ++ rest).map (sx_v h0 sa) = (r.map (sx_v h0 sa)).toList ++ rest.map (sx_v h0 sa) := by cases r <;> simp
  rw [← e9]
  exact K1
theorem sx_callV {idx mi2 d2 : Nat} {as rest : List Value} {r : Option Value} {w2 : List sx_C} {n : Nat} (X : sx_Ctx p s m args meth c R D dA h0 sa xs mi (d2 + 1)) (hi : sx_ins mi pc = some (.invokevirtual idx, n)) (hn : n = 3) (hinv : sx_inv mi (.invokevirtual idx) st w = some (mi2, as, rest)) {f : Nat} (hC : sx_CT l D dA h0 sa xs md f) (hsum : (as.map (fun v => v.category)).sum ≤ sx_maxL mi2) (hrun : sx_run md xs f d2 mi2 0 (lv_args 0 as) [] w = some (r, w2)) (hx2 : sx_ext w w2) (hR : sx_ck md n0 w2 ≤ R.cells ∧ sx_cs md z0 w2 ≤ R.slots) (K : sx_J p l e R s m args below meth c D dA h0 sa md n0 z0 (sx_maxL mi) Q (pc + 3, ls, r.toList ++ rest, w2)) : sx_J p l e R s m args below meth c D dA h0 sa md n0 z0 (sx_maxL mi) Q (pc, ls, st, w) := by
  subst hn
  obtain ⟨hx, hb, hml, hown, hts, hnm, hfr, hlo, hG, hh, hmi⟩ := X
  have hd := sx_decs hmi hi
  have hcr := sx_cri_v (sx_crI hmi hi)
  unfold sx_inv at hinv
  simp only at hinv
  split at hinv
  · rename_i q hq
    split at hinv
    · rename_i a r9 hdr
      split at hinv
      · rename_i ci fs hw
        cases hbt : (Nat.beq (sx_kd q.1) 1 && Nat.beq ci (sx_own q.1) && Nat.ble (r9.map (fun v => v.category)).sum 8) with
        | false => rw [hbt] at hinv; cases hinv
        | true =>
          rw [hbt] at hinv
          simp only [cond_true, Option.some.injEq, Prod.mk.injEq] at hinv
          obtain ⟨rfl, rfl, rfl⟩ := hinv
          simp only [Bool.and_eq_true] at hbt
          obtain ⟨⟨g1, g2⟩, g3⟩ := hbt
          obtain ⟨hm2, hlk⟩ := sx_ml_use hmi hq
          obtain ⟨f1, f2, f3, f4, f5, f6, f7⟩ := sx_mfacts hm2 (sx_codes hm2)
          have hv := sx_all sx_vcok hm2
          unfold sx_vchk at hv
          rw [Nat.eq_of_beq_eq_true g1] at hv
          simp only [Bool.and_eq_true] at hv
          have hinst := sx_twm (sx_memp hv.1) (rfl : goodWord (.instanceMethod (sx_M q.1).1) = true)
          have hsel := sx_twm (sx_memp hv.2.1) (rfl : goodWord (.selects (sx_M q.1).1.cls (sx_M q.1).1 (sx_M q.1).1) = true)
          have hMet := hC d2 q.1 _ w r w2 hm2 hsum hrun
          have hci : ci = sx_own q.1 := Nat.eq_of_beq_eq_true g2
          intro H locs lsA hP hS hl h1 h2
          have h1 : n0 ≤ w.length := h1
          have h2 : z0 ≤ sx_sz w := h2
          have hl1 : lv_has lsA (sx_maxL mi) (ls.map (sx_q h0 sa)) := hl
          have hG2 : GoodIn sx_tw (wsV (sx_cn.getD (sx_own mi) "") idx (sx_M q.1).1.cls (sx_M q.1).1 (sx_Ws q.1)) := by
            intro w9 hw
            unfold wsV at hw
            rcases List.mem_append.mp hw with hw | hw
            · simp only [List.mem_cons, List.mem_singleton, List.not_mem_nil, or_false] at hw
              rcases hw with rfl | rfl | rfl | rfl
              · exact sx_goodI hlk
              · exact sx_goodI hinst
              · exact sx_goodI hsel
              · exact sx_goodI f2
            · exact sx_goodW hm2 w9 hw
          obtain ⟨⟨C, T, N⟩, hcq⟩ : ∃ cq : vw_C, sx_cl[ci]? = some cq := by
            obtain ⟨r8, hr8, -⟩ := hP.at hw
            exact ⟨r8, hr8⟩
          have hC9 : C = (sx_M q.1).1.cls := by
            have e1 : C = sx_cn.getD ci "" := (sx_cok hcq).2.2.2.2.2.2.2.2
            rw [e1, hci, f3]
          have hrec := va_recv hG.1 (hP.one hw) (ci := ci) (q0 := 0) hcq rfl
          have hlen : sx_nar q.1 ≤ st.length := by
            have := congrArg List.length hdr
            rw [List.length_drop, List.length_cons] at this
            omega
          have hpre := sx_pre (xs := xs) (md := md) (as := .ref a :: (st.take (sx_nar q.1)).reverse) hG hS hP hh
          refine sx_after (rest := r9.map (sx_v h0 sa)) (va_runV (Ts := sx_tw) (ws := sx_Ws q.1) (C := (sx_M q.1).1.cls) (bytes := (sx_M q.1).2.1) (maxL := (sx_M q.1).2.2.1) (ret := (sx_M q.1).2.2.2.1) (n := sx_nar q.1) (nL := sx_maxL mi) (b := h0 + a) (As := ((st.take (sx_nar q.1)).reverse).map (sx_v h0 sa)) (rest := r9.map (sx_v h0 sa)) ⟨hx, hb, hml, hown, hts⟩ hMet (cwV (sx_nar q.1) hts hG2 rfl rfl rfl ⟨rfl, f6.1, f6.2, f5⟩ (sx_roomC (sx_crk_l hcr hq) hfr hlo)) ⟨sx_blind, by rw [← hC9]; exact hrec, hpre.2⟩ rfl ?_ hl1.1 ?_ (lv_room (by rw [sx_cat_map]; exact Nat.le_of_ble_eq_true g3)) hd ?_) hS (sx_kk hx2 K hl1 h1 h2)
          · rw [List.length_map, List.length_reverse, List.length_take]
            exact Nat.min_eq_left hlen
          · show st.map (sx_v h0 sa) = _
            rw [sx_stk (n := sx_nar q.1) st, hdr]
            rfl
          · rw [show sx_ck md n0 (pc, ls, st, w).2.2.2 = sx_ck md n0 w from rfl, show sx_cs md z0 (pc, ls, st, w).2.2.2 = sx_cs md z0 w from rfl, sx_ck_cat h1 (fun _ => hx2.1), sx_cs_cat h2 (fun _ => hx2.2)]
            exact hR
      · cases hinv
    · cases hinv
  · cases hinv
theorem sx_callI {idx mi2 d2 : Nat} {as rest : List Value} {r : Option Value} {w2 : List sx_C} {n : Nat} (X : sx_Ctx p s m args meth c R D dA h0 sa xs mi (d2 + 1)) (hi : sx_ins mi pc = some (.invokespecial idx, n)) (hn : n = 3) (hinv : sx_inv mi (.invokespecial idx) st w = some (mi2, as, rest)) {f : Nat} (hC : sx_CT l D dA h0 sa xs md f) (hsum : (as.map (fun v => v.category)).sum ≤ sx_maxL mi2) (hrun : sx_run md xs f d2 mi2 0 (lv_args 0 as) [] w = some (r, w2)) (hx2 : sx_ext w w2) (hR : sx_ck md n0 w2 ≤ R.cells ∧ sx_cs md z0 w2 ≤ R.slots) (K : sx_J p l e R s m args below meth c D dA h0 sa md n0 z0 (sx_maxL mi) Q (pc + 3, ls, r.toList ++ rest, w2)) : sx_J p l e R s m args below meth c D dA h0 sa md n0 z0 (sx_maxL mi) Q (pc, ls, st, w) := by
  subst hn
  obtain ⟨hx, hb, hml, hown, hts, hnm, hfr, hlo, hG, hh, hmi⟩ := X
  have hd := sx_decs hmi hi
  have hcr := sx_cri_i (sx_crI hmi hi)
  unfold sx_inv at hinv
  simp only at hinv
  split at hinv
  · rename_i q hq
    split at hinv
    · rename_i a r9
      cases hbt : (Nat.beq (sx_kd q.1) 2 && Nat.beq (sx_nar q.1) 0 && Nat.ble (r9.map (fun v => v.category)).sum 8) with
      | false => rw [hbt] at hinv; cases hinv
      | true =>
        rw [hbt] at hinv
        simp only [cond_true, Option.some.injEq, Prod.mk.injEq] at hinv
        obtain ⟨rfl, rfl, rfl⟩ := hinv
        simp only [Bool.and_eq_true] at hbt
        obtain ⟨⟨g1, g2⟩, g3⟩ := hbt
        obtain ⟨hm2, hlk⟩ := sx_ml_use hmi hq
        obtain ⟨f1, f2, f3, f4, f5, f6, f7⟩ := sx_mfacts hm2 (sx_codes hm2)
        have hv := sx_all sx_vcok hm2
        unfold sx_vchk at hv
        rw [Nat.eq_of_beq_eq_true g1] at hv
        simp only [Bool.and_eq_true] at hv
        have hinst := sx_twm (sx_memp hv.1) (rfl : goodWord (.instanceMethod (sx_M q.1).1) = true)
        have hret : (sx_M q.1).2.2.2.1 = none := of_decide_eq_true hv.2.2
        have hMet := hC d2 q.1 _ w r w2 hm2 hsum hrun
        have hW9 : sx_Ws q.1 = Cond.code (sx_M q.1).1 (sx_M q.1).2.1 (sx_M q.1).2.2.1 none :: sx_tw := by unfold sx_Ws; rw [hret]
        intro H locs lsA hP hS hl h1 h2
        have h1 : n0 ≤ w.length := h1
        have h2 : z0 ≤ sx_sz w := h2
        have hl1 : lv_has lsA (sx_maxL mi) (ls.map (sx_q h0 sa)) := hl
        have hpre := sx_pre (xs := xs) (md := md) (as := [.ref a]) hG hS hP hh
        refine sx_after (rest := r9.map (sx_v h0 sa)) (va_runI (Ts := sx_tw) (ws := sx_Ws q.1) (bytes := (sx_M q.1).2.1) (maxL := (sx_M q.1).2.2.1) (n := 0) (nL := sx_maxL mi) (b := h0 + a) (As := []) (rest := r9.map (sx_v h0 sa)) ⟨hx, hb, hml, hown, hts⟩ hMet (cwI 0 hts (sx_goodW hm2) hW9 rfl rfl (hts _ f2) (hts _ hlk) (hts _ hinst) (of_decide_eq_true hv.2.1) ⟨f6.1, f6.2, by rw [f5, Nat.eq_of_beq_eq_true g2]⟩ (sx_roomC (sx_crk_l hcr hq) hfr hlo)) hpre rfl rfl hl1.1 rfl (lv_room (by rw [sx_cat_map]; exact Nat.le_of_ble_eq_true g3)) hd ?_) hS (sx_kk hx2 K hl1 h1 h2)
        rw [show sx_ck md n0 (pc, ls, Value.ref a :: r9, w).2.2.2 = sx_ck md n0 w from rfl, show sx_cs md z0 (pc, ls, Value.ref a :: r9, w).2.2.2 = sx_cs md z0 w from rfl, sx_ck_cat h1 (fun _ => hx2.1), sx_cs_cat h2 (fun _ => hx2.2)]
        exact hR
    · cases hinv
  · split at hinv
    · rename_i q hq
      split at hinv
      · rename_i a r9
        cases hbt : (Nat.beq (sx_kd q.1) 2 && Nat.beq (sx_nar q.1) 0 && Nat.ble (r9.map (fun v => v.category)).sum 8) with
        | false => rw [hbt] at hinv; cases hinv
        | true =>
          rw [hbt] at hinv
          simp only [cond_true, Option.some.injEq, Prod.mk.injEq] at hinv
          obtain ⟨rfl, rfl, rfl⟩ := hinv
          simp only [Bool.and_eq_true] at hbt
          obtain ⟨⟨g1, g2⟩, g3⟩ := hbt
          have hm2 := sx_mn_use hmi hq
          have hnw := hG.2.2.2.2.2.2.1 (sx_own mi) _ (sx_lk_mem _ _ _ hq)
          obtain ⟨f1, f2, f3, f4, f5, f6, f7⟩ := sx_mfacts hm2 (sx_codes hm2)
          have hv := sx_all sx_vcok hm2
          unfold sx_vchk at hv
          rw [Nat.eq_of_beq_eq_true g1] at hv
          simp only [Bool.and_eq_true] at hv
          have hinst := sx_twm (sx_memp hv.1) (rfl : goodWord (.instanceMethod (sx_M q.1).1) = true)
          have hret : (sx_M q.1).2.2.2.1 = none := of_decide_eq_true hv.2.2
          have hMet := hC d2 q.1 _ w r w2 hm2 hsum hrun
          have hW9 : sx_Ws q.1 = Cond.code (sx_M q.1).1 (sx_M q.1).2.1 (sx_M q.1).2.2.1 none :: sx_tw := by unfold sx_Ws; rw [hret]
          intro H locs lsA hP hS hl h1 h2
          have h1 : n0 ≤ w.length := h1
          have h2 : z0 ≤ sx_sz w := h2
          have hl1 : lv_has lsA (sx_maxL mi) (ls.map (sx_q h0 sa)) := hl
          have hpre := sx_pre (xs := xs) (md := md) (as := [.ref a]) hG hS hP hh
          refine sx_after (rest := r9.map (sx_v h0 sa)) (va_runIN (Ts := sx_tw) (ws := sx_Ws q.1) (host := "PeasDrum") (bytes := (sx_M q.1).2.1) (maxL := (sx_M q.1).2.2.1) (n := 0) (nL := sx_maxL mi) (b := h0 + a) (As := []) (rest := r9.map (sx_v h0 sa)) ⟨hx, hb, hml, hown, hts⟩ hMet ⟨va_cnB 0 hts (sx_goodW hm2) hW9 rfl rfl hnw (hts _ f2) ⟨f6.1, f6.2, by rw [f5, Nat.eq_of_beq_eq_true g2]⟩ (sx_roomC (sx_crk_n hcr hq) hfr hlo), of_decide_eq_true hv.2.1, hts _ hinst⟩ hpre rfl rfl hl1.1 rfl (lv_room (by rw [sx_cat_map]; exact Nat.le_of_ble_eq_true g3)) hd ?_) hS (sx_kk hx2 K hl1 h1 h2)
          rw [show sx_ck md n0 (pc, ls, Value.ref a :: r9, w).2.2.2 = sx_ck md n0 w from rfl, show sx_cs md z0 (pc, ls, Value.ref a :: r9, w).2.2.2 = sx_cs md z0 w from rfl, sx_ck_cat h1 (fun _ => hx2.1), sx_cs_cat h2 (fun _ => hx2.2)]
          exact hR
      · cases hinv
    · cases hinv
end SXR
end
-- 16.sound.lean.txt
section
def sx_HQ (p : Program) (l : Launch) (e : Env) (R : Room) (s : State) (m : MethodId) (args : Array Value) (below : List Frame) (meth : Method) (c : Code) (D : va_G) (dA : Nat → ClassId) (h0 : Nat) (sa : Nat → Nat) (md : Bool) (n0 z0 mi : Nat) (Q : State → Prop) (r : Option Value) (w2 : List sx_C) : Prop :=
  ∀ (H : Heap) (locs : List Loc) (lsA : Array Slot) (pc : Nat) (st : List Value) (i : Instr), decode (sx_M mi).2.1 pc = .ok (i, 1) → sx_ret mi i st = some r → sx_P D dA h0 sa md w2 H → va_S (sx_A h0) s.heap H locs → W p l e R s m args below meth c H locs (sx_ck md n0 w2) (sx_cs md z0 w2) Q (F0 m pc lsA (st.map (sx_v h0 sa)))
def sx_BD (l : Launch) (D : va_G) (dA : Nat → ClassId) (h0 : Nat) (sa : Nat → Nat) (xs : Option (List Int32)) (md : Bool) (f : Nat) : Prop :=
  ∀ (p : Program) (e : Env) (R : Room) (s : State) (m : MethodId) (args : Array Value) (below : List Frame) (meth : Method) (c : Code) (Q : State → Prop) (n0 z0 d mi pc : Nat) (ls : sx_L) (st : List Value) (w : List sx_C) (r : Option Value) (w2 : List sx_C), sx_Ctx p s m args meth c R D dA h0 sa xs mi d → sx_run md xs f d mi pc ls st w = some (r, w2) → (sx_ck md n0 w2 ≤ R.cells ∧ sx_cs md z0 w2 ≤ R.slots) → sx_HQ p l e R s m args below meth c D dA h0 sa md n0 z0 mi Q r w2 → sx_J p l e R s m args below meth c D dA h0 sa md n0 z0 (sx_maxL mi) Q (pc, ls, st, w)
theorem sx_cbeq {α : Type} {n k : Nat} {x : Option α} {v : α} (h : cond (Nat.beq n k) x none = some v) : n = k ∧ x = some v := by
  cases hb : Nat.beq n k with
  | false => rw [hb] at h; cases h
  | true => rw [hb] at h; exact ⟨Nat.eq_of_beq_eq_true hb, h⟩
theorem sx_inv_i {mi : Nat} {i : Instr} {st : List Value} {w : List sx_C} {q : Nat × List Value × List Value} (h : sx_inv mi i st w = some q) : (∃ k, i = .invokestatic k) ∨ (∃ k, i = .invokevirtual k) ∨ (∃ k, i = .invokespecial k) := by
  unfold sx_inv at h
  split at h
  · exact Or.inl ⟨_, rfl⟩
  · exact Or.inr (Or.inl ⟨_, rfl⟩)
  · exact Or.inr (Or.inr ⟨_, rfl⟩)
  · cases h
theorem sx_bodyS (hM : sx_MNA) {l : Launch} {D : va_G} {dA : Nat → ClassId} {h0 : Nat} {sa : Nat → Nat} {xs : Option (List Int32)} {md : Bool} {f : Nat} (hC : sx_CT l D dA h0 sa xs md f) (hB : sx_BD l D dA h0 sa xs md f) : sx_BD l D dA h0 sa xs md (f + 1) := by
  intro p e R s m args below meth c Q n0 z0 d mi pc ls st w r w2 X h hR HQ
  have hmi : mi < 247 := X.2.2.2.2.2.2.2.2.2.2
  unfold sx_run at h
  split at h
  · cases h
  · rename_i i n hi
    have hd := sx_decs hmi hi
    split at h
    · rename_i pc2 ls2 st2 w3 hs
      have hx := sx_x_run md xs f d mi pc2 ls2 st2 w3 r w2 h
      exact sx_step_ok hM X hd (fun hz => (fun q : 3 ≤ sx_fr mi ∧ 75 ≤ sx_lo mi => ⟨Nat.le_trans (Nat.add_le_add_right q.1 2) X.2.2.2.2.2.2.1, Nat.le_trans (Nat.add_le_add_right q.2 30) X.2.2.2.2.2.2.2.1⟩) (sx_cri_str (sx_crI hmi hi) hz)) hs ⟨Nat.le_trans (sx_ck_le (fun _ => hx)) hR.1, Nat.le_trans (sx_cs_le (fun _ => hx)) hR.2⟩ (hB p e R s m args below meth c Q n0 z0 d mi pc2 ls2 st2 w3 r w2 X h hR HQ)
    · split at h
      · rename_i r2 hr
        obtain ⟨hn, hr⟩ := sx_cbeq hr
        cases h
        subst hn
        exact fun H locs lsA hP hS hl h1 h2 => HQ H locs lsA pc st i hd hr hP hS
      · split at h
        · rename_i mi2 as rest d2 hinv
          obtain ⟨hn, hinv⟩ := sx_cbeq hinv
          simp only [Bool.cond_eq_ite] at h
          split at h
          · rename_i hsum
            have hsum := Nat.le_of_ble_eq_true hsum
            split at h
            · rename_i r2 w4 hc
              have hx1 := sx_x_run md xs f d2 mi2 0 _ [] w r2 w4 hc
              have hx2 := sx_x_run md xs f (d2 + 1) mi (pc + 3) ls _ w4 r w2 h
              have K := hB p e R s m args below meth c Q n0 z0 (d2 + 1) mi (pc + 3) ls (r2.toList ++ rest) w4 r w2 X h hR HQ
              have hR2 : sx_ck md n0 w4 ≤ R.cells ∧ sx_cs md z0 w4 ≤ R.slots := ⟨Nat.le_trans (sx_ck_le (fun _ => hx2)) hR.1, Nat.le_trans (sx_cs_le (fun _ => hx2)) hR.2⟩
              rcases sx_inv_i hinv with ⟨k, rfl⟩ | ⟨k, rfl⟩ | ⟨k, rfl⟩
              · exact sx_callS X hi hn hinv hC hsum hc hx1 hR2 K
              · exact sx_callV X hi hn hinv hC hsum hc hx1 hR2 K
              · exact sx_callI X hi hn hinv hC hsum hc hx1 hR2 K
            · cases h
          · cases h
        · cases h
theorem sx_vbool {v : Int32} (h : (v == 0 || v == 1) = true) : narrow .boolean (.int v) = .int v := by
  simp only [Bool.or_eq_true, beq_iff_eq] at h
  rcases h with rfl | rfl
  · rfl
  · rfl
theorem sx_metS {l : Launch} {D : va_G} {dA : Nat → ClassId} {h0 : Nat} {sa : Nat → Nat} {xs : Option (List Int32)} {md : Bool} {f : Nat} (hB : sx_BD l D dA h0 sa xs md f) : sx_CT l D dA h0 sa xs md f := by
  intro d mi as w r w2 hm hsum hrun
  obtain ⟨f1, f2, f3, f4, f5, f6, f7⟩ := sx_mfacts hm (sx_codes hm)
  refine va_MetF (cc := (sx_M mi).2.1) (maxL := (sx_M mi).2.2.1) (ret := (sx_M mi).2.2.2.1) f7 rfl ?_
  intro p e s m args below meth c s₁ B hml hv
  obtain ⟨rfl, hG, hP, hh⟩ := hv
  have hx := B.exec
  have hb := B.bytes
  have hr := B.returns
  have hts0 := atoms_spec (ws := sx_Ws mi) B.pre
  have hown : s.vm.findClass (sx_M mi).1.cls = some m.cls := findClass_of_methodNamed B.named
  have hlocks := B.notSynchronized
  have hnm : meth.name = (sx_M mi).1.name := (name_of_methodNamed B.named B.method).1
  rw [f3] at hown
  have X : sx_Ctx p s m (as.map (sx_v h0 sa)).toArray meth c (headSpec (sx_Ws mi) (sx_rm mi (sx_ck md (sx_cn0 md w) w2) (sx_cs md (sx_cz0 md w) w2))).room D dA h0 sa xs mi d := ⟨hx, hb, hml, hown, fun w9 h9 => hts0 w9 (List.mem_cons_of_mem _ h9), fun _ => hnm, Nat.le_refl _, Nat.le_refl _, hG, hh, by omega⟩
  have hl := lv_entry (as.map (sx_v h0 sa)) (n := (sx_M mi).2.2.1) (by rw [sx_sl_len]; exact hsum)
  rw [lg_entry_eq]
  generalize (lg_sl (as.map (sx_v h0 sa)) ++ List.replicate ((sx_M mi).2.2.1 - (lg_sl (as.map (sx_v h0 sa))).length) Slot.unset).toArray = lsA at hl ⊢
  rw [sx_args_map] at hl
  have J := hB p e _ s m _ below meth c (MQ below (sx_Qc D dA h0 sa md r w2) (as.map (sx_v h0 sa)).toArray s (sx_ck md (sx_cn0 md w) w2) (sx_cs md (sx_cz0 md w) w2) (sx_A h0)) (sx_cn0 md w) (sx_cz0 md w) d mi 0 (lv_args 0 as) [] w r w2 X hrun ⟨Nat.le_refl _, Nat.le_refl _⟩ (by
    intro H locs lsB pc st i hd hret hP2 hS
    have hq : ∀ t : State, t.heap = H → s.WarmedH t.vm → sx_Qc D dA h0 sa md r w2 (as.map (sx_v h0 sa)).toArray s (.returned (r.map (sx_v h0 sa))) t := fun t ht hW => ⟨rfl, by rw [ht]; exact hP2, hS.F ht⟩
    unfold sx_ret at hret
    split at hret
    · rename_i v he
      cases hret
      exact W.iret hx hb (hr.trans he) hq hS.2.2 hd
    · rename_i v he
      cases hbt : (v == 0 || v == 1) with
      | false => rw [hbt] at hret; cases hret
      | true =>
        rw [hbt] at hret
        cases hret
        exact W.zret hx hb (hr.trans he) (sx_vbool hbt) hq hS.2.2 hd
    · rename_i v he
      cases hret
      exact W.lret hx hb (hr.trans he) hq hS.2.2 hd
    · rename_i C v he
      cases hret
      exact W.aret hx hb (hr.trans he) (Or.inl ⟨_, rfl⟩) (Or.inr ⟨_, rfl⟩) hq hS.2.2 hd
    · rename_i C v he
      cases hret
      exact W.aret hx hb (hr.trans he) (Or.inl ⟨_, rfl⟩) (Or.inr ⟨_, rfl⟩) hq hS.2.2 hd
    · rename_i C v he
      cases hret
      exact W.aret hx hb (hr.trans he) (Or.inr ⟨_, rfl⟩) (Or.inr ⟨_, rfl⟩) hq hS.2.2 hd
    · rename_i he
      cases hret
      exact W.vret hx hb (hr.trans he) hq hS.2.2 hd
    · cases hret)
  have J1 := J s.heap [] lsA hP va_S.rf hl (sx_cn0_le md w) (sx_cz0_le md w)
  have J2 : W p l e (headSpec (sx_Ws mi) (sx_rm mi (sx_ck md (sx_cn0 md w) w2) (sx_cs md (sx_cz0 md w) w2))).room s m (as.map (sx_v h0 sa)).toArray below meth c s.heap [] (sx_ck md (sx_cn0 md w) w) (sx_cs md (sx_cz0 md w) w) (MQ below (sx_Qc D dA h0 sa md r w2) (as.map (sx_v h0 sa)).toArray s (sx_ck md (sx_cn0 md w) w2) (sx_cs md (sx_cz0 md w) w2) (sx_A h0)) (F0 m 0 lsA []) := J1
  rw [sx_ck_0, sx_cs_0] at J2
  exact J2
theorem sx_sound (hM : sx_MNA) (l : Launch) (D : va_G) (dA : Nat → ClassId) (h0 : Nat) (sa : Nat → Nat) (xs : Option (List Int32)) (md : Bool) : ∀ f : Nat, sx_CT l D dA h0 sa xs md f ∧ sx_BD l D dA h0 sa xs md f
  | 0 => by
    have h0 : sx_BD l D dA h0 sa xs md 0 := by
      intro p e R s m args below meth c Q n0 z0 d mi pc ls st w r w2 X h
      cases h
    exact ⟨sx_metS h0, h0⟩
  | f + 1 => by
    obtain ⟨hC, hB⟩ := sx_sound hM l D dA h0 sa xs md f
    have h1 := sx_bodyS hM hC hB
    exact ⟨sx_metS h1, h1⟩
end
-- 17.mna.lean.txt
section
theorem sx_w_link2 : Cond.classLink "PeasDrum$Sound" 15 "[[I" ∈ sx_tw := sx_twm (sx_memp (i := 200) (by decide +kernel)) rfl
theorem sx_outer (c : ClassId) (N g0 : Nat) : ∀ i : Nat, Jvm.Free.Multi.outerC c N g0 i = arrV c N (fun j => va_rf (if j < i then some (g0 + 1 + j) else none))
  | 0 => by
    show ({ cls := c, slots := Array.replicate N .null, vm := .none } : Cell) = _
    rw [arrV_new]
    exact congrArg (arrV c N) (funext fun j => by simp [va_rf])
  | i + 1 => by
    show (Jvm.Free.Multi.outerC c N g0 i).setSlot i (.ref (g0 + 1 + i)) = _
    rw [sx_outer c N g0 i, arrV_store]
    refine congrArg (arrV c N) (funext fun j => ?_)
    rcases Nat.lt_trichotomy j i with h | h | h
    · simp [updV, Nat.ne_of_lt h, h, Nat.lt_succ_of_lt h]
    · subst h
      simp [updV, va_rf]
    · simp [updV, Nat.ne_of_gt h, Nat.not_lt_of_gt h, show ¬ j < i + 1 by omega]
theorem sx_szr (n : Nat) (cw : sx_C) : sx_sz (List.replicate n cw) = n * sx_s cw := by
  induction n with
  | zero => simp [sx_sz]
  | succ n ih =>
    rw [List.replicate_succ]
    show sx_s cw + sx_sz (List.replicate n cw) = _
    rw [ih, Nat.succ_mul]
    omega
theorem sx_mna_ok : sx_MNA0 := by
  intro p l e R s m args below meth c Q D dA h0 sa n0 z0 nL pc ls st w F xs mi d idx dim X hd h hR K
  obtain ⟨hx, hb, hml, hown, hts, hnm, hfr, hlo, hG, hh, hmi⟩ := X
  unfold sx_mna at h
  split at h
  · rename_i k n r
    cases hbt : (Nat.beq (sx_own mi) 3 && Nat.beq idx 15 && Nat.beq dim 2 && sx_ln n && sx_ln k) with
    | false => rw [hbt] at h; cases h
    | true =>
      rw [hbt] at h
      cases h
      simp only [Bool.and_eq_true] at hbt
      obtain ⟨⟨⟨⟨b1, b2⟩, b3⟩, b4⟩, b5⟩ := hbt
      have hi15 : idx = 15 := Nat.eq_of_beq_eq_true b2
      have hd2 : dim = 2 := Nat.eq_of_beq_eq_true b3
      subst hi15
      subst hd2
      rw [Nat.eq_of_beq_eq_true b1] at hown
      obtain ⟨hn0, hn1⟩ := sx_ln_of b4
      obtain ⟨hk0, hk1⟩ := sx_ln_of b5
      intro H locs lsA hP hS hl h1 h2
      have h1 : n0 ≤ w.length := h1
      have h2 : z0 ≤ sx_sz w := h2
      have hsz : H.size = h0 + w.length := hP.2 rfl
      generalize hN : n.toNatClampNeg = N at *
      generalize hM : k.toNatClampNeg = M at *
      have hR1 : sx_ck true n0 (w ++ (.inr (.inr (.inl (6, (List.range N).map (fun i => some (w.length + 1 + i))))) :: List.replicate N (.inl (0, List.replicate M 0)))) ≤ R.cells := hR.1
      have hR2 : sx_cs true z0 (w ++ (.inr (.inr (.inl (6, (List.range N).map (fun i => some (w.length + 1 + i))))) :: List.replicate N (.inl (0, List.replicate M 0)))) ≤ R.slots := hR.2
      have eL : (w ++ (.inr (.inr (.inl (6, (List.range N).map (fun i => some (w.length + 1 + i))))) :: List.replicate N (.inl (0, List.replicate M 0)) : List sx_C)).length = w.length + 1 + N := by
        rw [List.length_append, List.length_cons, List.length_replicate]
        omega
      have eZ : sx_sz (w ++ (.inr (.inr (.inl (6, (List.range N).map (fun i => some (w.length + 1 + i))))) :: List.replicate N (.inl (0, List.replicate M 0)) : List sx_C)) = sx_sz w + N + N * M := by
        rw [sx_sz_app]
        show sx_sz w + (((List.range N).map (fun i => some (w.length + 1 + i))).length + sx_sz (List.replicate N (.inl (0, List.replicate M 0) : sx_C))) = _
        rw [sx_szr, List.length_map, List.length_range]
        show sx_sz w + (N + N * (List.replicate M (0 : Int32)).length) = _
        rw [List.length_replicate]
        omega
      have eK : sx_ck true n0 (w ++ (.inr (.inr (.inl (6, (List.range N).map (fun i => some (w.length + 1 + i))))) :: List.replicate N (.inl (0, List.replicate M 0)) : List sx_C)) = sx_ck true n0 w + 1 + N := by
        unfold sx_ck
        simp only [cond_true]
        rw [eL]
        omega
      have eS : sx_cs true z0 (w ++ (.inr (.inr (.inl (6, (List.range N).map (fun i => some (w.length + 1 + i))))) :: List.replicate N (.inl (0, List.replicate M 0)) : List sx_C)) = sx_cs true z0 w + N + N * M := by
        unfold sx_cs
        simp only [cond_true]
        rw [eZ]
        omega
      rw [eK] at hR1
      rw [eS] at hR2
      intro T hT Xs
      obtain ⟨vm₁, cA, comp, -, fA, fC, -, -, X', step⟩ := Xs.multianewarray2F hx (own := "PeasDrum$Sound") (index := 15) (ty := .int) hown (hts _ sx_w_link2) hG.2.2.2.2.2.1 (hts _ sx_w_acI) (g := F0 m pc lsA (.int k :: .int n :: r.map (sx_v h0 sa))) rfl (by rw [hb]; exact hd) rfl hn0 hk0 (by rw [hN]; omega) (by rw [hM]; show M * 4 ≤ _; omega) (by rw [hM]; omega) rfl rfl (by rw [hN]; show sx_ck true n0 w + (1 + N) ≤ _; omega) (by rw [hN, hM]; show sx_cs true z0 w + (N + N * M) ≤ _; omega)
      rw [hN, hM] at X' step
      have hcA : cA = dA 6 := by
        have := (hG.1.2 6 _ rfl).2
        exact Option.some.inj (fA.symm.trans this)
      have hcC : comp = dA 0 := by
        have := (hG.1.2 0 _ rfl).2
        exact Option.some.inj (fC.symm.trans this)
      generalize hF : Jvm.Free.Multi.fill (T.setVm vm₁) cA comp N M (defaultValue .int) N = U at X' step
      have hTh : (T.setVm vm₁).heap = H := hT
      obtain ⟨u1, u2, -, -⟩ := Jvm.Free.Multi.fill_facts (T.setVm vm₁) cA comp N M (defaultValue .int) N
      rw [hF, hTh] at u1 u2
      have hold : ∀ x : Nat, x < H.size → U.heap[x]? = H[x]? := fun x hx9 => by
        have := Jvm.Free.Multi.fill_old (T.setVm vm₁) cA comp N M (defaultValue .int) (a := x) (by rw [hTh]; exact hx9) N
        rw [hF, hTh] at this
        exact this
      have hrow : ∀ j : Nat, j < N → U.heap[H.size + 1 + j]? = some (Jvm.Free.Multi.innerC comp M (defaultValue .int)) := fun j hj => by
        have := Jvm.Free.Multi.fill_inner (T.setVm vm₁) cA comp N M (defaultValue .int) N j hj
        rw [hF, hTh] at this
        exact this
      have hP2 : sx_P D dA h0 sa true (w ++ (.inr (.inr (.inl (6, (List.range N).map (fun i => some (w.length + 1 + i))))) :: List.replicate N (.inl (0, List.replicate M 0)) : List sx_C)) U.heap := by
        refine ⟨fun i q hq => ?_, fun _ => by rw [u1, eL, hsz]; omega⟩
        rw [sx_W_get] at hq
        by_cases i1 : i < w.length
        · rw [List.getElem?_append_left i1] at hq
          have hq2 : (sx_W dA h0 sa w)[i]? = some q := by rw [sx_W_get]; exact hq
          exact (hP.1 i q hq2).kept (hold q.1 ((hP.1 i q hq2).lt))
        · rw [List.getElem?_append_right (by omega)] at hq
          by_cases i2 : i = w.length
          · subst i2
            rw [Nat.sub_self] at hq
            cases hq
            show U.heap[h0 + w.length]? = some (vp_cell (dA 6) (((List.range N).map (fun i => some (w.length + 1 + i))).length, .inr (.inr (.inr (.inr (fun j => (((List.range N).map (fun i => some (w.length + 1 + i))).getD j none).map (fun i => h0 + i)))))))
            rw [← hsz, u2, sx_outer, hcA, vp_cell_q, List.length_map, List.length_range]
            refine congrArg (fun z9 => some (arrV (dA 6) N z9)) (funext fun j => ?_)
            rw [List.getD_eq_getElem?_getD, List.getElem?_map]
            by_cases hj : j < N
            · rw [List.getElem?_range hj, if_pos hj, hsz]
              show va_rf (some (h0 + w.length + 1 + j)) = va_rf (some (h0 + (w.length + 1 + j)))
              rw [show h0 + w.length + 1 + j = h0 + (w.length + 1 + j) by omega]
            · rw [List.getElem?_eq_none (by rw [List.length_range]; omega), if_neg hj]
              rfl
          · obtain ⟨j, rfl⟩ : ∃ j, i = w.length + 1 + j := ⟨i - w.length - 1, by omega⟩
            rw [show w.length + 1 + j - w.length = j + 1 by omega, List.getElem?_cons_succ, List.getElem?_replicate] at hq
            by_cases hj : j < N
            · rw [if_pos hj] at hq
              cases hq
              show U.heap[h0 + (w.length + 1 + j)]? = some (vp_cell (dA 0) ((List.replicate M (0 : Int32)).length, .inl (fun j => (List.replicate M (0 : Int32)).getD j 0)))
              rw [show h0 + (w.length + 1 + j) = H.size + 1 + j by omega, hrow j hj, vp_cell_i, List.length_replicate]
              show some ({ cls := comp, slots := Array.replicate M (.int 0), vm := .none } : Cell) = _
              rw [arrV_new, hcC]
              refine congrArg (fun z9 => some (arrV (dA 0) M z9)) (funext fun j => ?_)
              rw [sx_rp]
            · rw [if_neg hj] at hq
              cases hq
      have K1 := K U.heap locs lsA hP2 ⟨Nat.le_trans hS.1 (by rw [u1]; omega), fun q g1 g2 => (hold q (Nat.lt_of_lt_of_le g1 hS.1)).trans (hS.2.1 q g1 g2), hS.2.2⟩ hl (by rw [eL]; omega) (by rw [eZ]; omega)
      have K2 : W p l e R s m args below meth c U.heap locs (sx_ck true n0 (w ++ (.inr (.inr (.inl (6, (List.range N).map (fun i => some (w.length + 1 + i))))) :: List.replicate N (.inl (0, List.replicate M 0)) : List sx_C))) (sx_cs true z0 (w ++ (.inr (.inr (.inl (6, (List.range N).map (fun i => some (w.length + 1 + i))))) :: List.replicate N (.inl (0, List.replicate M 0)) : List sx_C))) Q (F0 m (pc + 4) lsA ((Value.ref w.length :: r).map (sx_v h0 sa))) := K1
      rw [eK, eS] at K2
      obtain ⟨t, a1, a2⟩ := K2 U rfl X'
      refine ⟨t, step t ?_, a2⟩
      have e7 : T.heap.size = h0 + w.length := by rw [hT]; exact hsz
      rw [e7]
      exact a1
  · cases h
end
-- 17b.str.lean.txt
section
abbrev sx_yL : MethodName := ⟨"java/lang/String", "length", "()I"⟩
abbrev sx_yC : MethodName := ⟨"java/lang/String", "coder", "()B"⟩
noncomputable def sx_WL : List Cond := .code sx_yL prog_13_method_54_code 1 (some .int) :: sx_tw
noncomputable def sx_WC : List Cond := .code sx_yC prog_13_method_152_code 1 (some .byte) :: sx_tw
def sx_rmS (f k : Nat) : Room := { frames := f, cells := 0, slots := 0, locals := k }
theorem sx_s_cL : Cond.code sx_yL prog_13_method_54_code 1 (some .int) ∈ sx_tw := sx_twm (sx_memp (i := 707) (by decide +kernel)) rfl
theorem sx_s_cC : Cond.code sx_yC prog_13_method_152_code 1 (some .byte) ∈ sx_tw := sx_twm (sx_memp (i := 711) (by decide +kernel)) rfl
theorem sx_s_iL : Cond.instanceMethod sx_yL ∈ sx_tw := sx_twm (sx_memp (i := 705) (by decide +kernel)) rfl
theorem sx_s_iC : Cond.instanceMethod sx_yC ∈ sx_tw := sx_twm (sx_memp (i := 709) (by decide +kernel)) rfl
theorem sx_s_sL : Cond.selects "java/lang/String" sx_yL sx_yL ∈ sx_tw := sx_twm (sx_memp (i := 706) (by decide +kernel)) rfl
theorem sx_s_sC : Cond.selects "java/lang/String" sx_yC sx_yC ∈ sx_tw := sx_twm (sx_memp (i := 710) (by decide +kernel)) rfl
theorem sx_s_init : Cond.initialized "java/lang/String" ∈ sx_tw := sx_twm (sx_memp (i := 87) (by decide +kernel)) rfl
theorem sx_s_lC : Cond.methodLink "java/lang/String" 335 sx_yC ∈ sx_tw := sx_twm (sx_memp (i := 708) (by decide +kernel)) rfl
theorem sx_s_fZ : Cond.fieldLink "java/lang/String" 38 "java/lang/String" "COMPACT_STRINGS" "Z" ∈ sx_tw := sx_twm (sx_memp (i := 712) (by decide +kernel)) rfl
theorem sx_s_fV : Cond.fieldLink "java/lang/String" 9 "java/lang/String" "value" "[B" ∈ sx_tw := sx_twm (sx_memp (i := 1419) (by decide +kernel)) rfl
theorem sx_s_fC : Cond.fieldLink "java/lang/String" 15 "java/lang/String" "coder" "B" ∈ sx_tw := sx_twm (sx_memp (i := 1420) (by decide +kernel)) rfl
theorem sx_d_L0 : decode prog_13_method_54_code 0 = .ok (.aload_n 0, 1) := by decide +kernel
theorem sx_d_L1 : decode prog_13_method_54_code 1 = .ok (.getfield 9, 3) := by decide +kernel
theorem sx_d_L4 : decode prog_13_method_54_code 4 = .ok (.arraylength, 1) := by decide +kernel
theorem sx_d_L5 : decode prog_13_method_54_code 5 = .ok (.aload_n 0, 1) := by decide +kernel
theorem sx_d_L6 : decode prog_13_method_54_code 6 = .ok (.invokevirtual 335, 3) := by decide +kernel
theorem sx_d_L9 : decode prog_13_method_54_code 9 = .ok (.ishr, 1) := by decide +kernel
theorem sx_d_L10 : decode prog_13_method_54_code 10 = .ok (.ireturn, 1) := by decide +kernel
theorem sx_d_C0 : decode prog_13_method_152_code 0 = .ok (.getstatic 38, 3) := by decide +kernel
theorem sx_d_C3 : decode prog_13_method_152_code 3 = .ok (.ifCond .eq 10, 3) := by decide +kernel
theorem sx_d_C6 : decode prog_13_method_152_code 6 = .ok (.aload_n 0, 1) := by decide +kernel
theorem sx_d_C7 : decode prog_13_method_152_code 7 = .ok (.getfield 15, 3) := by decide +kernel
theorem sx_d_C10 : decode prog_13_method_152_code 10 = .ok (.goto 4, 3) := by decide +kernel
theorem sx_d_C14 : decode prog_13_method_152_code 14 = .ok (.ireturn, 1) := by decide +kernel
theorem sx_goodC {y : MethodName} {cc : ByteArray} {n : Nat} {ret : Option FieldType} (h : Cond.code y cc n ret ∈ sx_tw) : GoodIn sx_tw (.code y cc n ret :: sx_tw) := by
  intro w2 hw
  rcases List.mem_cons.mp hw with rfl | hw
  · exact sx_goodI h
  · exact sx_goodI hw
section SXT
variable {l : Launch} {D : va_G} {dA : Nat → ClassId} {h0 : Nat} {sa : Nat → Nat} {xs : Option (List Int32)} {md : Bool} {w : List sx_C}
theorem sx_metC {k : UInt32} (hk : 100 ≤ k.toNat ∧ k.toNat < 120) : Met l sx_yC sx_WC (sx_rmS 1 20) (sx_Pc D dA h0 sa xs md [.float k] w) (sx_Qc D dA h0 sa md (some (.int 0)) w) 0 0 (sx_A h0) := by
  refine va_MetF (cc := prog_13_method_152_code) (maxL := 1) (ret := some .byte) (by decide) rfl ?_
  intro p e s m args below meth c s₁ B hml hv
  obtain ⟨rfl, hG, hP, hh⟩ := hv
  have hx := B.exec
  have hb := B.bytes
  have hr := B.returns
  have hts0 := atoms_spec (ws := sx_WC) B.pre
  have hts : ∀ w9 ∈ sx_tw, w9.before _ s = true := fun w9 h9 => hts0 w9 (List.mem_cons_of_mem _ h9)
  have hown : s.vm.findClass "java/lang/String" = some m.cls := findClass_of_methodNamed B.named
  have hlocks := B.notSynchronized
  have hT := hG.2.2.2.2.2.2.2
  have hS0 := hT.2.1 (k.toNat - 100) (by omega)
  rw [show 100 + (k.toNat - 100) = k.toNat by omega] at hS0
  have hl := lv_entry ([.ref (sa k.toNat)]) (n := 1) (Nat.le_refl _)
  show W p l e _ s m _ below meth c s.heap [] 0 0 _ (entryFrame m ([Value.ref (sa k.toNat)] : List Value).toArray 1)
  rw [lg_entry_eq]
  generalize (lg_sl ([.ref (sa k.toNat)]) ++ List.replicate (1 - (lg_sl ([.ref (sa k.toNat)])).length) Slot.unset).toArray = lsA at hl ⊢
  have hl0 : lsA[0]? = some (.val (.ref (sa k.toNat))) := hl.2.2 _ List.mem_cons_self
  refine va_gets hx hb (v := .int 1) hT.2.2.1 va_S.rf hown (hts _ sx_s_fZ) (fun _ h9 => h9) sx_d_C0 ?_
  refine lv_if_eq hx hb sx_d_C3 (tgt := 13) rfl (fun h => absurd h (by decide)) (fun _ => ?_)
  refine lv_aload_n hx hb sx_d_C6 rfl hl0 ?_
  refine vk_getf hx hb hS0.2.1 va_S.rf hown (hts _ sx_s_fC) (fun _ h9 => h9) sx_d_C7 ?_
  refine lv_goto hx hb sx_d_C10 (tgt := 14) rfl ?_
  have hS : va_S (sx_A h0) s.heap s.heap [] := va_S.rf
  exact W.zret hx hb hr rfl (fun t ht hW => ⟨rfl, by rw [ht]; exact hP, hS.F ht⟩) hS.2.2 sx_d_C14
theorem sx_shr0 : ∀ k, k < 20 → Int32.ofNat (sx_sn.getD k 0) >>> ((0 : Int32) &&& 31) = nI (sx_sn.getD k 0) := by decide +kernel
theorem sx_metL {k : UInt32} (hk : 100 ≤ k.toNat ∧ k.toNat < 120) : Met l sx_yL sx_WL (sx_rmS 2 60) (sx_Pc D dA h0 sa xs md [.float k] w) (sx_Qc D dA h0 sa md (some (.int (nI (sx_sn.getD (k.toNat - 100) 0)))) w) 0 0 (sx_A h0) := by
  refine va_MetF (cc := prog_13_method_54_code) (maxL := 1) (ret := some .int) (by decide) rfl ?_
  intro p e s m args below meth c s₁ B hml hv
  obtain ⟨rfl, hG, hP, hh⟩ := hv
  have hx := B.exec
  have hb := B.bytes
  have hr := B.returns
  have hts0 := atoms_spec (ws := sx_WL) B.pre
  have hts : ∀ w9 ∈ sx_tw, w9.before _ s = true := fun w9 h9 => hts0 w9 (List.mem_cons_of_mem _ h9)
  have hown : s.vm.findClass "java/lang/String" = some m.cls := findClass_of_methodNamed B.named
  have hlocks := B.notSynchronized
  have hT := hG.2.2.2.2.2.2.2
  have hS0 := hT.2.1 (k.toNat - 100) (by omega)
  rw [show 100 + (k.toNat - 100) = k.toNat by omega] at hS0
  have hl := lv_entry ([.ref (sa k.toNat)]) (n := 1) (Nat.le_refl _)
  show W p l e _ s m _ below meth c s.heap [] 0 0 _ (entryFrame m ([Value.ref (sa k.toNat)] : List Value).toArray 1)
  rw [lg_entry_eq]
  generalize (lg_sl ([.ref (sa k.toNat)]) ++ List.replicate (1 - (lg_sl ([.ref (sa k.toNat)])).length) Slot.unset).toArray = lsA at hl ⊢
  have hl0 : lsA[0]? = some (.val (.ref (sa k.toNat))) := hl.2.2 _ List.mem_cons_self
  refine lv_aload_n hx hb sx_d_L0 rfl hl0 ?_
  refine vk_getf hx hb hS0.2.2.1 va_S.rf hown (hts _ sx_s_fV) (fun _ h9 => h9) sx_d_L1 ?_
  refine va_tlen hx hb hS0.2.2.2 va_S.rf (v := Int32.ofNat (sx_sn.getD (k.toNat - 100) 0)) rfl sx_d_L4 ?_
  refine lv_aload_n hx hb sx_d_L5 rfl hl0 ?_
  have hrec : ∃ cell : Cell, s.heap[sa k.toNat]? = some cell ∧ cell.vm.isStatics = false ∧ s.vm.findClass "java/lang/String" = some cell.cls := by
    obtain ⟨cell, h1, h2, h3, -⟩ := hS0.1
    exact ⟨cell, h1, h2, h3⟩
  have hpre := sx_pre (xs := xs) (md := md) (as := [.float k]) (w := w) hG va_S.rf hP hh
  have hG2 : GoodIn sx_tw (wsV "java/lang/String" 335 "java/lang/String" sx_yC sx_WC) := by
    intro w9 hw
    unfold wsV at hw
    rcases List.mem_append.mp hw with hw | hw
    · simp only [List.mem_cons, List.mem_singleton, List.not_mem_nil, or_false] at hw
      rcases hw with rfl | rfl | rfl | rfl
      · exact sx_goodI sx_s_lC
      · exact sx_goodI sx_s_iC
      · exact sx_goodI sx_s_sC
      · exact sx_goodI sx_s_init
    · exact sx_goodC sx_s_cC w9 hw
  refine sx_after (D := D) (dA := dA) (h0 := h0) (sa := sa) (md := md) (r := some (.int 0)) (w2 := w) (rest := [.int (Int32.ofNat (sx_sn.getD (k.toNat - 100) 0))]) (va_runV (Ts := sx_tw) (ws := sx_WC) (C := "java/lang/String") (bytes := prog_13_method_152_code) (maxL := 1) (ret := some .byte) (n := 0) (nL := 1) (b := sa k.toNat) (As := []) (rest := [.int (Int32.ofNat (sx_sn.getD (k.toNat - 100) 0))]) ⟨hx, hb, hml, hown, hts⟩ (sx_metC (xs := xs) (w := w) hk) (cwV 0 hts hG2 rfl rfl rfl ⟨rfl, by decide, by decide, by decide⟩ ⟨by decide, by decide⟩) ⟨sx_blind, hrec, hpre.2⟩ rfl rfl hl.1 rfl (lv_room (show 1 + 0 ≤ 8 by decide)) sx_d_L6 ⟨Nat.le_refl _, Nat.le_refl _⟩) va_S.rf ?_
  intro H1 locs1 hP1 hS1
  refine lv_ishr hx hb sx_d_L9 ?_
  rw [sx_shr0 _ (by omega)]
  exact W.iret hx hb hr (fun t ht hW => ⟨rfl, by rw [ht]; exact hP1, hS1.F ht⟩) hS1.2.2 sx_d_L10
end SXT
end
-- 17c.chr.lean.txt
section
abbrev sx_yA : MethodName := ⟨"java/lang/String", "charAt", "(I)C"⟩
abbrev sx_yI : MethodName := ⟨"java/lang/String", "isLatin1", "()Z"⟩
abbrev sx_yB : MethodName := ⟨"java/lang/StringLatin1", "charAt", "([BI)C"⟩
abbrev sx_yK : MethodName := ⟨"java/lang/String", "checkIndex", "(II)V"⟩
abbrev sx_yP : MethodName := ⟨"jdk/internal/util/Preconditions", "checkIndex", "(IILjava/util/function/BiFunction;)I"⟩
noncomputable def sx_WA : List Cond := .code sx_yA prog_13_method_56_code 2 (some .char) :: sx_tw
noncomputable def sx_WI : List Cond := .code sx_yI prog_13_method_154_code 1 (some .boolean) :: sx_tw
noncomputable def sx_WB : List Cond := .code sx_yB prog_14_method_2_code 2 (some .char) :: sx_tw
noncomputable def sx_WK : List Cond := .code sx_yK prog_13_method_155_code 2 none :: sx_tw
noncomputable def sx_WP : List Cond := .code sx_yP prog_17_method_11_code 3 (some .int) :: sx_tw
theorem sx_s_cA : Cond.code sx_yA prog_13_method_56_code 2 (some .char) ∈ sx_tw := sx_twm (sx_memp (i := 717) (by decide +kernel)) rfl
theorem sx_s_cI : Cond.code sx_yI prog_13_method_154_code 1 (some .boolean) ∈ sx_tw := sx_twm (sx_memp (i := 721) (by decide +kernel)) rfl
theorem sx_s_cB : Cond.code sx_yB prog_14_method_2_code 2 (some .char) ∈ sx_tw := sx_twm (sx_memp (i := 724) (by decide +kernel)) rfl
theorem sx_s_cK : Cond.code sx_yK prog_13_method_155_code 2 none ∈ sx_tw := sx_twm (sx_memp (i := 727) (by decide +kernel)) rfl
theorem sx_s_cP : Cond.code sx_yP prog_17_method_11_code 3 (some .int) ∈ sx_tw := sx_twm (sx_memp (i := 732) (by decide +kernel)) rfl
theorem sx_s_iA : Cond.instanceMethod sx_yA ∈ sx_tw := sx_twm (sx_memp (i := 715) (by decide +kernel)) rfl
theorem sx_s_iI : Cond.instanceMethod sx_yI ∈ sx_tw := sx_twm (sx_memp (i := 719) (by decide +kernel)) rfl
theorem sx_s_sA : Cond.selects "java/lang/String" sx_yA sx_yA ∈ sx_tw := sx_twm (sx_memp (i := 716) (by decide +kernel)) rfl
theorem sx_s_sI : Cond.selects "java/lang/String" sx_yI sx_yI ∈ sx_tw := sx_twm (sx_memp (i := 720) (by decide +kernel)) rfl
theorem sx_s_tB : Cond.static sx_yB ∈ sx_tw := sx_twm (sx_memp (i := 723) (by decide +kernel)) rfl
theorem sx_s_tK : Cond.static sx_yK ∈ sx_tw := sx_twm (sx_memp (i := 726) (by decide +kernel)) rfl
theorem sx_s_tP : Cond.static sx_yP ∈ sx_tw := sx_twm (sx_memp (i := 731) (by decide +kernel)) rfl
theorem sx_s_initB : Cond.initialized "java/lang/StringLatin1" ∈ sx_tw := sx_twm (sx_memp (i := 88) (by decide +kernel)) rfl
theorem sx_s_initP : Cond.initialized "jdk/internal/util/Preconditions" ∈ sx_tw := sx_twm (sx_memp (i := 89) (by decide +kernel)) rfl
theorem sx_s_lI : Cond.methodLink "java/lang/String" 492 sx_yI ∈ sx_tw := sx_twm (sx_memp (i := 718) (by decide +kernel)) rfl
theorem sx_s_lB : Cond.methodLink "java/lang/String" 495 sx_yB ∈ sx_tw := sx_twm (sx_memp (i := 722) (by decide +kernel)) rfl
theorem sx_s_lK : Cond.methodLink "java/lang/StringLatin1" 9 sx_yK ∈ sx_tw := sx_twm (sx_memp (i := 725) (by decide +kernel)) rfl
theorem sx_s_lP : Cond.methodLink "java/lang/String" 1059 sx_yP ∈ sx_tw := sx_twm (sx_memp (i := 730) (by decide +kernel)) rfl
theorem sx_s_fF : Cond.fieldLink "java/lang/String" 1053 "jdk/internal/util/Preconditions" "SIOOBE_FORMATTER" "Ljava/util/function/BiFunction;" ∈ sx_tw := sx_twm (sx_memp (i := 728) (by decide +kernel)) rfl
theorem sx_d_A0 : decode prog_13_method_56_code 0 = .ok (.aload_n 0, 1) := by decide +kernel
theorem sx_d_A1 : decode prog_13_method_56_code 1 = .ok (.invokevirtual 492, 3) := by decide +kernel
theorem sx_d_A4 : decode prog_13_method_56_code 4 = .ok (.ifCond .eq 12, 3) := by decide +kernel
theorem sx_d_A7 : decode prog_13_method_56_code 7 = .ok (.aload_n 0, 1) := by decide +kernel
theorem sx_d_A8 : decode prog_13_method_56_code 8 = .ok (.getfield 9, 3) := by decide +kernel
theorem sx_d_A11 : decode prog_13_method_56_code 11 = .ok (.iload_n 1, 1) := by decide +kernel
theorem sx_d_A12 : decode prog_13_method_56_code 12 = .ok (.invokestatic 495, 3) := by decide +kernel
theorem sx_d_A15 : decode prog_13_method_56_code 15 = .ok (.ireturn, 1) := by decide +kernel
theorem sx_d_I0 : decode prog_13_method_154_code 0 = .ok (.getstatic 38, 3) := by decide +kernel
theorem sx_d_I3 : decode prog_13_method_154_code 3 = .ok (.ifCond .eq 14, 3) := by decide +kernel
theorem sx_d_I6 : decode prog_13_method_154_code 6 = .ok (.aload_n 0, 1) := by decide +kernel
theorem sx_d_I7 : decode prog_13_method_154_code 7 = .ok (.getfield 15, 3) := by decide +kernel
theorem sx_d_I10 : decode prog_13_method_154_code 10 = .ok (.ifCond .ne 7, 3) := by decide +kernel
theorem sx_d_I13 : decode prog_13_method_154_code 13 = .ok (.iconst 1, 1) := by decide +kernel
theorem sx_d_I14 : decode prog_13_method_154_code 14 = .ok (.goto 4, 3) := by decide +kernel
theorem sx_d_I18 : decode prog_13_method_154_code 18 = .ok (.ireturn, 1) := by decide +kernel
theorem sx_d_B0 : decode prog_14_method_2_code 0 = .ok (.iload_n 1, 1) := by decide +kernel
theorem sx_d_B1 : decode prog_14_method_2_code 1 = .ok (.aload_n 0, 1) := by decide +kernel
theorem sx_d_B2 : decode prog_14_method_2_code 2 = .ok (.arraylength, 1) := by decide +kernel
theorem sx_d_B3 : decode prog_14_method_2_code 3 = .ok (.invokestatic 9, 3) := by decide +kernel
theorem sx_d_B6 : decode prog_14_method_2_code 6 = .ok (.aload_n 0, 1) := by decide +kernel
theorem sx_d_B7 : decode prog_14_method_2_code 7 = .ok (.iload_n 1, 1) := by decide +kernel
theorem sx_d_B8 : decode prog_14_method_2_code 8 = .ok (.baload, 1) := by decide +kernel
theorem sx_d_B9 : decode prog_14_method_2_code 9 = .ok (.sipush 255, 3) := by decide +kernel
theorem sx_d_B12 : decode prog_14_method_2_code 12 = .ok (.iand, 1) := by decide +kernel
theorem sx_d_B13 : decode prog_14_method_2_code 13 = .ok (.i2c, 1) := by decide +kernel
theorem sx_d_B14 : decode prog_14_method_2_code 14 = .ok (.ireturn, 1) := by decide +kernel
theorem sx_d_K0 : decode prog_13_method_155_code 0 = .ok (.iload_n 0, 1) := by decide +kernel
theorem sx_d_K1 : decode prog_13_method_155_code 1 = .ok (.iload_n 1, 1) := by decide +kernel
theorem sx_d_K2 : decode prog_13_method_155_code 2 = .ok (.getstatic 1053, 3) := by decide +kernel
theorem sx_d_K5 : decode prog_13_method_155_code 5 = .ok (.invokestatic 1059, 3) := by decide +kernel
theorem sx_d_K8 : decode prog_13_method_155_code 8 = .ok (.pop, 1) := by decide +kernel
theorem sx_d_K9 : decode prog_13_method_155_code 9 = .ok (.return_, 1) := by decide +kernel
theorem sx_d_P0 : decode prog_17_method_11_code 0 = .ok (.iload_n 0, 1) := by decide +kernel
theorem sx_d_P1 : decode prog_17_method_11_code 1 = .ok (.ifCond .lt 8, 3) := by decide +kernel
theorem sx_d_P4 : decode prog_17_method_11_code 4 = .ok (.iload_n 0, 1) := by decide +kernel
theorem sx_d_P5 : decode prog_17_method_11_code 5 = .ok (.iload_n 1, 1) := by decide +kernel
theorem sx_d_P6 : decode prog_17_method_11_code 6 = .ok (.if_icmp .lt 10, 3) := by decide +kernel
theorem sx_d_P16 : decode prog_17_method_11_code 16 = .ok (.iload_n 0, 1) := by decide +kernel
theorem sx_d_P17 : decode prog_17_method_11_code 17 = .ok (.ireturn, 1) := by decide +kernel
def sx_Pr (D : va_G) (dA : Nat → ClassId) (h0 : Nat) (sa : Nat → Nat) (xs : Option (List Int32)) (md : Bool) (as : List Value) (w : List sx_C) : Array Value → State → Prop := fun v U => v = as.toArray ∧ sx_G D dA h0 sa xs U U.heap ∧ sx_P D dA h0 sa md w U.heap ∧ h0 ≤ U.heap.size
theorem sx_blindR {D : va_G} {dA : Nat → ClassId} {h0 : Nat} {sa : Nat → Nat} {xs : Option (List Int32)} {md : Bool} {as : List Value} {w : List sx_C} : FrameBlind (sx_Pr D dA h0 sa xs md as w) := fun a U g mk q => ⟨q.1, sx_G.same (s := U) (U := U.calling g mk a) rfl q.2.1, q.2.2.1, q.2.2.2⟩
section SXT2
variable {l : Launch} {D : va_G} {dA : Nat → ClassId} {h0 : Nat} {sa : Nat → Nat} {xs : Option (List Int32)} {md : Bool} {w : List sx_C}
theorem sx_preR {s : State} {H : Heap} {locs : List Loc} {as : List Value} (hG : sx_G D dA h0 sa xs s s.heap) (hS : va_S (sx_A h0) s.heap H locs) (hP : sx_P D dA h0 sa md w H) (hh : h0 ≤ s.heap.size) : PreS s H (sx_Pr D dA h0 sa xs md as w) as :=
  ⟨sx_blindR, fun U hU hW => by
    have h := (sx_pre (D := D) (dA := dA) (h0 := h0) (sa := sa) (md := md) (w := w) (as := []) hG hS hP hh).2 U hU hW
    exact ⟨rfl, h.2⟩⟩
theorem sx_metP {i n : Int32} {x : Value} (hx1 : x = .null ∨ ∃ t : Nat, x = .ref t) (h1 : ¬ i < 0) (h2 : i < n) : Met l sx_yP sx_WP (sx_rmS 1 20) (sx_Pr D dA h0 sa xs md [.int i, .int n, x] w) (sx_Qc D dA h0 sa md (some (.int i)) w) 0 0 (sx_A h0) := by
  refine va_MetF (cc := prog_17_method_11_code) (maxL := 3) (ret := some .int) (by decide) rfl ?_
  intro p e s m args below meth c s₁ B hml hv
  obtain ⟨rfl, hG, hP, hh⟩ := hv
  have hx := B.exec
  have hb := B.bytes
  have hr := B.returns
  have hlocks := B.notSynchronized
  have hlen : (lg_sl [.int i, .int n, x]).length ≤ 3 := by
    rcases hx1 with rfl | ⟨t, rfl⟩ <;> exact Nat.le_refl _
  have hl := lv_entry ([.int i, .int n, x]) (n := 3) hlen
  show W p l e _ s m _ below meth c s.heap [] 0 0 _ (entryFrame m ([.int i, .int n, x] : List Value).toArray 3)
  rw [lg_entry_eq]
  generalize (lg_sl ([.int i, .int n, x]) ++ List.replicate (3 - (lg_sl ([.int i, .int n, x])).length) Slot.unset).toArray = lsA at hl ⊢
  have hl0 : lsA[0]? = some (.val (.int i)) := hl.2.2 _ List.mem_cons_self
  have hl1 : lsA[1]? = some (.val (.int n)) := hl.2.2 _ (List.mem_cons_of_mem _ List.mem_cons_self)
  have hS : va_S (sx_A h0) s.heap s.heap [] := va_S.rf
  refine lv_iload_n hx hb sx_d_P0 rfl hl0 ?_
  refine lv_if_lt hx hb sx_d_P1 (tgt := 9) rfl (fun h => absurd h h1) (fun _ => ?_)
  refine lv_iload_n hx hb sx_d_P4 rfl hl0 ?_
  refine lv_iload_n hx hb sx_d_P5 rfl hl1 ?_
  refine lv_icmp_lt hx hb sx_d_P6 (tgt := 16) rfl (fun _ => ?_) (fun h => absurd h2 h)
  refine lv_iload_n hx hb sx_d_P16 rfl hl0 ?_
  exact W.iret hx hb hr (fun t ht hW => ⟨rfl, by rw [ht]; exact hP, hS.F ht⟩) hS.2.2 sx_d_P17
theorem sx_metK {i n : Int32} (h1 : ¬ i < 0) (h2 : i < n) : Met l sx_yK sx_WK (sx_rmS 2 42) (sx_Pr D dA h0 sa xs md [.int i, .int n] w) (sx_Qc D dA h0 sa md none w) 0 0 (sx_A h0) := by
  refine va_MetF (cc := prog_13_method_155_code) (maxL := 2) (ret := none) (by decide) rfl ?_
  intro p e s m args below meth c s₁ B hml hv
  obtain ⟨rfl, hG, hP, hh⟩ := hv
  have hx := B.exec
  have hb := B.bytes
  have hr := B.returns
  have hlocks := B.notSynchronized
  have hts0 := atoms_spec (ws := sx_WK) B.pre
  have hts : ∀ w9 ∈ sx_tw, w9.before _ s = true := fun w9 h9 => hts0 w9 (List.mem_cons_of_mem _ h9)
  have hown : s.vm.findClass "java/lang/String" = some m.cls := findClass_of_methodNamed B.named
  have hl := lv_entry ([.int i, .int n]) (n := 2) (Nat.le_refl _)
  show W p l e _ s m _ below meth c s.heap [] 0 0 _ (entryFrame m ([.int i, .int n] : List Value).toArray 2)
  rw [lg_entry_eq]
  generalize (lg_sl ([.int i, .int n]) ++ List.replicate (2 - (lg_sl ([.int i, .int n])).length) Slot.unset).toArray = lsA at hl ⊢
  have hl0 : lsA[0]? = some (.val (.int i)) := hl.2.2 _ List.mem_cons_self
  have hl1 : lsA[1]? = some (.val (.int n)) := hl.2.2 _ (List.mem_cons_of_mem _ List.mem_cons_self)
  obtain ⟨x, hx1, hZ⟩ : ∃ x : Value, (x = .null ∨ ∃ t : Nat, x = .ref t) ∧ va_Z "jdk/internal/util/Preconditions" "SIOOBE_FORMATTER" "Ljava/util/function/BiFunction;" x (sx_A h0) s s.heap := by
    rcases hG.2.2.2.2.2.2.2.2.2.2 with h | ⟨t, h⟩
    · exact ⟨_, Or.inl rfl, h⟩
    · exact ⟨_, Or.inr ⟨t, rfl⟩, h⟩
  refine lv_iload_n hx hb sx_d_K0 rfl hl0 ?_
  refine lv_iload_n hx hb sx_d_K1 rfl hl1 ?_
  refine va_gets hx hb (v := x) hZ va_S.rf hown (hts _ sx_s_fF) (fun _ h9 => h9) sx_d_K2 ?_
  have hG2 : GoodIn sx_tw (va_wsS "java/lang/String" 1059 sx_yP sx_WP) := by
    intro w9 hw
    unfold va_wsS at hw
    rcases List.mem_append.mp hw with hw | hw
    · simp only [List.mem_cons, List.mem_singleton, List.not_mem_nil, or_false] at hw
      rcases hw with rfl | rfl | rfl
      · exact sx_goodI sx_s_lP
      · exact sx_goodI sx_s_tP
      · exact sx_goodI sx_s_initP
    · exact sx_goodC sx_s_cP w9 hw
  refine sx_after (D := D) (dA := dA) (h0 := h0) (sa := sa) (md := md) (r := some (.int i)) (w2 := w) (rest := []) (va_runS (Ts := sx_tw) (ws := sx_WP) (bytes := prog_17_method_11_code) (maxL := 3) (ret := some .int) (n := 3) (nL := 2) (As := [.int i, .int n, x]) (rest := []) ⟨hx, hb, hml, hown, hts⟩ (sx_metP (xs := xs) (w := w) hx1 h1 h2) (va_cwS 3 hts hG2 rfl rfl rfl ⟨by decide, by decide, by decide +kernel⟩ ⟨by decide, by decide⟩) (sx_preR hG va_S.rf hP hh) rfl rfl hl.1 rfl (lv_room (show 0 ≤ 8 by decide)) sx_d_K5 ⟨Nat.le_refl _, Nat.le_refl _⟩) va_S.rf ?_
  intro H1 locs1 hP1 hS1
  refine lv_pop hx hb sx_d_K8 rfl ?_
  exact W.vret hx hb hr (fun t ht hW => ⟨rfl, by rw [ht]; exact hP1, hS1.F ht⟩) hS1.2.2 sx_d_K9
theorem sx_chr : ∀ k, k < 20 → ∀ j, j < sx_sn.getD k 0 → ((((sx_sb.getD k []).getD j 0) &&& 255).toUInt32 % 65536).toInt32 = (sx_sb.getD k []).getD j 0 ∧ narrow .char (.int ((sx_sb.getD k []).getD j 0)) = .int ((sx_sb.getD k []).getD j 0) := by decide +kernel
theorem sx_snlt : ∀ k, k < 20 → sx_sn.getD k 0 < 2 ^ 31 := by decide +kernel
theorem sx_metB {k : Nat} {i : Int32} (hk : k < 20) (hi : sx_in i (sx_sn.getD k 0) = true) : Met l sx_yB sx_WB (sx_rmS 3 63) (sx_Pr D dA h0 sa xs md [.ref (sa (200 + k)), .int i] w) (sx_Qc D dA h0 sa md (some (.int ((sx_sb.getD k []).getD i.toNatClampNeg 0))) w) 0 0 (sx_A h0) := by
  refine va_MetF (cc := prog_14_method_2_code) (maxL := 2) (ret := some .char) (by decide) rfl ?_
  intro p e s m args below meth c s₁ B hml hv
  obtain ⟨rfl, hG, hP, hh⟩ := hv
  have hx := B.exec
  have hb := B.bytes
  have hr := B.returns
  have hlocks := B.notSynchronized
  have hts0 := atoms_spec (ws := sx_WB) B.pre
  have hts : ∀ w9 ∈ sx_tw, w9.before _ s = true := fun w9 h9 => hts0 w9 (List.mem_cons_of_mem _ h9)
  have hown : s.vm.findClass "java/lang/StringLatin1" = some m.cls := findClass_of_methodNamed B.named
  have hT := hG.2.2.2.2.2.2.2
  have hS0 := hT.2.1 k hk
  have hlt := sx_in_lt hi
  have hn31 : sx_sn.getD k 0 < 2 ^ 31 := sx_snlt k hk
  have hi0 : ¬ i < 0 := by
    intro z
    unfold sx_in at hi
    rw [decide_eq_true z] at hi
    cases hi
  obtain ⟨j, hj, rfl⟩ := nI_of hi0
  rw [nI_clamp hj] at hlt
  have hl := lv_entry ([.ref (sa (200 + k)), .int (nI j)]) (n := 2) (Nat.le_refl _)
  show W p l e _ s m _ below meth c s.heap [] 0 0 _ (entryFrame m ([.ref (sa (200 + k)), .int (nI j)] : List Value).toArray 2)
  rw [lg_entry_eq]
  generalize (lg_sl ([.ref (sa (200 + k)), .int (nI j)]) ++ List.replicate (2 - (lg_sl ([.ref (sa (200 + k)), .int (nI j)])).length) Slot.unset).toArray = lsA at hl ⊢
  have hl0 : lsA[0]? = some (.val (.ref (sa (200 + k)))) := hl.2.2 _ List.mem_cons_self
  have hl1 : lsA[1]? = some (.val (.int (nI j))) := hl.2.2 _ (List.mem_cons_of_mem _ List.mem_cons_self)
  refine lv_iload_n hx hb sx_d_B0 rfl hl1 ?_
  refine lv_aload_n hx hb sx_d_B1 rfl hl0 ?_
  refine va_tlen hx hb hS0.2.2.2 va_S.rf (v := nI (sx_sn.getD k 0)) rfl sx_d_B2 ?_
  have hG2 : GoodIn sx_tw (va_wsS "java/lang/StringLatin1" 9 sx_yK sx_WK) := by
    intro w9 hw
    unfold va_wsS at hw
    rcases List.mem_append.mp hw with hw | hw
    · simp only [List.mem_cons, List.mem_singleton, List.not_mem_nil, or_false] at hw
      rcases hw with rfl | rfl | rfl
      · exact sx_goodI sx_s_lK
      · exact sx_goodI sx_s_tK
      · exact sx_goodI sx_s_init
    · exact sx_goodC sx_s_cK w9 hw
  refine sx_after (D := D) (dA := dA) (h0 := h0) (sa := sa) (md := md) (r := none) (w2 := w) (rest := []) (va_runS (Ts := sx_tw) (ws := sx_WK) (bytes := prog_13_method_155_code) (maxL := 2) (ret := none) (n := 2) (nL := 2) (As := [.int (nI j), .int (nI (sx_sn.getD k 0))]) (rest := []) ⟨hx, hb, hml, hown, hts⟩ (sx_metK (xs := xs) (w := w) hi0 (nI_lt hlt hn31)) (va_cwS 2 hts hG2 rfl rfl rfl ⟨by decide, by decide, by decide +kernel⟩ ⟨by decide, by decide⟩) (sx_preR hG va_S.rf hP hh) rfl rfl hl.1 rfl (lv_room (show 0 ≤ 8 by decide)) sx_d_B3 ⟨Nat.le_refl _, Nat.le_refl _⟩) va_S.rf ?_
  intro H1 locs1 hP1 hS1
  refine lv_aload_n hx hb sx_d_B6 rfl hl0 ?_
  refine lv_iload_n hx hb sx_d_B7 rfl hl1 ?_
  refine va_tb hx hb hS0.2.2.2 hS1 (sx_in_of hi) (v := .int ((sx_sb.getD k []).getD j 0)) (by rw [nI_clamp hj]) sx_d_B8 ?_
  refine lv_sipush hx hb sx_d_B9 (v := 255) rfl ?_
  refine lv_iand hx hb sx_d_B12 ?_
  refine lv_i2c hx hb sx_d_B13 (sx_chr k hk j hlt).1 ?_
  rw [nI_clamp hj]
  exact W.zret hx hb hr (sx_chr k hk j hlt).2 (fun t ht hW => ⟨rfl, by rw [ht]; exact hP1, hS1.F ht⟩) hS1.2.2 sx_d_B14
theorem sx_metI {k : UInt32} (hk : 100 ≤ k.toNat ∧ k.toNat < 120) : Met l sx_yI sx_WI (sx_rmS 1 20) (sx_Pc D dA h0 sa xs md [.float k] w) (sx_Qc D dA h0 sa md (some (.int 1)) w) 0 0 (sx_A h0) := by
  refine va_MetF (cc := prog_13_method_154_code) (maxL := 1) (ret := some .boolean) (by decide) rfl ?_
  intro p e s m args below meth c s₁ B hml hv
  obtain ⟨rfl, hG, hP, hh⟩ := hv
  have hx := B.exec
  have hb := B.bytes
  have hr := B.returns
  have hts0 := atoms_spec (ws := sx_WI) B.pre
  have hts : ∀ w9 ∈ sx_tw, w9.before _ s = true := fun w9 h9 => hts0 w9 (List.mem_cons_of_mem _ h9)
  have hown : s.vm.findClass "java/lang/String" = some m.cls := findClass_of_methodNamed B.named
  have hlocks := B.notSynchronized
  have hT := hG.2.2.2.2.2.2.2
  have hS0 := hT.2.1 (k.toNat - 100) (by omega)
  rw [show 100 + (k.toNat - 100) = k.toNat by omega] at hS0
  have hl := lv_entry ([.ref (sa k.toNat)]) (n := 1) (Nat.le_refl _)
  show W p l e _ s m _ below meth c s.heap [] 0 0 _ (entryFrame m ([Value.ref (sa k.toNat)] : List Value).toArray 1)
  rw [lg_entry_eq]
  generalize (lg_sl ([.ref (sa k.toNat)]) ++ List.replicate (1 - (lg_sl ([.ref (sa k.toNat)])).length) Slot.unset).toArray = lsA at hl ⊢
  have hl0 : lsA[0]? = some (.val (.ref (sa k.toNat))) := hl.2.2 _ List.mem_cons_self
  refine va_gets hx hb (v := .int 1) hT.2.2.1 va_S.rf hown (hts _ sx_s_fZ) (fun _ h9 => h9) sx_d_I0 ?_
  refine lv_if_eq hx hb sx_d_I3 (tgt := 17) rfl (fun h => absurd h (by decide)) (fun _ => ?_)
  refine lv_aload_n hx hb sx_d_I6 rfl hl0 ?_
  refine vk_getf hx hb hS0.2.1 va_S.rf hown (hts _ sx_s_fC) (fun _ h9 => h9) sx_d_I7 ?_
  refine lv_if_ne hx hb sx_d_I10 (tgt := 17) rfl (fun h => absurd rfl h) (fun _ => ?_)
  refine lv_iconst hx hb sx_d_I13 (v := 1) rfl ?_
  refine lv_goto hx hb sx_d_I14 (tgt := 18) rfl ?_
  have hS : va_S (sx_A h0) s.heap s.heap [] := va_S.rf
  exact W.zret hx hb hr rfl (fun t ht hW => ⟨rfl, by rw [ht]; exact hP, hS.F ht⟩) hS.2.2 sx_d_I18
theorem sx_metA {k : UInt32} {i : Int32} (hk : 100 ≤ k.toNat ∧ k.toNat < 120) (hi : sx_in i (sx_sn.getD (k.toNat - 100) 0) = true) : Met l sx_yA sx_WA (sx_rmS 4 84) (sx_Pc D dA h0 sa xs md [.float k, .int i] w) (sx_Qc D dA h0 sa md (some (.int ((sx_sb.getD (k.toNat - 100) []).getD i.toNatClampNeg 0))) w) 0 0 (sx_A h0) := by
  refine va_MetF (cc := prog_13_method_56_code) (maxL := 2) (ret := some .char) (by decide) rfl ?_
  intro p e s m args below meth c s₁ B hml hv
  obtain ⟨rfl, hG, hP, hh⟩ := hv
  have hx := B.exec
  have hb := B.bytes
  have hr := B.returns
  have hts0 := atoms_spec (ws := sx_WA) B.pre
  have hts : ∀ w9 ∈ sx_tw, w9.before _ s = true := fun w9 h9 => hts0 w9 (List.mem_cons_of_mem _ h9)
  have hown : s.vm.findClass "java/lang/String" = some m.cls := findClass_of_methodNamed B.named
  have hlocks := B.notSynchronized
  have hT := hG.2.2.2.2.2.2.2
  have hS0 := hT.2.1 (k.toNat - 100) (by omega)
  rw [show 100 + (k.toNat - 100) = k.toNat by omega] at hS0
  have hl := lv_entry ([.ref (sa k.toNat), .int i]) (n := 2) (Nat.le_refl _)
  show W p l e _ s m _ below meth c s.heap [] 0 0 _ (entryFrame m ([Value.ref (sa k.toNat), .int i] : List Value).toArray 2)
  rw [lg_entry_eq]
  generalize (lg_sl ([.ref (sa k.toNat), .int i]) ++ List.replicate (2 - (lg_sl ([.ref (sa k.toNat), .int i])).length) Slot.unset).toArray = lsA at hl ⊢
  have hl0 : lsA[0]? = some (.val (.ref (sa k.toNat))) := hl.2.2 _ List.mem_cons_self
  have hl1 : lsA[1]? = some (.val (.int i)) := hl.2.2 _ (List.mem_cons_of_mem _ List.mem_cons_self)
  refine lv_aload_n hx hb sx_d_A0 rfl hl0 ?_
  have hrec : ∃ cell : Cell, s.heap[sa k.toNat]? = some cell ∧ cell.vm.isStatics = false ∧ s.vm.findClass "java/lang/String" = some cell.cls := by
    obtain ⟨cell, h1, h2, h3, -⟩ := hS0.1
    exact ⟨cell, h1, h2, h3⟩
  have hpre := sx_pre (xs := xs) (md := md) (as := [.float k]) (w := w) hG va_S.rf hP hh
  have hG2 : GoodIn sx_tw (wsV "java/lang/String" 492 "java/lang/String" sx_yI sx_WI) := by
    intro w9 hw
    unfold wsV at hw
    rcases List.mem_append.mp hw with hw | hw
    · simp only [List.mem_cons, List.mem_singleton, List.not_mem_nil, or_false] at hw
      rcases hw with rfl | rfl | rfl | rfl
      · exact sx_goodI sx_s_lI
      · exact sx_goodI sx_s_iI
      · exact sx_goodI sx_s_sI
      · exact sx_goodI sx_s_init
    · exact sx_goodC sx_s_cI w9 hw
  refine sx_after (D := D) (dA := dA) (h0 := h0) (sa := sa) (md := md) (r := some (.int 1)) (w2 := w) (rest := []) (va_runV (Ts := sx_tw) (ws := sx_WI) (C := "java/lang/String") (bytes := prog_13_method_154_code) (maxL := 1) (ret := some .boolean) (n := 0) (nL := 2) (b := sa k.toNat) (As := []) (rest := []) ⟨hx, hb, hml, hown, hts⟩ (sx_metI (xs := xs) (w := w) hk) (cwV 0 hts hG2 rfl rfl rfl ⟨rfl, by decide, by decide, by decide⟩ ⟨by decide, by decide⟩) ⟨sx_blind, hrec, hpre.2⟩ rfl rfl hl.1 rfl (lv_room (show 0 ≤ 8 by decide)) sx_d_A1 ⟨Nat.le_refl _, Nat.le_refl _⟩) va_S.rf ?_
  intro H1 locs1 hP1 hS1
  refine lv_if_eq hx hb sx_d_A4 (tgt := 16) rfl (fun h => absurd h (by decide)) (fun _ => ?_)
  refine lv_aload_n hx hb sx_d_A7 rfl hl0 ?_
  refine vk_getf hx hb hS0.2.2.1 hS1 hown (hts _ sx_s_fV) (fun _ h9 => h9) sx_d_A8 ?_
  refine lv_iload_n hx hb sx_d_A11 rfl hl1 ?_
  have hG3 : GoodIn sx_tw (va_wsS "java/lang/String" 495 sx_yB sx_WB) := by
    intro w9 hw
    unfold va_wsS at hw
    rcases List.mem_append.mp hw with hw | hw
    · simp only [List.mem_cons, List.mem_singleton, List.not_mem_nil, or_false] at hw
      rcases hw with rfl | rfl | rfl
      · exact sx_goodI sx_s_lB
      · exact sx_goodI sx_s_tB
      · exact sx_goodI sx_s_initB
    · exact sx_goodC sx_s_cB w9 hw
  refine sx_after (D := D) (dA := dA) (h0 := h0) (sa := sa) (md := md) (r := some (.int ((sx_sb.getD (k.toNat - 100) []).getD i.toNatClampNeg 0))) (w2 := w) (rest := []) (va_runS (Ts := sx_tw) (ws := sx_WB) (bytes := prog_14_method_2_code) (maxL := 2) (ret := some .char) (n := 2) (nL := 2) (As := [.ref (sa (200 + (k.toNat - 100))), .int i]) (rest := []) ⟨hx, hb, hml, hown, hts⟩ (sx_metB (xs := xs) (w := w) (k := k.toNat - 100) (by omega) hi) (va_cwS 2 hts hG3 rfl rfl rfl ⟨by decide, by decide, by decide +kernel⟩ ⟨by decide, by decide⟩) (sx_preR hG hS1 hP1 hh) rfl rfl hl.1 rfl (lv_room (show 0 ≤ 8 by decide)) sx_d_A12 ⟨Nat.le_refl _, Nat.le_refl _⟩) hS1 ?_
  intro H2 locs2 hP2 hS2
  have hj := sx_in_lt hi
  exact W.zret hx hb hr (sx_chr _ (by omega) _ hj).2 (fun t ht hW => ⟨rfl, by rw [ht]; exact hP2, hS2.F ht⟩) hS2.2.2 sx_d_A15
end SXT2
theorem sx_smok : (List.range 12).all (fun o => (sx_sm o).all (fun e => decide (lw_tbl[e.2.2]? = some (.methodLink (sx_cn.getD o "") e.1 (cond (Nat.beq e.2.1 0) sx_yL sx_yA))))) = true := by decide +kernel
theorem sx_maxL21 : (List.range 247).all (fun mi => Nat.ble (sx_maxL mi) 21) = true := by decide +kernel
theorem sx_str_ok : sx_STR := by
  intro p l e R s m args below meth c Q D dA h0 sa md n0 z0 pc ls st w F xs mi d idx X hd hst h hR K
  obtain ⟨hx, hb, hml, hown, hts, hnm, hfr, hlo, hG, hh, hmi⟩ := X
  unfold sx_str at h
  split at h
  · rename_i pl k r hq
    cases hbt : (Nat.ble 100 k.toNat && Nat.blt k.toNat 120 && Nat.ble (r.map (fun v => v.category)).sum 8) with
    | false => rw [hbt] at h; cases h
    | true =>
      rw [hbt] at h
      cases h
      simp only [Bool.and_eq_true] at hbt
      have hk : 100 ≤ k.toNat ∧ k.toNat < 120 := ⟨Nat.le_of_ble_eq_true hbt.1.1, Nat.le_of_ble_eq_true hbt.1.2⟩
      have h8 := Nat.le_of_ble_eq_true hbt.2
      have h1 := List.all_eq_true.mp (sx_all sx_smok (sx_own_lt mi hmi)) _ (sx_lk_mem _ _ _ hq)
      have hst2 := hst (by show (sx_lk (sx_sm (sx_own mi)) idx).isSome = true; rw [hq]; rfl)
      have hlk := sx_twm (sx_memp h1) (rfl : goodWord (.methodLink (sx_cn.getD (sx_own mi) "") idx sx_yL) = true)
      have hT := hG.2.2.2.2.2.2.2
      have hS0 := hT.2.1 (k.toNat - 100) (by omega)
      rw [show 100 + (k.toNat - 100) = k.toNat by omega] at hS0
      have hm21 : (sx_M mi).2.2.1 ≤ 21 := Nat.le_of_ble_eq_true (sx_all sx_maxL21 hmi)
      intro H locs lsA hP hS hl g1 g2
      have hrec : ∃ cell : Cell, H[sa k.toNat]? = some cell ∧ cell.vm.isStatics = false ∧ s.vm.findClass "java/lang/String" = some cell.cls := by
        obtain ⟨cell, q1, q2, q3, -⟩ := hS0.1.kept hS.2.1
        exact ⟨cell, q1, q2, q3⟩
      have hpre := sx_pre (xs := xs) (md := md) (as := [.float k]) (w := w) hG hS hP hh
      have hG2 : GoodIn sx_tw (wsV (sx_cn.getD (sx_own mi) "") idx "java/lang/String" sx_yL sx_WL) := by
        intro w9 hw
        unfold wsV at hw
        rcases List.mem_append.mp hw with hw | hw
        · simp only [List.mem_cons, List.mem_singleton, List.not_mem_nil, or_false] at hw
          rcases hw with rfl | rfl | rfl | rfl
          · exact sx_goodI hlk
          · exact sx_goodI sx_s_iL
          · exact sx_goodI sx_s_sL
          · exact sx_goodI sx_s_init
        · exact sx_goodC sx_s_cL w9 hw
      refine sx_after (D := D) (dA := dA) (h0 := h0) (sa := sa) (md := md) (r := some (.int (nI (sx_sn.getD (k.toNat - 100) 0)))) (w2 := w) (rest := r.map (sx_v h0 sa)) (va_runV (Ts := sx_tw) (ws := sx_WL) (C := "java/lang/String") (bytes := prog_13_method_54_code) (maxL := 1) (ret := some .int) (n := 0) (nL := sx_maxL mi) (b := sa k.toNat) (As := []) (rest := r.map (sx_v h0 sa)) ⟨hx, hb, hml, hown, hts⟩ (sx_metL (xs := xs) (w := w) hk) (cwV 0 hts hG2 rfl rfl rfl ⟨rfl, by decide, by decide, by decide⟩ ⟨by show 2 + 1 ≤ R.frames; omega, by show 8 + (1 + 11) + 60 ≤ R.locals; omega⟩) ⟨sx_blind, hrec, hpre.2⟩ rfl rfl hl.1 rfl (lv_room (by rw [sx_cat_map]; exact h8)) hd hR) hS ?_
      intro H1 locs1 hP1 hS1
      exact K H1 locs1 lsA hP1 hS1 hl g1 g2
  · rename_i pl i k r hq
    cases hbt : (Nat.ble 100 k.toNat && Nat.blt k.toNat 120 && sx_in i (sx_sn.getD (k.toNat - 100) 0) && Nat.ble (r.map (fun v => v.category)).sum 8) with
    | false => rw [hbt] at h; cases h
    | true =>
      rw [hbt] at h
      cases h
      simp only [Bool.and_eq_true] at hbt
      have hk : 100 ≤ k.toNat ∧ k.toNat < 120 := ⟨Nat.le_of_ble_eq_true hbt.1.1.1, Nat.le_of_ble_eq_true hbt.1.1.2⟩
      have hin := hbt.1.2
      have h8 := Nat.le_of_ble_eq_true hbt.2
      have h1 := List.all_eq_true.mp (sx_all sx_smok (sx_own_lt mi hmi)) _ (sx_lk_mem _ _ _ hq)
      have hst2 := hst (by show (sx_lk (sx_sm (sx_own mi)) idx).isSome = true; rw [hq]; rfl)
      have hlk := sx_twm (sx_memp h1) (rfl : goodWord (.methodLink (sx_cn.getD (sx_own mi) "") idx sx_yA) = true)
      have hT := hG.2.2.2.2.2.2.2
      have hS0 := hT.2.1 (k.toNat - 100) (by omega)
      rw [show 100 + (k.toNat - 100) = k.toNat by omega] at hS0
      have hm21 : (sx_M mi).2.2.1 ≤ 21 := Nat.le_of_ble_eq_true (sx_all sx_maxL21 hmi)
      intro H locs lsA hP hS hl g1 g2
      have hrec : ∃ cell : Cell, H[sa k.toNat]? = some cell ∧ cell.vm.isStatics = false ∧ s.vm.findClass "java/lang/String" = some cell.cls := by
        obtain ⟨cell, q1, q2, q3, -⟩ := hS0.1.kept hS.2.1
        exact ⟨cell, q1, q2, q3⟩
      have hpre := sx_pre (xs := xs) (md := md) (as := [.float k, .int i]) (w := w) hG hS hP hh
      have hG2 : GoodIn sx_tw (wsV (sx_cn.getD (sx_own mi) "") idx "java/lang/String" sx_yA sx_WA) := by
        intro w9 hw
        unfold wsV at hw
        rcases List.mem_append.mp hw with hw | hw
        · simp only [List.mem_cons, List.mem_singleton, List.not_mem_nil, or_false] at hw
          rcases hw with rfl | rfl | rfl | rfl
          · exact sx_goodI hlk
          · exact sx_goodI sx_s_iA
          · exact sx_goodI sx_s_sA
          · exact sx_goodI sx_s_init
        · exact sx_goodC sx_s_cA w9 hw
      refine sx_after (D := D) (dA := dA) (h0 := h0) (sa := sa) (md := md) (r := some (.int ((sx_sb.getD (k.toNat - 100) []).getD i.toNatClampNeg 0))) (w2 := w) (rest := r.map (sx_v h0 sa)) (va_runV (Ts := sx_tw) (ws := sx_WA) (C := "java/lang/String") (bytes := prog_13_method_56_code) (maxL := 2) (ret := some .char) (n := 1) (nL := sx_maxL mi) (b := sa k.toNat) (As := [.int i]) (rest := r.map (sx_v h0 sa)) ⟨hx, hb, hml, hown, hts⟩ (sx_metA (xs := xs) (w := w) hk hin) (cwV 1 hts hG2 rfl rfl rfl ⟨rfl, by decide, by decide, by decide⟩ ⟨by show 4 + 1 ≤ R.frames; omega, by show 8 + (2 + 11) + 84 ≤ R.locals; omega⟩) ⟨sx_blind, hrec, hpre.2⟩ rfl rfl hl.1 rfl (lv_room (by rw [sx_cat_map]; exact h8)) hd hR) hS ?_
      intro H1 locs1 hP1 hS1
      exact K H1 locs1 lsA hP1 hS1 hl g1 g2
  · cases h
end
