noncomputable section SXA
-- a pure machine over lists: cells are numbered, cell i lies at the address h0 + i
abbrev sx_C : Type := (Nat × List Int32) ⊕ ((Nat × List Int64) ⊕ ((Nat × List (Option Nat)) ⊕ (Nat × List Value)))
abbrev sx_L : Type := List (Nat × Value)
abbrev sx_F : Type := Nat × sx_L × List Value × List sx_C
def sx_lk {α : Type} : List (Nat × α) → Nat → Option α
  | [], _ => none
  | q :: r, i => cond (Nat.beq q.1 i) (some q.2) (sx_lk r i)
def sx_s1 (ls : sx_L) (i : Nat) (v : Value) : sx_L := (i, v) :: ls.filter (fun q => !(q.1 == i) && !(q.1 + 1 == i && q.2.category == 2))
def sx_s2 (ls : sx_L) (i : Nat) (v : Value) : sx_L := (i, v) :: ls.filter (fun q => !(q.1 == i) && (!(q.1 == i + 1) && !(q.1 + 1 == i && q.2.category == 2)))
def sx_rf (r : Option Nat) : Value := match r with
  | none => .null
  | some a => .ref a
/-- the static arrays (read only), and the script -/
def sx_st (xs : Option (List Int32)) (k : Nat) : List Int32 := match k with
  | 0 => [1, 2, 1, 4]
  | 1 => [-1, 0, 0, 1, 2, 3]
  | 2 => [1, 2, 4, 0, 2, 3, 5, 0, 1, 1, 2, 0, 2, 3, 5, 0, 1, 1, 2, 0, 2, 3, 3, 0]
  | 3 => [12, 8, 20, 0, 10, 6, 18, 0, 6, 4, 10, 0, 5, 3, 9, 0, 18, 12, 30, 0, 5, 3, 9, 0]
  | _ => xs.getD []
def sx_okv (ty : FieldType) (v : Value) : Bool := match ty, v with
  | .int, .int _ => true
  | .boolean, .int x => x == 0 || x == 1
  | .long, .long _ => true
  | .object _, .ref _ => true
  | .object _, .null => true
  | .array _, .ref _ => true
  | .array _, .null => true
  | _, _ => false
def sx_bo (x : Int32) : Int32 := x &&& 1
def sx_in (i : Int32) (n : Nat) : Bool := !(decide (i < 0)) && decide (i.toNatClampNeg < n)

def sx_ld (ls : sx_L) (i pc : Nat) (st : List Value) (w : List sx_C) : Option sx_F := match sx_lk ls i with
  | some v => some (pc, ls, v :: st, w)
  | none => none
def sx_ldi (ls : sx_L) (i pc : Nat) (st : List Value) (w : List sx_C) : Option sx_F := match sx_lk ls i with
  | some (.int v) => some (pc, ls, .int v :: st, w)
  | _ => none
def sx_ldl (ls : sx_L) (i pc : Nat) (st : List Value) (w : List sx_C) : Option sx_F := match sx_lk ls i with
  | some (.long v) => some (pc, ls, .long v :: st, w)
  | _ => none
def sx_lda (ls : sx_L) (i pc : Nat) (st : List Value) (w : List sx_C) : Option sx_F := match sx_lk ls i with
  | some (.ref v) => some (pc, ls, .ref v :: st, w)
  | some (.float v) => some (pc, ls, .float v :: st, w)
  | _ => none
def sx_sti (nL : Nat) (ls : sx_L) (i pc : Nat) (st : List Value) (w : List sx_C) : Option sx_F := match st with
  | .int v :: r => cond (Nat.blt i nL) (some (pc, sx_s1 ls i (.int v), r, w)) none
  | _ => none
def sx_sta (nL : Nat) (ls : sx_L) (i pc : Nat) (st : List Value) (w : List sx_C) : Option sx_F := match st with
  | .ref v :: r => cond (Nat.blt i nL) (some (pc, sx_s1 ls i (.ref v), r, w)) none
  | .float v :: r => cond (Nat.blt i nL) (some (pc, sx_s1 ls i (.float v), r, w)) none
  | _ => none
def sx_stl (nL : Nat) (ls : sx_L) (i pc : Nat) (st : List Value) (w : List sx_C) : Option sx_F := match st with
  | .long v :: r => cond (Nat.blt (i + 1) nL) (some (pc, sx_s2 ls i (.long v), r, w)) none
  | _ => none
def sx_ii (f : Int32 → Int32 → Int32) (ls : sx_L) (pc : Nat) (st : List Value) (w : List sx_C) : Option sx_F := match st with
  | .int y :: .int x :: r => some (pc + 1, ls, .int (f x y) :: r, w)
  | _ => none
def sx_iz (f : Int32 → Int32 → Int32) (ls : sx_L) (pc : Nat) (st : List Value) (w : List sx_C) : Option sx_F := match st with
  | .int y :: .int x :: r => if y = 0 then none else some (pc + 1, ls, .int (f x y) :: r, w)
  | _ => none
def sx_i1 (f : Int32 → Int32) (ls : sx_L) (pc : Nat) (st : List Value) (w : List sx_C) : Option sx_F := match st with
  | .int x :: r => some (pc + 1, ls, .int (f x) :: r, w)
  | _ => none
def sx_jj (f : Int64 → Int64 → Int64) (ls : sx_L) (pc : Nat) (st : List Value) (w : List sx_C) : Option sx_F := match st with
  | .long y :: .long x :: r => some (pc + 1, ls, .long (f x y) :: r, w)
  | _ => none
def sx_ji (f : Int64 → Int32 → Int64) (ls : sx_L) (pc : Nat) (st : List Value) (w : List sx_C) : Option sx_F := match st with
  | .int y :: .long x :: r => some (pc + 1, ls, .long (f x y) :: r, w)
  | _ => none
def sx_to (pc : Nat) (off : Int) : Option Nat := match (pc : Int) + off with
  | .ofNat t => some t
  | .negSucc _ => none
def sx_b1 (c : Int32 → Bool) (off : Int) (ls : sx_L) (pc : Nat) (st : List Value) (w : List sx_C) : Option sx_F := match st with
  | .int x :: r => match sx_to pc off with
    | some t => cond (c x) (some (t, ls, r, w)) (some (pc + 3, ls, r, w))
    | none => none
  | _ => none
def sx_b2 (c : Int32 → Int32 → Bool) (off : Int) (ls : sx_L) (pc : Nat) (st : List Value) (w : List sx_C) : Option sx_F := match st with
  | .int y :: .int x :: r => match sx_to pc off with
    | some t => cond (c x y) (some (t, ls, r, w)) (some (pc + 3, ls, r, w))
    | none => none
  | _ => none
def sx_sw (dflt lo hi : Int) (offs : Array Int) (ls : sx_L) (pc : Nat) (st : List Value) (w : List sx_C) : Option sx_F := match st with
  | .int x :: r => if x.toInt < lo ∨ hi < x.toInt then (match sx_to pc dflt with
      | some t => some (t, ls, r, w)
      | none => none)
    else (match offs.toList[(x.toInt - lo).toNat]? with
      | some off => (match sx_to pc off with
        | some t => some (t, ls, r, w)
        | none => none)
      | none => none)
  | _ => none
def sx_gf (o idx : Nat) (ls : sx_L) (pc : Nat) (st : List Value) (w : List sx_C) : Option sx_F := match st with
  | .ref a :: r => match sx_lk (sx_fl o) idx, w[a]? with
    | some q, some (.inr (.inr (.inr (ci, fs)))) => cond (Nat.beq ci q.1) (match fs[q.2.1]? with
      | some v => some (pc + 3, ls, v :: r, w)
      | none => none) none
    | _, _ => none
  | _ => none
/-- a final field: by a constructor of its own class alone -/
def sx_fin (mi ci k : Nat) : Bool := match sx_cl[ci]? with
  | some q => cond (q.2.1 k).2.2.2 (Nat.beq (sx_own mi) ci && decide ((sx_M mi).1.name = "<init>")) true
  | none => false
def sx_pf (mi idx : Nat) (ls : sx_L) (pc : Nat) (st : List Value) (w : List sx_C) : Option sx_F := match st with
  | v :: .ref a :: r => match sx_lk (sx_fl (sx_own mi)) idx, w[a]? with
    | some q, some (.inr (.inr (.inr (ci, fs)))) => cond (Nat.beq ci q.1 && Nat.blt q.2.1 fs.length && sx_okv (sx_ty ci q.2.1) v && sx_fin mi ci q.2.1) (some (pc + 3, ls, r, w.set a (.inr (.inr (.inr (ci, fs.set q.2.1 v)))))) none
    | _, _ => none
  | _ => none
def sx_al (t : Nat) (l : List Int32) (i : Int32) (ls : sx_L) (pc : Nat) (r : List Value) (w : List sx_C) : Option sx_F := cond (sx_in i l.length) (some (pc + 1, ls, .int (l.getD i.toNatClampNeg 0) :: r, w)) none
def sx_iald (xs : Option (List Int32)) (ls : sx_L) (pc : Nat) (st : List Value) (w : List sx_C) : Option sx_F := match st with
  | .int i :: .ref a :: r => match w[a]? with
    | some (.inl (0, l)) => sx_al 0 l i ls pc r w
    | _ => none
  | .int i :: .float k :: r => cond (Nat.blt k.toNat 5) (sx_al 0 (sx_st xs k.toNat) i ls pc r w) none
  | _ => none
def sx_bald (ls : sx_L) (pc : Nat) (st : List Value) (w : List sx_C) : Option sx_F := match st with
  | .int i :: .ref a :: r => match w[a]? with
    | some (.inl (1, l)) => sx_al 1 l i ls pc r w
    | some (.inl (2, l)) => sx_al 2 l i ls pc r w
    | _ => none
  | _ => none
def sx_lald (ls : sx_L) (pc : Nat) (st : List Value) (w : List sx_C) : Option sx_F := match st with
  | .int i :: .ref a :: r => match w[a]? with
    | some (.inr (.inl (3, l))) => cond (sx_in i l.length) (some (pc + 1, ls, .long (l.getD i.toNatClampNeg 0) :: r, w)) none
    | _ => none
  | _ => none
def sx_aald (ls : sx_L) (pc : Nat) (st : List Value) (w : List sx_C) : Option sx_F := match st with
  | .int i :: .ref a :: r => match w[a]? with
    | some (.inr (.inr (.inl (t, l)))) => cond (sx_in i l.length && Nat.ble 4 t && Nat.ble t 6) (some (pc + 1, ls, sx_rf (l.getD i.toNatClampNeg none) :: r, w)) none
    | _ => none
  | _ => none
def sx_iast (ls : sx_L) (pc : Nat) (st : List Value) (w : List sx_C) : Option sx_F := match st with
  | .int x :: .int i :: .ref a :: r => match w[a]? with
    | some (.inl (0, l)) => cond (sx_in i l.length) (some (pc + 1, ls, r, w.set a (.inl (0, l.set i.toNatClampNeg x)))) none
    | _ => none
  | _ => none
def sx_bast (ls : sx_L) (pc : Nat) (st : List Value) (w : List sx_C) : Option sx_F := match st with
  | .int x :: .int i :: .ref a :: r => match w[a]? with
    | some (.inl (1, l)) => cond (sx_in i l.length) (some (pc + 1, ls, r, w.set a (.inl (1, l.set i.toNatClampNeg (vp_nar .boolean x))))) none
    | some (.inl (2, l)) => cond (sx_in i l.length) (some (pc + 1, ls, r, w.set a (.inl (2, l.set i.toNatClampNeg (vp_nar .byte x))))) none
    | _ => none
  | _ => none
def sx_last (ls : sx_L) (pc : Nat) (st : List Value) (w : List sx_C) : Option sx_F := match st with
  | .long x :: .int i :: .ref a :: r => match w[a]? with
    | some (.inr (.inl (3, l))) => cond (sx_in i l.length) (some (pc + 1, ls, r, w.set a (.inr (.inl (3, l.set i.toNatClampNeg x))))) none
    | _ => none
  | _ => none
/-- which class the objects in an array of kind t are of -/
def sx_oc (t : Nat) : Nat := match t with
  | 4 => 2
  | 5 => 5
  | _ => 99
def sx_aast (ls : sx_L) (pc : Nat) (st : List Value) (w : List sx_C) : Option sx_F := match st with
  | .ref v :: .int i :: .ref a :: r => match w[a]?, w[v]? with
    | some (.inr (.inr (.inl (t, l)))), some (.inr (.inr (.inr (ci, _)))) => cond (sx_in i l.length && Nat.beq ci (sx_oc t)) (some (pc + 1, ls, r, w.set a (.inr (.inr (.inl (t, l.set i.toNatClampNeg (some v))))))) none
    | _, _ => none
  | _ => none
def sx_new (o idx : Nat) (ls : sx_L) (pc : Nat) (st : List Value) (w : List sx_C) : Option sx_F := match sx_lk (sx_kl o) idx with
  | some q => some (pc + 3, ls, .ref w.length :: st, w ++ [.inr (.inr (.inr (q.1, sx_df q.1)))])
  | none => none
/-- a length that a constructor asks for -/
def sx_ln (n : Int32) : Bool := !(decide (n < 0)) && Nat.ble n.toNatClampNeg 4096
def sx_na (at_ : ArrayType) (ls : sx_L) (pc : Nat) (st : List Value) (w : List sx_C) : Option sx_F := match st with
  | .int n :: r => cond (sx_ln n) (match at_ with
    | .int => some (pc + 2, ls, .ref w.length :: r, w ++ [.inl (0, List.replicate n.toNatClampNeg 0)])
    | .boolean => some (pc + 2, ls, .ref w.length :: r, w ++ [.inl (1, List.replicate n.toNatClampNeg 0)])
    | .byte => some (pc + 2, ls, .ref w.length :: r, w ++ [.inl (2, List.replicate n.toNatClampNeg 0)])
    | .long => some (pc + 2, ls, .ref w.length :: r, w ++ [.inr (.inl (3, List.replicate n.toNatClampNeg 0))])
    | _ => none) none
  | _ => none
def sx_anew (o idx : Nat) (ls : sx_L) (pc : Nat) (st : List Value) (w : List sx_C) : Option sx_F := match st with
  | .int n :: r => match sx_lk (sx_kl o) idx with
    | some (2, _) => cond (sx_ln n) (some (pc + 3, ls, .ref w.length :: r, w ++ [.inr (.inr (.inl (4, List.replicate n.toNatClampNeg none)))])) none
    | some (5, _) => cond (sx_ln n) (some (pc + 3, ls, .ref w.length :: r, w ++ [.inr (.inr (.inl (5, List.replicate n.toNatClampNeg none)))])) none
    | _ => none
  | _ => none
def sx_mna (o idx dim : Nat) (ls : sx_L) (pc : Nat) (st : List Value) (w : List sx_C) : Option sx_F := match st with
  | .int k :: .int n :: r => cond (Nat.beq o 3 && Nat.beq idx 15 && Nat.beq dim 2 && sx_ln n && sx_ln k) (some (pc + 4, ls, .ref w.length :: r, w ++ (.inr (.inr (.inl (6, (List.range n.toNatClampNeg).map (fun i => some (w.length + 1 + i))))) :: List.replicate n.toNatClampNeg (.inl (0, List.replicate k.toNatClampNeg 0))))) none
  | _ => none
def sx_kc (o idx pc n : Nat) (ls : sx_L) (st : List Value) (w : List sx_C) : Option sx_F := match sx_lk (sx_kI o) idx with
  | some q => some (pc + n, ls, .int q.1 :: st, w)
  | none => match sx_lk (sx_kS o) idx with
    | some q => cond (Nat.blt q.1 20) (some (pc + n, ls, .float (UInt32.ofNat (100 + q.1)) :: st, w)) none
    | none => none
/-- how long each text is, and its bytes -/
def sx_sn : List Nat := [2, 5, 4, 4, 4, 5, 7, 4, 6, 4, 7, 6, 4, 4, 3, 6, 2, 4, 5, 3]
def sx_sb : List (List Int32) := [[97, 116], [98, 114, 101, 97, 100], [99, 108, 97, 121], [100, 101, 101, 112], [100, 105, 115, 104], [102, 101, 105, 110, 116], [103, 97, 108, 108, 101, 114, 121], [109, 105, 110, 101], [109, 111, 117, 116, 104, 115], [111, 117, 114, 115], [112, 114, 111, 112, 112, 101, 100], [114, 97, 116, 105, 111, 110], [114, 111, 99, 107], [115, 97, 110, 100], [115, 97, 112], [116, 104, 101, 105, 114, 115], [116, 111], [119, 97, 108, 108], [119, 97, 116, 101, 114], [119, 97, 121]]
/-- String's own methods (0: length), by their links -/
def sx_sm (o : Nat) : List (Nat × (Nat × Nat)) := match o with
  | 4 => [(119, 0, 704), (123, 1, 714)]
  | 6 => [(230, 0, 1293), (235, 1, 1294)]
  | _ => []
def sx_str (o idx : Nat) (ls : sx_L) (pc : Nat) (st : List Value) (w : List sx_C) : Option sx_F := match sx_lk (sx_sm o) idx, st with
  | some (0, _), .float k :: r => cond (Nat.ble 100 k.toNat && Nat.blt k.toNat 120 && Nat.ble (r.map (fun v => v.category)).sum 8) (some (pc + 3, ls, .int (nI (sx_sn.getD (k.toNat - 100) 0)) :: r, w)) none
  | some (1, _), .int i :: .float k :: r => cond (Nat.ble 100 k.toNat && Nat.blt k.toNat 120 && sx_in i (sx_sn.getD (k.toNat - 100) 0) && Nat.ble (r.map (fun v => v.category)).sum 8) (some (pc + 3, ls, .int ((sx_sb.getD (k.toNat - 100) []).getD i.toNatClampNeg 0) :: r, w)) none
  | _, _ => none
def sx_cpy {α : Type} (f g : List α) (sp dp n : Nat) : List α := g.take dp ++ (f.drop sp).take n ++ g.drop (dp + n)
def sx_acp (o idx : Nat) (ls : sx_L) (pc : Nat) (st : List Value) (w : List sx_C) : Option sx_F := match st with
  | .int n :: .int dp :: .ref a :: .int sp :: .ref a0 :: r => match sx_lk (sx_ac o) idx with
    | some _ => cond (!(decide (sp < 0)) && !(decide (dp < 0)) && !(decide (n < 0)) && Nat.ble (r.map (fun v => v.category)).sum 8) (match w[a0]?, w[a]? with
      | some (.inl (0, f)), some (.inl (0, g)) => cond (Nat.ble (sp.toNatClampNeg + n.toNatClampNeg) f.length && Nat.ble (dp.toNatClampNeg + n.toNatClampNeg) g.length) (some (pc + 3, ls, r, w.set a (.inl (0, sx_cpy f g sp.toNatClampNeg dp.toNatClampNeg n.toNatClampNeg)))) none
      | some (.inr (.inl (3, f))), some (.inr (.inl (3, g))) => cond (Nat.ble (sp.toNatClampNeg + n.toNatClampNeg) f.length && Nat.ble (dp.toNatClampNeg + n.toNatClampNeg) g.length) (some (pc + 3, ls, r, w.set a (.inr (.inl (3, sx_cpy f g sp.toNatClampNeg dp.toNatClampNeg n.toNatClampNeg))))) none
      | _, _ => none) none
    | none => none
  | _ => none
def sx_dup (ls : sx_L) (pc : Nat) (st : List Value) (w : List sx_C) : Option sx_F := match st with
  | v :: r => cond (Nat.beq v.category 1) (some (pc + 1, ls, v :: v :: r, w)) none
  | _ => none
def sx_pop (ls : sx_L) (pc : Nat) (st : List Value) (w : List sx_C) : Option sx_F := match st with
  | v :: r => cond (Nat.beq v.category 1) (some (pc + 1, ls, r, w)) none
  | _ => none
def sx_dup2 (ls : sx_L) (pc : Nat) (st : List Value) (w : List sx_C) : Option sx_F := match st with
  | v :: u :: r => cond (Nat.beq v.category 1 && Nat.beq u.category 1) (some (pc + 1, ls, v :: u :: v :: u :: r, w)) none
  | _ => none
def sx_pop2 (ls : sx_L) (pc : Nat) (st : List Value) (w : List sx_C) : Option sx_F := match st with
  | v :: r => cond (Nat.beq v.category 2) (some (pc + 1, ls, r, w)) none
  | _ => none
def sx_inc (nL : Nat) (i : Nat) (k : Int) (ls : sx_L) (pc : Nat) (st : List Value) (w : List sx_C) : Option sx_F := match sx_lk ls i with
  | some (.int v) => cond (Nat.blt i nL) (some (pc + 3, sx_s1 ls i (.int (v + Int32.ofInt k)), st, w)) none
  | _ => none
def sx_gs (o idx : Nat) (ls : sx_L) (pc : Nat) (st : List Value) (w : List sx_C) : Option sx_F := match sx_lk (sx_sl o) idx with
  | some q => cond (Nat.blt q.1 4) (some (pc + 3, ls, .float (UInt32.ofNat q.1) :: st, w)) none
  | none => none
def sx_kj (o idx : Nat) (ls : sx_L) (pc : Nat) (st : List Value) (w : List sx_C) : Option sx_F := match sx_lk (sx_kJ o) idx with
  | some q => some (pc + 3, ls, .long q.1 :: st, w)
  | none => none
def sx_obj (o idx : Nat) (ls : sx_L) (pc : Nat) (st : List Value) (w : List sx_C) : Option sx_F := match sx_lk (sx_oi o) idx, st with
  | some _, .ref _ :: r => cond (Nat.ble (r.map (fun v => v.category)).sum 8) (some (pc + 3, ls, r, w)) none
  | _, _ => none
def sx_len (xs : Option (List Int32)) (ls : sx_L) (pc : Nat) (st : List Value) (w : List sx_C) : Option sx_F := match st, xs with
  | .float k :: r, some ys => cond (Nat.beq k.toNat 4) (some (pc + 1, ls, .int (Int32.ofNat ys.length) :: r, w)) none
  | _, _ => none
def sx_step (md : Bool) (xs : Option (List Int32)) (mi pc : Nat) (i : Instr) (n : Nat) (ls : sx_L) (st : List Value) (w : List sx_C) : Option sx_F := match i, n with
  | .iconst k, 1 => some (pc + 1, ls, .int (Int32.ofInt k) :: st, w)
  | .bipush k, 2 => some (pc + 2, ls, .int (Int8.ofInt k).toInt32 :: st, w)
  | .sipush k, 3 => some (pc + 3, ls, .int (Int16.ofInt k).toInt32 :: st, w)
  | .lconst k, 1 => some (pc + 1, ls, .long (Int64.ofNat (k : Nat)) :: st, w)
  | .ldc k, 2 => sx_kc (sx_own mi) k pc 2 ls st w
  | .ldc_w k, 3 => sx_kc (sx_own mi) k pc 3 ls st w
  | .ldc2_w k, 3 => sx_kj (sx_own mi) k ls pc st w
  | .iload_n k, 1 => sx_ldi ls k (pc + 1) st w
  | .iload k, 2 => sx_ldi ls k (pc + 2) st w
  | .lload_n k, 1 => sx_ldl ls k (pc + 1) st w
  | .lload k, 2 => sx_ldl ls k (pc + 2) st w
  | .aload_n k, 1 => sx_lda ls k (pc + 1) st w
  | .aload k, 2 => sx_lda ls k (pc + 2) st w
  | .istore_n k, 1 => sx_sti (sx_maxL mi) ls k (pc + 1) st w
  | .istore k, 2 => sx_sti (sx_maxL mi) ls k (pc + 2) st w
  | .lstore_n k, 1 => sx_stl (sx_maxL mi) ls k (pc + 1) st w
  | .lstore k, 2 => sx_stl (sx_maxL mi) ls k (pc + 2) st w
  | .astore_n k, 1 => sx_sta (sx_maxL mi) ls k (pc + 1) st w
  | .astore k, 2 => sx_sta (sx_maxL mi) ls k (pc + 2) st w
  | .iinc i k, 3 => sx_inc (sx_maxL mi) i k ls pc st w
  | .iadd, 1 => sx_ii (fun x y => x + y) ls pc st w
  | .isub, 1 => sx_ii (fun x y => x - y) ls pc st w
  | .imul, 1 => sx_ii (fun x y => x * y) ls pc st w
  | .iand, 1 => sx_ii (fun x y => x &&& y) ls pc st w
  | .ishl, 1 => sx_ii (fun x y => x <<< (y &&& 31)) ls pc st w
  | .ishr, 1 => sx_ii (fun x y => x >>> (y &&& 31)) ls pc st w
  | .idiv, 1 => sx_iz (fun x y => x / y) ls pc st w
  | .irem, 1 => sx_iz (fun x y => x - x / y * y) ls pc st w
  | .ineg, 1 => sx_i1 (fun x => -x) ls pc st w
  | .i2b, 1 => sx_i1 (fun x => x.toInt8.toInt32) ls pc st w
  | .i2s, 1 => sx_i1 (fun x => x.toInt16.toInt32) ls pc st w
  | .ladd, 1 => sx_jj (fun x y => x + y) ls pc st w
  | .lsub, 1 => sx_jj (fun x y => x - y) ls pc st w
  | .lmul, 1 => sx_jj (fun x y => x * y) ls pc st w
  | .land, 1 => sx_jj (fun x y => x &&& y) ls pc st w
  | .lor, 1 => sx_jj (fun x y => x ||| y) ls pc st w
  | .lxor, 1 => sx_jj (fun x y => x ^^^ y) ls pc st w
  | .lshl, 1 => sx_ji (fun x y => x <<< (y.toInt64 &&& 63)) ls pc st w
  | .lushr, 1 => sx_ji (fun x y => (x.toUInt64 >>> (y.toInt64.toUInt64 &&& Int64.toUInt64 63)).toInt64) ls pc st w
  | .lcmp, 1 => match st with | .long y :: .long x :: r => some (pc + 1, ls, .int (lg_cmp x y) :: r, w) | _ => none
  | .i2l, 1 => match st with | .int x :: r => some (pc + 1, ls, .long x.toInt64 :: r, w) | _ => none
  | .l2i, 1 => match st with | .long x :: r => some (pc + 1, ls, .int x.toInt32 :: r, w) | _ => none
  | .dup, 1 => sx_dup ls pc st w
  | .pop, 1 => sx_pop ls pc st w
  | .dup2, 1 => sx_dup2 ls pc st w
  | .pop2, 1 => sx_pop2 ls pc st w
  | .ifCond .eq off, 3 => sx_b1 (fun x => decide (x = 0)) off ls pc st w
  | .if_icmp .eq off, 3 => sx_b2 (fun x y => decide (x = y)) off ls pc st w
  | .ifCond .ne off, 3 => sx_b1 (fun x => decide (¬ x = 0)) off ls pc st w
  | .if_icmp .ne off, 3 => sx_b2 (fun x y => decide (¬ x = y)) off ls pc st w
  | .ifCond .lt off, 3 => sx_b1 (fun x => decide (x < 0)) off ls pc st w
  | .if_icmp .lt off, 3 => sx_b2 (fun x y => decide (x < y)) off ls pc st w
  | .ifCond .ge off, 3 => sx_b1 (fun x => decide (0 ≤ x)) off ls pc st w
  | .if_icmp .ge off, 3 => sx_b2 (fun x y => decide (y ≤ x)) off ls pc st w
  | .ifCond .gt off, 3 => sx_b1 (fun x => decide (0 < x)) off ls pc st w
  | .if_icmp .gt off, 3 => sx_b2 (fun x y => decide (y < x)) off ls pc st w
  | .ifCond .le off, 3 => sx_b1 (fun x => decide (x ≤ 0)) off ls pc st w
  | .if_icmp .le off, 3 => sx_b2 (fun x y => decide (x ≤ y)) off ls pc st w
  | .goto off, 3 => match sx_to pc off with | some t => some (t, ls, st, w) | none => none
  | .tableswitch d lo hi offs, len => sx_sw d lo hi offs ls pc st w
  | .getfield k, 3 => sx_gf (sx_own mi) k ls pc st w
  | .putfield k, 3 => sx_pf mi k ls pc st w
  | .getstatic k, 3 => sx_gs (sx_own mi) k ls pc st w
  | .iaload, 1 => sx_iald xs ls pc st w
  | .baload, 1 => sx_bald ls pc st w
  | .laload, 1 => sx_lald ls pc st w
  | .aaload, 1 => sx_aald ls pc st w
  | .iastore, 1 => sx_iast ls pc st w
  | .bastore, 1 => sx_bast ls pc st w
  | .lastore, 1 => sx_last ls pc st w
  | .aastore, 1 => sx_aast ls pc st w
  | .arraylength, 1 => sx_len xs ls pc st w
  | .new k, 3 => cond md (sx_new (sx_own mi) k ls pc st w) none
  | .newarray t, 2 => cond md (sx_na t ls pc st w) none
  | .anewarray k, 3 => cond md (sx_anew (sx_own mi) k ls pc st w) none
  | .multianewarray k dim, 4 => cond md (sx_mna (sx_own mi) k dim ls pc st w) none
  | .invokespecial k, 3 => sx_obj (sx_own mi) k ls pc st w
  | .invokestatic k, 3 => cond md none (sx_acp (sx_own mi) k ls pc st w)
  | .invokevirtual k, 3 => sx_str (sx_own mi) k ls pc st w
  | _, _ => none
/-- a call: the callee, its arguments, what stays on the stack -/
def sx_inv (mi : Nat) (i : Instr) (st : List Value) (w : List sx_C) : Option (Nat × List Value × List Value) := match i with
  | .invokestatic k => match sx_lk (sx_ml (sx_own mi)) k with
    | some q => cond (Nat.beq (sx_kd q.1) 0 && Nat.ble (sx_nar q.1) st.length && Nat.ble ((st.drop (sx_nar q.1)).map (fun v => v.category)).sum 8) (some (q.1, (st.take (sx_nar q.1)).reverse, st.drop (sx_nar q.1))) none
    | none => none
  | .invokevirtual k => match sx_lk (sx_ml (sx_own mi)) k with
    | some q => match st.drop (sx_nar q.1) with
      | .ref a :: r => match w[a]? with
        | some (.inr (.inr (.inr (ci, _)))) => cond (Nat.beq (sx_kd q.1) 1 && Nat.beq ci (sx_own q.1) && Nat.ble (r.map (fun v => v.category)).sum 8) (some (q.1, .ref a :: (st.take (sx_nar q.1)).reverse, r)) none
        | _ => none
      | _ => none
    | none => none
  | .invokespecial k => match sx_lk (sx_ml (sx_own mi)) k with
    | some q => match st with
      | .ref a :: r => cond (Nat.beq (sx_kd q.1) 2 && Nat.beq (sx_nar q.1) 0 && Nat.ble (r.map (fun v => v.category)).sum 8) (some (q.1, [.ref a], r)) none
      | _ => none
    | none => match sx_lk (sx_mn (sx_own mi)) k with
      | some q => match st with
        | .ref a :: r => cond (Nat.beq (sx_kd q.1) 2 && Nat.beq (sx_nar q.1) 0 && Nat.ble (r.map (fun v => v.category)).sum 8) (some (q.1, [.ref a], r)) none
        | _ => none
      | none => none
  | _ => none
/-- an answer -/
def sx_ret (mi : Nat) (i : Instr) (st : List Value) : Option (Option Value) := match i, (sx_M mi).2.2.2.1, st with
  | .ireturn, some .int, [.int v] => some (some (.int v))
  | .ireturn, some .boolean, [.int v] => cond (v == 0 || v == 1) (some (some (.int v))) none
  | .lreturn, some .long, [.long v] => some (some (.long v))
  | .areturn, some (.object _), [.ref v] => some (some (.ref v))
  | .areturn, some (.object _), [.float v] => some (some (.float v))
  | .areturn, some (.array _), [.ref v] => some (some (.ref v))
  | .return_, none, [] => some none
  | _, _, _ => none
def sx_run (md : Bool) (xs : Option (List Int32)) : Nat → Nat → Nat → Nat → sx_L → List Value → List sx_C → Option (Option Value × List sx_C)
  | 0, _, _, _, _, _, _ => none
  | f + 1, d, mi, pc, ls, st, w => match sx_ins mi pc with
    | none => none
    | some (i, n) => match sx_step md xs mi pc i n ls st w with
      | some (pc', ls', st', w') => sx_run md xs f d mi pc' ls' st' w'
      | none => match cond (Nat.beq n 1) (sx_ret mi i st) none with
        | some r => some (r, w)
        | none => match cond (Nat.beq n 3) (sx_inv mi i st w) none, d with
          | some (mi', as, rest), d' + 1 => cond (Nat.ble (as.map (fun v => v.category)).sum (sx_maxL mi')) (match sx_run md xs f d' mi' 0 (lv_args 0 as) [] w with
            | some (r, w') => sx_run md xs f (d' + 1) mi (pc + 3) ls (r.toList ++ rest) w'
            | none => none) none
          | _, _ => none
end SXA
