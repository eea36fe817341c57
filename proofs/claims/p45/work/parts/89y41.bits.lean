-- how many bits a number has
def cnN (f : Nat → Bool) : Nat → Nat
  | 0 => 0
  | n + 1 => cnN f n + (if f n = true then 1 else 0)
theorem ctP_cn {f : Nat → Bool} : ∀ n : Nat, ctP f n = nI (cnN f n)
  | 0 => rfl
  | n + 1 => by
    show ctP f n + (if f n = true then 1 else 0) = nI (cnN f n + (if f n = true then 1 else 0))
    rw [ctP_cn n]
    by_cases h : f n = true
    · rw [if_pos h, if_pos h]
      exact nI_add _ 1
    · rw [if_neg h, if_neg h]
      exact Int32.add_zero _
theorem cnN_le {f : Nat → Bool} : ∀ n : Nat, cnN f n ≤ n
  | 0 => Nat.le_refl 0
  | n + 1 => by
    have h := cnN_le (f := f) n
    show cnN f n + (if f n = true then 1 else 0) ≤ n + 1
    split <;> omega
theorem cnN_add {f : Nat → Bool} (m : Nat) : ∀ n : Nat, cnN f (m + n) = cnN f m + cnN (fun i => f (m + i)) n
  | 0 => rfl
  | n + 1 => by
    show cnN f (m + n) + (if f (m + n) = true then 1 else 0) = cnN f m + (cnN (fun i => f (m + i)) n + (if f (m + n) = true then 1 else 0))
    rw [cnN_add m n]
    exact Nat.add_assoc _ _ _
theorem cnN_congr {f g : Nat → Bool} : ∀ n : Nat, (∀ i, i < n → f i = g i) → cnN f n = cnN g n
  | 0, _ => rfl
  | n + 1, h => by
    show cnN f n + (if f n = true then 1 else 0) = cnN g n + (if g n = true then 1 else 0)
    rw [cnN_congr n (fun i hi => h i (by omega)), h n (by omega)]
def by1 (b : Nat) : Nat := b - (b / 2 &&& 85)
def by2 (a : Nat) : Nat := (a &&& 51) + (a / 4 &&& 51)
def by3 (c : Nat) : Nat := (c + c / 16) % 16
theorem by_ok : ∀ b, b < 256 → by3 (by2 (by1 b)) = cnN b.testBit 8 := by decide +kernel
theorem by_1 : ∀ b, b < 256 → (b / 2 &&& 85) ≤ b ∧ by1 b < 256 := by decide +kernel
theorem by_2 : ∀ b, b < 256 → by2 (by1 b) < 256 ∧ by2 (by1 b) % 16 ≤ 4 ∧ by2 (by1 b) / 16 ≤ 4 := by decide +kernel
theorem by_a : ∀ b, b < 256 → ∀ r, r < 2 → (b / 2 + 128 * r) &&& 85 = b / 2 &&& 85 := by decide +kernel
theorem by_b : ∀ b, b < 256 → ∀ r, r < 4 → (b / 4 + 64 * r) &&& 51 = b / 4 &&& 51 := by decide +kernel
def dgt : Nat → Nat → List Nat
  | 0, _ => []
  | n + 1, u => u % 256 :: dgt n (u / 256)
def vaL : List Nat → Nat
  | [] => 0
  | b :: bs => b + 256 * vaL bs
def mkN (c : Nat) : Nat → Nat
  | 0 => 0
  | n + 1 => c + 256 * mkN c n
def smL : List Nat → Nat
  | [] => 0
  | b :: bs => b + smL bs
theorem and_sp {a b x y : Nat} (ha : a < 256) (hb : b < 256) : (a + 256 * x) &&& (b + 256 * y) = (a &&& b) + 256 * (x &&& y) := by
  have h1 := Nat.and_mod_two_pow (a := a + 256 * x) (b := b + 256 * y) (n := 8)
  have h2 := Nat.and_div_two_pow (a := a + 256 * x) (b := b + 256 * y) (n := 8)
  rw [show (a + 256 * x) % 2 ^ 8 = a by omega, show (b + 256 * y) % 2 ^ 8 = b by omega] at h1
  rw [show (a + 256 * x) / 2 ^ 8 = x by omega, show (b + 256 * y) / 2 ^ 8 = y by omega] at h2
  generalize (a + 256 * x) &&& (b + 256 * y) = t at h1 h2
  generalize a &&& b = p at h1
  generalize x &&& y = q at h2
  omega
theorem va_and {c : Nat} (hc : c < 256) : ∀ bs : List Nat, (∀ b, b ∈ bs → b < 256) → vaL bs &&& mkN c bs.length = vaL (bs.map (fun b => b &&& c))
  | [], _ => Nat.zero_and _
  | b :: bs, h => by
    show (b + 256 * vaL bs) &&& (c + 256 * mkN c bs.length) = (b &&& c) + 256 * vaL (bs.map (fun b => b &&& c))
    rw [and_sp (h b (List.mem_cons_self ..)) hc, va_and hc bs (fun x hx => h x (List.mem_cons_of_mem _ hx))]
theorem va_a2 : ∀ bs : List Nat, (∀ b, b ∈ bs → b < 256) → vaL bs / 2 &&& mkN 85 bs.length = vaL (bs.map (fun b => b / 2 &&& 85))
  | [], _ => rfl
  | b :: bs, h => by
    have hb := h b (List.mem_cons_self ..)
    show (b + 256 * vaL bs) / 2 &&& (85 + 256 * mkN 85 bs.length) = (b / 2 &&& 85) + 256 * vaL (bs.map (fun b => b / 2 &&& 85))
    rw [show (b + 256 * vaL bs) / 2 = (b / 2 + 128 * (vaL bs % 2)) + 256 * (vaL bs / 2) by omega, and_sp (by omega) (by omega), va_a2 bs (fun x hx => h x (List.mem_cons_of_mem _ hx)), by_a b hb _ (by omega)]
theorem va_a4 : ∀ bs : List Nat, (∀ b, b ∈ bs → b < 256) → vaL bs / 4 &&& mkN 51 bs.length = vaL (bs.map (fun b => b / 4 &&& 51))
  | [], _ => rfl
  | b :: bs, h => by
    have hb := h b (List.mem_cons_self ..)
    show (b + 256 * vaL bs) / 4 &&& (51 + 256 * mkN 51 bs.length) = (b / 4 &&& 51) + 256 * vaL (bs.map (fun b => b / 4 &&& 51))
    rw [show (b + 256 * vaL bs) / 4 = (b / 4 + 64 * (vaL bs % 4)) + 256 * (vaL bs / 4) by omega, and_sp (by omega) (by omega), va_a4 bs (fun x hx => h x (List.mem_cons_of_mem _ hx)), by_b b hb _ (by omega)]
theorem va_m16 : ∀ bs : List Nat, (∀ b, b ∈ bs → b < 256 ∧ b % 16 ≤ 4 ∧ b / 16 ≤ 4) → vaL bs % 16 ≤ 4
  | [], _ => by decide
  | b :: bs, h => by
    have hb := h b (List.mem_cons_self ..)
    show (b + 256 * vaL bs) % 16 ≤ 4
    omega
theorem va_16 : ∀ bs : List Nat, (∀ b, b ∈ bs → b < 256 ∧ b % 16 ≤ 4 ∧ b / 16 ≤ 4) → (vaL bs + vaL bs / 16) &&& mkN 15 bs.length = vaL (bs.map by3)
  | [], _ => rfl
  | b :: bs, h => by
    have hb := h b (List.mem_cons_self ..)
    have h2 : ∀ x, x ∈ bs → x < 256 ∧ x % 16 ≤ 4 ∧ x / 16 ≤ 4 := fun x hx => h x (List.mem_cons_of_mem _ hx)
    have hm := va_m16 bs h2
    show ((b + 256 * vaL bs) + (b + 256 * vaL bs) / 16) &&& (15 + 256 * mkN 15 bs.length) = by3 b + 256 * vaL (bs.map by3)
    rw [show (b + 256 * vaL bs) + (b + 256 * vaL bs) / 16 = (b + b / 16 + 16 * (vaL bs % 16)) + 256 * (vaL bs + vaL bs / 16) by omega, and_sp (by omega) (by omega), va_16 bs h2, show (15 : Nat) = 2 ^ 4 - 1 from rfl, Nat.and_two_pow_sub_one_eq_mod]
    unfold by3
    omega
theorem va_add {f g : Nat → Nat} : ∀ bs : List Nat, vaL (bs.map f) + vaL (bs.map g) = vaL (bs.map (fun b => f b + g b))
  | [] => rfl
  | b :: bs => by
    have e := va_add (f := f) (g := g) bs
    show (f b + 256 * vaL (bs.map f)) + (g b + 256 * vaL (bs.map g)) = (f b + g b) + 256 * vaL (bs.map (fun b => f b + g b))
    omega
theorem va_sub : ∀ bs : List Nat, (∀ b, b ∈ bs → b < 256) → vaL (bs.map by1) + vaL (bs.map (fun b => b / 2 &&& 85)) = vaL bs
  | [], _ => rfl
  | b :: bs, h => by
    have e := va_sub bs (fun x hx => h x (List.mem_cons_of_mem _ hx))
    have hb := (by_1 b (h b (List.mem_cons_self ..))).1
    show (by1 b + 256 * vaL (bs.map by1)) + ((b / 2 &&& 85) + 256 * vaL (bs.map (fun b => b / 2 &&& 85))) = b + 256 * vaL bs
    unfold by1 at e ⊢
    omega
theorem dg_len : ∀ n u : Nat, (dgt n u).length = n
  | 0, _ => rfl
  | n + 1, u => congrArg (fun k => k + 1) (dg_len n (u / 256))
theorem dg_lt : ∀ n u : Nat, ∀ b, b ∈ dgt n u → b < 256
  | 0, _, b, h => absurd h (List.not_mem_nil)
  | n + 1, u, b, h => by
    rcases List.mem_cons.mp h with e | e
    · rw [e]
      omega
    · exact dg_lt n _ b e
theorem dg_va : ∀ n u : Nat, u < 256 ^ n → vaL (dgt n u) = u
  | 0, u, h => by
    have e : u = 0 := by
      rw [Nat.pow_zero] at h
      omega
    rw [e]
    rfl
  | n + 1, u, h => by
    rw [Nat.pow_succ] at h
    show u % 256 + 256 * vaL (dgt n (u / 256)) = u
    rw [dg_va n (u / 256) (by omega)]
    omega
theorem dg_cn : ∀ n u : Nat, smL ((dgt n u).map (fun b => cnN b.testBit 8)) = cnN u.testBit (8 * n)
  | 0, _ => rfl
  | n + 1, u => by
    show cnN (u % 256).testBit 8 + smL ((dgt n (u / 256)).map (fun b => cnN b.testBit 8)) = cnN u.testBit (8 * (n + 1))
    rw [dg_cn n, show 8 * (n + 1) = 8 + 8 * n by omega, cnN_add 8 (8 * n)]
    congr 1
    · exact cnN_congr 8 (fun i hi => by rw [show (256 : Nat) = 2 ^ 8 from rfl, Nat.testBit_mod_two_pow, decide_eq_true hi, Bool.true_and])
    · exact cnN_congr (8 * n) (fun i hi => by rw [show (256 : Nat) = 2 ^ 8 from rfl, Nat.testBit_div_two_pow, Nat.add_comm])
theorem va_b8 {a b c e f g h k m : Nat} (ha : a ≤ m) (hb : b ≤ m) (hc : c ≤ m) (he : e ≤ m) (hf : f ≤ m) (hg : g ≤ m) (hh : h ≤ m) (hk : k ≤ m) : a + 256 * (b + 256 * (c + 256 * (e + 256 * (f + 256 * (g + 256 * (h + 256 * k)))))) ≤ 72340172838076673 * m := by
  refine Nat.le_trans (Nat.add_le_add ha (Nat.mul_le_mul_left 256 (Nat.add_le_add hb (Nat.mul_le_mul_left 256 (Nat.add_le_add hc (Nat.mul_le_mul_left 256 (Nat.add_le_add he (Nat.mul_le_mul_left 256 (Nat.add_le_add hf (Nat.mul_le_mul_left 256 (Nat.add_le_add hg (Nat.mul_le_mul_left 256 (Nat.add_le_add hh (Nat.mul_le_mul_left 256 hk)))))))))))))) ?_
  omega
theorem va_q1 {a X : Nat} (ha : a < 256) : (a + 256 * X) / 256 = X := by omega
theorem va_q2 {a b X : Nat} (ha : a < 256) (hb : b < 256) : (a + 256 * (b + 256 * X)) / 65536 = X := by omega
theorem va_q4 {a b c e X : Nat} (ha : a < 256) (hb : b < 256) (hc : c < 256) (he : e < 256) : (a + 256 * (b + 256 * (c + 256 * (e + 256 * X)))) / 4294967296 = X := by omega
theorem va_s8 {a b c e f g h k a2 b2 c2 e2 f2 g2 h2 : Nat} : a + 256 * (b + 256 * (c + 256 * (e + 256 * (f + 256 * (g + 256 * (h + 256 * k)))))) + (a2 + 256 * (b2 + 256 * (c2 + 256 * (e2 + 256 * (f2 + 256 * (g2 + 256 * h2)))))) = (a + a2) + 256 * ((b + b2) + 256 * ((c + c2) + 256 * ((e + e2) + 256 * ((f + f2) + 256 * ((g + g2) + 256 * ((h + h2) + 256 * k)))))) := by omega
theorem va_s6 {a b c e f g h k a2 b2 c2 e2 f2 g2 : Nat} : a + 256 * (b + 256 * (c + 256 * (e + 256 * (f + 256 * (g + 256 * (h + 256 * k)))))) + (a2 + 256 * (b2 + 256 * (c2 + 256 * (e2 + 256 * (f2 + 256 * g2))))) = (a + a2) + 256 * ((b + b2) + 256 * ((c + c2) + 256 * ((e + e2) + 256 * ((f + f2) + 256 * ((g + g2) + 256 * (h + 256 * k)))))) := by omega
theorem va_m8 {a X b Y : Nat} (h : a + b < 128) : (a + 256 * X + (b + 256 * Y)) % 128 = a + b := by omega
theorem va_lt4 {x y z t : Nat} (h1 : x ≤ 72340172838076673 * 8) (h2 : y ≤ 72340172838076673 * 16) (h3 : z ≤ 72340172838076673 * 32) (h4 : t ≤ z + z) : x < 2 ^ 60 ∧ y < 2 ^ 61 ∧ z < 2 ^ 62 ∧ t < 2 ^ 63 := by omega
theorem va_l8 {a m : Nat} (h : a ≤ m) (hm : m < 256) : a < 256 := Nat.lt_of_le_of_lt h hm
theorem va_fin {a b c e f g h k : Nat} (ha : a ≤ 8) (hb : b ≤ 8) (hc : c ≤ 8) (he : e ≤ 8) (hf : f ≤ 8) (hg : g ≤ 8) (hh : h ≤ 8) (hk : k ≤ 8) {x y z t : Nat} (ex : x = vaL [a, b, c, e, f, g, h, k]) (ey : y = x + x / 256) (ez : z = y + y / 65536) (et : t = z + z / 4294967296) : (x < 2 ^ 60 ∧ y < 2 ^ 61 ∧ z < 2 ^ 62 ∧ t < 2 ^ 63) ∧ t % 128 = a + b + (c + e) + (f + g + (h + k)) := by
  have p1 : a + b ≤ 16 := Nat.add_le_add ha hb
  have p2 : b + c ≤ 16 := Nat.add_le_add hb hc
  have p3 : c + e ≤ 16 := Nat.add_le_add hc he
  have p4 : e + f ≤ 16 := Nat.add_le_add he hf
  have p5 : f + g ≤ 16 := Nat.add_le_add hf hg
  have p6 : g + h ≤ 16 := Nat.add_le_add hg hh
  have p7 : h + k ≤ 16 := Nat.add_le_add hh hk
  have p8 : k ≤ 16 := Nat.le_trans hk (by decide)
  have q1 : a + b + (c + e) ≤ 32 := Nat.add_le_add p1 p3
  have q2 : b + c + (e + f) ≤ 32 := Nat.add_le_add p2 p4
  have q3 : c + e + (f + g) ≤ 32 := Nat.add_le_add p3 p5
  have q4 : e + f + (g + h) ≤ 32 := Nat.add_le_add p4 p6
  have q5 : f + g + (h + k) ≤ 32 := Nat.add_le_add p5 p7
  have q6 : g + h + k ≤ 32 := Nat.add_le_add p6 p8
  have q7 : h + k ≤ 32 := Nat.le_trans p7 (by decide)
  have q8 : k ≤ 32 := Nat.le_trans p8 (by decide)
  have e1 : x = a + 256 * (b + 256 * (c + 256 * (e + 256 * (f + 256 * (g + 256 * (h + 256 * k)))))) := by
    rw [ex]
    simp only [vaL, Nat.mul_zero, Nat.add_zero]
  have b1 := va_b8 ha hb hc he hf hg hh hk
  rw [← e1] at b1
  have e2 : y = (a + b) + 256 * ((b + c) + 256 * ((c + e) + 256 * ((e + f) + 256 * ((f + g) + 256 * ((g + h) + 256 * ((h + k) + 256 * k)))))) := by
    rw [ey, e1, va_q1 (va_l8 ha (by decide))]
    exact va_s8
  have b2 := va_b8 p1 p2 p3 p4 p5 p6 p7 p8
  rw [← e2] at b2
  have e3 : z = (a + b + (c + e)) + 256 * ((b + c + (e + f)) + 256 * ((c + e + (f + g)) + 256 * ((e + f + (g + h)) + 256 * ((f + g + (h + k)) + 256 * ((g + h + k) + 256 * ((h + k) + 256 * k)))))) := by
    rw [ez, e2, va_q2 (va_l8 p1 (by decide)) (va_l8 p2 (by decide))]
    exact va_s6
  have b3 := va_b8 q1 q2 q3 q4 q5 q6 q7 q8
  rw [← e3] at b3
  have e4 : z / 4294967296 = (f + g + (h + k)) + 256 * ((g + h + k) + 256 * ((h + k) + 256 * k)) := by
    rw [e3]
    exact va_q4 (va_l8 q1 (by decide)) (va_l8 q2 (by decide)) (va_l8 q3 (by decide)) (va_l8 q4 (by decide))
  have b4 : t ≤ z + z := by
    rw [et]
    exact Nat.add_le_add_left (Nat.div_le_self _ _) _
  refine ⟨va_lt4 b1 b2 b3 b4, ?_⟩
  rw [et, e4, e3]
  exact va_m8 (Nat.lt_of_le_of_lt (Nat.add_le_add q1 q5) (by decide))
theorem sm8 {f : Nat → Nat} {u : Nat} : smL ((dgt 8 u).map f) = f (u % 256) + f (u / 256 % 256) + (f (u / 256 / 256 % 256) + f (u / 256 / 256 / 256 % 256)) + (f (u / 256 / 256 / 256 / 256 % 256) + f (u / 256 / 256 / 256 / 256 / 256 % 256) + (f (u / 256 / 256 / 256 / 256 / 256 / 256 % 256) + f (u / 256 / 256 / 256 / 256 / 256 / 256 / 256 % 256))) := by
  show f (u % 256) + (f (u / 256 % 256) + (f (u / 256 / 256 % 256) + (f (u / 256 / 256 / 256 % 256) + (f (u / 256 / 256 / 256 / 256 % 256) + (f (u / 256 / 256 / 256 / 256 / 256 % 256) + (f (u / 256 / 256 / 256 / 256 / 256 / 256 % 256) + (f (u / 256 / 256 / 256 / 256 / 256 / 256 / 256 % 256) + 0))))))) = _
  omega
theorem i64_shr {v : Int64} {k : Nat} (hk : k < 64) : ((v.toUInt64 >>> ((nI k).toInt64.toUInt64 &&& Int64.toUInt64 63)).toInt64).toBitVec.toNat = v.toBitVec.toNat / 2 ^ k := by
  show (v.toBitVec >>> (((nI k).toInt64.toUInt64 &&& Int64.toUInt64 63).toBitVec % 64)).toNat = _
  rw [sh_amt ⟨k, hk⟩]
  show (v.toBitVec >>> (BitVec.ofNat 64 k).toNat).toNat = _
  rw [BitVec.toNat_ushiftRight, BitVec.toNat_ofNat, Nat.mod_eq_of_lt (show k < 2 ^ 64 by omega), Nat.shiftRight_eq_div_pow]
def bc1 (v : Int64) : Int64 := v - ((v.toUInt64 >>> ((1 : Int32).toInt64.toUInt64 &&& Int64.toUInt64 63)).toInt64 &&& 6148914691236517205)
def bc2 (v : Int64) : Int64 := (v &&& 3689348814741910323) + ((v.toUInt64 >>> ((2 : Int32).toInt64.toUInt64 &&& Int64.toUInt64 63)).toInt64 &&& 3689348814741910323)
def bc3 (v : Int64) : Int64 := (v + (v.toUInt64 >>> ((4 : Int32).toInt64.toUInt64 &&& Int64.toUInt64 63)).toInt64) &&& 1085102592571150095
def bc4 (v : Int64) : Int64 := v + (v.toUInt64 >>> ((8 : Int32).toInt64.toUInt64 &&& Int64.toUInt64 63)).toInt64
def bc5 (v : Int64) : Int64 := v + (v.toUInt64 >>> ((16 : Int32).toInt64.toUInt64 &&& Int64.toUInt64 63)).toInt64
def bc6 (v : Int64) : Int64 := v + (v.toUInt64 >>> ((32 : Int32).toInt64.toUInt64 &&& Int64.toUInt64 63)).toInt64
def uN (v : Int64) : Nat := v.toBitVec.toNat
theorem uN_add {a b : Int64} (h : uN a + uN b < 2 ^ 64) : uN (a + b) = uN a + uN b := by
  show (a.toBitVec + b.toBitVec).toNat = _
  rw [BitVec.toNat_add]
  exact Nat.mod_eq_of_lt h
theorem uN_sub {a b : Int64} (h : uN b ≤ uN a) : uN (a - b) = uN a - uN b := by
  show (a.toBitVec - b.toBitVec).toNat = _
  have ha : uN a < 2 ^ 64 := a.toBitVec.isLt
  rw [BitVec.toNat_sub]
  show (2 ^ 64 - uN b + uN a) % 2 ^ 64 = uN a - uN b
  omega
theorem uN_and {a b : Int64} : uN (a &&& b) = uN a &&& uN b := by
  show (a.toBitVec &&& b.toBitVec).toNat = _
  rw [BitVec.toNat_and]
  rfl
theorem va_lt : ∀ bs : List Nat, (∀ b, b ∈ bs → b < 256) → vaL bs < 256 ^ bs.length
  | [], _ => by decide
  | b :: bs, h => by
    have e := va_lt bs (fun x hx => h x (List.mem_cons_of_mem _ hx))
    have hb := h b (List.mem_cons_self ..)
    show b + 256 * vaL bs < 256 ^ (bs.length + 1)
    rw [Nat.pow_succ]
    omega
theorem bc1_v {v : Int64} : uN (bc1 v) = vaL ((dgt 8 (uN v)).map by1) := by
  have hlt : uN v < 256 ^ 8 := v.toBitVec.isLt
  have hv := dg_va 8 (uN v) hlt
  have hl := dg_len 8 (uN v)
  have hd := dg_lt 8 (uN v)
  have h1 : uN ((v.toUInt64 >>> ((1 : Int32).toInt64.toUInt64 &&& Int64.toUInt64 63)).toInt64) = uN v / 2 := i64_shr (v := v) (k := 1) (by decide)
  have h2 := va_a2 _ hd
  rw [hv, hl] at h2
  have h3 : uN ((v.toUInt64 >>> ((1 : Int32).toInt64.toUInt64 &&& Int64.toUInt64 63)).toInt64 &&& 6148914691236517205) = vaL ((dgt 8 (uN v)).map (fun b => b / 2 &&& 85)) := by
    rw [uN_and, h1]
    exact h2
  have h4 := va_sub _ hd
  rw [hv] at h4
  unfold bc1
  rw [uN_sub (by omega), h3]
  omega
theorem bc2_v {v : Int64} {bs : List Nat} (h : uN v = vaL bs) (hl : bs.length = 8) (hb : ∀ b, b ∈ bs → b < 256) (hb2 : ∀ b, b ∈ bs → by2 b < 256) : uN (bc2 v) = vaL (bs.map by2) := by
  have h1 : uN ((v.toUInt64 >>> ((2 : Int32).toInt64.toUInt64 &&& Int64.toUInt64 63)).toInt64) = uN v / 4 := i64_shr (v := v) (k := 2) (by decide)
  have a1 := va_and (c := 51) (by decide) bs hb
  have a2 := va_a4 bs hb
  rw [hl, ← h] at a1 a2
  have e1 : uN (v &&& 3689348814741910323) = vaL (bs.map (fun b => b &&& 51)) := by
    rw [uN_and]
    exact a1
  have e2 : uN ((v.toUInt64 >>> ((2 : Int32).toInt64.toUInt64 &&& Int64.toUInt64 63)).toInt64 &&& 3689348814741910323) = vaL (bs.map (fun b => b / 4 &&& 51)) := by
    rw [uN_and, h1]
    exact a2
  have e3 := va_add (f := fun b => b &&& 51) (g := fun b => b / 4 &&& 51) bs
  have e4 : vaL (bs.map by2) < 256 ^ (bs.map by2).length := va_lt _ (fun b hb3 => by
    obtain ⟨c, hc, rfl⟩ := List.mem_map.mp hb3
    exact hb2 c hc)
  rw [List.length_map, hl] at e4
  have e5 : vaL (bs.map (fun b => (b &&& 51) + (b / 4 &&& 51))) = vaL (bs.map by2) := rfl
  unfold bc2
  rw [uN_add (by rw [e1, e2, e3, e5]; exact e4), e1, e2, e3, e5]
theorem bc3_v {v : Int64} {bs : List Nat} (h : uN v = vaL bs) (hl : bs.length = 8) (hb : ∀ b, b ∈ bs → b < 256 ∧ b % 16 ≤ 4 ∧ b / 16 ≤ 4) (h60 : uN v < 2 ^ 63) : uN (bc3 v) = vaL (bs.map by3) := by
  have h1 : uN ((v.toUInt64 >>> ((4 : Int32).toInt64.toUInt64 &&& Int64.toUInt64 63)).toInt64) = uN v / 16 := i64_shr (v := v) (k := 4) (by decide)
  have a1 := va_16 bs hb
  rw [hl, ← h] at a1
  unfold bc3
  rw [uN_and, uN_add (by rw [h1]; omega), h1]
  exact a1
theorem by_63 : ∀ bs : List Nat, bs.length = 8 → (∀ b, b ∈ bs → b < 128) → vaL bs < 2 ^ 63 := by
  intro bs hl h
  have e : vaL (bs.map (fun b => b)) + vaL (bs.map (fun b => b)) = vaL (bs.map (fun b => b + b)) := va_add bs
  have e2 := va_lt (bs.map (fun b => b + b)) (fun b hb => by
    obtain ⟨c, hc, rfl⟩ := List.mem_map.mp hb
    have := h c hc
    omega)
  rw [List.length_map, hl] at e2
  have e0 : bs.map (fun b => b) = bs := by simp
  rw [e0] at e
  rw [← e, show (256 : Nat) ^ 8 = 2 ^ 64 from rfl] at e2
  omega
theorem md_7 {u c : Nat} (h : u % 128 = c) (hc : c ≤ 64) : u % 2 ^ 32 % 2 ^ 7 = c % 2 ^ 32 := by omega
theorem bc_ok {v : Int64} : (bc6 (bc5 (bc4 (bc3 (bc2 (bc1 v)))))).toInt32 &&& 127 = ctP (bitL v) 64 := by
  have hd := dg_lt 8 (uN v)
  have hl := dg_len 8 (uN v)
  have h1 := bc1_v (v := v)
  have l1 : ((dgt 8 (uN v)).map by1).length = 8 := by rw [List.length_map]; exact hl
  have h2 := bc2_v h1 l1 (fun b hb => by
    obtain ⟨c, hc, rfl⟩ := List.mem_map.mp hb
    exact (by_1 c (hd c hc)).2) (fun b hb => by
    obtain ⟨c, hc, rfl⟩ := List.mem_map.mp hb
    exact (by_2 c (hd c hc)).1)
  rw [List.map_map] at h2
  have l2 : ((dgt 8 (uN v)).map (by2 ∘ by1)).length = 8 := by rw [List.length_map]; exact hl
  have m2 : ∀ b, b ∈ (dgt 8 (uN v)).map (by2 ∘ by1) → b < 256 ∧ b % 16 ≤ 4 ∧ b / 16 ≤ 4 := fun b hb => by
    obtain ⟨c, hc, rfl⟩ := List.mem_map.mp hb
    exact by_2 c (hd c hc)
  have h3 := bc3_v h2 l2 m2 (by
    rw [h2]
    exact by_63 _ l2 (fun b hb => by have := m2 b hb; omega))
  rw [List.map_map] at h3
  have e3 : (dgt 8 (uN v)).map (by3 ∘ (by2 ∘ by1)) = (dgt 8 (uN v)).map (fun b => cnN b.testBit 8) := List.map_congr_left (fun b hb => by_ok b (hd b hb))
  rw [e3] at h3
  have hc := dg_cn 8 (uN v)
  rw [sm8] at hc
  have c8 : ∀ b : Nat, cnN b.testBit 8 ≤ 8 := fun b => cnN_le 8
  have hf := va_fin (c8 (uN v % 256)) (c8 (uN v / 256 % 256)) (c8 (uN v / 256 / 256 % 256)) (c8 (uN v / 256 / 256 / 256 % 256)) (c8 (uN v / 256 / 256 / 256 / 256 % 256)) (c8 (uN v / 256 / 256 / 256 / 256 / 256 % 256)) (c8 (uN v / 256 / 256 / 256 / 256 / 256 / 256 % 256)) (c8 (uN v / 256 / 256 / 256 / 256 / 256 / 256 / 256 % 256)) (x := uN (bc3 (bc2 (bc1 v)))) h3 rfl rfl rfl
  rw [hc] at hf
  generalize bc3 (bc2 (bc1 v)) = x3 at hf ⊢
  have h4 : uN (bc4 x3) = uN x3 + uN x3 / 256 := by
    have h1 : uN ((x3.toUInt64 >>> ((8 : Int32).toInt64.toUInt64 &&& Int64.toUInt64 63)).toInt64) = uN x3 / 256 := i64_shr (v := x3) (k := 8) (by decide)
    unfold bc4
    rw [uN_add (by rw [h1]; exact Nat.lt_trans hf.1.2.1 (by decide)), h1]
  rw [← h4] at hf
  generalize bc4 x3 = x4 at hf ⊢
  have h5 : uN (bc5 x4) = uN x4 + uN x4 / 65536 := by
    have h1 : uN ((x4.toUInt64 >>> ((16 : Int32).toInt64.toUInt64 &&& Int64.toUInt64 63)).toInt64) = uN x4 / 65536 := i64_shr (v := x4) (k := 16) (by decide)
    unfold bc5
    rw [uN_add (by rw [h1]; exact Nat.lt_trans hf.1.2.2.1 (by decide)), h1]
  rw [← h5] at hf
  generalize bc5 x4 = x5 at hf ⊢
  have h6 : uN (bc6 x5) = uN x5 + uN x5 / 4294967296 := by
    have h1 : uN ((x5.toUInt64 >>> ((32 : Int32).toInt64.toUInt64 &&& Int64.toUInt64 63)).toInt64) = uN x5 / 4294967296 := i64_shr (v := x5) (k := 32) (by decide)
    unfold bc6
    rw [uN_add (by rw [h1]; exact Nat.lt_trans hf.1.2.2.2 (by decide)), h1]
  rw [← h6] at hf
  generalize bc6 x5 = x6 at hf ⊢
  have hcl := cnN_le (f := (uN v).testBit) (8 * 8)
  have ec : cnN (bitL v) 64 = cnN (uN v).testBit (8 * 8) := rfl
  rw [ctP_cn, ec]
  refine Int32.toBitVec_inj.mp (BitVec.eq_of_toNat_eq ?_)
  show ((x6.toBitVec.signExtend 32) &&& 127#32).toNat = (BitVec.ofNat 32 (cnN (uN v).testBit (8 * 8))).toNat
  rw [BitVec.signExtend_eq_setWidth_of_le _ (by decide), BitVec.toNat_and, BitVec.toNat_setWidth, BitVec.toNat_ofNat, BitVec.toNat_ofNat]
  show (uN x6 % 2 ^ 32) &&& (127 % 2 ^ 32) = _
  rw [show (127 : Nat) % 2 ^ 32 = 2 ^ 7 - 1 from rfl, Nat.and_two_pow_sub_one_eq_mod]
  exact md_7 hf.2 hcl
