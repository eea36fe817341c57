theorem sx_atq (i : Nat) : sx_at i = lw_tbl[i]? := congrFun sx_atf i
noncomputable def sx_mchkL (mi : Nat) : Bool := match sx_at (sx_pl mi).1 with
  | some (.code A b m r) => decide (A = (sx_M mi).1) && (decide (b.data.toList = (sx_M mi).2.1.data.toList) && (decide (m = (sx_M mi).2.2.1) && decide (r = (sx_M mi).2.2.2.1)))
  | _ => false
theorem sx_mL1 {mi : Nat} (h : sx_mchkL mi = true) : sx_mchk1 mi = true := by
  unfold sx_mchkL at h
  rw [sx_atq] at h
  unfold sx_mchk1
  refine decide_eq_true ?_
  revert h
  split
  next A b m r e =>
    intro h
    have h1 := (Bool.and_eq_true _ _).mp h
    have h2 := (Bool.and_eq_true _ _).mp h1.2
    have h3 := (Bool.and_eq_true _ _).mp h2.2
    rw [e, of_decide_eq_true h1.1, of_decide_eq_true h3.1, of_decide_eq_true h3.2, show b = (sx_M mi).2.1 from ByteArray.ext (Array.toList_inj.mp (of_decide_eq_true h2.1))]
  next => intro h; cases h
theorem sx_mLs {k : Nat} (h : (List.range 6).all (fun i => sx_mchkL (k + i)) = true) : (List.range 6).all (fun i => sx_mchk1 (k + i)) = true := by
  rw [List.all_eq_true] at h ⊢
  exact fun i hi => sx_mL1 (h i hi)
theorem sx_e0 : (List.range 6).all (fun i => sx_mchk1 (0 + i)) = true := sx_mLs (by decide +kernel)
theorem sx_e1 : (List.range 6).all (fun i => sx_mchk1 (6 + i)) = true := sx_mLs (by decide +kernel)
theorem sx_e2 : (List.range 6).all (fun i => sx_mchk1 (12 + i)) = true := sx_mLs (by decide +kernel)
theorem sx_e3 : (List.range 6).all (fun i => sx_mchk1 (18 + i)) = true := sx_mLs (by decide +kernel)
theorem sx_e4 : (List.range 6).all (fun i => sx_mchk1 (24 + i)) = true := sx_mLs (by decide +kernel)
theorem sx_e5 : (List.range 6).all (fun i => sx_mchk1 (30 + i)) = true := sx_mLs (by decide +kernel)
theorem sx_e6 : (List.range 6).all (fun i => sx_mchk1 (36 + i)) = true := sx_mLs (by decide +kernel)
theorem sx_e7 : (List.range 6).all (fun i => sx_mchk1 (42 + i)) = true := sx_mLs (by decide +kernel)
theorem sx_e8 : (List.range 6).all (fun i => sx_mchk1 (48 + i)) = true := sx_mLs (by decide +kernel)
theorem sx_e9 : (List.range 6).all (fun i => sx_mchk1 (54 + i)) = true := sx_mLs (by decide +kernel)
theorem sx_e10 : (List.range 6).all (fun i => sx_mchk1 (60 + i)) = true := sx_mLs (by decide +kernel)
theorem sx_e11 : (List.range 6).all (fun i => sx_mchk1 (66 + i)) = true := sx_mLs (by decide +kernel)
theorem sx_e12 : (List.range 6).all (fun i => sx_mchk1 (72 + i)) = true := sx_mLs (by decide +kernel)
theorem sx_e13 : (List.range 6).all (fun i => sx_mchk1 (78 + i)) = true := sx_mLs (by decide +kernel)
theorem sx_e14 : (List.range 6).all (fun i => sx_mchk1 (84 + i)) = true := sx_mLs (by decide +kernel)
theorem sx_e15 : (List.range 6).all (fun i => sx_mchk1 (90 + i)) = true := sx_mLs (by decide +kernel)
theorem sx_e16 : (List.range 6).all (fun i => sx_mchk1 (96 + i)) = true := sx_mLs (by decide +kernel)
theorem sx_e17 : (List.range 6).all (fun i => sx_mchk1 (102 + i)) = true := sx_mLs (by decide +kernel)
theorem sx_e18 : (List.range 6).all (fun i => sx_mchk1 (108 + i)) = true := sx_mLs (by decide +kernel)
theorem sx_e19 : (List.range 6).all (fun i => sx_mchk1 (114 + i)) = true := sx_mLs (by decide +kernel)
theorem sx_e20 : (List.range 6).all (fun i => sx_mchk1 (120 + i)) = true := sx_mLs (by decide +kernel)
theorem sx_e21 : (List.range 6).all (fun i => sx_mchk1 (126 + i)) = true := sx_mLs (by decide +kernel)
theorem sx_e22 : (List.range 6).all (fun i => sx_mchk1 (132 + i)) = true := sx_mLs (by decide +kernel)
theorem sx_e23 : (List.range 6).all (fun i => sx_mchk1 (138 + i)) = true := sx_mLs (by decide +kernel)
theorem sx_e24 : (List.range 6).all (fun i => sx_mchk1 (144 + i)) = true := sx_mLs (by decide +kernel)
theorem sx_e25 : (List.range 6).all (fun i => sx_mchk1 (150 + i)) = true := sx_mLs (by decide +kernel)
theorem sx_e26 : (List.range 6).all (fun i => sx_mchk1 (156 + i)) = true := sx_mLs (by decide +kernel)
theorem sx_e27 : (List.range 6).all (fun i => sx_mchk1 (162 + i)) = true := sx_mLs (by decide +kernel)
theorem sx_e28 : (List.range 6).all (fun i => sx_mchk1 (168 + i)) = true := sx_mLs (by decide +kernel)
theorem sx_e29 : (List.range 6).all (fun i => sx_mchk1 (174 + i)) = true := sx_mLs (by decide +kernel)
theorem sx_e30 : (List.range 6).all (fun i => sx_mchk1 (180 + i)) = true := sx_mLs (by decide +kernel)
theorem sx_e31 : (List.range 6).all (fun i => sx_mchk1 (186 + i)) = true := sx_mLs (by decide +kernel)
theorem sx_e32 : (List.range 6).all (fun i => sx_mchk1 (192 + i)) = true := sx_mLs (by decide +kernel)
theorem sx_e33 : (List.range 6).all (fun i => sx_mchk1 (198 + i)) = true := sx_mLs (by decide +kernel)
theorem sx_e34 : (List.range 6).all (fun i => sx_mchk1 (204 + i)) = true := sx_mLs (by decide +kernel)
theorem sx_e35 : (List.range 6).all (fun i => sx_mchk1 (210 + i)) = true := sx_mLs (by decide +kernel)
theorem sx_e36 : (List.range 6).all (fun i => sx_mchk1 (216 + i)) = true := sx_mLs (by decide +kernel)
theorem sx_e37 : (List.range 6).all (fun i => sx_mchk1 (222 + i)) = true := sx_mLs (by decide +kernel)
theorem sx_e38 : (List.range 6).all (fun i => sx_mchk1 (228 + i)) = true := sx_mLs (by decide +kernel)
theorem sx_e39 : (List.range 6).all (fun i => sx_mchk1 (234 + i)) = true := sx_mLs (by decide +kernel)
theorem sx_e40 : (List.range 6).all (fun i => sx_mchk1 (240 + i)) = true := sx_mLs (by decide +kernel)
