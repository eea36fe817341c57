-- every instruction of the pure tables is what the bytes decode to
noncomputable def sx_dchk (mi : Nat) : Bool := (List.range (sx_M mi).2.2.2.2.2.2.2.1).all (fun pc => match (sx_M mi).2.2.2.2.2.2.2.2 pc with
  | none => true
  | some x => decide (decode (sx_M mi).2.1 pc = .ok x))
theorem sx_d0 : (List.range 6).all (fun i => sx_dchk (0 + i)) = true := by decide +kernel
theorem sx_d1 : (List.range 6).all (fun i => sx_dchk (6 + i)) = true := by decide +kernel
theorem sx_d2 : (List.range 6).all (fun i => sx_dchk (12 + i)) = true := by decide +kernel
theorem sx_d3 : (List.range 6).all (fun i => sx_dchk (18 + i)) = true := by decide +kernel
theorem sx_d4 : (List.range 6).all (fun i => sx_dchk (24 + i)) = true := by decide +kernel
theorem sx_d5 : (List.range 6).all (fun i => sx_dchk (30 + i)) = true := by decide +kernel
theorem sx_d6 : (List.range 6).all (fun i => sx_dchk (36 + i)) = true := by decide +kernel
theorem sx_d7 : (List.range 6).all (fun i => sx_dchk (42 + i)) = true := by decide +kernel
theorem sx_d8 : (List.range 6).all (fun i => sx_dchk (48 + i)) = true := by decide +kernel
theorem sx_d9 : (List.range 6).all (fun i => sx_dchk (54 + i)) = true := by decide +kernel
theorem sx_d10 : (List.range 6).all (fun i => sx_dchk (60 + i)) = true := by decide +kernel
theorem sx_d11 : (List.range 6).all (fun i => sx_dchk (66 + i)) = true := by decide +kernel
theorem sx_d12 : (List.range 6).all (fun i => sx_dchk (72 + i)) = true := by decide +kernel
theorem sx_d13 : (List.range 6).all (fun i => sx_dchk (78 + i)) = true := by decide +kernel
theorem sx_d14 : (List.range 6).all (fun i => sx_dchk (84 + i)) = true := by decide +kernel
theorem sx_d15 : (List.range 6).all (fun i => sx_dchk (90 + i)) = true := by decide +kernel
theorem sx_d16 : (List.range 6).all (fun i => sx_dchk (96 + i)) = true := by decide +kernel
theorem sx_d17 : (List.range 6).all (fun i => sx_dchk (102 + i)) = true := by decide +kernel
theorem sx_d18 : (List.range 6).all (fun i => sx_dchk (108 + i)) = true := by decide +kernel
theorem sx_d19 : (List.range 6).all (fun i => sx_dchk (114 + i)) = true := by decide +kernel
theorem sx_d20 : (List.range 6).all (fun i => sx_dchk (120 + i)) = true := by decide +kernel
theorem sx_d21 : (List.range 6).all (fun i => sx_dchk (126 + i)) = true := by decide +kernel
theorem sx_d22 : (List.range 6).all (fun i => sx_dchk (132 + i)) = true := by decide +kernel
theorem sx_d23 : (List.range 6).all (fun i => sx_dchk (138 + i)) = true := by decide +kernel
theorem sx_d24 : (List.range 6).all (fun i => sx_dchk (144 + i)) = true := by decide +kernel
theorem sx_d25 : (List.range 6).all (fun i => sx_dchk (150 + i)) = true := by decide +kernel
theorem sx_d26 : (List.range 6).all (fun i => sx_dchk (156 + i)) = true := by decide +kernel
theorem sx_d27 : (List.range 6).all (fun i => sx_dchk (162 + i)) = true := by decide +kernel
theorem sx_d28 : (List.range 6).all (fun i => sx_dchk (168 + i)) = true := by decide +kernel
theorem sx_d29 : (List.range 6).all (fun i => sx_dchk (174 + i)) = true := by decide +kernel
theorem sx_d30 : (List.range 6).all (fun i => sx_dchk (180 + i)) = true := by decide +kernel
theorem sx_d31 : (List.range 6).all (fun i => sx_dchk (186 + i)) = true := by decide +kernel
theorem sx_d32 : (List.range 6).all (fun i => sx_dchk (192 + i)) = true := by decide +kernel
theorem sx_d33 : (List.range 6).all (fun i => sx_dchk (198 + i)) = true := by decide +kernel
theorem sx_d34 : (List.range 6).all (fun i => sx_dchk (204 + i)) = true := by decide +kernel
theorem sx_d35 : (List.range 6).all (fun i => sx_dchk (210 + i)) = true := by decide +kernel
theorem sx_d36 : (List.range 6).all (fun i => sx_dchk (216 + i)) = true := by decide +kernel
theorem sx_d37 : (List.range 6).all (fun i => sx_dchk (222 + i)) = true := by decide +kernel
theorem sx_d38 : (List.range 6).all (fun i => sx_dchk (228 + i)) = true := by decide +kernel
theorem sx_d39 : (List.range 6).all (fun i => sx_dchk (234 + i)) = true := by decide +kernel
theorem sx_d40 : (List.range 6).all (fun i => sx_dchk (240 + i)) = true := by decide +kernel
