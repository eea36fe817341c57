-- the law's own instructions
noncomputable def sx_dlc (a n : Nat) : Bool := (List.range n).all (fun i => match (sx_M 246).2.2.2.2.2.2.2.2 (a + i) with
  | none => true
  | some x => decide (decode (sx_M 246).2.1 (a + i) = .ok x))
theorem sx_dlq {a n : Nat} (h : sx_dq 246 = true) (hn : a + n ≤ 64 * ((sx_M 246).2.2.2.2.2.2.2.1 / 64 + 1)) : sx_dlc a n = true := by
  unfold sx_dlc
  rw [List.all_eq_true]
  intro i hi
  have hlt := List.mem_range.mp hi
  have h2 := sx_dw_2 (i := (a + i) % 64) (sx_all h (o := (a + i) / 64) (by omega)) (by omega)
  rw [show 64 * ((a + i) / 64) + (a + i) % 64 = a + i by omega] at h2
  exact h2
theorem sx_dl : sx_dq 246 = true := by decide +kernel
theorem sx_dlN : 64 * ((sx_M 246).2.2.2.2.2.2.2.1 / 64 + 1) = 1600 := by decide +kernel
theorem sx_dl0 : sx_dlc 0 40 = true := sx_dlq sx_dl (by rw [sx_dlN]; decide)
theorem sx_dl1 : sx_dlc 40 40 = true := sx_dlq sx_dl (by rw [sx_dlN]; decide)
theorem sx_dl2 : sx_dlc 80 40 = true := sx_dlq sx_dl (by rw [sx_dlN]; decide)
theorem sx_dl3 : sx_dlc 120 40 = true := sx_dlq sx_dl (by rw [sx_dlN]; decide)
theorem sx_dl4 : sx_dlc 160 40 = true := sx_dlq sx_dl (by rw [sx_dlN]; decide)
theorem sx_dl5 : sx_dlc 200 40 = true := sx_dlq sx_dl (by rw [sx_dlN]; decide)
theorem sx_dl6 : sx_dlc 240 40 = true := sx_dlq sx_dl (by rw [sx_dlN]; decide)
theorem sx_dl7 : sx_dlc 280 40 = true := sx_dlq sx_dl (by rw [sx_dlN]; decide)
theorem sx_dl8 : sx_dlc 320 40 = true := sx_dlq sx_dl (by rw [sx_dlN]; decide)
theorem sx_dl9 : sx_dlc 360 40 = true := sx_dlq sx_dl (by rw [sx_dlN]; decide)
theorem sx_dl10 : sx_dlc 400 40 = true := sx_dlq sx_dl (by rw [sx_dlN]; decide)
theorem sx_dl11 : sx_dlc 440 40 = true := sx_dlq sx_dl (by rw [sx_dlN]; decide)
theorem sx_dl12 : sx_dlc 480 40 = true := sx_dlq sx_dl (by rw [sx_dlN]; decide)
theorem sx_dl13 : sx_dlc 520 40 = true := sx_dlq sx_dl (by rw [sx_dlN]; decide)
theorem sx_dl14 : sx_dlc 560 40 = true := sx_dlq sx_dl (by rw [sx_dlN]; decide)
theorem sx_dl15 : sx_dlc 600 40 = true := sx_dlq sx_dl (by rw [sx_dlN]; decide)
theorem sx_dl16 : sx_dlc 640 40 = true := sx_dlq sx_dl (by rw [sx_dlN]; decide)
theorem sx_dl17 : sx_dlc 680 40 = true := sx_dlq sx_dl (by rw [sx_dlN]; decide)
theorem sx_dl18 : sx_dlc 720 40 = true := sx_dlq sx_dl (by rw [sx_dlN]; decide)
theorem sx_dl19 : sx_dlc 760 40 = true := sx_dlq sx_dl (by rw [sx_dlN]; decide)
theorem sx_dl20 : sx_dlc 800 40 = true := sx_dlq sx_dl (by rw [sx_dlN]; decide)
theorem sx_dl21 : sx_dlc 840 40 = true := sx_dlq sx_dl (by rw [sx_dlN]; decide)
theorem sx_dl22 : sx_dlc 880 40 = true := sx_dlq sx_dl (by rw [sx_dlN]; decide)
theorem sx_dl23 : sx_dlc 920 40 = true := sx_dlq sx_dl (by rw [sx_dlN]; decide)
theorem sx_dl24 : sx_dlc 960 40 = true := sx_dlq sx_dl (by rw [sx_dlN]; decide)
theorem sx_dl25 : sx_dlc 1000 40 = true := sx_dlq sx_dl (by rw [sx_dlN]; decide)
theorem sx_dl26 : sx_dlc 1040 40 = true := sx_dlq sx_dl (by rw [sx_dlN]; decide)
theorem sx_dl27 : sx_dlc 1080 40 = true := sx_dlq sx_dl (by rw [sx_dlN]; decide)
theorem sx_dl28 : sx_dlc 1120 40 = true := sx_dlq sx_dl (by rw [sx_dlN]; decide)
theorem sx_dl29 : sx_dlc 1160 40 = true := sx_dlq sx_dl (by rw [sx_dlN]; decide)
theorem sx_dl30 : sx_dlc 1200 40 = true := sx_dlq sx_dl (by rw [sx_dlN]; decide)
theorem sx_dl31 : sx_dlc 1240 40 = true := sx_dlq sx_dl (by rw [sx_dlN]; decide)
theorem sx_dl32 : sx_dlc 1280 40 = true := sx_dlq sx_dl (by rw [sx_dlN]; decide)
theorem sx_dl33 : sx_dlc 1320 40 = true := sx_dlq sx_dl (by rw [sx_dlN]; decide)
theorem sx_dl34 : sx_dlc 1360 40 = true := sx_dlq sx_dl (by rw [sx_dlN]; decide)
theorem sx_dl35 : sx_dlc 1400 40 = true := sx_dlq sx_dl (by rw [sx_dlN]; decide)
theorem sx_dl36 : sx_dlc 1440 40 = true := sx_dlq sx_dl (by rw [sx_dlN]; decide)
theorem sx_dl37 : sx_dlc 1480 40 = true := sx_dlq sx_dl (by rw [sx_dlN]; decide)
theorem sx_dl38 : sx_dlc 1520 27 = true := sx_dlq sx_dl (by rw [sx_dlN]; decide)
