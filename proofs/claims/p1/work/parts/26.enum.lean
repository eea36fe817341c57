-- the first call: what the kernel counts through
theorem e_dish : ∀ x0, x0 < 48 → sx_twoBI 400 62 184 [.int (nI x0)] = true := by decide +kernel
theorem e_now : ∀ x0, x0 < 4 → sx_twoBI 400 48 173 [.int (nI x0)] = true := by decide +kernel
theorem e_count : ∀ x0, x0 < 7 → sx_twoBI 1500 127 243 [.int (nI x0)] = true := by decide +kernel
theorem e_status : ∀ x0, x0 < 7 → sx_twoBI 1500 128 245 [.int (nI x0)] = true := by decide +kernel
theorem e_statusm : sx_twoBI 1500 128 245 [.int (-1)] = true := by decide +kernel
theorem e_lasts : sx_twoBI 200 83 205 [] = true := by decide +kernel
theorem e_wipe : sx_twoBI 100 90 209 [] = true := by decide +kernel
theorem e_image : sx_twoBI 4000 124 240 [] = true := by decide +kernel
theorem e_undo : sx_twoBI 200 125 241 [] = true := by decide +kernel
theorem e_tear : sx_twoBI 100 126 242 [] = true := by decide +kernel
theorem e_walls : sx_twoBL 1500 14 139 [] = true := by decide +kernel
theorem e_ground0 : ∀ x0, x0 < 48 → sx_twoBI 400 6 130 [.int (nI x0), .int 0] = true := by decide +kernel
theorem e_ground1 : ∀ x0, x0 < 48 → sx_twoBI 400 6 130 [.int (nI x0), .int 1] = true := by decide +kernel
theorem e_ground2 : ∀ x0, x0 < 48 → sx_twoBI 400 6 130 [.int (nI x0), .int 2] = true := by decide +kernel
theorem e_ground3 : ∀ x0, x0 < 48 → sx_twoBI 400 6 130 [.int (nI x0), .int 3] = true := by decide +kernel
theorem e_wall0 : ∀ x0, x0 < 48 → sx_twoBI 400 10 134 [.int (nI x0), .int 0] = true := by decide +kernel
theorem e_wall1 : ∀ x0, x0 < 48 → sx_twoBI 400 10 134 [.int (nI x0), .int 1] = true := by decide +kernel
theorem e_cellOf0 : ∀ x0, x0 < 48 → sx_twoBI 400 12 135 [.int (nI x0), .int 0] = true := by decide +kernel
theorem e_cellOf1 : ∀ x0, x0 < 48 → sx_twoBI 400 12 135 [.int (nI x0), .int 1] = true := by decide +kernel
theorem e_cellOf2 : ∀ x0, x0 < 48 → sx_twoBI 400 12 135 [.int (nI x0), .int 2] = true := by decide +kernel
