-- every first call: class and reference answer alike
theorem sx_out {a lo hi : Int32} (h : ¬ (lo ≤ a ∧ a ≤ hi)) : a.toInt < lo.toInt ∨ hi.toInt < a.toInt := by
  by_cases h1 : lo ≤ a
  · right
    have h2 : ¬ a ≤ hi := fun z => h ⟨h1, z⟩
    rw [Int32.le_iff_toInt_le] at h2
    omega
  · left
    rw [Int32.le_iff_toInt_le] at h1
    omega
theorem sx_to3 {x : Nat} (h : x ≤ 3) : x = 0 ∨ x = 1 ∨ x = 2 ∨ x = 3 := by omega
theorem kk_ground (ys : List Int32) (a1 a2 : Int32) : sx_twoI ys 6 130 [.int a1, .int a2] := by
  by_cases p0 : 0 ≤ a1 ∧ a1 ≤ 47
  · by_cases p1 : 0 ≤ a2 ∧ a2 ≤ 3
    · obtain ⟨x, hx, rfl⟩ := sx_rng (n := 47) p0 (by decide) (by decide)
      obtain ⟨y, hy, rfl⟩ := sx_rng (n := 3) p1 (by decide) (by decide)
      rcases sx_to3 hy with rfl | rfl | rfl | rfl
      · exact sx_twoI_of ys (e_ground0 x (by omega))
      · exact sx_twoI_of ys (e_ground1 x (by omega))
      · exact sx_twoI_of ys (e_ground2 x (by omega))
      · exact sx_twoI_of ys (e_ground3 x (by omega))
    · exact k_ground_o1 ys a1 a2 p0 p1
  · exact k_ground_o0 ys a1 a2 p0
theorem kk_wall0 (ys : List Int32) (a1 : Int32) : sx_twoI ys 10 134 [.int a1, .int 0] := by
  by_cases p0 : 0 ≤ a1 ∧ a1 ≤ 47
  · obtain ⟨x, hx, rfl⟩ := sx_rng (n := 47) p0 (by decide) (by decide)
    exact sx_twoI_of ys (e_wall0 x (by omega))
  · exact k_wall_o0 ys a1 p0
theorem kk_wall1 (ys : List Int32) (a1 : Int32) : sx_twoI ys 10 134 [.int a1, .int 1] := by
  by_cases p0 : 0 ≤ a1 ∧ a1 ≤ 47
  · obtain ⟨x, hx, rfl⟩ := sx_rng (n := 47) p0 (by decide) (by decide)
    exact sx_twoI_of ys (e_wall1 x (by omega))
  · exact k_wall_o1 ys a1 p0
theorem kk_cellOf (ys : List Int32) (a1 a2 : Int32) : sx_twoI ys 12 135 [.int a1, .int a2] := by
  by_cases p0 : 0 ≤ a1 ∧ a1 ≤ 47
  · by_cases p1 : 0 ≤ a2 ∧ a2 ≤ 2
    · obtain ⟨x, hx, rfl⟩ := sx_rng (n := 47) p0 (by decide) (by decide)
      obtain ⟨y, hy, rfl⟩ := sx_rng (n := 2) p1 (by decide) (by decide)
      rcases (show y = 0 ∨ y = 1 ∨ y = 2 by omega) with rfl | rfl | rfl
      · exact sx_twoI_of ys (e_cellOf0 x (by omega))
      · exact sx_twoI_of ys (e_cellOf1 x (by omega))
      · exact sx_twoI_of ys (e_cellOf2 x (by omega))
    · exact k_cellOf_s ys a1 a2 p0 (sx_out p1) p1
  · exact k_cellOf_o0 ys a1 a2 p0
theorem kk_far (ys : List Int32) (a1 a2 : Int32) : sx_twoI ys 15 140 [.int a1, .int a2] := by
  by_cases p0 : 0 ≤ a1 ∧ a1 ≤ 47
  · by_cases p1 : 0 ≤ a2 ∧ a2 ≤ 47
    · exact k_far_in ys a1 a2 p0 p1
    · exact k_far_o1 ys a1 a2 p0 p1
  · exact k_far_o0 ys a1 a2 p0
theorem kk_gallery (ys : List Int32) (a1 a2 a3 a4 : Int32) : sx_twoI ys 21 150 [.int a1, .int a2, .int a3, .int a4] := by
  by_cases p0 : 0 ≤ a1 ∧ a1 ≤ 5
  · by_cases p1 : 0 ≤ a2 ∧ a2 ≤ 1
    · by_cases p2 : 0 ≤ a3 ∧ a3 ≤ 47
      · by_cases p3 : 0 ≤ a4 ∧ a4 ≤ 3
        · exact k_gallery_in ys a1 a2 a3 a4 p0 p1 p2 p3
        · exact k_gallery_o3 ys a1 a2 a3 a4 p0 p1 p2 p3
      · exact k_gallery_o2 ys a1 a2 a3 a4 p0 p1 p2
    · exact k_gallery_o1 ys a1 a2 a3 a4 p0 p1
  · exact k_gallery_o0 ys a1 a2 a3 a4 p0
theorem kk_nights (ys : List Int32) (a1 : Int32) : sx_twoI ys 39 164 [.int a1] := by
  by_cases p0 : 1 ≤ a1 ∧ a1 ≤ 60
  · obtain ⟨x, hx, rfl⟩ := sx_rng (n := 60) p0 (by decide) (by decide)
    exact k_nights_in ys x hx p0
  · exact k_nights_o0 ys a1 p0
theorem kk_now (ys : List Int32) (a1 : Int32) : sx_twoI ys 48 173 [.int a1] := by
  by_cases p0 : 0 ≤ a1 ∧ a1 ≤ 3
  · obtain ⟨x, hx, rfl⟩ := sx_rng (n := 3) p0 (by decide) (by decide)
    exact sx_twoI_of ys (e_now x (by omega))
  · exact k_now_s ys a1 (sx_out p0)
theorem kk_dish (ys : List Int32) (a1 : Int32) : sx_twoI ys 62 184 [.int a1] := by
  by_cases p0 : 0 ≤ a1 ∧ a1 ≤ 47
  · obtain ⟨x, hx, rfl⟩ := sx_rng (n := 47) p0 (by decide) (by decide)
    exact sx_twoI_of ys (e_dish x (by omega))
  · exact k_dish_o0 ys a1 p0
theorem kk_where (ys : List Int32) (a1 : Int32) : sx_twoL ys 71 192 [.int a1] := by
  by_cases p0 : 0 ≤ a1 ∧ a1 ≤ 5
  · exact k_where_n ys a1 p0
  · exact k_where_o0 ys a1 p0
theorem kk_best (ys : List Int32) (a1 : Int32) : sx_twoI ys 74 194 [.int a1] := by
  by_cases p0 : 0 ≤ a1 ∧ a1 ≤ 5
  · exact k_best_n ys a1 p0
  · exact k_best_o0 ys a1 p0
theorem kk_falls (ys : List Int32) (a1 a2 : Int32) : sx_twoI ys 76 196 [.int a1, .int a2] := by
  by_cases p0 : 0 ≤ a1 ∧ a1 ≤ 47
  · by_cases p1 : 1 ≤ a2 ∧ a2 ≤ 30
    · exact k_falls_in ys a1 a2 p0 p1
    · exact k_falls_o1 ys a1 a2 p0 p1
  · exact k_falls_o0 ys a1 a2 p0
theorem kk_blow (ys : List Int32) (a1 a2 : Int32) : sx_twoI ys 79 201 [.int a1, .int a2] := by
  by_cases p0 : 0 ≤ a1 ∧ a1 ≤ 47
  · by_cases p1 : 1 ≤ a2 ∧ a2 ≤ 30
    · exact k_blow_in ys a1 a2 p0 p1
    · exact k_blow_o1 ys a1 a2 p0 p1
  · exact k_blow_o0 ys a1 a2 p0
theorem kk_mine (ys : List Int32) (a1 : Int32) : sx_twoI ys 81 202 [.int a1] := by
  by_cases p0 : 1 ≤ a1 ∧ a1 ≤ 30
  · exact k_mine_in ys a1 p0
  · exact k_mine_o0 ys a1 p0
theorem kk_bread (ys : List Int32) (a1 a2 : Int32) : sx_twoI ys 82 203 [.int a1, .int a2] := by
  by_cases p0 : 0 ≤ a1 ∧ a1 ≤ 2
  · obtain ⟨x, hx, rfl⟩ := sx_rng (n := 2) p0 (by decide) (by decide)
    rcases (show x = 0 ∨ x = 1 ∨ x = 2 by omega) with rfl | rfl | rfl
    · by_cases p1 : 0 ≤ a2 ∧ a2 ≤ 999999
      · exact k_bread_i0 ys a2 p1
      · exact k_bread_o0 ys a2 p1
    · by_cases p1 : 1 ≤ a2 ∧ a2 ≤ 999
      · exact k_bread_i1 ys a2 p1
      · exact k_bread_o1 ys a2 p1
    · by_cases p1 : 1 ≤ a2 ∧ a2 ≤ 99
      · exact k_bread_i2 ys a2 p1
      · exact k_bread_o2 ys a2 p1
  · exact k_bread_x ys a1 a2 p0 (fun z => p0 (by rw [z]; decide)) (fun z => p0 (by rw [z]; decide)) (fun z => p0 (by rw [z]; decide))
theorem kk_ration (ys : List Int32) (a1 : Int32) : sx_twoI ys 86 207 [.int a1] := by
  by_cases p0 : 1 ≤ a1 ∧ a1 ≤ 999
  · have h1 := Int32.le_iff_toInt_le.mp p0.1
    have e1 : (1 : Int32).toInt = 1 := rfl
    have e0 : (0 : Int32).toInt = 0 := rfl
    exact k_ration_in ys a1 p0 (Int32.lt_iff_toInt_lt.mpr (by omega)) (fun z => by
      have h2 := Int32.le_iff_toInt_le.mp z
      omega)
  · exact k_ration_o0 ys a1 p0
theorem kk_feed (ys : List Int32) (a1 a2 : Int32) : sx_twoI ys 87 208 [.int a1, .int a2] := by
  by_cases p0 : 1 ≤ a2 ∧ a2 ≤ 4
  · obtain ⟨x, hx, rfl⟩ := sx_rng (n := 4) p0 (by decide) (by decide)
    rcases (show x = 0 ∨ x = 1 ∨ x = 2 ∨ x = 3 ∨ x = 4 by omega) with rfl | rfl | rfl | rfl | rfl
    · exact absurd p0.1 (by decide)
    · exact k_feed_1 ys a1
    · exact k_feed_2 ys a1
    · exact k_feed_3 ys a1
    · exact k_feed_4 ys a1
  · exact k_feed_o0 ys a1 a2 p0
theorem kk_sheet (ys : List Int32) (a1 a2 a3 : Int32) : sx_twoI ys 111 230 [.int a1, .int a2, .int a3] := by
  by_cases p0 : 0 ≤ a1 ∧ a1 ≤ 3
  · by_cases m0 : a2 = 0
    · subst m0
      by_cases q0 : 0 ≤ a3
      · by_cases q1 : a3 ≤ 40
        · obtain ⟨x, hx, rfl⟩ := sx_rng (n := 3) p0 (by decide) (by decide)
          rcases sx_to3 hx with rfl | rfl | rfl | rfl
          · exact k_sheet_0_0 ys a3 q0 q1
          · exact k_sheet_1_0 ys a3 q0 q1
          · exact k_sheet_2_0 ys a3 q0 q1
          · exact k_sheet_3_0 ys a3 q0 q1
        · exact k_sheet_m_0 ys a1 a3 p0 q0 q1
      · exact k_sheet_z_0 ys a1 a3 p0 q0
    by_cases m1 : a2 = 8
    · subst m1
      by_cases q0 : 0 ≤ a3
      · by_cases q1 : a3 ≤ 40
        · obtain ⟨x, hx, rfl⟩ := sx_rng (n := 3) p0 (by decide) (by decide)
          rcases sx_to3 hx with rfl | rfl | rfl | rfl
          · exact k_sheet_0_8 ys a3 q0 q1
          · exact k_sheet_1_8 ys a3 q0 q1
          · exact k_sheet_2_8 ys a3 q0 q1
          · exact k_sheet_3_8 ys a3 q0 q1
        · exact k_sheet_m_8 ys a1 a3 p0 q0 q1
      · exact k_sheet_z_8 ys a1 a3 p0 q0
    by_cases m2 : a2 = 16
    · subst m2
      by_cases q0 : 0 ≤ a3
      · by_cases q1 : a3 ≤ 40
        · obtain ⟨x, hx, rfl⟩ := sx_rng (n := 3) p0 (by decide) (by decide)
          rcases sx_to3 hx with rfl | rfl | rfl | rfl
          · exact k_sheet_0_16 ys a3 q0 q1
          · exact k_sheet_1_16 ys a3 q0 q1
          · exact k_sheet_2_16 ys a3 q0 q1
          · exact k_sheet_3_16 ys a3 q0 q1
        · exact k_sheet_m_16 ys a1 a3 p0 q0 q1
      · exact k_sheet_z_16 ys a1 a3 p0 q0
    by_cases m3 : a2 = 64
    · subst m3
      by_cases q0 : 0 ≤ a3
      · by_cases q1 : a3 ≤ 40
        · obtain ⟨x, hx, rfl⟩ := sx_rng (n := 3) p0 (by decide) (by decide)
          rcases sx_to3 hx with rfl | rfl | rfl | rfl
          · exact k_sheet_0_64 ys a3 q0 q1
          · exact k_sheet_1_64 ys a3 q0 q1
          · exact k_sheet_2_64 ys a3 q0 q1
          · exact k_sheet_3_64 ys a3 q0 q1
        · exact k_sheet_m_64 ys a1 a3 p0 q0 q1
      · exact k_sheet_z_64 ys a1 a3 p0 q0
    exact k_sheet_b ys a1 a2 a3 p0 m0 m1 m2 m3
  · exact k_sheet_s ys a1 a2 a3 p0
theorem kk_write (ys : List Int32) (a1 a2 : Int32) (v : Int64) : sx_twoL ys 115 232 [.int a1, .int a2, .long v] := by
  by_cases p0 : 0 ≤ a1 ∧ a1 ≤ 3
  · obtain ⟨x, hx, rfl⟩ := sx_rng (n := 3) p0 (by decide) (by decide)
    rcases sx_to3 hx with rfl | rfl | rfl | rfl
    · exact k_write_m0 ys a2 v
    · exact k_write_m1 ys a2 v
    · exact k_write_m2 ys a2 v
    · exact k_write_m3 ys a2 v
  · exact k_write_o0 ys a1 a2 v p0
theorem kk_copy (ys : List Int32) (a1 a2 a3 a4 a5 : Int32) : sx_twoI ys 118 234 [.int a1, .int a2, .int a3, .int a4, .int a5] := by
  by_cases p0 : 0 ≤ a1 ∧ a1 ≤ 3
  · by_cases p1 : 0 ≤ a3 ∧ a3 ≤ 3
    · obtain ⟨x, hx, rfl⟩ := sx_rng (n := 3) p0 (by decide) (by decide)
      obtain ⟨y, hy, rfl⟩ := sx_rng (n := 3) p1 (by decide) (by decide)
      rcases sx_to3 hx with rfl | rfl | rfl | rfl
      · rcases sx_to3 hy with rfl | rfl | rfl | rfl
        · exact k_copy_m00 ys a2 a4 a5
        · exact k_copy_m01 ys a2 a4 a5
        · exact k_copy_m02 ys a2 a4 a5
        · exact k_copy_m03 ys a2 a4 a5
      · rcases sx_to3 hy with rfl | rfl | rfl | rfl
        · exact k_copy_m10 ys a2 a4 a5
        · exact k_copy_m11 ys a2 a4 a5
        · exact k_copy_m12 ys a2 a4 a5
        · exact k_copy_m13 ys a2 a4 a5
      · rcases sx_to3 hy with rfl | rfl | rfl | rfl
        · exact k_copy_m20 ys a2 a4 a5
        · exact k_copy_m21 ys a2 a4 a5
        · exact k_copy_m22 ys a2 a4 a5
        · exact k_copy_m23 ys a2 a4 a5
      · rcases sx_to3 hy with rfl | rfl | rfl | rfl
        · exact k_copy_m30 ys a2 a4 a5
        · exact k_copy_m31 ys a2 a4 a5
        · exact k_copy_m32 ys a2 a4 a5
        · exact k_copy_m33 ys a2 a4 a5
    · exact k_copy_o1 ys a1 a2 a3 a4 a5 p0 p1
  · exact k_copy_o0 ys a1 a2 a3 a4 a5 p0
theorem kk_lays (ys : List Int32) (a1 a2 : Int32) : sx_twoI ys 120 235 [.int a1, .int a2] := by
  by_cases p0 : 0 ≤ a1 ∧ a1 ≤ 3
  · obtain ⟨x, hx, rfl⟩ := sx_rng (n := 3) p0 (by decide) (by decide)
    rcases sx_to3 hx with rfl | rfl | rfl | rfl
    · exact k_lays_m0 ys a2
    · exact k_lays_m1 ys a2
    · exact k_lays_m2 ys a2
    · exact k_lays_m3 ys a2
  · exact k_lays_o0 ys a1 a2 p0
theorem kk_book (ys : List Int32) (a1 : Int32) : sx_twoI ys 121 236 [.int a1] := by
  by_cases p0 : 0 ≤ a1 ∧ a1 ≤ 3
  · obtain ⟨x, hx, rfl⟩ := sx_rng (n := 3) p0 (by decide) (by decide)
    rcases sx_to3 hx with rfl | rfl | rfl | rfl
    · exact k_book_m0 ys
    · exact k_book_m1 ys
    · exact k_book_m2 ys
    · exact k_book_m3 ys
  · exact k_book_o0 ys a1 p0
theorem kk_read (ys : List Int32) (a1 : Int32) : sx_twoI ys 122 238 [.int a1] := by
  by_cases p0 : 0 ≤ a1 ∧ a1 ≤ 3
  · obtain ⟨x, hx, rfl⟩ := sx_rng (n := 3) p0 (by decide) (by decide)
    rcases sx_to3 hx with rfl | rfl | rfl | rfl
    · exact k_read_m0 ys
    · exact k_read_m1 ys
    · exact k_read_m2 ys
    · exact k_read_m3 ys
  · exact k_read_o0 ys a1 p0
theorem kk_count (ys : List Int32) (a1 : Int32) : sx_twoI ys 127 243 [.int a1] := by
  by_cases p0 : 0 ≤ a1 ∧ a1 ≤ 6
  · obtain ⟨x, hx, rfl⟩ := sx_rng (n := 6) p0 (by decide) (by decide)
    exact sx_twoI_of ys (e_count x (by omega))
  · exact k_count_s ys a1 (sx_out p0)
theorem kk_status (ys : List Int32) (a1 : Int32) : sx_twoI ys 128 245 [.int a1] := by
  by_cases p0 : (-1) ≤ a1 ∧ a1 ≤ 6
  · by_cases p1 : a1 = -1
    · subst p1
      exact sx_twoI_of ys e_statusm
    · have h1 := Int32.le_iff_toInt_le.mp p0.1
      have e1 : (-1 : Int32).toInt = -1 := rfl
      have e0 : (0 : Int32).toInt = 0 := rfl
      have h2 : ¬ a1.toInt = -1 := fun z => p1 (Int32.toInt_inj.mp (by rw [z, e1]))
      obtain ⟨x, hx, rfl⟩ := sx_rng (lo := 0) (n := 6) ⟨Int32.le_iff_toInt_le.mpr (by omega), p0.2⟩ (by decide) (by decide)
      exact sx_twoI_of ys (e_status x (by omega))
  · exact k_status_o0 ys a1 p0
theorem and63 (a : Int32) : ∃ n, n < 64 ∧ a &&& 63 = nI n := by
  refine ⟨(a &&& 63).toBitVec.toNat, ?_, ?_⟩
  · rw [Int32.toBitVec_and, BitVec.toNat_and]
    exact Nat.lt_of_le_of_lt Nat.and_le_right (by decide)
  · unfold nI
    apply Int32.toBitVec_inj.mp
    rw [Int32.toBitVec_ofNat', BitVec.ofNat_toNat, BitVec.setWidth_eq]
set_option maxRecDepth 20000 in
set_option maxHeartbeats 4000000 in
theorem sx_lawsw (a0 a1 a2 a3 a4 a5 : Int32) (n t : Nat) (w2 : List sx_C) (hn : a0 &&& 63 = nI n) (hk : sx_RU (some [a0, a1, a2, a3, a4, a5]) 8 246 33 sx_l3 [.int (nI n)] sx_w0 (some (.int 1)) w2) : sx_RU (some [a0, a1, a2, a3, a4, a5]) 8 246 18 sx_l3 [] sx_w0 (some (.int 1)) w2 := by
  refine sx_RU.step (pc2 := 19) (ls2 := sx_l3) (st2 := [.int 0]) (w3 := sx_w0) rfl rfl ?_
  refine sx_RU.step (pc2 := 20) (ls2 := sx_l3) (st2 := [.float 4, .int 0]) (w3 := sx_w0) rfl rfl ?_
  refine sx_RU.step (pc2 := 21) (ls2 := sx_l3) (st2 := [.int 6, .int 0]) (w3 := sx_w0) rfl rfl ?_
  refine sx_RU.step (pc2 := 23) (ls2 := sx_l3) (st2 := [.int 6, .int 6, .int 0]) (w3 := sx_w0) rfl rfl ?_
  refine sx_RU.step (pc2 := 24) (ls2 := sx_l3) (st2 := [.int 0, .int 0]) (w3 := sx_w0) rfl rfl ?_
  refine sx_RU.step (pc2 := 27) (ls2 := sx_l3) (st2 := []) (w3 := sx_w0) rfl rfl ?_
  refine sx_RU.step (pc2 := 28) (ls2 := sx_l3) (st2 := [.float 4]) (w3 := sx_w0) rfl rfl ?_
  refine sx_RU.step (pc2 := 29) (ls2 := sx_l3) (st2 := [.int 0, .float 4]) (w3 := sx_w0) rfl rfl ?_
  refine sx_RU.step (pc2 := 30) (ls2 := sx_l3) (st2 := [.int a0]) (w3 := sx_w0) rfl rfl ?_
  refine sx_RU.step (pc2 := 32) (ls2 := sx_l3) (st2 := [.int 63, .int a0]) (w3 := sx_w0) rfl rfl ?_
  refine sx_RU.step (pc2 := 33) (ls2 := sx_l3) (st2 := [.int (a0 &&& 63)]) (w3 := sx_w0) rfl rfl ?_
  rw [hn]
  exact hk
set_option maxRecDepth 20000 in
set_option maxHeartbeats 4000000 in
theorem sx_lawdf (a0 a1 a2 a3 a4 a5 : Int32) (n : Nat) (h : 45 ≤ n) (h2 : n < 64) : ∃ w2, sx_RU (some [a0, a1, a2, a3, a4, a5]) 8 246 33 sx_l3 [.int (nI n)] sx_w0 (some (.int 1)) w2 := by
  refine ⟨sx_w0, ?_⟩
  refine sx_RU.swo (t := 1542) rfl (Or.inr (by rw [nI_toInt (by omega)]; omega)) rfl ?_
  (repeat (refine sx_RU.step rfl rfl ?_))
  refine sx_RU.br rfl rfl (fun _ => ?_) (fun q => absurd (show (6 : Int32) - 6 < 6 by decide) (of_decide_eq_false q))
  (repeat (refine sx_RU.step rfl rfl ?_))
  exact sx_RU.ret rfl rfl
set_option maxRecDepth 20000 in
theorem sx_case0 (a0 a1 a2 a3 a4 a5 : Int32) : ∃ w2, sx_RU (some [a0, a1, a2, a3, a4, a5]) 8 246 33 sx_l3 [.int (nI 0)] sx_w0 (some (.int 1)) w2 := by
  obtain ⟨w2, h⟩ := lw_c0 a0 a1 a2 a3 a4 a5 (kk_ground _ a1 a2)
  exact ⟨w2, sx_RU.step (pc2 := 228) (ls2 := sx_l3) (st2 := []) (w3 := sx_w0) rfl rfl h⟩
set_option maxRecDepth 20000 in
theorem sx_case1 (a0 a1 a2 a3 a4 a5 : Int32) : ∃ w2, sx_RU (some [a0, a1, a2, a3, a4, a5]) 8 246 33 sx_l3 [.int (nI 1)] sx_w0 (some (.int 1)) w2 := by
  by_cases hn : a2 = 0
  · subst hn
    obtain ⟨w2, h⟩ := lw_c1z a0 a1 0 a3 a4 a5 (kk_wall0 _ a1)
    exact ⟨w2, sx_RU.step (pc2 := 261) (ls2 := sx_l3) (st2 := []) (w3 := sx_w0) rfl rfl h⟩
  · obtain ⟨w2, h⟩ := lw_c1n a0 a1 a2 a3 a4 a5 hn (kk_wall1 _ a1)
    exact ⟨w2, sx_RU.step (pc2 := 261) (ls2 := sx_l3) (st2 := []) (w3 := sx_w0) rfl rfl h⟩
set_option maxRecDepth 20000 in
theorem sx_case2 (a0 a1 a2 a3 a4 a5 : Int32) : ∃ w2, sx_RU (some [a0, a1, a2, a3, a4, a5]) 8 246 33 sx_l3 [.int (nI 2)] sx_w0 (some (.int 1)) w2 := by
  obtain ⟨w2, h⟩ := lw_c2 a0 a1 a2 a3 a4 a5 (kk_cellOf _ a1 a2)
  exact ⟨w2, sx_RU.step (pc2 := 310) (ls2 := sx_l3) (st2 := []) (w3 := sx_w0) rfl rfl h⟩
set_option maxRecDepth 20000 in
theorem sx_case3 (a0 a1 a2 a3 a4 a5 : Int32) : ∃ w2, sx_RU (some [a0, a1, a2, a3, a4, a5]) 8 246 33 sx_l3 [.int (nI 3)] sx_w0 (some (.int 1)) w2 := by
  obtain ⟨w2, h⟩ := lw_c3 a0 a1 a2 a3 a4 a5 (sx_twoL_of _ e_walls)
  exact ⟨w2, sx_RU.step (pc2 := 343) (ls2 := sx_l3) (st2 := []) (w3 := sx_w0) rfl rfl h⟩
set_option maxRecDepth 20000 in
theorem sx_case4 (a0 a1 a2 a3 a4 a5 : Int32) : ∃ w2, sx_RU (some [a0, a1, a2, a3, a4, a5]) 8 246 33 sx_l3 [.int (nI 4)] sx_w0 (some (.int 1)) w2 := by
  obtain ⟨w2, h⟩ := lw_c4 a0 a1 a2 a3 a4 a5 (kk_far _ a1 a2)
  exact ⟨w2, sx_RU.step (pc2 := 357) (ls2 := sx_l3) (st2 := []) (w3 := sx_w0) rfl rfl h⟩
set_option maxRecDepth 20000 in
theorem sx_case5 (a0 a1 a2 a3 a4 a5 : Int32) : ∃ w2, sx_RU (some [a0, a1, a2, a3, a4, a5]) 8 246 33 sx_l3 [.int (nI 5)] sx_w0 (some (.int 1)) w2 := by
  obtain ⟨w2, h⟩ := lw_c5 a0 a1 a2 a3 a4 a5 (kk_gallery _ a1 a2 a3 a4)
  exact ⟨w2, sx_RU.step (pc2 := 390) (ls2 := sx_l3) (st2 := []) (w3 := sx_w0) rfl rfl h⟩
set_option maxRecDepth 20000 in
theorem sx_case6 (a0 a1 a2 a3 a4 a5 : Int32) : ∃ w2, sx_RU (some [a0, a1, a2, a3, a4, a5]) 8 246 33 sx_l3 [.int (nI 6)] sx_w0 (some (.int 1)) w2 := by
  obtain ⟨w2, h⟩ := lw_c6 a0 a1 a2 a3 a4 a5 (k_of _ a1 a2)
  exact ⟨w2, sx_RU.step (pc2 := 443) (ls2 := sx_l3) (st2 := []) (w3 := sx_w0) rfl rfl h⟩
set_option maxRecDepth 20000 in
theorem sx_case7 (a0 a1 a2 a3 a4 a5 : Int32) : ∃ w2, sx_RU (some [a0, a1, a2, a3, a4, a5]) 8 246 33 sx_l3 [.int (nI 7)] sx_w0 (some (.int 1)) w2 := by
  obtain ⟨w2, h⟩ := lw_c7 a0 a1 a2 a3 a4 a5 (k_turn _ a1 a2)
  exact ⟨w2, sx_RU.step (pc2 := 476) (ls2 := sx_l3) (st2 := []) (w3 := sx_w0) rfl rfl h⟩
set_option maxRecDepth 20000 in
theorem sx_case8 (a0 a1 a2 a3 a4 a5 : Int32) : ∃ w2, sx_RU (some [a0, a1, a2, a3, a4, a5]) 8 246 33 sx_l3 [.int (nI 8)] sx_w0 (some (.int 1)) w2 := by
  obtain ⟨w2, h⟩ := lw_c8 a0 a1 a2 a3 a4 a5 (k_become _ a1 a2)
  exact ⟨w2, sx_RU.step (pc2 := 509) (ls2 := sx_l3) (st2 := []) (w3 := sx_w0) rfl rfl h⟩
set_option maxRecDepth 20000 in
theorem sx_case9 (a0 a1 a2 a3 a4 a5 : Int32) : ∃ w2, sx_RU (some [a0, a1, a2, a3, a4, a5]) 8 246 33 sx_l3 [.int (nI 9)] sx_w0 (some (.int 1)) w2 := by
  obtain ⟨w2, h⟩ := lw_c9 a0 a1 a2 a3 a4 a5 (k_as _ a1 a2)
  exact ⟨w2, sx_RU.step (pc2 := 542) (ls2 := sx_l3) (st2 := []) (w3 := sx_w0) rfl rfl h⟩
set_option maxRecDepth 20000 in
theorem sx_case10 (a0 a1 a2 a3 a4 a5 : Int32) : ∃ w2, sx_RU (some [a0, a1, a2, a3, a4, a5]) 8 246 33 sx_l3 [.int (nI 10)] sx_w0 (some (.int 1)) w2 := by
  obtain ⟨w2, h⟩ := lw_c10 a0 a1 a2 a3 a4 a5 (k_does _ a1 a2 a3)
  exact ⟨w2, sx_RU.step (pc2 := 575) (ls2 := sx_l3) (st2 := []) (w3 := sx_w0) rfl rfl h⟩
set_option maxRecDepth 20000 in
theorem sx_case11 (a0 a1 a2 a3 a4 a5 : Int32) : ∃ w2, sx_RU (some [a0, a1, a2, a3, a4, a5]) 8 246 33 sx_l3 [.int (nI 11)] sx_w0 (some (.int 1)) w2 := by
  obtain ⟨w2, h⟩ := lw_c11 a0 a1 a2 a3 a4 a5 (kk_nights _ a1)
  exact ⟨w2, sx_RU.step (pc2 := 618) (ls2 := sx_l3) (st2 := []) (w3 := sx_w0) rfl rfl h⟩
set_option maxRecDepth 20000 in
theorem sx_case12 (a0 a1 a2 a3 a4 a5 : Int32) : ∃ w2, sx_RU (some [a0, a1, a2, a3, a4, a5]) 8 246 33 sx_l3 [.int (nI 12)] sx_w0 (some (.int 1)) w2 := by
  obtain ⟨w2, h⟩ := lw_c12 a0 a1 a2 a3 a4 a5 (kk_now _ a1)
  exact ⟨w2, sx_RU.step (pc2 := 641) (ls2 := sx_l3) (st2 := []) (w3 := sx_w0) rfl rfl h⟩
set_option maxRecDepth 20000 in
theorem sx_case13 (a0 a1 a2 a3 a4 a5 : Int32) : ∃ w2, sx_RU (some [a0, a1, a2, a3, a4, a5]) 8 246 33 sx_l3 [.int (nI 13)] sx_w0 (some (.int 1)) w2 := by
  obtain ⟨w2, h⟩ := lw_c13 a0 a1 a2 a3 a4 a5 (k_on _ a1 a2)
  exact ⟨w2, sx_RU.step (pc2 := 664) (ls2 := sx_l3) (st2 := []) (w3 := sx_w0) rfl rfl h⟩
set_option maxRecDepth 20000 in
theorem sx_case14 (a0 a1 a2 a3 a4 a5 : Int32) : ∃ w2, sx_RU (some [a0, a1, a2, a3, a4, a5]) 8 246 33 sx_l3 [.int (nI 14)] sx_w0 (some (.int 1)) w2 := by
  obtain ⟨w2, h⟩ := lw_c14 a0 a1 a2 a3 a4 a5 (k_lost _ a1)
  exact ⟨w2, sx_RU.step (pc2 := 697) (ls2 := sx_l3) (st2 := []) (w3 := sx_w0) rfl rfl h⟩
set_option maxRecDepth 20000 in
theorem sx_case15 (a0 a1 a2 a3 a4 a5 : Int32) : ∃ w2, sx_RU (some [a0, a1, a2, a3, a4, a5]) 8 246 33 sx_l3 [.int (nI 15)] sx_w0 (some (.int 1)) w2 := by
  obtain ⟨w2, h⟩ := lw_c15 a0 a1 a2 a3 a4 a5 (sx_twoI_of _ e_first)
  exact ⟨w2, sx_RU.step (pc2 := 720) (ls2 := sx_l3) (st2 := []) (w3 := sx_w0) rfl rfl h⟩
set_option maxRecDepth 20000 in
theorem sx_case16 (a0 a1 a2 a3 a4 a5 : Int32) : ∃ w2, sx_RU (some [a0, a1, a2, a3, a4, a5]) 8 246 33 sx_l3 [.int (nI 16)] sx_w0 (some (.int 1)) w2 := by
  obtain ⟨w2, h⟩ := lw_c16 a0 a1 a2 a3 a4 a5 (k_comes _ a1 a2)
  exact ⟨w2, sx_RU.step (pc2 := 733) (ls2 := sx_l3) (st2 := []) (w3 := sx_w0) rfl rfl h⟩
set_option maxRecDepth 20000 in
theorem sx_case17 (a0 a1 a2 a3 a4 a5 : Int32) : ∃ w2, sx_RU (some [a0, a1, a2, a3, a4, a5]) 8 246 33 sx_l3 [.int (nI 17)] sx_w0 (some (.int 1)) w2 := by
  obtain ⟨w2, h⟩ := lw_c17 a0 a1 a2 a3 a4 a5 (k_meets _ a1 a2)
  exact ⟨w2, sx_RU.step (pc2 := 766) (ls2 := sx_l3) (st2 := []) (w3 := sx_w0) rfl rfl h⟩
set_option maxRecDepth 20000 in
theorem sx_case18 (a0 a1 a2 a3 a4 a5 : Int32) : ∃ w2, sx_RU (some [a0, a1, a2, a3, a4, a5]) 8 246 33 sx_l3 [.int (nI 18)] sx_w0 (some (.int 1)) w2 := by
  obtain ⟨w2, h⟩ := lw_c18 a0 a1 a2 a3 a4 a5 (k_whose _ a1)
  exact ⟨w2, sx_RU.step (pc2 := 799) (ls2 := sx_l3) (st2 := []) (w3 := sx_w0) rfl rfl h⟩
set_option maxRecDepth 20000 in
theorem sx_case19 (a0 a1 a2 a3 a4 a5 : Int32) : ∃ w2, sx_RU (some [a0, a1, a2, a3, a4, a5]) 8 246 33 sx_l3 [.int (nI 19)] sx_w0 (some (.int 1)) w2 := by
  obtain ⟨w2, h⟩ := lw_c19 a0 a1 a2 a3 a4 a5 (kk_dish _ a1)
  exact ⟨w2, sx_RU.step (pc2 := 822) (ls2 := sx_l3) (st2 := []) (w3 := sx_w0) rfl rfl h⟩
set_option maxRecDepth 20000 in
theorem sx_case20 (a0 a1 a2 a3 a4 a5 : Int32) : ∃ w2, sx_RU (some [a0, a1, a2, a3, a4, a5]) 8 246 33 sx_l3 [.int (nI 20)] sx_w0 (some (.int 1)) w2 := by
  obtain ⟨w2, h⟩ := lw_c20 a0 a1 a2 a3 a4 a5 (k_move _ a1 a2)
  exact ⟨w2, sx_RU.step (pc2 := 845) (ls2 := sx_l3) (st2 := []) (w3 := sx_w0) rfl rfl h⟩
set_option maxRecDepth 20000 in
theorem sx_case21 (a0 a1 a2 a3 a4 a5 : Int32) : ∃ w2, sx_RU (some [a0, a1, a2, a3, a4, a5]) 8 246 33 sx_l3 [.int (nI 21)] sx_w0 (some (.int 1)) w2 := by
  obtain ⟨w2, h⟩ := lw_c21 a0 a1 a2 a3 a4 a5 (k_peas _ a1)
  exact ⟨w2, sx_RU.step (pc2 := 878) (ls2 := sx_l3) (st2 := []) (w3 := sx_w0) rfl rfl h⟩
set_option maxRecDepth 20000 in
theorem sx_case22 (a0 a1 a2 a3 a4 a5 : Int32) : ∃ w2, sx_RU (some [a0, a1, a2, a3, a4, a5]) 8 246 33 sx_l3 [.int (nI 22)] sx_w0 (some (.int 1)) w2 := by
  obtain ⟨w2, h⟩ := lw_c22 a0 a1 a2 a3 a4 a5 (k_hears _ a1 a2)
  exact ⟨w2, sx_RU.step (pc2 := 901) (ls2 := sx_l3) (st2 := []) (w3 := sx_w0) rfl rfl h⟩
set_option maxRecDepth 20000 in
theorem sx_case23 (a0 a1 a2 a3 a4 a5 : Int32) : ∃ w2, sx_RU (some [a0, a1, a2, a3, a4, a5]) 8 246 33 sx_l3 [.int (nI 23)] sx_w0 (some (.int 1)) w2 := by
  obtain ⟨w2, h⟩ := lw_c23 a0 a1 a2 a3 a4 a5 (kk_where _ a1)
  exact ⟨w2, sx_RU.step (pc2 := 934) (ls2 := sx_l3) (st2 := []) (w3 := sx_w0) rfl rfl h⟩
set_option maxRecDepth 20000 in
theorem sx_case24 (a0 a1 a2 a3 a4 a5 : Int32) : ∃ w2, sx_RU (some [a0, a1, a2, a3, a4, a5]) 8 246 33 sx_l3 [.int (nI 24)] sx_w0 (some (.int 1)) w2 := by
  obtain ⟨w2, h⟩ := lw_c24 a0 a1 a2 a3 a4 a5 (kk_best _ a1)
  exact ⟨w2, sx_RU.step (pc2 := 958) (ls2 := sx_l3) (st2 := []) (w3 := sx_w0) rfl rfl h⟩
set_option maxRecDepth 20000 in
theorem sx_case25 (a0 a1 a2 a3 a4 a5 : Int32) : ∃ w2, sx_RU (some [a0, a1, a2, a3, a4, a5]) 8 246 33 sx_l3 [.int (nI 25)] sx_w0 (some (.int 1)) w2 := by
  obtain ⟨w2, h⟩ := lw_c25 a0 a1 a2 a3 a4 a5 (kk_falls _ a1 a2)
  exact ⟨w2, sx_RU.step (pc2 := 981) (ls2 := sx_l3) (st2 := []) (w3 := sx_w0) rfl rfl h⟩
set_option maxRecDepth 20000 in
theorem sx_case26 (a0 a1 a2 a3 a4 a5 : Int32) : ∃ w2, sx_RU (some [a0, a1, a2, a3, a4, a5]) 8 246 33 sx_l3 [.int (nI 26)] sx_w0 (some (.int 1)) w2 := by
  obtain ⟨w2, h⟩ := lw_c26 a0 a1 a2 a3 a4 a5 (kk_blow _ a1 a2)
  exact ⟨w2, sx_RU.step (pc2 := 1014) (ls2 := sx_l3) (st2 := []) (w3 := sx_w0) rfl rfl h⟩
set_option maxRecDepth 20000 in
theorem sx_case27 (a0 a1 a2 a3 a4 a5 : Int32) : ∃ w2, sx_RU (some [a0, a1, a2, a3, a4, a5]) 8 246 33 sx_l3 [.int (nI 27)] sx_w0 (some (.int 1)) w2 := by
  obtain ⟨w2, h⟩ := lw_c27 a0 a1 a2 a3 a4 a5 (kk_mine _ a1)
  exact ⟨w2, sx_RU.step (pc2 := 1047) (ls2 := sx_l3) (st2 := []) (w3 := sx_w0) rfl rfl h⟩
set_option maxRecDepth 20000 in
theorem sx_case28 (a0 a1 a2 a3 a4 a5 : Int32) : ∃ w2, sx_RU (some [a0, a1, a2, a3, a4, a5]) 8 246 33 sx_l3 [.int (nI 28)] sx_w0 (some (.int 1)) w2 := by
  obtain ⟨w2, h⟩ := lw_c28 a0 a1 a2 a3 a4 a5 (kk_bread _ a1 a2)
  exact ⟨w2, sx_RU.step (pc2 := 1070) (ls2 := sx_l3) (st2 := []) (w3 := sx_w0) rfl rfl h⟩
set_option maxRecDepth 20000 in
theorem sx_case29 (a0 a1 a2 a3 a4 a5 : Int32) : ∃ w2, sx_RU (some [a0, a1, a2, a3, a4, a5]) 8 246 33 sx_l3 [.int (nI 29)] sx_w0 (some (.int 1)) w2 := by
  obtain ⟨w2, h⟩ := lw_c29 a0 a1 a2 a3 a4 a5 (sx_twoI_of _ e_lasts)
  exact ⟨w2, sx_RU.step (pc2 := 1103) (ls2 := sx_l3) (st2 := []) (w3 := sx_w0) rfl rfl h⟩
set_option maxRecDepth 20000 in
theorem sx_case30 (a0 a1 a2 a3 a4 a5 : Int32) : ∃ w2, sx_RU (some [a0, a1, a2, a3, a4, a5]) 8 246 33 sx_l3 [.int (nI 30)] sx_w0 (some (.int 1)) w2 := by
  obtain ⟨w2, h⟩ := lw_c30 a0 a1 a2 a3 a4 a5 (kk_ration _ a1)
  exact ⟨w2, sx_RU.step (pc2 := 1116) (ls2 := sx_l3) (st2 := []) (w3 := sx_w0) rfl rfl h⟩
set_option maxRecDepth 20000 in
theorem sx_case31 (a0 a1 a2 a3 a4 a5 : Int32) : ∃ w2, sx_RU (some [a0, a1, a2, a3, a4, a5]) 8 246 33 sx_l3 [.int (nI 31)] sx_w0 (some (.int 1)) w2 := by
  obtain ⟨w2, h⟩ := lw_c31 a0 a1 a2 a3 a4 a5 (kk_feed _ a1 a2)
  exact ⟨w2, sx_RU.step (pc2 := 1139) (ls2 := sx_l3) (st2 := []) (w3 := sx_w0) rfl rfl h⟩
set_option maxRecDepth 20000 in
theorem sx_case32 (a0 a1 a2 a3 a4 a5 : Int32) : ∃ w2, sx_RU (some [a0, a1, a2, a3, a4, a5]) 8 246 33 sx_l3 [.int (nI 32)] sx_w0 (some (.int 1)) w2 := by
  obtain ⟨w2, h⟩ := lw_c32 a0 a1 a2 a3 a4 a5 (sx_twoI_of _ e_wipe)
  exact ⟨w2, sx_RU.step (pc2 := 1172) (ls2 := sx_l3) (st2 := []) (w3 := sx_w0) rfl rfl h⟩
set_option maxRecDepth 20000 in
theorem sx_case33 (a0 a1 a2 a3 a4 a5 : Int32) : ∃ w2, sx_RU (some [a0, a1, a2, a3, a4, a5]) 8 246 33 sx_l3 [.int (nI 33)] sx_w0 (some (.int 1)) w2 := by
  obtain ⟨w2, h⟩ := lw_c33 a0 a1 a2 a3 a4 a5 (sx_twoI_of _ e_siege)
  exact ⟨w2, sx_RU.step (pc2 := 1185) (ls2 := sx_l3) (st2 := []) (w3 := sx_w0) rfl rfl h⟩
set_option maxRecDepth 20000 in
theorem sx_case34 (a0 a1 a2 a3 a4 a5 : Int32) : ∃ w2, sx_RU (some [a0, a1, a2, a3, a4, a5]) 8 246 33 sx_l3 [.int (nI 34)] sx_w0 (some (.int 1)) w2 := by
  obtain ⟨w2, h⟩ := lw_c34 a0 a1 a2 a3 a4 a5 (kk_sheet _ a1 a2 a3)
  exact ⟨w2, sx_RU.step (pc2 := 1198) (ls2 := sx_l3) (st2 := []) (w3 := sx_w0) rfl rfl h⟩
set_option maxRecDepth 20000 in
theorem sx_case35 (a0 a1 a2 a3 a4 a5 : Int32) : ∃ w2, sx_RU (some [a0, a1, a2, a3, a4, a5]) 8 246 33 sx_l3 [.int (nI 35)] sx_w0 (some (.int 1)) w2 := by
  obtain ⟨w2, h⟩ := lw_c35 a0 a1 a2 a3 a4 a5 (kk_write _ a1 a2 _)
  exact ⟨w2, sx_RU.step (pc2 := 1241) (ls2 := sx_l3) (st2 := []) (w3 := sx_w0) rfl rfl h⟩
set_option maxRecDepth 20000 in
theorem sx_case36 (a0 a1 a2 a3 a4 a5 : Int32) : ∃ w2, sx_RU (some [a0, a1, a2, a3, a4, a5]) 8 246 33 sx_l3 [.int (nI 36)] sx_w0 (some (.int 1)) w2 := by
  obtain ⟨w2, h⟩ := lw_c36 a0 a1 a2 a3 a4 a5 (kk_copy _ a1 a2 a3 a4 a5)
  exact ⟨w2, sx_RU.step (pc2 := 1315) (ls2 := sx_l3) (st2 := []) (w3 := sx_w0) rfl rfl h⟩
set_option maxRecDepth 20000 in
theorem sx_case37 (a0 a1 a2 a3 a4 a5 : Int32) : ∃ w2, sx_RU (some [a0, a1, a2, a3, a4, a5]) 8 246 33 sx_l3 [.int (nI 37)] sx_w0 (some (.int 1)) w2 := by
  obtain ⟨w2, h⟩ := lw_c37 a0 a1 a2 a3 a4 a5 (kk_lays _ a1 a2)
  exact ⟨w2, sx_RU.step (pc2 := 1378) (ls2 := sx_l3) (st2 := []) (w3 := sx_w0) rfl rfl h⟩
set_option maxRecDepth 20000 in
theorem sx_case38 (a0 a1 a2 a3 a4 a5 : Int32) : ∃ w2, sx_RU (some [a0, a1, a2, a3, a4, a5]) 8 246 33 sx_l3 [.int (nI 38)] sx_w0 (some (.int 1)) w2 := by
  obtain ⟨w2, h⟩ := lw_c38 a0 a1 a2 a3 a4 a5 (kk_book _ a1)
  exact ⟨w2, sx_RU.step (pc2 := 1411) (ls2 := sx_l3) (st2 := []) (w3 := sx_w0) rfl rfl h⟩
set_option maxRecDepth 20000 in
theorem sx_case39 (a0 a1 a2 a3 a4 a5 : Int32) : ∃ w2, sx_RU (some [a0, a1, a2, a3, a4, a5]) 8 246 33 sx_l3 [.int (nI 39)] sx_w0 (some (.int 1)) w2 := by
  obtain ⟨w2, h⟩ := lw_c39 a0 a1 a2 a3 a4 a5 (kk_read _ a1)
  exact ⟨w2, sx_RU.step (pc2 := 1434) (ls2 := sx_l3) (st2 := []) (w3 := sx_w0) rfl rfl h⟩
set_option maxRecDepth 20000 in
theorem sx_case40 (a0 a1 a2 a3 a4 a5 : Int32) : ∃ w2, sx_RU (some [a0, a1, a2, a3, a4, a5]) 8 246 33 sx_l3 [.int (nI 40)] sx_w0 (some (.int 1)) w2 := by
  obtain ⟨w2, h⟩ := lw_c40 a0 a1 a2 a3 a4 a5 (sx_twoI_of _ e_image)
  exact ⟨w2, sx_RU.step (pc2 := 1457) (ls2 := sx_l3) (st2 := []) (w3 := sx_w0) rfl rfl h⟩
set_option maxRecDepth 20000 in
theorem sx_case41 (a0 a1 a2 a3 a4 a5 : Int32) : ∃ w2, sx_RU (some [a0, a1, a2, a3, a4, a5]) 8 246 33 sx_l3 [.int (nI 41)] sx_w0 (some (.int 1)) w2 := by
  obtain ⟨w2, h⟩ := lw_c41 a0 a1 a2 a3 a4 a5 (sx_twoI_of _ e_undo)
  exact ⟨w2, sx_RU.step (pc2 := 1470) (ls2 := sx_l3) (st2 := []) (w3 := sx_w0) rfl rfl h⟩
set_option maxRecDepth 20000 in
theorem sx_case42 (a0 a1 a2 a3 a4 a5 : Int32) : ∃ w2, sx_RU (some [a0, a1, a2, a3, a4, a5]) 8 246 33 sx_l3 [.int (nI 42)] sx_w0 (some (.int 1)) w2 := by
  obtain ⟨w2, h⟩ := lw_c42 a0 a1 a2 a3 a4 a5 (sx_twoI_of _ e_tear)
  exact ⟨w2, sx_RU.step (pc2 := 1483) (ls2 := sx_l3) (st2 := []) (w3 := sx_w0) rfl rfl h⟩
set_option maxRecDepth 20000 in
theorem sx_case43 (a0 a1 a2 a3 a4 a5 : Int32) : ∃ w2, sx_RU (some [a0, a1, a2, a3, a4, a5]) 8 246 33 sx_l3 [.int (nI 43)] sx_w0 (some (.int 1)) w2 := by
  obtain ⟨w2, h⟩ := lw_c43 a0 a1 a2 a3 a4 a5 (kk_count _ a1)
  exact ⟨w2, sx_RU.step (pc2 := 1496) (ls2 := sx_l3) (st2 := []) (w3 := sx_w0) rfl rfl h⟩
set_option maxRecDepth 20000 in
theorem sx_case44 (a0 a1 a2 a3 a4 a5 : Int32) : ∃ w2, sx_RU (some [a0, a1, a2, a3, a4, a5]) 8 246 33 sx_l3 [.int (nI 44)] sx_w0 (some (.int 1)) w2 := by
  obtain ⟨w2, h⟩ := lw_c44 a0 a1 a2 a3 a4 a5 (kk_status _ a1)
  exact ⟨w2, sx_RU.step (pc2 := 1519) (ls2 := sx_l3) (st2 := []) (w3 := sx_w0) rfl rfl h⟩
theorem sx_cases (a0 a1 a2 a3 a4 a5 : Int32) : ∀ n, n < 64 → ∃ w2, sx_RU (some [a0, a1, a2, a3, a4, a5]) 8 246 33 sx_l3 [.int (nI n)] sx_w0 (some (.int 1)) w2
  | 0, _ => sx_case0 a0 a1 a2 a3 a4 a5
  | 1, _ => sx_case1 a0 a1 a2 a3 a4 a5
  | 2, _ => sx_case2 a0 a1 a2 a3 a4 a5
  | 3, _ => sx_case3 a0 a1 a2 a3 a4 a5
  | 4, _ => sx_case4 a0 a1 a2 a3 a4 a5
  | 5, _ => sx_case5 a0 a1 a2 a3 a4 a5
  | 6, _ => sx_case6 a0 a1 a2 a3 a4 a5
  | 7, _ => sx_case7 a0 a1 a2 a3 a4 a5
  | 8, _ => sx_case8 a0 a1 a2 a3 a4 a5
  | 9, _ => sx_case9 a0 a1 a2 a3 a4 a5
  | 10, _ => sx_case10 a0 a1 a2 a3 a4 a5
  | 11, _ => sx_case11 a0 a1 a2 a3 a4 a5
  | 12, _ => sx_case12 a0 a1 a2 a3 a4 a5
  | 13, _ => sx_case13 a0 a1 a2 a3 a4 a5
  | 14, _ => sx_case14 a0 a1 a2 a3 a4 a5
  | 15, _ => sx_case15 a0 a1 a2 a3 a4 a5
  | 16, _ => sx_case16 a0 a1 a2 a3 a4 a5
  | 17, _ => sx_case17 a0 a1 a2 a3 a4 a5
  | 18, _ => sx_case18 a0 a1 a2 a3 a4 a5
  | 19, _ => sx_case19 a0 a1 a2 a3 a4 a5
  | 20, _ => sx_case20 a0 a1 a2 a3 a4 a5
  | 21, _ => sx_case21 a0 a1 a2 a3 a4 a5
  | 22, _ => sx_case22 a0 a1 a2 a3 a4 a5
  | 23, _ => sx_case23 a0 a1 a2 a3 a4 a5
  | 24, _ => sx_case24 a0 a1 a2 a3 a4 a5
  | 25, _ => sx_case25 a0 a1 a2 a3 a4 a5
  | 26, _ => sx_case26 a0 a1 a2 a3 a4 a5
  | 27, _ => sx_case27 a0 a1 a2 a3 a4 a5
  | 28, _ => sx_case28 a0 a1 a2 a3 a4 a5
  | 29, _ => sx_case29 a0 a1 a2 a3 a4 a5
  | 30, _ => sx_case30 a0 a1 a2 a3 a4 a5
  | 31, _ => sx_case31 a0 a1 a2 a3 a4 a5
  | 32, _ => sx_case32 a0 a1 a2 a3 a4 a5
  | 33, _ => sx_case33 a0 a1 a2 a3 a4 a5
  | 34, _ => sx_case34 a0 a1 a2 a3 a4 a5
  | 35, _ => sx_case35 a0 a1 a2 a3 a4 a5
  | 36, _ => sx_case36 a0 a1 a2 a3 a4 a5
  | 37, _ => sx_case37 a0 a1 a2 a3 a4 a5
  | 38, _ => sx_case38 a0 a1 a2 a3 a4 a5
  | 39, _ => sx_case39 a0 a1 a2 a3 a4 a5
  | 40, _ => sx_case40 a0 a1 a2 a3 a4 a5
  | 41, _ => sx_case41 a0 a1 a2 a3 a4 a5
  | 42, _ => sx_case42 a0 a1 a2 a3 a4 a5
  | 43, _ => sx_case43 a0 a1 a2 a3 a4 a5
  | 44, _ => sx_case44 a0 a1 a2 a3 a4 a5
  | n + 45, h => sx_lawdf a0 a1 a2 a3 a4 a5 (n + 45) (by omega) h
set_option maxRecDepth 20000 in
set_option maxHeartbeats 4000000 in
theorem sx_law6 (a0 a1 a2 a3 a4 a5 : Int32) : ∃ w2, sx_RU (some [a0, a1, a2, a3, a4, a5]) 8 246 18 sx_l3 [] sx_w0 (some (.int 1)) w2 := by
  obtain ⟨n, hn, e⟩ := and63 a0
  obtain ⟨w2, h⟩ := sx_cases a0 a1 a2 a3 a4 a5 n hn
  exact ⟨w2, sx_lawsw a0 a1 a2 a3 a4 a5 n 0 w2 e h⟩
set_option maxRecDepth 20000 in
set_option maxHeartbeats 4000000 in
theorem sx_law_0 : ∃ w2, sx_RU (some []) 8 246 18 sx_l3 [] sx_w0 (some (.int 1)) w2 := by
  refine ⟨sx_w0, ?_⟩
  (repeat (refine sx_RU.step rfl rfl ?_))
  exact sx_RU.ret rfl rfl
set_option maxRecDepth 20000 in
set_option maxHeartbeats 4000000 in
theorem sx_law_1 (a0 : Int32) : ∃ w2, sx_RU (some [a0]) 8 246 18 sx_l3 [] sx_w0 (some (.int 1)) w2 := by
  refine ⟨sx_w0, ?_⟩
  (repeat (refine sx_RU.step rfl rfl ?_))
  exact sx_RU.ret rfl rfl
set_option maxRecDepth 20000 in
set_option maxHeartbeats 4000000 in
theorem sx_law_2 (a0 a1 : Int32) : ∃ w2, sx_RU (some [a0, a1]) 8 246 18 sx_l3 [] sx_w0 (some (.int 1)) w2 := by
  refine ⟨sx_w0, ?_⟩
  (repeat (refine sx_RU.step rfl rfl ?_))
  exact sx_RU.ret rfl rfl
set_option maxRecDepth 20000 in
set_option maxHeartbeats 4000000 in
theorem sx_law_3 (a0 a1 a2 : Int32) : ∃ w2, sx_RU (some [a0, a1, a2]) 8 246 18 sx_l3 [] sx_w0 (some (.int 1)) w2 := by
  refine ⟨sx_w0, ?_⟩
  (repeat (refine sx_RU.step rfl rfl ?_))
  exact sx_RU.ret rfl rfl
set_option maxRecDepth 20000 in
set_option maxHeartbeats 4000000 in
theorem sx_law_4 (a0 a1 a2 a3 : Int32) : ∃ w2, sx_RU (some [a0, a1, a2, a3]) 8 246 18 sx_l3 [] sx_w0 (some (.int 1)) w2 := by
  refine ⟨sx_w0, ?_⟩
  (repeat (refine sx_RU.step rfl rfl ?_))
  exact sx_RU.ret rfl rfl
set_option maxRecDepth 20000 in
set_option maxHeartbeats 4000000 in
theorem sx_law_5 (a0 a1 a2 a3 a4 : Int32) : ∃ w2, sx_RU (some [a0, a1, a2, a3, a4]) 8 246 18 sx_l3 [] sx_w0 (some (.int 1)) w2 := by
  refine ⟨sx_w0, ?_⟩
  (repeat (refine sx_RU.step rfl rfl ?_))
  exact sx_RU.ret rfl rfl
theorem sx_law : sx_LAW
  | [], _ => sx_law_0
  | [a0], _ => sx_law_1 a0
  | [a0, a1], _ => sx_law_2 a0 a1
  | [a0, a1, a2], _ => sx_law_3 a0 a1 a2
  | [a0, a1, a2, a3], _ => sx_law_4 a0 a1 a2 a3
  | [a0, a1, a2, a3, a4], _ => sx_law_5 a0 a1 a2 a3 a4
  | [a0, a1, a2, a3, a4, a5], _ => sx_law6 a0 a1 a2 a3 a4 a5
  | _ :: _ :: _ :: _ :: _ :: _ :: _ :: r, h => absurd h (by simp only [List.length_cons]; omega)
