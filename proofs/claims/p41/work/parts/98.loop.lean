set_option maxRecDepth 20000 in
set_option maxHeartbeats 4000000 in
theorem law_loop {ys : List Int32} (hl : ys.length ≤ 3072) : ∀ (n i : Nat) (w : List sx_C), i ≤ ys.length → ys.length ≤ i + n → WI w → LI w → sx_RP (some ys) 9 246 18 [(3, .int (nI i)), (2, .ref 111), (1, .ref 0), (0, .float 4)] [] w (fun r _ => r = some (.int 1)) := by
  intro n
  induction n with
  | zero =>
    intro i w h1 h2 hI hL
    refine sx_RP.step (pc2 := 19) (ls2 := [(3, .int (nI i)), (2, .ref 111), (1, .ref 0), (0, .float 4)]) (st2 := [.int (nI i)]) (w3 := w) rfl rfl ?_
    refine sx_RP.step (pc2 := 20) (ls2 := [(3, .int (nI i)), (2, .ref 111), (1, .ref 0), (0, .float 4)]) (st2 := [.float 4, .int (nI i)]) (w3 := w) rfl rfl ?_
    refine sx_RP.step (pc2 := 21) (ls2 := [(3, .int (nI i)), (2, .ref 111), (1, .ref 0), (0, .float 4)]) (st2 := [.int (nI ys.length), .int (nI i)]) (w3 := w) rfl rfl ?_
    refine sx_RP.step (pc2 := 23) (ls2 := [(3, .int (nI i)), (2, .ref 111), (1, .ref 0), (0, .float 4)]) (st2 := [.int 6, .int (nI ys.length), .int (nI i)]) (w3 := w) rfl rfl ?_
    refine sx_RP.step (pc2 := 24) (ls2 := [(3, .int (nI i)), (2, .ref 111), (1, .ref 0), (0, .float 4)]) (st2 := [.int (nI ys.length - 6), .int (nI i)]) (w3 := w) rfl rfl ?_
    refine sx_RP.br (p1 := 1545) (l1 := [(3, .int (nI i)), (2, .ref 111), (1, .ref 0), (0, .float 4)]) (s1 := []) (v1 := w) (p2 := 27) (l2 := [(3, .int (nI i)), (2, .ref 111), (1, .ref 0), (0, .float 4)]) (s2 := []) (v2 := w) rfl rfl (fun q => ?_) (fun q => ?_)
    · refine sx_RP.step (pc2 := 1546) (ls2 := [(3, .int (nI i)), (2, .ref 111), (1, .ref 0), (0, .float 4)]) (st2 := [.int 1]) (w3 := w) rfl rfl ?_
      exact sx_RP.ret (r := some (.int 1)) rfl rfl rfl
    · exact absurd (law_le hl (by omega) (of_decide_eq_false q)) (by omega)
  | succ n IH =>
    intro i w h1 h2 hI hL
    refine sx_RP.step (pc2 := 19) (ls2 := [(3, .int (nI i)), (2, .ref 111), (1, .ref 0), (0, .float 4)]) (st2 := [.int (nI i)]) (w3 := w) rfl rfl ?_
    refine sx_RP.step (pc2 := 20) (ls2 := [(3, .int (nI i)), (2, .ref 111), (1, .ref 0), (0, .float 4)]) (st2 := [.float 4, .int (nI i)]) (w3 := w) rfl rfl ?_
    refine sx_RP.step (pc2 := 21) (ls2 := [(3, .int (nI i)), (2, .ref 111), (1, .ref 0), (0, .float 4)]) (st2 := [.int (nI ys.length), .int (nI i)]) (w3 := w) rfl rfl ?_
    refine sx_RP.step (pc2 := 23) (ls2 := [(3, .int (nI i)), (2, .ref 111), (1, .ref 0), (0, .float 4)]) (st2 := [.int 6, .int (nI ys.length), .int (nI i)]) (w3 := w) rfl rfl ?_
    refine sx_RP.step (pc2 := 24) (ls2 := [(3, .int (nI i)), (2, .ref 111), (1, .ref 0), (0, .float 4)]) (st2 := [.int (nI ys.length - 6), .int (nI i)]) (w3 := w) rfl rfl ?_
    refine sx_RP.br (p1 := 1545) (l1 := [(3, .int (nI i)), (2, .ref 111), (1, .ref 0), (0, .float 4)]) (s1 := []) (v1 := w) (p2 := 27) (l2 := [(3, .int (nI i)), (2, .ref 111), (1, .ref 0), (0, .float 4)]) (s2 := []) (v2 := w) rfl rfl (fun q => ?_) (fun q => ?_)
    · refine sx_RP.step (pc2 := 1546) (ls2 := [(3, .int (nI i)), (2, .ref 111), (1, .ref 0), (0, .float 4)]) (st2 := [.int 1]) (w3 := w) rfl rfl ?_
      exact sx_RP.ret (r := some (.int 1)) rfl rfl rfl
    · have hn := law_le hl (by omega) (of_decide_eq_false q)
      have kk : ∀ w2, WI w2 → LI w2 → sx_RP (some ys) 9 246 1539 [(3, .int (nI i)), (2, .ref 111), (1, .ref 0), (0, .float 4)] [] w2 (fun r _ => r = some (.int 1)) := by
        intro w2 hI2 hL2
        refine sx_RP.step (pc2 := 1542) (ls2 := [(3, .int (nI i + 6)), (2, .ref 111), (1, .ref 0), (0, .float 4)]) (st2 := []) (w3 := w2) rfl rfl ?_
        rw [show (nI i + 6 : Int32) = nI (i + 6) from nI_add i 6]
        refine sx_RP.step (pc2 := 18) (ls2 := [(3, .int (nI (i + 6))), (2, .ref 111), (1, .ref 0), (0, .float 4)]) (st2 := []) (w3 := w2) rfl rfl ?_
        exact IH (i + 6) w2 (by omega) (by omega) hI2 hL2
      refine sx_RP.step (pc2 := 28) (ls2 := [(3, .int (nI i)), (2, .ref 111), (1, .ref 0), (0, .float 4)]) (st2 := [.float 4]) (w3 := w) rfl rfl ?_
      refine sx_RP.step (pc2 := 29) (ls2 := [(3, .int (nI i)), (2, .ref 111), (1, .ref 0), (0, .float 4)]) (st2 := [.int (nI i), .float 4]) (w3 := w) rfl rfl ?_
      refine sx_RP.scr (x := i) rfl (by omega) hl (show _ = 30 from rfl) ?_
      refine sx_RP.step (pc2 := 32) (ls2 := [(3, .int (nI i)), (2, .ref 111), (1, .ref 0), (0, .float 4)]) (st2 := [.int 63, .int (ys.getD i 0)]) (w3 := w) rfl rfl ?_
      refine sx_RP.step (pc2 := 33) (ls2 := [(3, .int (nI i)), (2, .ref 111), (1, .ref 0), (0, .float 4)]) (st2 := [.int (ys.getD i 0 &&& 63)]) (w3 := w) rfl rfl ?_
      rcases sw_cases (n := 44) (ys.getD i 0 &&& 63) with q | ⟨j, hj, ex⟩
      · exact sx_RP.swo (t := 1539) rfl q rfl (kk w hI hL)
      · rw [ex]
        match j, hj with
        | 0, _ => exact sx_RP.step (pc2 := 228) (ls2 := [(3, .int (nI i)), (2, .ref 111), (1, .ref 0), (0, .float 4)]) (st2 := []) (w3 := w) rfl rfl (lc0 hl hn hI hL kk)
        | 1, _ => exact sx_RP.step (pc2 := 261) (ls2 := [(3, .int (nI i)), (2, .ref 111), (1, .ref 0), (0, .float 4)]) (st2 := []) (w3 := w) rfl rfl (lc1 hl hn hI hL kk)
        | 2, _ => exact sx_RP.step (pc2 := 310) (ls2 := [(3, .int (nI i)), (2, .ref 111), (1, .ref 0), (0, .float 4)]) (st2 := []) (w3 := w) rfl rfl (lc2 hl hn hI hL kk)
        | 3, _ => exact sx_RP.step (pc2 := 343) (ls2 := [(3, .int (nI i)), (2, .ref 111), (1, .ref 0), (0, .float 4)]) (st2 := []) (w3 := w) rfl rfl (lc3 hl hn hI hL kk)
        | 4, _ => exact sx_RP.step (pc2 := 356) (ls2 := [(3, .int (nI i)), (2, .ref 111), (1, .ref 0), (0, .float 4)]) (st2 := []) (w3 := w) rfl rfl (lc4 hl hn hI hL kk)
        | 5, _ => exact sx_RP.step (pc2 := 389) (ls2 := [(3, .int (nI i)), (2, .ref 111), (1, .ref 0), (0, .float 4)]) (st2 := []) (w3 := w) rfl rfl (lc5 hl hn hI hL kk)
        | 6, _ => exact sx_RP.step (pc2 := 442) (ls2 := [(3, .int (nI i)), (2, .ref 111), (1, .ref 0), (0, .float 4)]) (st2 := []) (w3 := w) rfl rfl (lc6 hl hn hI hL kk)
        | 7, _ => exact sx_RP.step (pc2 := 475) (ls2 := [(3, .int (nI i)), (2, .ref 111), (1, .ref 0), (0, .float 4)]) (st2 := []) (w3 := w) rfl rfl (lc7 hl hn hI hL kk)
        | 8, _ => exact sx_RP.step (pc2 := 508) (ls2 := [(3, .int (nI i)), (2, .ref 111), (1, .ref 0), (0, .float 4)]) (st2 := []) (w3 := w) rfl rfl (lc8 hl hn hI hL kk)
        | 9, _ => exact sx_RP.step (pc2 := 541) (ls2 := [(3, .int (nI i)), (2, .ref 111), (1, .ref 0), (0, .float 4)]) (st2 := []) (w3 := w) rfl rfl (lc9 hl hn hI hL kk)
        | 10, _ => exact sx_RP.step (pc2 := 574) (ls2 := [(3, .int (nI i)), (2, .ref 111), (1, .ref 0), (0, .float 4)]) (st2 := []) (w3 := w) rfl rfl (lc10 hl hn hI hL kk)
        | 11, _ => exact sx_RP.step (pc2 := 617) (ls2 := [(3, .int (nI i)), (2, .ref 111), (1, .ref 0), (0, .float 4)]) (st2 := []) (w3 := w) rfl rfl (lc11 hl hn hI hL kk)
        | 12, _ => exact sx_RP.step (pc2 := 640) (ls2 := [(3, .int (nI i)), (2, .ref 111), (1, .ref 0), (0, .float 4)]) (st2 := []) (w3 := w) rfl rfl (lc12 hl hn hI hL kk)
        | 13, _ => exact sx_RP.step (pc2 := 663) (ls2 := [(3, .int (nI i)), (2, .ref 111), (1, .ref 0), (0, .float 4)]) (st2 := []) (w3 := w) rfl rfl (lc13 hl hn hI hL kk)
        | 14, _ => exact sx_RP.step (pc2 := 696) (ls2 := [(3, .int (nI i)), (2, .ref 111), (1, .ref 0), (0, .float 4)]) (st2 := []) (w3 := w) rfl rfl (lc14 hl hn hI hL kk)
        | 15, _ => exact sx_RP.step (pc2 := 719) (ls2 := [(3, .int (nI i)), (2, .ref 111), (1, .ref 0), (0, .float 4)]) (st2 := []) (w3 := w) rfl rfl (lc15 hl hn hI hL kk)
        | 16, _ => exact sx_RP.step (pc2 := 732) (ls2 := [(3, .int (nI i)), (2, .ref 111), (1, .ref 0), (0, .float 4)]) (st2 := []) (w3 := w) rfl rfl (lc16 hl hn hI hL kk)
        | 17, _ => exact sx_RP.step (pc2 := 765) (ls2 := [(3, .int (nI i)), (2, .ref 111), (1, .ref 0), (0, .float 4)]) (st2 := []) (w3 := w) rfl rfl (lc17 hl hn hI hL kk)
        | 18, _ => exact sx_RP.step (pc2 := 798) (ls2 := [(3, .int (nI i)), (2, .ref 111), (1, .ref 0), (0, .float 4)]) (st2 := []) (w3 := w) rfl rfl (lc18 hl hn hI hL kk)
        | 19, _ => exact sx_RP.step (pc2 := 821) (ls2 := [(3, .int (nI i)), (2, .ref 111), (1, .ref 0), (0, .float 4)]) (st2 := []) (w3 := w) rfl rfl (lc19 hl hn hI hL kk)
        | 20, _ => exact sx_RP.step (pc2 := 844) (ls2 := [(3, .int (nI i)), (2, .ref 111), (1, .ref 0), (0, .float 4)]) (st2 := []) (w3 := w) rfl rfl (lc20 hl hn hI hL kk)
        | 21, _ => exact sx_RP.step (pc2 := 877) (ls2 := [(3, .int (nI i)), (2, .ref 111), (1, .ref 0), (0, .float 4)]) (st2 := []) (w3 := w) rfl rfl (lc21 hl hn hI hL kk)
        | 22, _ => exact sx_RP.step (pc2 := 900) (ls2 := [(3, .int (nI i)), (2, .ref 111), (1, .ref 0), (0, .float 4)]) (st2 := []) (w3 := w) rfl rfl (lc22 hl hn hI hL kk)
        | 23, _ => exact sx_RP.step (pc2 := 933) (ls2 := [(3, .int (nI i)), (2, .ref 111), (1, .ref 0), (0, .float 4)]) (st2 := []) (w3 := w) rfl rfl (lc23 hl hn hI hL kk)
        | 24, _ => exact sx_RP.step (pc2 := 956) (ls2 := [(3, .int (nI i)), (2, .ref 111), (1, .ref 0), (0, .float 4)]) (st2 := []) (w3 := w) rfl rfl (lc24 hl hn hI hL kk)
        | 25, _ => exact sx_RP.step (pc2 := 979) (ls2 := [(3, .int (nI i)), (2, .ref 111), (1, .ref 0), (0, .float 4)]) (st2 := []) (w3 := w) rfl rfl (lc25 hl hn hI hL kk)
        | 26, _ => exact sx_RP.step (pc2 := 1012) (ls2 := [(3, .int (nI i)), (2, .ref 111), (1, .ref 0), (0, .float 4)]) (st2 := []) (w3 := w) rfl rfl (lc26 hl hn hI hL kk)
        | 27, _ => exact sx_RP.step (pc2 := 1045) (ls2 := [(3, .int (nI i)), (2, .ref 111), (1, .ref 0), (0, .float 4)]) (st2 := []) (w3 := w) rfl rfl (lc27 hl hn hI hL kk)
        | 28, _ => exact sx_RP.step (pc2 := 1068) (ls2 := [(3, .int (nI i)), (2, .ref 111), (1, .ref 0), (0, .float 4)]) (st2 := []) (w3 := w) rfl rfl (lc28 hl hn hI hL kk)
        | 29, _ => exact sx_RP.step (pc2 := 1101) (ls2 := [(3, .int (nI i)), (2, .ref 111), (1, .ref 0), (0, .float 4)]) (st2 := []) (w3 := w) rfl rfl (lc29 hl hn hI hL kk)
        | 30, _ => exact sx_RP.step (pc2 := 1114) (ls2 := [(3, .int (nI i)), (2, .ref 111), (1, .ref 0), (0, .float 4)]) (st2 := []) (w3 := w) rfl rfl (lc30 hl hn hI hL kk)
        | 31, _ => exact sx_RP.step (pc2 := 1137) (ls2 := [(3, .int (nI i)), (2, .ref 111), (1, .ref 0), (0, .float 4)]) (st2 := []) (w3 := w) rfl rfl (lc31 hl hn hI hL kk)
        | 32, _ => exact sx_RP.step (pc2 := 1170) (ls2 := [(3, .int (nI i)), (2, .ref 111), (1, .ref 0), (0, .float 4)]) (st2 := []) (w3 := w) rfl rfl (lc32 hl hn hI hL kk)
        | 33, _ => exact sx_RP.step (pc2 := 1183) (ls2 := [(3, .int (nI i)), (2, .ref 111), (1, .ref 0), (0, .float 4)]) (st2 := []) (w3 := w) rfl rfl (lc33 hl hn hI hL kk)
        | 34, _ => exact sx_RP.step (pc2 := 1196) (ls2 := [(3, .int (nI i)), (2, .ref 111), (1, .ref 0), (0, .float 4)]) (st2 := []) (w3 := w) rfl rfl (lc34 hl hn hI hL kk)
        | 35, _ => exact sx_RP.step (pc2 := 1239) (ls2 := [(3, .int (nI i)), (2, .ref 111), (1, .ref 0), (0, .float 4)]) (st2 := []) (w3 := w) rfl rfl (lc35 hl hn hI hL kk)
        | 36, _ => exact sx_RP.step (pc2 := 1312) (ls2 := [(3, .int (nI i)), (2, .ref 111), (1, .ref 0), (0, .float 4)]) (st2 := []) (w3 := w) rfl rfl (lc36 hl hn hI hL kk)
        | 37, _ => exact sx_RP.step (pc2 := 1375) (ls2 := [(3, .int (nI i)), (2, .ref 111), (1, .ref 0), (0, .float 4)]) (st2 := []) (w3 := w) rfl rfl (lc37 hl hn hI hL kk)
        | 38, _ => exact sx_RP.step (pc2 := 1408) (ls2 := [(3, .int (nI i)), (2, .ref 111), (1, .ref 0), (0, .float 4)]) (st2 := []) (w3 := w) rfl rfl (lc38 hl hn hI hL kk)
        | 39, _ => exact sx_RP.step (pc2 := 1431) (ls2 := [(3, .int (nI i)), (2, .ref 111), (1, .ref 0), (0, .float 4)]) (st2 := []) (w3 := w) rfl rfl (lc39 hl hn hI hL kk)
        | 40, _ => exact sx_RP.step (pc2 := 1454) (ls2 := [(3, .int (nI i)), (2, .ref 111), (1, .ref 0), (0, .float 4)]) (st2 := []) (w3 := w) rfl rfl (lc40 hl hn hI hL kk)
        | 41, _ => exact sx_RP.step (pc2 := 1467) (ls2 := [(3, .int (nI i)), (2, .ref 111), (1, .ref 0), (0, .float 4)]) (st2 := []) (w3 := w) rfl rfl (lc41 hl hn hI hL kk)
        | 42, _ => exact sx_RP.step (pc2 := 1480) (ls2 := [(3, .int (nI i)), (2, .ref 111), (1, .ref 0), (0, .float 4)]) (st2 := []) (w3 := w) rfl rfl (lc42 hl hn hI hL kk)
        | 43, _ => exact sx_RP.step (pc2 := 1493) (ls2 := [(3, .int (nI i)), (2, .ref 111), (1, .ref 0), (0, .float 4)]) (st2 := []) (w3 := w) rfl rfl (lc43 hl hn hI hL kk)
        | 44, _ => exact sx_RP.step (pc2 := 1516) (ls2 := [(3, .int (nI i)), (2, .ref 111), (1, .ref 0), (0, .float 4)]) (st2 := []) (w3 := w) rfl rfl (lc44 hl hn hI hL kk)
        | j + 45, hj => exact absurd hj (by omega)
theorem w0_by : allb 126 (fun a => match (sx_w0[a]? : Option sx_C) with
  | some (.inl (2, l)) => l.all (fun v => decide (v = 0))
  | _ => true) = true := by decide +kernel
theorem w0_gr : allb 48 (fun c => decide ((ia sx_w0 (1 + 1)).getD c 0 = (ia sx_w0 112).getD (7 + c) 0)) = true := by decide +kernel
theorem w0_wl : allb 64 (fun c => decide (wbt (fj sx_w0 1 1) c = wlr (ia sx_w0 112) c)) = true := by decide +kernel
theorem w0_n1 : iN ((ia sx_w0 112).getD 1 0) = 0 := by decide +kernel
theorem w0_n2 : iN ((ia sx_w0 112).getD 2 0) = 0 := by decide +kernel
theorem w0_rel : rel sx_w0 1 (ia sx_w0 112) := ⟨by decide +kernel, ⟨by decide +kernel, by decide +kernel, by decide +kernel, by decide +kernel, by decide +kernel, by decide +kernel, by decide +kernel⟩, fun c hc => of_decide_eq_true (allb_ok w0_gr hc), fun c hc => of_decide_eq_true (allb_ok w0_wl hc), fun i hi => absurd hi (by rw [w0_n1]; omega), fun d hd => absurd hd (by rw [w0_n2]; omega)⟩
theorem w0_f4 : allb 4 (fun s => decide ((fi sx_w0 (103 + 2 * s) 1, fi sx_w0 (103 + 2 * s) 2) = ((ia sx_w0 122).getD s 0, (ia sx_w0 123).getD s 0))) = true := by decide +kernel
theorem w0_FCs : FCs sx_w0 = FMs sx_w0 := by
  funext s
  unfold FCs FMs
  by_cases h : s < 4
  · rw [if_pos h, if_pos h]
    exact of_decide_eq_true (allb_ok w0_f4 h)
  · rw [if_neg h, if_neg h]
theorem w0_n4 : allb 160 (fun k => decide ((ja sx_w0 (104 + 2 * (k / 40))).getD (k % 40) 0 = (ja sx_w0 124).getD k 0)) = true := by decide +kernel
theorem w0_NCs : NCs sx_w0 = NMs sx_w0 := by
  funext s i
  unfold NCs NMs
  by_cases h : s < 4 ∧ i < 40
  · rw [if_pos h, if_pos h]
    have z := of_decide_eq_true (allb_ok w0_n4 (k := 40 * s + i) (by omega))
    rw [show (40 * s + i) / 40 = s by omega, show (40 * s + i) % 40 = i by omega] at z
    exact z
  · rw [if_neg h, if_neg h]
theorem w0_k : allb 48 (fun t => decide ((ia sx_w0 95).getD t 0 = 0)) = true := by decide +kernel
theorem w0_SK : SK sx_w0 := fun _ t ht hk => absurd (of_decide_eq_true (allb_ok w0_k ht)) hk
theorem w0_LI : LI sx_w0 := by
  refine ⟨(ia sx_w0 112, fi sx_w0 111 4, ia sx_w0 113, tapM sx_w0, FMs sx_w0, NMs sx_w0), ⟨⟨w0_rel, by decide +kernel, fun z => absurd (show fi sx_w0 111 4 = 1 from z) (by decide +kernel)⟩, ⟨show tapC sx_w0 = tapM sx_w0 by decide +kernel, w0_FCs, w0_NCs⟩, w0_SK⟩, ⟨⟨rfl, rfl, fun _ => rfl⟩, rfl, rfl, rfl⟩, ?_⟩
  intro a l hl v hv
  have hlt : a < 126 := by
    have := (List.getElem?_eq_some_iff.mp hl).1
    rw [sx_w0_len] at this
    exact this
  have h := allb_ok w0_by hlt
  rw [hl] at h
  have h2 := List.all_eq_true.mp h v hv
  exact ⟨0, by decide, (of_decide_eq_true h2).trans sgn_0.symm⟩
theorem sx_law : sx_LAW := by
  intro ys hy
  obtain ⟨r, w2, h, rfl⟩ := law_loop hy ys.length 0 sx_w0 (Nat.zero_le _) (by omega) w0_WI w0_LI
  exact ⟨w2, h⟩
