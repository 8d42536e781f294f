def wp_X0_entryCount (post : Int32 → Prop) (s0 : Bd) : Prop := wp_X0_entryStart (fun r_1 => post r_1) s0 (s0.1 3)
set_option maxHeartbeats 4000000 in
set_option maxRecDepth 100000 in
theorem c2_X0_entryCount {l : Launch} {D : va_G} {q : Nat → ClassId} {a0 : Nat → Nat} {s0 : Bd} {post : Int32 → Prop} (h : wp_X0_entryCount post s0) : Met l yX0_entryCount (Cond.code yX0_entryCount cX0_entryCount 1 (some .int) :: w_all) ({ frames := 1, cells := 0, slots := 0, locals := 23 } : Room) (rd_P D q [.ref (a0 0)] (bd_w a0 q s0)) (vp_Si post) 0 0 (fun _ => False) := by
  refine rd_start (by decide) (Nat.le_of_ble_eq_true rfl) ?_
  intro p e s m below meth c ls hx hb hr hml hown ht hk hP hQ hV hl
  have hK := hQ.1
  have hown : s.vm.findClass RX0 = some m.cls := hown
  have hl : lv_has ls 1 [(0, .ref (a0 0))] := hl
  have hP : va_P D vwCl [((a0 0), .inr (0, [.int (s0.1 0), .int (s0.1 1), .int (s0.1 2), .int (s0.1 3), .int (s0.1 4), .int (s0.1 5), .ref (a0 1), .ref (a0 2), .ref (a0 3), .ref (a0 4), .ref (a0 5), .ref (a0 6), .ref (a0 7), .ref (a0 8), .ref (a0 9), .ref (a0 10), .ref (a0 11), .ref (a0 12)])), ((a0 1), .inl (q 0, 4, .inl (s0.2.1 0))), ((a0 2), .inl (q 0, 4, .inl (s0.2.1 1))), ((a0 3), .inl (q 0, 160, .inl (s0.2.1 2))), ((a0 4), .inl (q 0, 40, .inl (s0.2.1 3))), ((a0 5), .inl (q 0, 40, .inl (s0.2.1 4))), ((a0 6), .inl (q 0, 40, .inl (s0.2.1 5))), ((a0 7), .inl (q 0, 40, .inl (s0.2.1 6))), ((a0 8), .inl (q 0, 40, .inl (s0.2.1 7))), ((a0 9), .inl (q 0, 40, .inl (s0.2.1 8))), ((a0 10), .inl (q 0, 40, .inl (s0.2.1 9))), ((a0 11), .inl (q 1, 40, .inr (.inl s0.2.2.1))), ((a0 12), .inl (q 0, s0.2.2.2.1, .inl s0.2.2.2.2))] s.heap := hP
  unfold wp_X0_entryCount at h
  refine lv_aload_n hx hb dX0_entryCount_0 rfl (lv_at hl 0 rfl) ?_
  refine lv_aload_n hx hb dX0_entryCount_1 rfl (lv_at hl 0 rfl) ?_
  refine fl_get (C := RX0) (T := TX0) (N := 18) (ci := 0) (v := .int (s0.1 3)) hx hb ht in_X0 hown hK hP 0 rfl rfl 3 (by decide) mw_179 rfl dX0_entryCount_2 ?_
  refine vp_callSi (rd_wV (wc := bd_w a0 q s0) (As := [.int (s0.1 3)]) (rest := []) hx hb hml hown ht (c2_X0_entryStart h) wd_X0_entryStart mw_605 hQ hV va_S.rf (hP.sub [0, 1, 2, 3, 4, 5, 6, 7, 8, 9, 10, 11, 12] rfl) rfl rfl rfl hl.1 rfl (Nat.le_of_ble_eq_true rfl) dX0_entryCount_5 ⟨Nat.le_of_ble_eq_true rfl, Nat.le_of_ble_eq_true rfl, rfl, rfl⟩ ⟨Nat.le_of_ble_eq_true rfl, Nat.le_of_ble_eq_true rfl⟩) (fun r_1 h => ?_)
  try dsimp only at h
  exact rd_iret hx hb hr hk h dX0_entryCount_8

def wp_X0_copyAll (post : Bd → Prop) (s0 : Bd) (s1 : Bd) : Prop := wp_X0_copyAllButLog (fun u_2 => wp_X0_entryCount (fun r_3 => ((r_3 ≤ (Int32.ofNat u_2.2.2.2.1) → ¬ (if (Int32.ofNat s1.2.2.2.1) < r_3 then (Int32.ofNat s1.2.2.2.1) else r_3) < 0 ∧ Int32.toNatClampNeg 0 + Int32.toNatClampNeg (if (Int32.ofNat s1.2.2.2.1) < r_3 then (Int32.ofNat s1.2.2.2.1) else r_3) ≤ s1.2.2.2.1 ∧ Int32.toNatClampNeg 0 + Int32.toNatClampNeg (if (Int32.ofNat s1.2.2.2.1) < r_3 then (Int32.ofNat s1.2.2.2.1) else r_3) ≤ u_2.2.2.2.1 ∧ post (u_2.1, u_2.2.1, u_2.2.2.1, u_2.2.2.2.1, (va_cpy s1.2.2.2.2 u_2.2.2.2.2 (Int32.toNatClampNeg 0) (Int32.toNatClampNeg 0) (Int32.toNatClampNeg (if (Int32.ofNat s1.2.2.2.1) < r_3 then (Int32.ofNat s1.2.2.2.1) else r_3))))) ∧ (¬ r_3 ≤ (Int32.ofNat u_2.2.2.2.1) → ¬ r_3 < 0 ∧ Int32.toNatClampNeg r_3 ≤ 6400 ∧ ¬ (if (Int32.ofNat s1.2.2.2.1) < r_3 then (Int32.ofNat s1.2.2.2.1) else r_3) < 0 ∧ Int32.toNatClampNeg 0 + Int32.toNatClampNeg (if (Int32.ofNat s1.2.2.2.1) < r_3 then (Int32.ofNat s1.2.2.2.1) else r_3) ≤ s1.2.2.2.1 ∧ Int32.toNatClampNeg 0 + Int32.toNatClampNeg (if (Int32.ofNat s1.2.2.2.1) < r_3 then (Int32.ofNat s1.2.2.2.1) else r_3) ≤ (Int32.toNatClampNeg r_3) ∧ post (u_2.1, u_2.2.1, u_2.2.2.1, (Int32.toNatClampNeg r_3), (va_cpy s1.2.2.2.2 (fun _ => 0) (Int32.toNatClampNeg 0) (Int32.toNatClampNeg 0) (Int32.toNatClampNeg (if (Int32.ofNat s1.2.2.2.1) < r_3 then (Int32.ofNat s1.2.2.2.1) else r_3))))))) s1) s0 s1
set_option maxHeartbeats 4000000 in
set_option maxRecDepth 100000 in
theorem c2_X0_copyAll {l : Launch} {D : va_G} {q : Nat → ClassId} {sz : Nat} {a0 : Nat → Nat} {a1 : Nat → Nat} {s0 : Bd} {s1 : Bd} {post : Bd → Prop} (h : wp_X0_copyAll post s0 s1) : Met l yX0_copyAll (Cond.code yX0_copyAll cX0_copyAll 3 none :: w_all) ({ frames := 2, cells := 1, slots := 6400, locals := 102 } : Room) (mt_P D q [.ref (a0 0), .ref (a1 0)] (bd_w a0 q s0 ++ bd_w a1 q s1) sz) (va_Qv (fun u : Nat × Bd => post u.2) (mt_B D (bd_w a0 q s0 ++ bd_w a1 q s1) sz (fun u : Nat × Bd => bd_w (va_up a0 12 u.1) q u.2 ++ bd_w a1 q s1)) (va_A (bd_w a0 q s0 ++ bd_w a1 q s1) sz)) 1 6400 (va_A (bd_w a0 q s0 ++ bd_w a1 q s1) sz) := by
  refine mt_start (by decide) (Nat.le_of_ble_eq_true rfl) ?_
  intro p e s m below meth c ls hx hb hr hml hown ht hk hin hP hQ hD hA hS hV hl
  have hK := hQ.1
  have hown : s.vm.findClass RX0 = some m.cls := hown
  have hl : lv_has ls 3 [(0, .ref (a0 0)), (1, .ref (a1 0))] := hl
  have hP : va_P D vwCl [((a0 0), .inr (0, [.int (s0.1 0), .int (s0.1 1), .int (s0.1 2), .int (s0.1 3), .int (s0.1 4), .int (s0.1 5), .ref (a0 1), .ref (a0 2), .ref (a0 3), .ref (a0 4), .ref (a0 5), .ref (a0 6), .ref (a0 7), .ref (a0 8), .ref (a0 9), .ref (a0 10), .ref (a0 11), .ref (a0 12)])), ((a0 1), .inl (q 0, 4, .inl (s0.2.1 0))), ((a0 2), .inl (q 0, 4, .inl (s0.2.1 1))), ((a0 3), .inl (q 0, 160, .inl (s0.2.1 2))), ((a0 4), .inl (q 0, 40, .inl (s0.2.1 3))), ((a0 5), .inl (q 0, 40, .inl (s0.2.1 4))), ((a0 6), .inl (q 0, 40, .inl (s0.2.1 5))), ((a0 7), .inl (q 0, 40, .inl (s0.2.1 6))), ((a0 8), .inl (q 0, 40, .inl (s0.2.1 7))), ((a0 9), .inl (q 0, 40, .inl (s0.2.1 8))), ((a0 10), .inl (q 0, 40, .inl (s0.2.1 9))), ((a0 11), .inl (q 1, 40, .inr (.inl s0.2.2.1))), ((a0 12), .inl (q 0, s0.2.2.2.1, .inl s0.2.2.2.2)), ((a1 0), .inr (0, [.int (s1.1 0), .int (s1.1 1), .int (s1.1 2), .int (s1.1 3), .int (s1.1 4), .int (s1.1 5), .ref (a1 1), .ref (a1 2), .ref (a1 3), .ref (a1 4), .ref (a1 5), .ref (a1 6), .ref (a1 7), .ref (a1 8), .ref (a1 9), .ref (a1 10), .ref (a1 11), .ref (a1 12)])), ((a1 1), .inl (q 0, 4, .inl (s1.2.1 0))), ((a1 2), .inl (q 0, 4, .inl (s1.2.1 1))), ((a1 3), .inl (q 0, 160, .inl (s1.2.1 2))), ((a1 4), .inl (q 0, 40, .inl (s1.2.1 3))), ((a1 5), .inl (q 0, 40, .inl (s1.2.1 4))), ((a1 6), .inl (q 0, 40, .inl (s1.2.1 5))), ((a1 7), .inl (q 0, 40, .inl (s1.2.1 6))), ((a1 8), .inl (q 0, 40, .inl (s1.2.1 7))), ((a1 9), .inl (q 0, 40, .inl (s1.2.1 8))), ((a1 10), .inl (q 0, 40, .inl (s1.2.1 9))), ((a1 11), .inl (q 1, 40, .inr (.inl s1.2.2.1))), ((a1 12), .inl (q 0, s1.2.2.2.1, .inl s1.2.2.2.2))] s.heap := hP
  have hD : va_D _ [((a0 0), .inr (0, [.int (s0.1 0), .int (s0.1 1), .int (s0.1 2), .int (s0.1 3), .int (s0.1 4), .int (s0.1 5), .ref (a0 1), .ref (a0 2), .ref (a0 3), .ref (a0 4), .ref (a0 5), .ref (a0 6), .ref (a0 7), .ref (a0 8), .ref (a0 9), .ref (a0 10), .ref (a0 11), .ref (a0 12)])), ((a0 1), .inl (q 0, 4, .inl (s0.2.1 0))), ((a0 2), .inl (q 0, 4, .inl (s0.2.1 1))), ((a0 3), .inl (q 0, 160, .inl (s0.2.1 2))), ((a0 4), .inl (q 0, 40, .inl (s0.2.1 3))), ((a0 5), .inl (q 0, 40, .inl (s0.2.1 4))), ((a0 6), .inl (q 0, 40, .inl (s0.2.1 5))), ((a0 7), .inl (q 0, 40, .inl (s0.2.1 6))), ((a0 8), .inl (q 0, 40, .inl (s0.2.1 7))), ((a0 9), .inl (q 0, 40, .inl (s0.2.1 8))), ((a0 10), .inl (q 0, 40, .inl (s0.2.1 9))), ((a0 11), .inl (q 1, 40, .inr (.inl s0.2.2.1))), ((a0 12), .inl (q 0, s0.2.2.2.1, .inl s0.2.2.2.2)), ((a1 0), .inr (0, [.int (s1.1 0), .int (s1.1 1), .int (s1.1 2), .int (s1.1 3), .int (s1.1 4), .int (s1.1 5), .ref (a1 1), .ref (a1 2), .ref (a1 3), .ref (a1 4), .ref (a1 5), .ref (a1 6), .ref (a1 7), .ref (a1 8), .ref (a1 9), .ref (a1 10), .ref (a1 11), .ref (a1 12)])), ((a1 1), .inl (q 0, 4, .inl (s1.2.1 0))), ((a1 2), .inl (q 0, 4, .inl (s1.2.1 1))), ((a1 3), .inl (q 0, 160, .inl (s1.2.1 2))), ((a1 4), .inl (q 0, 40, .inl (s1.2.1 3))), ((a1 5), .inl (q 0, 40, .inl (s1.2.1 4))), ((a1 6), .inl (q 0, 40, .inl (s1.2.1 5))), ((a1 7), .inl (q 0, 40, .inl (s1.2.1 6))), ((a1 8), .inl (q 0, 40, .inl (s1.2.1 7))), ((a1 9), .inl (q 0, 40, .inl (s1.2.1 8))), ((a1 10), .inl (q 0, 40, .inl (s1.2.1 9))), ((a1 11), .inl (q 1, 40, .inr (.inl s1.2.2.1))), ((a1 12), .inl (q 0, s1.2.2.2.1, .inl s1.2.2.2.2))] := hD
  unfold wp_X0_copyAll at h
  refine lv_aload_n hx hb dX0_copyAll_0 rfl (lv_at hl 0 rfl) ?_
  refine lv_aload_n hx hb dX0_copyAll_1 rfl (lv_at hl 1 rfl) ?_
  refine mt_gov (mt_wV (wc := bd_w a0 q s0 ++ bd_w a1 q s1) (As := [.ref (a1 0)]) (rest := []) hx hb hml hown ht (c2_X0_copyAllButLog h) wd_X0_copyAllButLog mw_640 hQ hV hS hA (hP.sub [0, 1, 2, 3, 4, 5, 6, 7, 8, 9, 10, 11, 12, 13, 14, 15, 16, 17, 18, 19, 20, 21, 22, 23, 24, 25] rfl) (hD.sub [0, 1, 2, 3, 4, 5, 6, 7, 8, 9, 10, 11, 12, 13, 14, 15, 16, 17, 18, 19, 20, 21, 22, 23, 24, 25] (by decide) rfl) rfl rfl rfl hl.1 rfl (Nat.le_of_ble_eq_true rfl) dX0_copyAll_2 ⟨Nat.le_of_ble_eq_true rfl, Nat.le_of_ble_eq_true rfl, rfl, rfl⟩ ⟨Nat.le_of_ble_eq_true rfl, Nat.le_of_ble_eq_true rfl⟩) (wr := []) hP hD hS hA [0, 1, 2, 3, 4, 5, 6, 7, 8, 9, 10, 11, 12, 13, 14, 15, 16, 17, 18, 19, 20, 21, 22, 23, 24, 25] [] rfl rfl (by decide) (by decide) (fun u_2 H locs h hP hD hS => ?_)
  try dsimp only at h
  have hP : va_P D vwCl [((a0 0), .inr (0, [.int (u_2.1 0), .int (u_2.1 1), .int (u_2.1 2), .int (u_2.1 3), .int (u_2.1 4), .int (u_2.1 5), .ref (a0 1), .ref (a0 2), .ref (a0 3), .ref (a0 4), .ref (a0 5), .ref (a0 6), .ref (a0 7), .ref (a0 8), .ref (a0 9), .ref (a0 10), .ref (a0 11), .ref (a0 12)])), ((a0 1), .inl (q 0, 4, .inl (u_2.2.1 0))), ((a0 2), .inl (q 0, 4, .inl (u_2.2.1 1))), ((a0 3), .inl (q 0, 160, .inl (u_2.2.1 2))), ((a0 4), .inl (q 0, 40, .inl (u_2.2.1 3))), ((a0 5), .inl (q 0, 40, .inl (u_2.2.1 4))), ((a0 6), .inl (q 0, 40, .inl (u_2.2.1 5))), ((a0 7), .inl (q 0, 40, .inl (u_2.2.1 6))), ((a0 8), .inl (q 0, 40, .inl (u_2.2.1 7))), ((a0 9), .inl (q 0, 40, .inl (u_2.2.1 8))), ((a0 10), .inl (q 0, 40, .inl (u_2.2.1 9))), ((a0 11), .inl (q 1, 40, .inr (.inl u_2.2.2.1))), ((a0 12), .inl (q 0, u_2.2.2.2.1, .inl u_2.2.2.2.2)), ((a1 0), .inr (0, [.int (s1.1 0), .int (s1.1 1), .int (s1.1 2), .int (s1.1 3), .int (s1.1 4), .int (s1.1 5), .ref (a1 1), .ref (a1 2), .ref (a1 3), .ref (a1 4), .ref (a1 5), .ref (a1 6), .ref (a1 7), .ref (a1 8), .ref (a1 9), .ref (a1 10), .ref (a1 11), .ref (a1 12)])), ((a1 1), .inl (q 0, 4, .inl (s1.2.1 0))), ((a1 2), .inl (q 0, 4, .inl (s1.2.1 1))), ((a1 3), .inl (q 0, 160, .inl (s1.2.1 2))), ((a1 4), .inl (q 0, 40, .inl (s1.2.1 3))), ((a1 5), .inl (q 0, 40, .inl (s1.2.1 4))), ((a1 6), .inl (q 0, 40, .inl (s1.2.1 5))), ((a1 7), .inl (q 0, 40, .inl (s1.2.1 6))), ((a1 8), .inl (q 0, 40, .inl (s1.2.1 7))), ((a1 9), .inl (q 0, 40, .inl (s1.2.1 8))), ((a1 10), .inl (q 0, 40, .inl (s1.2.1 9))), ((a1 11), .inl (q 1, 40, .inr (.inl s1.2.2.1))), ((a1 12), .inl (q 0, s1.2.2.2.1, .inl s1.2.2.2.2))] H := hP
  have hD : va_D _ [((a0 0), .inr (0, [.int (u_2.1 0), .int (u_2.1 1), .int (u_2.1 2), .int (u_2.1 3), .int (u_2.1 4), .int (u_2.1 5), .ref (a0 1), .ref (a0 2), .ref (a0 3), .ref (a0 4), .ref (a0 5), .ref (a0 6), .ref (a0 7), .ref (a0 8), .ref (a0 9), .ref (a0 10), .ref (a0 11), .ref (a0 12)])), ((a0 1), .inl (q 0, 4, .inl (u_2.2.1 0))), ((a0 2), .inl (q 0, 4, .inl (u_2.2.1 1))), ((a0 3), .inl (q 0, 160, .inl (u_2.2.1 2))), ((a0 4), .inl (q 0, 40, .inl (u_2.2.1 3))), ((a0 5), .inl (q 0, 40, .inl (u_2.2.1 4))), ((a0 6), .inl (q 0, 40, .inl (u_2.2.1 5))), ((a0 7), .inl (q 0, 40, .inl (u_2.2.1 6))), ((a0 8), .inl (q 0, 40, .inl (u_2.2.1 7))), ((a0 9), .inl (q 0, 40, .inl (u_2.2.1 8))), ((a0 10), .inl (q 0, 40, .inl (u_2.2.1 9))), ((a0 11), .inl (q 1, 40, .inr (.inl u_2.2.2.1))), ((a0 12), .inl (q 0, u_2.2.2.2.1, .inl u_2.2.2.2.2)), ((a1 0), .inr (0, [.int (s1.1 0), .int (s1.1 1), .int (s1.1 2), .int (s1.1 3), .int (s1.1 4), .int (s1.1 5), .ref (a1 1), .ref (a1 2), .ref (a1 3), .ref (a1 4), .ref (a1 5), .ref (a1 6), .ref (a1 7), .ref (a1 8), .ref (a1 9), .ref (a1 10), .ref (a1 11), .ref (a1 12)])), ((a1 1), .inl (q 0, 4, .inl (s1.2.1 0))), ((a1 2), .inl (q 0, 4, .inl (s1.2.1 1))), ((a1 3), .inl (q 0, 160, .inl (s1.2.1 2))), ((a1 4), .inl (q 0, 40, .inl (s1.2.1 3))), ((a1 5), .inl (q 0, 40, .inl (s1.2.1 4))), ((a1 6), .inl (q 0, 40, .inl (s1.2.1 5))), ((a1 7), .inl (q 0, 40, .inl (s1.2.1 6))), ((a1 8), .inl (q 0, 40, .inl (s1.2.1 7))), ((a1 9), .inl (q 0, 40, .inl (s1.2.1 8))), ((a1 10), .inl (q 0, 40, .inl (s1.2.1 9))), ((a1 11), .inl (q 1, 40, .inr (.inl s1.2.2.1))), ((a1 12), .inl (q 0, s1.2.2.2.1, .inl s1.2.2.2.2))] := hD
  refine lv_aload_n hx hb dX0_copyAll_5 rfl (lv_at hl 1 rfl) ?_
  refine vp_callSi (rd_wV (wc := bd_w a1 q s1) (As := []) (rest := []) hx hb hml hown ht (c2_X0_entryCount h) wd_X0_entryCount mw_601 hQ hV hS (hP.sub [13, 14, 15, 16, 17, 18, 19, 20, 21, 22, 23, 24, 25] rfl) rfl rfl rfl hl.1 rfl (Nat.le_of_ble_eq_true rfl) dX0_copyAll_6 ⟨Nat.le_of_ble_eq_true rfl, Nat.le_of_ble_eq_true rfl, rfl, rfl⟩ ⟨Nat.le_of_ble_eq_true rfl, Nat.le_of_ble_eq_true rfl⟩) (fun r_3 h => ?_)
  try dsimp only at h
  refine lv_istore_n (lv' := [(2, .int r_3), (0, .ref (a0 0)), (1, .ref (a1 0))]) hx hb dX0_copyAll_9 rfl hl (by decide) rfl (fun ls hl => ?_)
  refine lv_aload_n hx hb dX0_copyAll_10 rfl (lv_at hl 1 rfl) ?_
  refine fl_get (C := RX0) (T := TX0) (N := 18) (ci := 0) (v := .ref (a0 12)) hx hb ht in_X0 hown hK hP 0 rfl rfl 17 (by decide) mw_208 rfl dX0_copyAll_11 ?_
  refine va_alen (v := (Int32.ofNat u_2.2.2.2.1)) hx hb hK hP 12 0 rfl rfl rfl dX0_copyAll_14 ?_
  refine lv_iload_n hx hb dX0_copyAll_15 rfl (lv_at hl 0 rfl) ?_
  refine lv_icmp_ge (tgt := 26) hx hb dX0_copyAll_16 (by decide) (fun c_5 => ?_) (fun c_5 => ?_)
  · replace h := h.1 c_5
    refine lv_aload_n hx hb dX0_copyAll_26 rfl (lv_at hl 2 rfl) ?_
    refine fl_get (C := RX0) (T := TX0) (N := 18) (ci := 0) (v := .ref (a1 12)) hx hb ht in_X0 hown hK hP 13 rfl rfl 17 (by decide) mw_208 rfl dX0_copyAll_27 ?_
    refine lv_iconst (v := 0) hx hb dX0_copyAll_30 (by decide) ?_
    refine lv_aload_n hx hb dX0_copyAll_31 rfl (lv_at hl 1 rfl) ?_
    refine fl_get (C := RX0) (T := TX0) (N := 18) (ci := 0) (v := .ref (a0 12)) hx hb ht in_X0 hown hK hP 0 rfl rfl 17 (by decide) mw_208 rfl dX0_copyAll_32 ?_
    refine lv_iconst (v := 0) hx hb dX0_copyAll_35 (by decide) ?_
    refine lv_iload_n hx hb dX0_copyAll_36 rfl (lv_at hl 0 rfl) ?_
    refine lv_aload_n hx hb dX0_copyAll_37 rfl (lv_at hl 2 rfl) ?_
    refine fl_get (C := RX0) (T := TX0) (N := 18) (ci := 0) (v := .ref (a1 12)) hx hb ht in_X0 hown hK hP 13 rfl rfl 17 (by decide) mw_208 rfl dX0_copyAll_38 ?_
    refine va_alen (v := (Int32.ofNat s1.2.2.2.1)) hx hb hK hP 25 0 rfl rfl rfl dX0_copyAll_41 ?_
    refine va_mmin hx hb (hml.trans hl.1.symm) hown (ht _ mw_641) (ht _ mw_504) (ht _ mw_110) (ht _ mw_505) (Nat.le_of_ble_eq_true rfl) (Nat.le_of_ble_eq_true rfl) (Nat.le_of_ble_eq_true rfl) (Nat.le_of_ble_eq_true rfl) dX0_copyAll_42 ?_
    obtain ⟨g_6, h⟩ := h
    obtain ⟨g_7, h⟩ := h
    obtain ⟨g_8, h⟩ := h
    refine va_copyi (ty := .int) hx hb (hml.trans hl.1.symm) hown (ht _ mw_594) (ht _ mw_596) (ht _ mw_595) (ht _ mw_111) hK hP hD hS 25 12 0 0 rfl rfl rfl rfl rfl (by decide) (by decide) g_6 g_7 g_8 (fun _ _ => rfl) (Nat.le_of_ble_eq_true rfl) (by decide) dX0_copyAll_45 (fun H locs hP hD hS => ?_)
    have hP : va_P D vwCl [((a0 0), .inr (0, [.int (u_2.1 0), .int (u_2.1 1), .int (u_2.1 2), .int (u_2.1 3), .int (u_2.1 4), .int (u_2.1 5), .ref (a0 1), .ref (a0 2), .ref (a0 3), .ref (a0 4), .ref (a0 5), .ref (a0 6), .ref (a0 7), .ref (a0 8), .ref (a0 9), .ref (a0 10), .ref (a0 11), .ref (a0 12)])), ((a0 1), .inl (q 0, 4, .inl (u_2.2.1 0))), ((a0 2), .inl (q 0, 4, .inl (u_2.2.1 1))), ((a0 3), .inl (q 0, 160, .inl (u_2.2.1 2))), ((a0 4), .inl (q 0, 40, .inl (u_2.2.1 3))), ((a0 5), .inl (q 0, 40, .inl (u_2.2.1 4))), ((a0 6), .inl (q 0, 40, .inl (u_2.2.1 5))), ((a0 7), .inl (q 0, 40, .inl (u_2.2.1 6))), ((a0 8), .inl (q 0, 40, .inl (u_2.2.1 7))), ((a0 9), .inl (q 0, 40, .inl (u_2.2.1 8))), ((a0 10), .inl (q 0, 40, .inl (u_2.2.1 9))), ((a0 11), .inl (q 1, 40, .inr (.inl u_2.2.2.1))), ((a0 12), .inl (q 0, u_2.2.2.2.1, .inl (va_cpy s1.2.2.2.2 u_2.2.2.2.2 (Int32.toNatClampNeg 0) (Int32.toNatClampNeg 0) (Int32.toNatClampNeg (if (Int32.ofNat s1.2.2.2.1) < r_3 then (Int32.ofNat s1.2.2.2.1) else r_3))))), ((a1 0), .inr (0, [.int (s1.1 0), .int (s1.1 1), .int (s1.1 2), .int (s1.1 3), .int (s1.1 4), .int (s1.1 5), .ref (a1 1), .ref (a1 2), .ref (a1 3), .ref (a1 4), .ref (a1 5), .ref (a1 6), .ref (a1 7), .ref (a1 8), .ref (a1 9), .ref (a1 10), .ref (a1 11), .ref (a1 12)])), ((a1 1), .inl (q 0, 4, .inl (s1.2.1 0))), ((a1 2), .inl (q 0, 4, .inl (s1.2.1 1))), ((a1 3), .inl (q 0, 160, .inl (s1.2.1 2))), ((a1 4), .inl (q 0, 40, .inl (s1.2.1 3))), ((a1 5), .inl (q 0, 40, .inl (s1.2.1 4))), ((a1 6), .inl (q 0, 40, .inl (s1.2.1 5))), ((a1 7), .inl (q 0, 40, .inl (s1.2.1 6))), ((a1 8), .inl (q 0, 40, .inl (s1.2.1 7))), ((a1 9), .inl (q 0, 40, .inl (s1.2.1 8))), ((a1 10), .inl (q 0, 40, .inl (s1.2.1 9))), ((a1 11), .inl (q 1, 40, .inr (.inl s1.2.2.1))), ((a1 12), .inl (q 0, s1.2.2.2.1, .inl s1.2.2.2.2))] H := hP
    have hD : va_D _ [((a0 0), .inr (0, [.int (u_2.1 0), .int (u_2.1 1), .int (u_2.1 2), .int (u_2.1 3), .int (u_2.1 4), .int (u_2.1 5), .ref (a0 1), .ref (a0 2), .ref (a0 3), .ref (a0 4), .ref (a0 5), .ref (a0 6), .ref (a0 7), .ref (a0 8), .ref (a0 9), .ref (a0 10), .ref (a0 11), .ref (a0 12)])), ((a0 1), .inl (q 0, 4, .inl (u_2.2.1 0))), ((a0 2), .inl (q 0, 4, .inl (u_2.2.1 1))), ((a0 3), .inl (q 0, 160, .inl (u_2.2.1 2))), ((a0 4), .inl (q 0, 40, .inl (u_2.2.1 3))), ((a0 5), .inl (q 0, 40, .inl (u_2.2.1 4))), ((a0 6), .inl (q 0, 40, .inl (u_2.2.1 5))), ((a0 7), .inl (q 0, 40, .inl (u_2.2.1 6))), ((a0 8), .inl (q 0, 40, .inl (u_2.2.1 7))), ((a0 9), .inl (q 0, 40, .inl (u_2.2.1 8))), ((a0 10), .inl (q 0, 40, .inl (u_2.2.1 9))), ((a0 11), .inl (q 1, 40, .inr (.inl u_2.2.2.1))), ((a0 12), .inl (q 0, u_2.2.2.2.1, .inl (va_cpy s1.2.2.2.2 u_2.2.2.2.2 (Int32.toNatClampNeg 0) (Int32.toNatClampNeg 0) (Int32.toNatClampNeg (if (Int32.ofNat s1.2.2.2.1) < r_3 then (Int32.ofNat s1.2.2.2.1) else r_3))))), ((a1 0), .inr (0, [.int (s1.1 0), .int (s1.1 1), .int (s1.1 2), .int (s1.1 3), .int (s1.1 4), .int (s1.1 5), .ref (a1 1), .ref (a1 2), .ref (a1 3), .ref (a1 4), .ref (a1 5), .ref (a1 6), .ref (a1 7), .ref (a1 8), .ref (a1 9), .ref (a1 10), .ref (a1 11), .ref (a1 12)])), ((a1 1), .inl (q 0, 4, .inl (s1.2.1 0))), ((a1 2), .inl (q 0, 4, .inl (s1.2.1 1))), ((a1 3), .inl (q 0, 160, .inl (s1.2.1 2))), ((a1 4), .inl (q 0, 40, .inl (s1.2.1 3))), ((a1 5), .inl (q 0, 40, .inl (s1.2.1 4))), ((a1 6), .inl (q 0, 40, .inl (s1.2.1 5))), ((a1 7), .inl (q 0, 40, .inl (s1.2.1 6))), ((a1 8), .inl (q 0, 40, .inl (s1.2.1 7))), ((a1 9), .inl (q 0, 40, .inl (s1.2.1 8))), ((a1 10), .inl (q 0, 40, .inl (s1.2.1 9))), ((a1 11), .inl (q 1, 40, .inr (.inl s1.2.2.1))), ((a1 12), .inl (q 0, s1.2.2.2.1, .inl s1.2.2.2.2))] := hD
    refine W.widen (k := 1) (n := 6400) (Nat.le_of_ble_eq_true rfl) (Nat.le_of_ble_eq_true rfl) ?_
    exact mt_vret ((a0 12), (u_2.1, u_2.2.1, u_2.2.2.1, u_2.2.2.2.1, (va_cpy s1.2.2.2.2 u_2.2.2.2.2 (Int32.toNatClampNeg 0) (Int32.toNatClampNeg 0) (Int32.toNatClampNeg (if (Int32.ofNat s1.2.2.2.1) < r_3 then (Int32.ofNat s1.2.2.2.1) else r_3))))) hx hb hr hk h (hP.sub (ws' := bd_w (va_up a0 12 (a0 12)) q (u_2.1, u_2.2.1, u_2.2.2.1, u_2.2.2.2.1, (va_cpy s1.2.2.2.2 u_2.2.2.2.2 (Int32.toNatClampNeg 0) (Int32.toNatClampNeg 0) (Int32.toNatClampNeg (if (Int32.ofNat s1.2.2.2.1) < r_3 then (Int32.ofNat s1.2.2.2.1) else r_3)))) ++ bd_w a1 q s1) [0, 1, 2, 3, 4, 5, 6, 7, 8, 9, 10, 11, 12, 13, 14, 15, 16, 17, 18, 19, 20, 21, 22, 23, 24, 25] rfl) (hD.sub (ws' := bd_w (va_up a0 12 (a0 12)) q (u_2.1, u_2.2.1, u_2.2.2.1, u_2.2.2.2.1, (va_cpy s1.2.2.2.2 u_2.2.2.2.2 (Int32.toNatClampNeg 0) (Int32.toNatClampNeg 0) (Int32.toNatClampNeg (if (Int32.ofNat s1.2.2.2.1) < r_3 then (Int32.ofNat s1.2.2.2.1) else r_3)))) ++ bd_w a1 q s1) [0, 1, 2, 3, 4, 5, 6, 7, 8, 9, 10, 11, 12, 13, 14, 15, 16, 17, 18, 19, 20, 21, 22, 23, 24, 25] (by decide) rfl) hS dX0_copyAll_48
  · replace h := h.2 c_5
    refine lv_aload_n hx hb dX0_copyAll_19 rfl (lv_at hl 1 rfl) ?_
    refine lv_iload_n hx hb dX0_copyAll_20 rfl (lv_at hl 0 rfl) ?_
    obtain ⟨g_10, h⟩ := h
    obtain ⟨g_11, h⟩ := h
    refine nw_i (N := (Int32.toNatClampNeg r_3)) hx hb ht mw_160 hK hP hD hS hA g_10 rfl (Nat.le_trans (Nat.mul_le_mul_right _ g_11) (by decide)) ⟨Nat.le_of_ble_eq_true rfl, by show 0 + _ ≤ 6400; omega⟩ dX0_copyAll_21 (fun e_9 H hP hD hS => ?_)
    have hP : va_P D vwCl [((a0 0), .inr (0, [.int (u_2.1 0), .int (u_2.1 1), .int (u_2.1 2), .int (u_2.1 3), .int (u_2.1 4), .int (u_2.1 5), .ref (a0 1), .ref (a0 2), .ref (a0 3), .ref (a0 4), .ref (a0 5), .ref (a0 6), .ref (a0 7), .ref (a0 8), .ref (a0 9), .ref (a0 10), .ref (a0 11), .ref (a0 12)])), ((a0 1), .inl (q 0, 4, .inl (u_2.2.1 0))), ((a0 2), .inl (q 0, 4, .inl (u_2.2.1 1))), ((a0 3), .inl (q 0, 160, .inl (u_2.2.1 2))), ((a0 4), .inl (q 0, 40, .inl (u_2.2.1 3))), ((a0 5), .inl (q 0, 40, .inl (u_2.2.1 4))), ((a0 6), .inl (q 0, 40, .inl (u_2.2.1 5))), ((a0 7), .inl (q 0, 40, .inl (u_2.2.1 6))), ((a0 8), .inl (q 0, 40, .inl (u_2.2.1 7))), ((a0 9), .inl (q 0, 40, .inl (u_2.2.1 8))), ((a0 10), .inl (q 0, 40, .inl (u_2.2.1 9))), ((a0 11), .inl (q 1, 40, .inr (.inl u_2.2.2.1))), ((a0 12), .inl (q 0, u_2.2.2.2.1, .inl u_2.2.2.2.2)), ((a1 0), .inr (0, [.int (s1.1 0), .int (s1.1 1), .int (s1.1 2), .int (s1.1 3), .int (s1.1 4), .int (s1.1 5), .ref (a1 1), .ref (a1 2), .ref (a1 3), .ref (a1 4), .ref (a1 5), .ref (a1 6), .ref (a1 7), .ref (a1 8), .ref (a1 9), .ref (a1 10), .ref (a1 11), .ref (a1 12)])), ((a1 1), .inl (q 0, 4, .inl (s1.2.1 0))), ((a1 2), .inl (q 0, 4, .inl (s1.2.1 1))), ((a1 3), .inl (q 0, 160, .inl (s1.2.1 2))), ((a1 4), .inl (q 0, 40, .inl (s1.2.1 3))), ((a1 5), .inl (q 0, 40, .inl (s1.2.1 4))), ((a1 6), .inl (q 0, 40, .inl (s1.2.1 5))), ((a1 7), .inl (q 0, 40, .inl (s1.2.1 6))), ((a1 8), .inl (q 0, 40, .inl (s1.2.1 7))), ((a1 9), .inl (q 0, 40, .inl (s1.2.1 8))), ((a1 10), .inl (q 0, 40, .inl (s1.2.1 9))), ((a1 11), .inl (q 1, 40, .inr (.inl s1.2.2.1))), ((a1 12), .inl (q 0, s1.2.2.2.1, .inl s1.2.2.2.2)), (e_9, .inl (q 0, (Int32.toNatClampNeg r_3), .inl (fun _ => 0)))] H := hP
    have hD : va_D _ [((a0 0), .inr (0, [.int (u_2.1 0), .int (u_2.1 1), .int (u_2.1 2), .int (u_2.1 3), .int (u_2.1 4), .int (u_2.1 5), .ref (a0 1), .ref (a0 2), .ref (a0 3), .ref (a0 4), .ref (a0 5), .ref (a0 6), .ref (a0 7), .ref (a0 8), .ref (a0 9), .ref (a0 10), .ref (a0 11), .ref (a0 12)])), ((a0 1), .inl (q 0, 4, .inl (u_2.2.1 0))), ((a0 2), .inl (q 0, 4, .inl (u_2.2.1 1))), ((a0 3), .inl (q 0, 160, .inl (u_2.2.1 2))), ((a0 4), .inl (q 0, 40, .inl (u_2.2.1 3))), ((a0 5), .inl (q 0, 40, .inl (u_2.2.1 4))), ((a0 6), .inl (q 0, 40, .inl (u_2.2.1 5))), ((a0 7), .inl (q 0, 40, .inl (u_2.2.1 6))), ((a0 8), .inl (q 0, 40, .inl (u_2.2.1 7))), ((a0 9), .inl (q 0, 40, .inl (u_2.2.1 8))), ((a0 10), .inl (q 0, 40, .inl (u_2.2.1 9))), ((a0 11), .inl (q 1, 40, .inr (.inl u_2.2.2.1))), ((a0 12), .inl (q 0, u_2.2.2.2.1, .inl u_2.2.2.2.2)), ((a1 0), .inr (0, [.int (s1.1 0), .int (s1.1 1), .int (s1.1 2), .int (s1.1 3), .int (s1.1 4), .int (s1.1 5), .ref (a1 1), .ref (a1 2), .ref (a1 3), .ref (a1 4), .ref (a1 5), .ref (a1 6), .ref (a1 7), .ref (a1 8), .ref (a1 9), .ref (a1 10), .ref (a1 11), .ref (a1 12)])), ((a1 1), .inl (q 0, 4, .inl (s1.2.1 0))), ((a1 2), .inl (q 0, 4, .inl (s1.2.1 1))), ((a1 3), .inl (q 0, 160, .inl (s1.2.1 2))), ((a1 4), .inl (q 0, 40, .inl (s1.2.1 3))), ((a1 5), .inl (q 0, 40, .inl (s1.2.1 4))), ((a1 6), .inl (q 0, 40, .inl (s1.2.1 5))), ((a1 7), .inl (q 0, 40, .inl (s1.2.1 6))), ((a1 8), .inl (q 0, 40, .inl (s1.2.1 7))), ((a1 9), .inl (q 0, 40, .inl (s1.2.1 8))), ((a1 10), .inl (q 0, 40, .inl (s1.2.1 9))), ((a1 11), .inl (q 1, 40, .inr (.inl s1.2.2.1))), ((a1 12), .inl (q 0, s1.2.2.2.1, .inl s1.2.2.2.2)), (e_9, .inl (q 0, (Int32.toNatClampNeg r_3), .inl (fun _ => 0)))] := hD
    refine W.widen (k := 1) (n := 6400) (Nat.le_refl _) (by omega) ?_
    refine fl_put (C := RX0) (T := TX0) (N := 18) (ci := 0) (v := .ref e_9) (ws2 := [((a0 0), .inr (0, [.int (u_2.1 0), .int (u_2.1 1), .int (u_2.1 2), .int (u_2.1 3), .int (u_2.1 4), .int (u_2.1 5), .ref (a0 1), .ref (a0 2), .ref (a0 3), .ref (a0 4), .ref (a0 5), .ref (a0 6), .ref (a0 7), .ref (a0 8), .ref (a0 9), .ref (a0 10), .ref (a0 11), .ref e_9])), ((a0 1), .inl (q 0, 4, .inl (u_2.2.1 0))), ((a0 2), .inl (q 0, 4, .inl (u_2.2.1 1))), ((a0 3), .inl (q 0, 160, .inl (u_2.2.1 2))), ((a0 4), .inl (q 0, 40, .inl (u_2.2.1 3))), ((a0 5), .inl (q 0, 40, .inl (u_2.2.1 4))), ((a0 6), .inl (q 0, 40, .inl (u_2.2.1 5))), ((a0 7), .inl (q 0, 40, .inl (u_2.2.1 6))), ((a0 8), .inl (q 0, 40, .inl (u_2.2.1 7))), ((a0 9), .inl (q 0, 40, .inl (u_2.2.1 8))), ((a0 10), .inl (q 0, 40, .inl (u_2.2.1 9))), ((a0 11), .inl (q 1, 40, .inr (.inl u_2.2.2.1))), ((a0 12), .inl (q 0, u_2.2.2.2.1, .inl u_2.2.2.2.2)), ((a1 0), .inr (0, [.int (s1.1 0), .int (s1.1 1), .int (s1.1 2), .int (s1.1 3), .int (s1.1 4), .int (s1.1 5), .ref (a1 1), .ref (a1 2), .ref (a1 3), .ref (a1 4), .ref (a1 5), .ref (a1 6), .ref (a1 7), .ref (a1 8), .ref (a1 9), .ref (a1 10), .ref (a1 11), .ref (a1 12)])), ((a1 1), .inl (q 0, 4, .inl (s1.2.1 0))), ((a1 2), .inl (q 0, 4, .inl (s1.2.1 1))), ((a1 3), .inl (q 0, 160, .inl (s1.2.1 2))), ((a1 4), .inl (q 0, 40, .inl (s1.2.1 3))), ((a1 5), .inl (q 0, 40, .inl (s1.2.1 4))), ((a1 6), .inl (q 0, 40, .inl (s1.2.1 5))), ((a1 7), .inl (q 0, 40, .inl (s1.2.1 6))), ((a1 8), .inl (q 0, 40, .inl (s1.2.1 7))), ((a1 9), .inl (q 0, 40, .inl (s1.2.1 8))), ((a1 10), .inl (q 0, 40, .inl (s1.2.1 9))), ((a1 11), .inl (q 1, 40, .inr (.inl s1.2.2.1))), ((a1 12), .inl (q 0, s1.2.2.2.1, .inl s1.2.2.2.2)), (e_9, .inl (q 0, (Int32.toNatClampNeg r_3), .inl (fun _ => 0)))]) hx hb ht in_X0 tyX0_ok nmX0 hown hK hP hD hS 0 rfl rfl 17 (by decide) mw_208 rfl rfl rfl (Nat.le_of_ble_eq_true rfl) dX0_copyAll_23 rfl (fun H locs hP hD hS => ?_)
    refine lv_aload_n hx hb dX0_copyAll_26 rfl (lv_at hl 2 rfl) ?_
    refine fl_get (C := RX0) (T := TX0) (N := 18) (ci := 0) (v := .ref (a1 12)) hx hb ht in_X0 hown hK hP 13 rfl rfl 17 (by decide) mw_208 rfl dX0_copyAll_27 ?_
    refine lv_iconst (v := 0) hx hb dX0_copyAll_30 (by decide) ?_
    refine lv_aload_n hx hb dX0_copyAll_31 rfl (lv_at hl 1 rfl) ?_
    refine fl_get (C := RX0) (T := TX0) (N := 18) (ci := 0) (v := .ref e_9) hx hb ht in_X0 hown hK hP 0 rfl rfl 17 (by decide) mw_208 rfl dX0_copyAll_32 ?_
    refine lv_iconst (v := 0) hx hb dX0_copyAll_35 (by decide) ?_
    refine lv_iload_n hx hb dX0_copyAll_36 rfl (lv_at hl 0 rfl) ?_
    refine lv_aload_n hx hb dX0_copyAll_37 rfl (lv_at hl 2 rfl) ?_
    refine fl_get (C := RX0) (T := TX0) (N := 18) (ci := 0) (v := .ref (a1 12)) hx hb ht in_X0 hown hK hP 13 rfl rfl 17 (by decide) mw_208 rfl dX0_copyAll_38 ?_
    refine va_alen (v := (Int32.ofNat s1.2.2.2.1)) hx hb hK hP 25 0 rfl rfl rfl dX0_copyAll_41 ?_
    refine va_mmin hx hb (hml.trans hl.1.symm) hown (ht _ mw_641) (ht _ mw_504) (ht _ mw_110) (ht _ mw_505) (Nat.le_of_ble_eq_true rfl) (Nat.le_of_ble_eq_true rfl) (Nat.le_of_ble_eq_true rfl) (Nat.le_of_ble_eq_true rfl) dX0_copyAll_42 ?_
    obtain ⟨g_12, h⟩ := h
    obtain ⟨g_13, h⟩ := h
    obtain ⟨g_14, h⟩ := h
    refine va_copyi (ty := .int) hx hb (hml.trans hl.1.symm) hown (ht _ mw_594) (ht _ mw_596) (ht _ mw_595) (ht _ mw_111) hK hP hD hS 25 26 0 0 rfl rfl rfl rfl rfl (by decide) (by decide) g_12 g_13 g_14 (fun _ _ => rfl) (Nat.le_of_ble_eq_true rfl) (by decide) dX0_copyAll_45 (fun H locs hP hD hS => ?_)
    have hP : va_P D vwCl [((a0 0), .inr (0, [.int (u_2.1 0), .int (u_2.1 1), .int (u_2.1 2), .int (u_2.1 3), .int (u_2.1 4), .int (u_2.1 5), .ref (a0 1), .ref (a0 2), .ref (a0 3), .ref (a0 4), .ref (a0 5), .ref (a0 6), .ref (a0 7), .ref (a0 8), .ref (a0 9), .ref (a0 10), .ref (a0 11), .ref e_9])), ((a0 1), .inl (q 0, 4, .inl (u_2.2.1 0))), ((a0 2), .inl (q 0, 4, .inl (u_2.2.1 1))), ((a0 3), .inl (q 0, 160, .inl (u_2.2.1 2))), ((a0 4), .inl (q 0, 40, .inl (u_2.2.1 3))), ((a0 5), .inl (q 0, 40, .inl (u_2.2.1 4))), ((a0 6), .inl (q 0, 40, .inl (u_2.2.1 5))), ((a0 7), .inl (q 0, 40, .inl (u_2.2.1 6))), ((a0 8), .inl (q 0, 40, .inl (u_2.2.1 7))), ((a0 9), .inl (q 0, 40, .inl (u_2.2.1 8))), ((a0 10), .inl (q 0, 40, .inl (u_2.2.1 9))), ((a0 11), .inl (q 1, 40, .inr (.inl u_2.2.2.1))), ((a0 12), .inl (q 0, u_2.2.2.2.1, .inl u_2.2.2.2.2)), ((a1 0), .inr (0, [.int (s1.1 0), .int (s1.1 1), .int (s1.1 2), .int (s1.1 3), .int (s1.1 4), .int (s1.1 5), .ref (a1 1), .ref (a1 2), .ref (a1 3), .ref (a1 4), .ref (a1 5), .ref (a1 6), .ref (a1 7), .ref (a1 8), .ref (a1 9), .ref (a1 10), .ref (a1 11), .ref (a1 12)])), ((a1 1), .inl (q 0, 4, .inl (s1.2.1 0))), ((a1 2), .inl (q 0, 4, .inl (s1.2.1 1))), ((a1 3), .inl (q 0, 160, .inl (s1.2.1 2))), ((a1 4), .inl (q 0, 40, .inl (s1.2.1 3))), ((a1 5), .inl (q 0, 40, .inl (s1.2.1 4))), ((a1 6), .inl (q 0, 40, .inl (s1.2.1 5))), ((a1 7), .inl (q 0, 40, .inl (s1.2.1 6))), ((a1 8), .inl (q 0, 40, .inl (s1.2.1 7))), ((a1 9), .inl (q 0, 40, .inl (s1.2.1 8))), ((a1 10), .inl (q 0, 40, .inl (s1.2.1 9))), ((a1 11), .inl (q 1, 40, .inr (.inl s1.2.2.1))), ((a1 12), .inl (q 0, s1.2.2.2.1, .inl s1.2.2.2.2)), (e_9, .inl (q 0, (Int32.toNatClampNeg r_3), .inl (va_cpy s1.2.2.2.2 (fun _ => 0) (Int32.toNatClampNeg 0) (Int32.toNatClampNeg 0) (Int32.toNatClampNeg (if (Int32.ofNat s1.2.2.2.1) < r_3 then (Int32.ofNat s1.2.2.2.1) else r_3)))))] H := hP
    have hD : va_D _ [((a0 0), .inr (0, [.int (u_2.1 0), .int (u_2.1 1), .int (u_2.1 2), .int (u_2.1 3), .int (u_2.1 4), .int (u_2.1 5), .ref (a0 1), .ref (a0 2), .ref (a0 3), .ref (a0 4), .ref (a0 5), .ref (a0 6), .ref (a0 7), .ref (a0 8), .ref (a0 9), .ref (a0 10), .ref (a0 11), .ref e_9])), ((a0 1), .inl (q 0, 4, .inl (u_2.2.1 0))), ((a0 2), .inl (q 0, 4, .inl (u_2.2.1 1))), ((a0 3), .inl (q 0, 160, .inl (u_2.2.1 2))), ((a0 4), .inl (q 0, 40, .inl (u_2.2.1 3))), ((a0 5), .inl (q 0, 40, .inl (u_2.2.1 4))), ((a0 6), .inl (q 0, 40, .inl (u_2.2.1 5))), ((a0 7), .inl (q 0, 40, .inl (u_2.2.1 6))), ((a0 8), .inl (q 0, 40, .inl (u_2.2.1 7))), ((a0 9), .inl (q 0, 40, .inl (u_2.2.1 8))), ((a0 10), .inl (q 0, 40, .inl (u_2.2.1 9))), ((a0 11), .inl (q 1, 40, .inr (.inl u_2.2.2.1))), ((a0 12), .inl (q 0, u_2.2.2.2.1, .inl u_2.2.2.2.2)), ((a1 0), .inr (0, [.int (s1.1 0), .int (s1.1 1), .int (s1.1 2), .int (s1.1 3), .int (s1.1 4), .int (s1.1 5), .ref (a1 1), .ref (a1 2), .ref (a1 3), .ref (a1 4), .ref (a1 5), .ref (a1 6), .ref (a1 7), .ref (a1 8), .ref (a1 9), .ref (a1 10), .ref (a1 11), .ref (a1 12)])), ((a1 1), .inl (q 0, 4, .inl (s1.2.1 0))), ((a1 2), .inl (q 0, 4, .inl (s1.2.1 1))), ((a1 3), .inl (q 0, 160, .inl (s1.2.1 2))), ((a1 4), .inl (q 0, 40, .inl (s1.2.1 3))), ((a1 5), .inl (q 0, 40, .inl (s1.2.1 4))), ((a1 6), .inl (q 0, 40, .inl (s1.2.1 5))), ((a1 7), .inl (q 0, 40, .inl (s1.2.1 6))), ((a1 8), .inl (q 0, 40, .inl (s1.2.1 7))), ((a1 9), .inl (q 0, 40, .inl (s1.2.1 8))), ((a1 10), .inl (q 0, 40, .inl (s1.2.1 9))), ((a1 11), .inl (q 1, 40, .inr (.inl s1.2.2.1))), ((a1 12), .inl (q 0, s1.2.2.2.1, .inl s1.2.2.2.2)), (e_9, .inl (q 0, (Int32.toNatClampNeg r_3), .inl (va_cpy s1.2.2.2.2 (fun _ => 0) (Int32.toNatClampNeg 0) (Int32.toNatClampNeg 0) (Int32.toNatClampNeg (if (Int32.ofNat s1.2.2.2.1) < r_3 then (Int32.ofNat s1.2.2.2.1) else r_3)))))] := hD
    exact mt_vret (e_9, (u_2.1, u_2.2.1, u_2.2.2.1, (Int32.toNatClampNeg r_3), (va_cpy s1.2.2.2.2 (fun _ => 0) (Int32.toNatClampNeg 0) (Int32.toNatClampNeg 0) (Int32.toNatClampNeg (if (Int32.ofNat s1.2.2.2.1) < r_3 then (Int32.ofNat s1.2.2.2.1) else r_3))))) hx hb hr hk h (hP.sub (ws' := bd_w (va_up a0 12 e_9) q (u_2.1, u_2.2.1, u_2.2.2.1, (Int32.toNatClampNeg r_3), (va_cpy s1.2.2.2.2 (fun _ => 0) (Int32.toNatClampNeg 0) (Int32.toNatClampNeg 0) (Int32.toNatClampNeg (if (Int32.ofNat s1.2.2.2.1) < r_3 then (Int32.ofNat s1.2.2.2.1) else r_3)))) ++ bd_w a1 q s1) [0, 1, 2, 3, 4, 5, 6, 7, 8, 9, 10, 11, 26, 13, 14, 15, 16, 17, 18, 19, 20, 21, 22, 23, 24, 25] rfl) (hD.sub (ws' := bd_w (va_up a0 12 e_9) q (u_2.1, u_2.2.1, u_2.2.2.1, (Int32.toNatClampNeg r_3), (va_cpy s1.2.2.2.2 (fun _ => 0) (Int32.toNatClampNeg 0) (Int32.toNatClampNeg 0) (Int32.toNatClampNeg (if (Int32.ofNat s1.2.2.2.1) < r_3 then (Int32.ofNat s1.2.2.2.1) else r_3)))) ++ bd_w a1 q s1) [0, 1, 2, 3, 4, 5, 6, 7, 8, 9, 10, 11, 26, 13, 14, 15, 16, 17, 18, 19, 20, 21, 22, 23, 24, 25] (by decide) rfl) hS dX0_copyAll_48

def wp_X0_isThere (post : Int32 → Prop) (s0 : Bd) : Prop := (((s0.1 0) ≤ 0 → post 0) ∧ (¬ (s0.1 0) ≤ 0 → post 1))
set_option maxHeartbeats 4000000 in
set_option maxRecDepth 100000 in
theorem c2_X0_isThere {l : Launch} {D : va_G} {q : Nat → ClassId} {a0 : Nat → Nat} {s0 : Bd} {post : Int32 → Prop} (h : wp_X0_isThere post s0) : Met l yX0_isThere (Cond.code yX0_isThere cX0_isThere 1 (some .boolean) :: w_all) ({ frames := 0, cells := 0, slots := 0, locals := 0 } : Room) (rd_P D q [.ref (a0 0)] (bd_w a0 q s0)) (vp_Si post) 0 0 (fun _ => False) := by
  refine rd_start (by decide) (Nat.le_of_ble_eq_true rfl) ?_
  intro p e s m below meth c ls hx hb hr hml hown ht hk hP hQ hV hl
  have hK := hQ.1
  have hown : s.vm.findClass RX0 = some m.cls := hown
  have hl : lv_has ls 1 [(0, .ref (a0 0))] := hl
  have hP : va_P D vwCl [((a0 0), .inr (0, [.int (s0.1 0), .int (s0.1 1), .int (s0.1 2), .int (s0.1 3), .int (s0.1 4), .int (s0.1 5), .ref (a0 1), .ref (a0 2), .ref (a0 3), .ref (a0 4), .ref (a0 5), .ref (a0 6), .ref (a0 7), .ref (a0 8), .ref (a0 9), .ref (a0 10), .ref (a0 11), .ref (a0 12)])), ((a0 1), .inl (q 0, 4, .inl (s0.2.1 0))), ((a0 2), .inl (q 0, 4, .inl (s0.2.1 1))), ((a0 3), .inl (q 0, 160, .inl (s0.2.1 2))), ((a0 4), .inl (q 0, 40, .inl (s0.2.1 3))), ((a0 5), .inl (q 0, 40, .inl (s0.2.1 4))), ((a0 6), .inl (q 0, 40, .inl (s0.2.1 5))), ((a0 7), .inl (q 0, 40, .inl (s0.2.1 6))), ((a0 8), .inl (q 0, 40, .inl (s0.2.1 7))), ((a0 9), .inl (q 0, 40, .inl (s0.2.1 8))), ((a0 10), .inl (q 0, 40, .inl (s0.2.1 9))), ((a0 11), .inl (q 1, 40, .inr (.inl s0.2.2.1))), ((a0 12), .inl (q 0, s0.2.2.2.1, .inl s0.2.2.2.2))] s.heap := hP
  unfold wp_X0_isThere at h
  refine lv_aload_n hx hb dX0_isThere_0 rfl (lv_at hl 0 rfl) ?_
  refine fl_get (C := RX0) (T := TX0) (N := 18) (ci := 0) (v := .int (s0.1 0)) hx hb ht in_X0 hown hK hP 0 rfl rfl 0 (by decide) mw_167 rfl dX0_isThere_1 ?_
  refine lv_if_le (tgt := 11) hx hb dX0_isThere_4 (by decide) (fun c_1 => ?_) (fun c_1 => ?_)
  · replace h := h.1 c_1
    refine lv_iconst (v := 0) hx hb dX0_isThere_11 (by decide) ?_
    exact rd_zret hx hb hr hk rfl h dX0_isThere_12
  · replace h := h.2 c_1
    refine lv_iconst (v := 1) hx hb dX0_isThere_7 (by decide) ?_
    refine lv_goto (tgt := 12) hx hb dX0_isThere_8 (by decide) ?_
    exact rd_zret hx hb hr hk rfl h dX0_isThere_12

def wp_X0_hasRow (post : Int32 → Prop) (s0 : Bd) (x1 : Int32) : Prop := ((x1 < 0 → post 0) ∧ (¬ x1 < 0 → (((s0.1 0) ≤ x1 → post 0) ∧ (¬ (s0.1 0) ≤ x1 → post 1))))
set_option maxHeartbeats 4000000 in
set_option maxRecDepth 100000 in
theorem c2_X0_hasRow {l : Launch} {D : va_G} {q : Nat → ClassId} {a0 : Nat → Nat} {s0 : Bd} {x1 : Int32} {post : Int32 → Prop} (h : wp_X0_hasRow post s0 x1) : Met l yX0_hasRow (Cond.code yX0_hasRow cX0_hasRow 2 (some .boolean) :: w_all) ({ frames := 0, cells := 0, slots := 0, locals := 0 } : Room) (rd_P D q [.ref (a0 0), .int x1] (bd_w a0 q s0)) (vp_Si post) 0 0 (fun _ => False) := by
  refine rd_start (by decide) (Nat.le_of_ble_eq_true rfl) ?_
  intro p e s m below meth c ls hx hb hr hml hown ht hk hP hQ hV hl
  have hK := hQ.1
  have hown : s.vm.findClass RX0 = some m.cls := hown
  have hl : lv_has ls 2 [(0, .ref (a0 0)), (1, .int x1)] := hl
  have hP : va_P D vwCl [((a0 0), .inr (0, [.int (s0.1 0), .int (s0.1 1), .int (s0.1 2), .int (s0.1 3), .int (s0.1 4), .int (s0.1 5), .ref (a0 1), .ref (a0 2), .ref (a0 3), .ref (a0 4), .ref (a0 5), .ref (a0 6), .ref (a0 7), .ref (a0 8), .ref (a0 9), .ref (a0 10), .ref (a0 11), .ref (a0 12)])), ((a0 1), .inl (q 0, 4, .inl (s0.2.1 0))), ((a0 2), .inl (q 0, 4, .inl (s0.2.1 1))), ((a0 3), .inl (q 0, 160, .inl (s0.2.1 2))), ((a0 4), .inl (q 0, 40, .inl (s0.2.1 3))), ((a0 5), .inl (q 0, 40, .inl (s0.2.1 4))), ((a0 6), .inl (q 0, 40, .inl (s0.2.1 5))), ((a0 7), .inl (q 0, 40, .inl (s0.2.1 6))), ((a0 8), .inl (q 0, 40, .inl (s0.2.1 7))), ((a0 9), .inl (q 0, 40, .inl (s0.2.1 8))), ((a0 10), .inl (q 0, 40, .inl (s0.2.1 9))), ((a0 11), .inl (q 1, 40, .inr (.inl s0.2.2.1))), ((a0 12), .inl (q 0, s0.2.2.2.1, .inl s0.2.2.2.2))] s.heap := hP
  unfold wp_X0_hasRow at h
  refine lv_iload_n hx hb dX0_hasRow_0 rfl (lv_at hl 1 rfl) ?_
  refine lv_if_lt (tgt := 16) hx hb dX0_hasRow_1 (by decide) (fun c_1 => ?_) (fun c_1 => ?_)
  · replace h := h.1 c_1
    refine lv_iconst (v := 0) hx hb dX0_hasRow_16 (by decide) ?_
    exact rd_zret hx hb hr hk rfl h dX0_hasRow_17
  · replace h := h.2 c_1
    refine lv_iload_n hx hb dX0_hasRow_4 rfl (lv_at hl 1 rfl) ?_
    refine lv_aload_n hx hb dX0_hasRow_5 rfl (lv_at hl 0 rfl) ?_
    refine fl_get (C := RX0) (T := TX0) (N := 18) (ci := 0) (v := .int (s0.1 0)) hx hb ht in_X0 hown hK hP 0 rfl rfl 0 (by decide) mw_167 rfl dX0_hasRow_6 ?_
    refine lv_icmp_ge (tgt := 16) hx hb dX0_hasRow_9 (by decide) (fun c_2 => ?_) (fun c_2 => ?_)
    · replace h := h.1 c_2
      refine lv_iconst (v := 0) hx hb dX0_hasRow_16 (by decide) ?_
      exact rd_zret hx hb hr hk rfl h dX0_hasRow_17
    · replace h := h.2 c_2
      refine lv_iconst (v := 1) hx hb dX0_hasRow_12 (by decide) ?_
      refine lv_goto (tgt := 17) hx hb dX0_hasRow_13 (by decide) ?_
      exact rd_zret hx hb hr hk rfl h dX0_hasRow_17

def wp_X0_hasDrum (post : Int32 → Prop) (s0 : Bd) (x1 : Int32) : Prop := ((x1 < 0 → post 0) ∧ (¬ x1 < 0 → (((s0.1 3) ≤ x1 → post 0) ∧ (¬ (s0.1 3) ≤ x1 → post 1))))
set_option maxHeartbeats 4000000 in
set_option maxRecDepth 100000 in
theorem c2_X0_hasDrum {l : Launch} {D : va_G} {q : Nat → ClassId} {a0 : Nat → Nat} {s0 : Bd} {x1 : Int32} {post : Int32 → Prop} (h : wp_X0_hasDrum post s0 x1) : Met l yX0_hasDrum (Cond.code yX0_hasDrum cX0_hasDrum 2 (some .boolean) :: w_all) ({ frames := 0, cells := 0, slots := 0, locals := 0 } : Room) (rd_P D q [.ref (a0 0), .int x1] (bd_w a0 q s0)) (vp_Si post) 0 0 (fun _ => False) := by
  refine rd_start (by decide) (Nat.le_of_ble_eq_true rfl) ?_
  intro p e s m below meth c ls hx hb hr hml hown ht hk hP hQ hV hl
  have hK := hQ.1
  have hown : s.vm.findClass RX0 = some m.cls := hown
  have hl : lv_has ls 2 [(0, .ref (a0 0)), (1, .int x1)] := hl
  have hP : va_P D vwCl [((a0 0), .inr (0, [.int (s0.1 0), .int (s0.1 1), .int (s0.1 2), .int (s0.1 3), .int (s0.1 4), .int (s0.1 5), .ref (a0 1), .ref (a0 2), .ref (a0 3), .ref (a0 4), .ref (a0 5), .ref (a0 6), .ref (a0 7), .ref (a0 8), .ref (a0 9), .ref (a0 10), .ref (a0 11), .ref (a0 12)])), ((a0 1), .inl (q 0, 4, .inl (s0.2.1 0))), ((a0 2), .inl (q 0, 4, .inl (s0.2.1 1))), ((a0 3), .inl (q 0, 160, .inl (s0.2.1 2))), ((a0 4), .inl (q 0, 40, .inl (s0.2.1 3))), ((a0 5), .inl (q 0, 40, .inl (s0.2.1 4))), ((a0 6), .inl (q 0, 40, .inl (s0.2.1 5))), ((a0 7), .inl (q 0, 40, .inl (s0.2.1 6))), ((a0 8), .inl (q 0, 40, .inl (s0.2.1 7))), ((a0 9), .inl (q 0, 40, .inl (s0.2.1 8))), ((a0 10), .inl (q 0, 40, .inl (s0.2.1 9))), ((a0 11), .inl (q 1, 40, .inr (.inl s0.2.2.1))), ((a0 12), .inl (q 0, s0.2.2.2.1, .inl s0.2.2.2.2))] s.heap := hP
  unfold wp_X0_hasDrum at h
  refine lv_iload_n hx hb dX0_hasDrum_0 rfl (lv_at hl 1 rfl) ?_
  refine lv_if_lt (tgt := 16) hx hb dX0_hasDrum_1 (by decide) (fun c_1 => ?_) (fun c_1 => ?_)
  · replace h := h.1 c_1
    refine lv_iconst (v := 0) hx hb dX0_hasDrum_16 (by decide) ?_
    exact rd_zret hx hb hr hk rfl h dX0_hasDrum_17
  · replace h := h.2 c_1
    refine lv_iload_n hx hb dX0_hasDrum_4 rfl (lv_at hl 1 rfl) ?_
    refine lv_aload_n hx hb dX0_hasDrum_5 rfl (lv_at hl 0 rfl) ?_
    refine fl_get (C := RX0) (T := TX0) (N := 18) (ci := 0) (v := .int (s0.1 3)) hx hb ht in_X0 hown hK hP 0 rfl rfl 3 (by decide) mw_179 rfl dX0_hasDrum_6 ?_
    refine lv_icmp_ge (tgt := 16) hx hb dX0_hasDrum_9 (by decide) (fun c_2 => ?_) (fun c_2 => ?_)
    · replace h := h.1 c_2
      refine lv_iconst (v := 0) hx hb dX0_hasDrum_16 (by decide) ?_
      exact rd_zret hx hb hr hk rfl h dX0_hasDrum_17
    · replace h := h.2 c_2
      refine lv_iconst (v := 1) hx hb dX0_hasDrum_12 (by decide) ?_
      refine lv_goto (tgt := 17) hx hb dX0_hasDrum_13 (by decide) ?_
      exact rd_zret hx hb hr hk rfl h dX0_hasDrum_17

def wp_X0_flapsOf (post : Int32 → Prop) (s0 : Bd) (x1 : Int32) : Prop := vp_in x1 40 ∧ ((((s0.2.1 3) (Int32.toNatClampNeg x1)) < 0 → post 0) ∧ (¬ ((s0.2.1 3) (Int32.toNatClampNeg x1)) < 0 → (((s0.1 3) ≤ ((s0.2.1 3) (Int32.toNatClampNeg x1)) → post 0) ∧ (¬ (s0.1 3) ≤ ((s0.2.1 3) (Int32.toNatClampNeg x1)) → vp_in ((s0.2.1 3) (Int32.toNatClampNeg x1)) 4 ∧ post ((s0.2.1 1) (Int32.toNatClampNeg ((s0.2.1 3) (Int32.toNatClampNeg x1))))))))
set_option maxHeartbeats 4000000 in
set_option maxRecDepth 100000 in
theorem c2_X0_flapsOf {l : Launch} {D : va_G} {q : Nat → ClassId} {a0 : Nat → Nat} {s0 : Bd} {x1 : Int32} {post : Int32 → Prop} (h : wp_X0_flapsOf post s0 x1) : Met l yX0_flapsOf (Cond.code yX0_flapsOf cX0_flapsOf 3 (some .int) :: w_all) ({ frames := 0, cells := 0, slots := 0, locals := 0 } : Room) (rd_P D q [.ref (a0 0), .int x1] (bd_w a0 q s0)) (vp_Si post) 0 0 (fun _ => False) := by
  refine rd_start (by decide) (Nat.le_of_ble_eq_true rfl) ?_
  intro p e s m below meth c ls hx hb hr hml hown ht hk hP hQ hV hl
  have hK := hQ.1
  have hown : s.vm.findClass RX0 = some m.cls := hown
  have hl : lv_has ls 3 [(0, .ref (a0 0)), (1, .int x1)] := hl
  have hP : va_P D vwCl [((a0 0), .inr (0, [.int (s0.1 0), .int (s0.1 1), .int (s0.1 2), .int (s0.1 3), .int (s0.1 4), .int (s0.1 5), .ref (a0 1), .ref (a0 2), .ref (a0 3), .ref (a0 4), .ref (a0 5), .ref (a0 6), .ref (a0 7), .ref (a0 8), .ref (a0 9), .ref (a0 10), .ref (a0 11), .ref (a0 12)])), ((a0 1), .inl (q 0, 4, .inl (s0.2.1 0))), ((a0 2), .inl (q 0, 4, .inl (s0.2.1 1))), ((a0 3), .inl (q 0, 160, .inl (s0.2.1 2))), ((a0 4), .inl (q 0, 40, .inl (s0.2.1 3))), ((a0 5), .inl (q 0, 40, .inl (s0.2.1 4))), ((a0 6), .inl (q 0, 40, .inl (s0.2.1 5))), ((a0 7), .inl (q 0, 40, .inl (s0.2.1 6))), ((a0 8), .inl (q 0, 40, .inl (s0.2.1 7))), ((a0 9), .inl (q 0, 40, .inl (s0.2.1 8))), ((a0 10), .inl (q 0, 40, .inl (s0.2.1 9))), ((a0 11), .inl (q 1, 40, .inr (.inl s0.2.2.1))), ((a0 12), .inl (q 0, s0.2.2.2.1, .inl s0.2.2.2.2))] s.heap := hP
  unfold wp_X0_flapsOf at h
  refine lv_aload_n hx hb dX0_flapsOf_0 rfl (lv_at hl 0 rfl) ?_
  refine fl_get (C := RX0) (T := TX0) (N := 18) (ci := 0) (v := .ref (a0 4)) hx hb ht in_X0 hown hK hP 0 rfl rfl 9 (by decide) mw_192 rfl dX0_flapsOf_1 ?_
  refine lv_iload_n hx hb dX0_flapsOf_4 rfl (lv_at hl 1 rfl) ?_
  obtain ⟨g_1, h⟩ := h
  refine va_iald hx hb hK hP 4 0 rfl rfl g_1 dX0_flapsOf_5 ?_
  refine lv_istore_n (lv' := [(2, .int ((s0.2.1 3) (Int32.toNatClampNeg x1))), (0, .ref (a0 0)), (1, .int x1)]) hx hb dX0_flapsOf_6 rfl hl (by decide) rfl (fun ls hl => ?_)
  refine lv_iload_n hx hb dX0_flapsOf_7 rfl (lv_at hl 0 rfl) ?_
  refine lv_if_lt (tgt := 28) hx hb dX0_flapsOf_8 (by decide) (fun c_2 => ?_) (fun c_2 => ?_)
  · replace h := h.1 c_2
    refine lv_iconst (v := 0) hx hb dX0_flapsOf_28 (by decide) ?_
    exact rd_iret hx hb hr hk h dX0_flapsOf_29
  · replace h := h.2 c_2
    refine lv_iload_n hx hb dX0_flapsOf_11 rfl (lv_at hl 0 rfl) ?_
    refine lv_aload_n hx hb dX0_flapsOf_12 rfl (lv_at hl 1 rfl) ?_
    refine fl_get (C := RX0) (T := TX0) (N := 18) (ci := 0) (v := .int (s0.1 3)) hx hb ht in_X0 hown hK hP 0 rfl rfl 3 (by decide) mw_179 rfl dX0_flapsOf_13 ?_
    refine lv_icmp_ge (tgt := 28) hx hb dX0_flapsOf_16 (by decide) (fun c_3 => ?_) (fun c_3 => ?_)
    · replace h := h.1 c_3
      refine lv_iconst (v := 0) hx hb dX0_flapsOf_28 (by decide) ?_
      exact rd_iret hx hb hr hk h dX0_flapsOf_29
    · replace h := h.2 c_3
      refine lv_aload_n hx hb dX0_flapsOf_19 rfl (lv_at hl 1 rfl) ?_
      refine fl_get (C := RX0) (T := TX0) (N := 18) (ci := 0) (v := .ref (a0 2)) hx hb ht in_X0 hown hK hP 0 rfl rfl 7 (by decide) mw_190 rfl dX0_flapsOf_20 ?_
      refine lv_iload_n hx hb dX0_flapsOf_23 rfl (lv_at hl 0 rfl) ?_
      obtain ⟨g_4, h⟩ := h
      refine va_iald hx hb hK hP 2 0 rfl rfl g_4 dX0_flapsOf_24 ?_
      refine lv_goto (tgt := 29) hx hb dX0_flapsOf_25 (by decide) ?_
      exact rd_iret hx hb hr hk h dX0_flapsOf_29

def wp_X0_hasFlap (post : Int32 → Prop) (s0 : Bd) (x1 : Int32) (x2 : Int32) : Prop := wp_X0_hasCell (fun r_1 => ((r_1 = 0 → post 0) ∧ (¬ r_1 = 0 → ((x2 < 0 → post 0) ∧ (¬ x2 < 0 → wp_X0_flapsOf (fun r_5 => ((r_5 ≤ x2 → post 0) ∧ (¬ r_5 ≤ x2 → post 1))) s0 x1))))) s0 x1
set_option maxHeartbeats 4000000 in
set_option maxRecDepth 100000 in
theorem c2_X0_hasFlap {l : Launch} {D : va_G} {q : Nat → ClassId} {a0 : Nat → Nat} {s0 : Bd} {x1 : Int32} {x2 : Int32} {post : Int32 → Prop} (h : wp_X0_hasFlap post s0 x1 x2) : Met l yX0_hasFlap (Cond.code yX0_hasFlap cX0_hasFlap 3 (some .boolean) :: w_all) ({ frames := 2, cells := 0, slots := 0, locals := 41 } : Room) (rd_P D q [.ref (a0 0), .int x1, .int x2] (bd_w a0 q s0)) (vp_Si post) 0 0 (fun _ => False) := by
  refine rd_start (by decide) (Nat.le_of_ble_eq_true rfl) ?_
  intro p e s m below meth c ls hx hb hr hml hown ht hk hP hQ hV hl
  have hK := hQ.1
  have hown : s.vm.findClass RX0 = some m.cls := hown
  have hl : lv_has ls 3 [(0, .ref (a0 0)), (1, .int x1), (2, .int x2)] := hl
  have hP : va_P D vwCl [((a0 0), .inr (0, [.int (s0.1 0), .int (s0.1 1), .int (s0.1 2), .int (s0.1 3), .int (s0.1 4), .int (s0.1 5), .ref (a0 1), .ref (a0 2), .ref (a0 3), .ref (a0 4), .ref (a0 5), .ref (a0 6), .ref (a0 7), .ref (a0 8), .ref (a0 9), .ref (a0 10), .ref (a0 11), .ref (a0 12)])), ((a0 1), .inl (q 0, 4, .inl (s0.2.1 0))), ((a0 2), .inl (q 0, 4, .inl (s0.2.1 1))), ((a0 3), .inl (q 0, 160, .inl (s0.2.1 2))), ((a0 4), .inl (q 0, 40, .inl (s0.2.1 3))), ((a0 5), .inl (q 0, 40, .inl (s0.2.1 4))), ((a0 6), .inl (q 0, 40, .inl (s0.2.1 5))), ((a0 7), .inl (q 0, 40, .inl (s0.2.1 6))), ((a0 8), .inl (q 0, 40, .inl (s0.2.1 7))), ((a0 9), .inl (q 0, 40, .inl (s0.2.1 8))), ((a0 10), .inl (q 0, 40, .inl (s0.2.1 9))), ((a0 11), .inl (q 1, 40, .inr (.inl s0.2.2.1))), ((a0 12), .inl (q 0, s0.2.2.2.1, .inl s0.2.2.2.2))] s.heap := hP
  unfold wp_X0_hasFlap at h
  refine lv_aload_n hx hb dX0_hasFlap_0 rfl (lv_at hl 0 rfl) ?_
  refine lv_iload_n hx hb dX0_hasFlap_1 rfl (lv_at hl 1 rfl) ?_
  refine vp_callSi (rd_wV (wc := bd_w a0 q s0) (As := [.int x1]) (rest := []) hx hb hml hown ht (c2_X0_hasCell h) wd_X0_hasCell mw_584 hQ hV va_S.rf (hP.sub [0, 1, 2, 3, 4, 5, 6, 7, 8, 9, 10, 11, 12] rfl) rfl rfl rfl hl.1 rfl (Nat.le_of_ble_eq_true rfl) dX0_hasFlap_2 ⟨Nat.le_of_ble_eq_true rfl, Nat.le_of_ble_eq_true rfl, rfl, rfl⟩ ⟨Nat.le_of_ble_eq_true rfl, Nat.le_of_ble_eq_true rfl⟩) (fun r_1 h => ?_)
  try dsimp only at h
  refine lv_if_eq (tgt := 25) hx hb dX0_hasFlap_5 (by decide) (fun c_3 => ?_) (fun c_3 => ?_)
  · replace h := h.1 c_3
    refine lv_iconst (v := 0) hx hb dX0_hasFlap_25 (by decide) ?_
    exact rd_zret hx hb hr hk rfl h dX0_hasFlap_26
  · replace h := h.2 c_3
    refine lv_iload_n hx hb dX0_hasFlap_8 rfl (lv_at hl 2 rfl) ?_
    refine lv_if_lt (tgt := 25) hx hb dX0_hasFlap_9 (by decide) (fun c_4 => ?_) (fun c_4 => ?_)
    · replace h := h.1 c_4
      refine lv_iconst (v := 0) hx hb dX0_hasFlap_25 (by decide) ?_
      exact rd_zret hx hb hr hk rfl h dX0_hasFlap_26
    · replace h := h.2 c_4
      refine lv_iload_n hx hb dX0_hasFlap_12 rfl (lv_at hl 2 rfl) ?_
      refine lv_aload_n hx hb dX0_hasFlap_13 rfl (lv_at hl 0 rfl) ?_
      refine lv_iload_n hx hb dX0_hasFlap_14 rfl (lv_at hl 1 rfl) ?_
      refine vp_callSi (rd_wV (wc := bd_w a0 q s0) (As := [.int x1]) (rest := [.int x2]) hx hb hml hown ht (c2_X0_flapsOf h) wd_X0_flapsOf mw_651 hQ hV va_S.rf (hP.sub [0, 1, 2, 3, 4, 5, 6, 7, 8, 9, 10, 11, 12] rfl) rfl rfl rfl hl.1 rfl (Nat.le_of_ble_eq_true rfl) dX0_hasFlap_15 ⟨Nat.le_of_ble_eq_true rfl, Nat.le_of_ble_eq_true rfl, rfl, rfl⟩ ⟨Nat.le_of_ble_eq_true rfl, Nat.le_of_ble_eq_true rfl⟩) (fun r_5 h => ?_)
      try dsimp only at h
      refine lv_icmp_ge (tgt := 25) hx hb dX0_hasFlap_18 (by decide) (fun c_7 => ?_) (fun c_7 => ?_)
      · replace h := h.1 c_7
        refine lv_iconst (v := 0) hx hb dX0_hasFlap_25 (by decide) ?_
        exact rd_zret hx hb hr hk rfl h dX0_hasFlap_26
      · replace h := h.2 c_7
        refine lv_iconst (v := 1) hx hb dX0_hasFlap_21 (by decide) ?_
        refine lv_goto (tgt := 26) hx hb dX0_hasFlap_22 (by decide) ?_
        exact rd_zret hx hb hr hk rfl h dX0_hasFlap_26

def wp_X0_flapsOn (post : Int32 → Prop) (s0 : Bd) (x1 : Int32) : Prop := ((x1 < 0 → post 0) ∧ (¬ x1 < 0 → (((s0.1 3) ≤ x1 → post 0) ∧ (¬ (s0.1 3) ≤ x1 → vp_in x1 4 ∧ post ((s0.2.1 1) (Int32.toNatClampNeg x1))))))
set_option maxHeartbeats 4000000 in
set_option maxRecDepth 100000 in
theorem c2_X0_flapsOn {l : Launch} {D : va_G} {q : Nat → ClassId} {a0 : Nat → Nat} {s0 : Bd} {x1 : Int32} {post : Int32 → Prop} (h : wp_X0_flapsOn post s0 x1) : Met l yX0_flapsOn (Cond.code yX0_flapsOn cX0_flapsOn 2 (some .int) :: w_all) ({ frames := 0, cells := 0, slots := 0, locals := 0 } : Room) (rd_P D q [.ref (a0 0), .int x1] (bd_w a0 q s0)) (vp_Si post) 0 0 (fun _ => False) := by
  refine rd_start (by decide) (Nat.le_of_ble_eq_true rfl) ?_
  intro p e s m below meth c ls hx hb hr hml hown ht hk hP hQ hV hl
  have hK := hQ.1
  have hown : s.vm.findClass RX0 = some m.cls := hown
  have hl : lv_has ls 2 [(0, .ref (a0 0)), (1, .int x1)] := hl
  have hP : va_P D vwCl [((a0 0), .inr (0, [.int (s0.1 0), .int (s0.1 1), .int (s0.1 2), .int (s0.1 3), .int (s0.1 4), .int (s0.1 5), .ref (a0 1), .ref (a0 2), .ref (a0 3), .ref (a0 4), .ref (a0 5), .ref (a0 6), .ref (a0 7), .ref (a0 8), .ref (a0 9), .ref (a0 10), .ref (a0 11), .ref (a0 12)])), ((a0 1), .inl (q 0, 4, .inl (s0.2.1 0))), ((a0 2), .inl (q 0, 4, .inl (s0.2.1 1))), ((a0 3), .inl (q 0, 160, .inl (s0.2.1 2))), ((a0 4), .inl (q 0, 40, .inl (s0.2.1 3))), ((a0 5), .inl (q 0, 40, .inl (s0.2.1 4))), ((a0 6), .inl (q 0, 40, .inl (s0.2.1 5))), ((a0 7), .inl (q 0, 40, .inl (s0.2.1 6))), ((a0 8), .inl (q 0, 40, .inl (s0.2.1 7))), ((a0 9), .inl (q 0, 40, .inl (s0.2.1 8))), ((a0 10), .inl (q 0, 40, .inl (s0.2.1 9))), ((a0 11), .inl (q 1, 40, .inr (.inl s0.2.2.1))), ((a0 12), .inl (q 0, s0.2.2.2.1, .inl s0.2.2.2.2))] s.heap := hP
  unfold wp_X0_flapsOn at h
  refine lv_iload_n hx hb dX0_flapsOn_0 rfl (lv_at hl 1 rfl) ?_
  refine lv_if_lt (tgt := 21) hx hb dX0_flapsOn_1 (by decide) (fun c_1 => ?_) (fun c_1 => ?_)
  · replace h := h.1 c_1
    refine lv_iconst (v := 0) hx hb dX0_flapsOn_21 (by decide) ?_
    exact rd_iret hx hb hr hk h dX0_flapsOn_22
  · replace h := h.2 c_1
    refine lv_iload_n hx hb dX0_flapsOn_4 rfl (lv_at hl 1 rfl) ?_
    refine lv_aload_n hx hb dX0_flapsOn_5 rfl (lv_at hl 0 rfl) ?_
    refine fl_get (C := RX0) (T := TX0) (N := 18) (ci := 0) (v := .int (s0.1 3)) hx hb ht in_X0 hown hK hP 0 rfl rfl 3 (by decide) mw_179 rfl dX0_flapsOn_6 ?_
    refine lv_icmp_ge (tgt := 21) hx hb dX0_flapsOn_9 (by decide) (fun c_2 => ?_) (fun c_2 => ?_)
    · replace h := h.1 c_2
      refine lv_iconst (v := 0) hx hb dX0_flapsOn_21 (by decide) ?_
      exact rd_iret hx hb hr hk h dX0_flapsOn_22
    · replace h := h.2 c_2
      refine lv_aload_n hx hb dX0_flapsOn_12 rfl (lv_at hl 0 rfl) ?_
      refine fl_get (C := RX0) (T := TX0) (N := 18) (ci := 0) (v := .ref (a0 2)) hx hb ht in_X0 hown hK hP 0 rfl rfl 7 (by decide) mw_190 rfl dX0_flapsOn_13 ?_
      refine lv_iload_n hx hb dX0_flapsOn_16 rfl (lv_at hl 1 rfl) ?_
      obtain ⟨g_3, h⟩ := h
      refine va_iald hx hb hK hP 2 0 rfl rfl g_3 dX0_flapsOn_17 ?_
      refine lv_goto (tgt := 22) hx hb dX0_flapsOn_18 (by decide) ?_
      exact rd_iret hx hb hr hk h dX0_flapsOn_22

def wp_X0_isMovable (post : Int32 → Prop) (s0 : Bd) (x1 : Int32) (x2 : Int32) : Prop := ((x2 ≤ 0 → post 0) ∧ (¬ x2 ≤ 0 → wp_X0_flapsOn (fun r_2 => ((r_2 ≤ x2 → post 0) ∧ (¬ r_2 ≤ x2 → post 1))) s0 x1))
set_option maxHeartbeats 4000000 in
set_option maxRecDepth 100000 in
theorem c2_X0_isMovable {l : Launch} {D : va_G} {q : Nat → ClassId} {a0 : Nat → Nat} {s0 : Bd} {x1 : Int32} {x2 : Int32} {post : Int32 → Prop} (h : wp_X0_isMovable post s0 x1 x2) : Met l yX0_isMovable (Cond.code yX0_isMovable cX0_isMovable 3 (some .boolean) :: w_all) ({ frames := 1, cells := 0, slots := 0, locals := 21 } : Room) (rd_P D q [.ref (a0 0), .int x1, .int x2] (bd_w a0 q s0)) (vp_Si post) 0 0 (fun _ => False) := by
  refine rd_start (by decide) (Nat.le_of_ble_eq_true rfl) ?_
  intro p e s m below meth c ls hx hb hr hml hown ht hk hP hQ hV hl
  have hK := hQ.1
  have hown : s.vm.findClass RX0 = some m.cls := hown
  have hl : lv_has ls 3 [(0, .ref (a0 0)), (1, .int x1), (2, .int x2)] := hl
  have hP : va_P D vwCl [((a0 0), .inr (0, [.int (s0.1 0), .int (s0.1 1), .int (s0.1 2), .int (s0.1 3), .int (s0.1 4), .int (s0.1 5), .ref (a0 1), .ref (a0 2), .ref (a0 3), .ref (a0 4), .ref (a0 5), .ref (a0 6), .ref (a0 7), .ref (a0 8), .ref (a0 9), .ref (a0 10), .ref (a0 11), .ref (a0 12)])), ((a0 1), .inl (q 0, 4, .inl (s0.2.1 0))), ((a0 2), .inl (q 0, 4, .inl (s0.2.1 1))), ((a0 3), .inl (q 0, 160, .inl (s0.2.1 2))), ((a0 4), .inl (q 0, 40, .inl (s0.2.1 3))), ((a0 5), .inl (q 0, 40, .inl (s0.2.1 4))), ((a0 6), .inl (q 0, 40, .inl (s0.2.1 5))), ((a0 7), .inl (q 0, 40, .inl (s0.2.1 6))), ((a0 8), .inl (q 0, 40, .inl (s0.2.1 7))), ((a0 9), .inl (q 0, 40, .inl (s0.2.1 8))), ((a0 10), .inl (q 0, 40, .inl (s0.2.1 9))), ((a0 11), .inl (q 1, 40, .inr (.inl s0.2.2.1))), ((a0 12), .inl (q 0, s0.2.2.2.1, .inl s0.2.2.2.2))] s.heap := hP
  unfold wp_X0_isMovable at h
  refine lv_iload_n hx hb dX0_isMovable_0 rfl (lv_at hl 2 rfl) ?_
  refine lv_if_le (tgt := 17) hx hb dX0_isMovable_1 (by decide) (fun c_1 => ?_) (fun c_1 => ?_)
  · replace h := h.1 c_1
    refine lv_iconst (v := 0) hx hb dX0_isMovable_17 (by decide) ?_
    exact rd_zret hx hb hr hk rfl h dX0_isMovable_18
  · replace h := h.2 c_1
    refine lv_iload_n hx hb dX0_isMovable_4 rfl (lv_at hl 2 rfl) ?_
    refine lv_aload_n hx hb dX0_isMovable_5 rfl (lv_at hl 0 rfl) ?_
    refine lv_iload_n hx hb dX0_isMovable_6 rfl (lv_at hl 1 rfl) ?_
    refine vp_callSi (rd_wV (wc := bd_w a0 q s0) (As := [.int x1]) (rest := [.int x2]) hx hb hml hown ht (c2_X0_flapsOn h) wd_X0_flapsOn mw_772 hQ hV va_S.rf (hP.sub [0, 1, 2, 3, 4, 5, 6, 7, 8, 9, 10, 11, 12] rfl) rfl rfl rfl hl.1 rfl (Nat.le_of_ble_eq_true rfl) dX0_isMovable_7 ⟨Nat.le_of_ble_eq_true rfl, Nat.le_of_ble_eq_true rfl, rfl, rfl⟩ ⟨Nat.le_of_ble_eq_true rfl, Nat.le_of_ble_eq_true rfl⟩) (fun r_2 h => ?_)
    try dsimp only at h
    refine lv_icmp_ge (tgt := 17) hx hb dX0_isMovable_10 (by decide) (fun c_4 => ?_) (fun c_4 => ?_)
    · replace h := h.1 c_4
      refine lv_iconst (v := 0) hx hb dX0_isMovable_17 (by decide) ?_
      exact rd_zret hx hb hr hk rfl h dX0_isMovable_18
    · replace h := h.2 c_4
      refine lv_iconst (v := 1) hx hb dX0_isMovable_13 (by decide) ?_
      refine lv_goto (tgt := 18) hx hb dX0_isMovable_14 (by decide) ?_
      exact rd_zret hx hb hr hk rfl h dX0_isMovable_18

def wp_X0_currentOf (post : Int32 → Prop) (s0 : Bd) (x1 : Int32) : Prop := vp_in x1 40 ∧ ((((s0.2.1 3) (Int32.toNatClampNeg x1)) < 0 → post 0) ∧ (¬ ((s0.2.1 3) (Int32.toNatClampNeg x1)) < 0 → (((s0.1 3) ≤ ((s0.2.1 3) (Int32.toNatClampNeg x1)) → post 0) ∧ (¬ (s0.1 3) ≤ ((s0.2.1 3) (Int32.toNatClampNeg x1)) → vp_in ((s0.2.1 3) (Int32.toNatClampNeg x1)) 4 ∧ post ((s0.2.1 0) (Int32.toNatClampNeg ((s0.2.1 3) (Int32.toNatClampNeg x1))))))))
set_option maxHeartbeats 4000000 in
set_option maxRecDepth 100000 in
theorem c2_X0_currentOf {l : Launch} {D : va_G} {q : Nat → ClassId} {a0 : Nat → Nat} {s0 : Bd} {x1 : Int32} {post : Int32 → Prop} (h : wp_X0_currentOf post s0 x1) : Met l yX0_currentOf (Cond.code yX0_currentOf cX0_currentOf 3 (some .int) :: w_all) ({ frames := 0, cells := 0, slots := 0, locals := 0 } : Room) (rd_P D q [.ref (a0 0), .int x1] (bd_w a0 q s0)) (vp_Si post) 0 0 (fun _ => False) := by
  refine rd_start (by decide) (Nat.le_of_ble_eq_true rfl) ?_
  intro p e s m below meth c ls hx hb hr hml hown ht hk hP hQ hV hl
  have hK := hQ.1
  have hown : s.vm.findClass RX0 = some m.cls := hown
  have hl : lv_has ls 3 [(0, .ref (a0 0)), (1, .int x1)] := hl
  have hP : va_P D vwCl [((a0 0), .inr (0, [.int (s0.1 0), .int (s0.1 1), .int (s0.1 2), .int (s0.1 3), .int (s0.1 4), .int (s0.1 5), .ref (a0 1), .ref (a0 2), .ref (a0 3), .ref (a0 4), .ref (a0 5), .ref (a0 6), .ref (a0 7), .ref (a0 8), .ref (a0 9), .ref (a0 10), .ref (a0 11), .ref (a0 12)])), ((a0 1), .inl (q 0, 4, .inl (s0.2.1 0))), ((a0 2), .inl (q 0, 4, .inl (s0.2.1 1))), ((a0 3), .inl (q 0, 160, .inl (s0.2.1 2))), ((a0 4), .inl (q 0, 40, .inl (s0.2.1 3))), ((a0 5), .inl (q 0, 40, .inl (s0.2.1 4))), ((a0 6), .inl (q 0, 40, .inl (s0.2.1 5))), ((a0 7), .inl (q 0, 40, .inl (s0.2.1 6))), ((a0 8), .inl (q 0, 40, .inl (s0.2.1 7))), ((a0 9), .inl (q 0, 40, .inl (s0.2.1 8))), ((a0 10), .inl (q 0, 40, .inl (s0.2.1 9))), ((a0 11), .inl (q 1, 40, .inr (.inl s0.2.2.1))), ((a0 12), .inl (q 0, s0.2.2.2.1, .inl s0.2.2.2.2))] s.heap := hP
  unfold wp_X0_currentOf at h
  refine lv_aload_n hx hb dX0_currentOf_0 rfl (lv_at hl 0 rfl) ?_
  refine fl_get (C := RX0) (T := TX0) (N := 18) (ci := 0) (v := .ref (a0 4)) hx hb ht in_X0 hown hK hP 0 rfl rfl 9 (by decide) mw_192 rfl dX0_currentOf_1 ?_
  refine lv_iload_n hx hb dX0_currentOf_4 rfl (lv_at hl 1 rfl) ?_
  obtain ⟨g_1, h⟩ := h
  refine va_iald hx hb hK hP 4 0 rfl rfl g_1 dX0_currentOf_5 ?_
  refine lv_istore_n (lv' := [(2, .int ((s0.2.1 3) (Int32.toNatClampNeg x1))), (0, .ref (a0 0)), (1, .int x1)]) hx hb dX0_currentOf_6 rfl hl (by decide) rfl (fun ls hl => ?_)
  refine lv_iload_n hx hb dX0_currentOf_7 rfl (lv_at hl 0 rfl) ?_
  refine lv_if_lt (tgt := 28) hx hb dX0_currentOf_8 (by decide) (fun c_2 => ?_) (fun c_2 => ?_)
  · replace h := h.1 c_2
    refine lv_iconst (v := 0) hx hb dX0_currentOf_28 (by decide) ?_
    exact rd_iret hx hb hr hk h dX0_currentOf_29
  · replace h := h.2 c_2
    refine lv_iload_n hx hb dX0_currentOf_11 rfl (lv_at hl 0 rfl) ?_
    refine lv_aload_n hx hb dX0_currentOf_12 rfl (lv_at hl 1 rfl) ?_
    refine fl_get (C := RX0) (T := TX0) (N := 18) (ci := 0) (v := .int (s0.1 3)) hx hb ht in_X0 hown hK hP 0 rfl rfl 3 (by decide) mw_179 rfl dX0_currentOf_13 ?_
    refine lv_icmp_ge (tgt := 28) hx hb dX0_currentOf_16 (by decide) (fun c_3 => ?_) (fun c_3 => ?_)
    · replace h := h.1 c_3
      refine lv_iconst (v := 0) hx hb dX0_currentOf_28 (by decide) ?_
      exact rd_iret hx hb hr hk h dX0_currentOf_29
    · replace h := h.2 c_3
      refine lv_aload_n hx hb dX0_currentOf_19 rfl (lv_at hl 1 rfl) ?_
      refine fl_get (C := RX0) (T := TX0) (N := 18) (ci := 0) (v := .ref (a0 1)) hx hb ht in_X0 hown hK hP 0 rfl rfl 6 (by decide) mw_188 rfl dX0_currentOf_20 ?_
      refine lv_iload_n hx hb dX0_currentOf_23 rfl (lv_at hl 0 rfl) ?_
      obtain ⟨g_4, h⟩ := h
      refine va_iald hx hb hK hP 1 0 rfl rfl g_4 dX0_currentOf_24 ?_
      refine lv_goto (tgt := 29) hx hb dX0_currentOf_25 (by decide) ?_
      exact rd_iret hx hb hr hk h dX0_currentOf_29

def wp_X0_signOf (post : Int32 → Prop) (s0 : Bd) (x1 : Int32) (x2 : Int32) : Prop := ((x1 < 0 → post (-1)) ∧ (¬ x1 < 0 → (((s0.1 3) ≤ x1 → post (-1)) ∧ (¬ (s0.1 3) ≤ x1 → ((x2 < 0 → post (-1)) ∧ (¬ x2 < 0 → vp_in x1 4 ∧ ((x2 < ((s0.2.1 1) (Int32.toNatClampNeg x1)) → vp_in ((x1 * 40) + x2) 160 ∧ post ((s0.2.1 2) (Int32.toNatClampNeg ((x1 * 40) + x2)))) ∧ (¬ x2 < ((s0.2.1 1) (Int32.toNatClampNeg x1)) → post (-1)))))))))
set_option maxHeartbeats 4000000 in
set_option maxRecDepth 100000 in
theorem c2_X0_signOf {l : Launch} {D : va_G} {q : Nat → ClassId} {a0 : Nat → Nat} {s0 : Bd} {x1 : Int32} {x2 : Int32} {post : Int32 → Prop} (h : wp_X0_signOf post s0 x1 x2) : Met l yX0_signOf (Cond.code yX0_signOf cX0_signOf 3 (some .int) :: w_all) ({ frames := 0, cells := 0, slots := 0, locals := 0 } : Room) (rd_P D q [.ref (a0 0), .int x1, .int x2] (bd_w a0 q s0)) (vp_Si post) 0 0 (fun _ => False) := by
  refine rd_start (by decide) (Nat.le_of_ble_eq_true rfl) ?_
  intro p e s m below meth c ls hx hb hr hml hown ht hk hP hQ hV hl
  have hK := hQ.1
  have hown : s.vm.findClass RX0 = some m.cls := hown
  have hl : lv_has ls 3 [(0, .ref (a0 0)), (1, .int x1), (2, .int x2)] := hl
  have hP : va_P D vwCl [((a0 0), .inr (0, [.int (s0.1 0), .int (s0.1 1), .int (s0.1 2), .int (s0.1 3), .int (s0.1 4), .int (s0.1 5), .ref (a0 1), .ref (a0 2), .ref (a0 3), .ref (a0 4), .ref (a0 5), .ref (a0 6), .ref (a0 7), .ref (a0 8), .ref (a0 9), .ref (a0 10), .ref (a0 11), .ref (a0 12)])), ((a0 1), .inl (q 0, 4, .inl (s0.2.1 0))), ((a0 2), .inl (q 0, 4, .inl (s0.2.1 1))), ((a0 3), .inl (q 0, 160, .inl (s0.2.1 2))), ((a0 4), .inl (q 0, 40, .inl (s0.2.1 3))), ((a0 5), .inl (q 0, 40, .inl (s0.2.1 4))), ((a0 6), .inl (q 0, 40, .inl (s0.2.1 5))), ((a0 7), .inl (q 0, 40, .inl (s0.2.1 6))), ((a0 8), .inl (q 0, 40, .inl (s0.2.1 7))), ((a0 9), .inl (q 0, 40, .inl (s0.2.1 8))), ((a0 10), .inl (q 0, 40, .inl (s0.2.1 9))), ((a0 11), .inl (q 1, 40, .inr (.inl s0.2.2.1))), ((a0 12), .inl (q 0, s0.2.2.2.1, .inl s0.2.2.2.2))] s.heap := hP
  unfold wp_X0_signOf at h
  refine lv_iload_n hx hb dX0_signOf_0 rfl (lv_at hl 1 rfl) ?_
  refine lv_if_lt (tgt := 26) hx hb dX0_signOf_1 (by decide) (fun c_1 => ?_) (fun c_1 => ?_)
  · replace h := h.1 c_1
    refine lv_iconst (v := (-1)) hx hb dX0_signOf_26 (by decide) ?_
    exact rd_iret hx hb hr hk h dX0_signOf_27
  · replace h := h.2 c_1
    refine lv_iload_n hx hb dX0_signOf_4 rfl (lv_at hl 1 rfl) ?_
    refine lv_aload_n hx hb dX0_signOf_5 rfl (lv_at hl 0 rfl) ?_
    refine fl_get (C := RX0) (T := TX0) (N := 18) (ci := 0) (v := .int (s0.1 3)) hx hb ht in_X0 hown hK hP 0 rfl rfl 3 (by decide) mw_179 rfl dX0_signOf_6 ?_
    refine lv_icmp_ge (tgt := 26) hx hb dX0_signOf_9 (by decide) (fun c_2 => ?_) (fun c_2 => ?_)
    · replace h := h.1 c_2
      refine lv_iconst (v := (-1)) hx hb dX0_signOf_26 (by decide) ?_
      exact rd_iret hx hb hr hk h dX0_signOf_27
    · replace h := h.2 c_2
      refine lv_iload_n hx hb dX0_signOf_12 rfl (lv_at hl 2 rfl) ?_
      refine lv_if_lt (tgt := 26) hx hb dX0_signOf_13 (by decide) (fun c_3 => ?_) (fun c_3 => ?_)
      · replace h := h.1 c_3
        refine lv_iconst (v := (-1)) hx hb dX0_signOf_26 (by decide) ?_
        exact rd_iret hx hb hr hk h dX0_signOf_27
      · replace h := h.2 c_3
        refine lv_iload_n hx hb dX0_signOf_16 rfl (lv_at hl 2 rfl) ?_
        refine lv_aload_n hx hb dX0_signOf_17 rfl (lv_at hl 0 rfl) ?_
        refine fl_get (C := RX0) (T := TX0) (N := 18) (ci := 0) (v := .ref (a0 2)) hx hb ht in_X0 hown hK hP 0 rfl rfl 7 (by decide) mw_190 rfl dX0_signOf_18 ?_
        refine lv_iload_n hx hb dX0_signOf_21 rfl (lv_at hl 1 rfl) ?_
        obtain ⟨g_4, h⟩ := h
        refine va_iald hx hb hK hP 2 0 rfl rfl g_4 dX0_signOf_22 ?_
        refine lv_icmp_lt (tgt := 28) hx hb dX0_signOf_23 (by decide) (fun c_5 => ?_) (fun c_5 => ?_)
        · replace h := h.1 c_5
          refine lv_aload_n hx hb dX0_signOf_28 rfl (lv_at hl 0 rfl) ?_
          refine fl_get (C := RX0) (T := TX0) (N := 18) (ci := 0) (v := .ref (a0 3)) hx hb ht in_X0 hown hK hP 0 rfl rfl 8 (by decide) mw_191 rfl dX0_signOf_29 ?_
          refine lv_iload_n hx hb dX0_signOf_32 rfl (lv_at hl 1 rfl) ?_
          refine lv_bipush (v := 40) hx hb dX0_signOf_33 (by decide) ?_
          refine lv_imul hx hb dX0_signOf_35 ?_
          refine lv_iload_n hx hb dX0_signOf_36 rfl (lv_at hl 2 rfl) ?_
          refine lv_iadd hx hb dX0_signOf_37 ?_
          obtain ⟨g_6, h⟩ := h
          refine va_iald hx hb hK hP 3 0 rfl rfl g_6 dX0_signOf_38 ?_
          exact rd_iret hx hb hr hk h dX0_signOf_39
        · replace h := h.2 c_5
          refine lv_iconst (v := (-1)) hx hb dX0_signOf_26 (by decide) ?_
          exact rd_iret hx hb hr hk h dX0_signOf_27

def wp_X0_signOn (post : Int32 → Prop) (s0 : Bd) (x1 : Int32) (x2 : Int32) : Prop := vp_in x1 40 ∧ wp_X0_signOf (fun r_2 => post r_2) s0 ((s0.2.1 3) (Int32.toNatClampNeg x1)) x2
set_option maxHeartbeats 4000000 in
set_option maxRecDepth 100000 in
theorem c2_X0_signOn {l : Launch} {D : va_G} {q : Nat → ClassId} {a0 : Nat → Nat} {s0 : Bd} {x1 : Int32} {x2 : Int32} {post : Int32 → Prop} (h : wp_X0_signOn post s0 x1 x2) : Met l yX0_signOn (Cond.code yX0_signOn cX0_signOn 3 (some .int) :: w_all) ({ frames := 1, cells := 0, slots := 0, locals := 22 } : Room) (rd_P D q [.ref (a0 0), .int x1, .int x2] (bd_w a0 q s0)) (vp_Si post) 0 0 (fun _ => False) := by
  refine rd_start (by decide) (Nat.le_of_ble_eq_true rfl) ?_
  intro p e s m below meth c ls hx hb hr hml hown ht hk hP hQ hV hl
  have hK := hQ.1
  have hown : s.vm.findClass RX0 = some m.cls := hown
  have hl : lv_has ls 3 [(0, .ref (a0 0)), (1, .int x1), (2, .int x2)] := hl
  have hP : va_P D vwCl [((a0 0), .inr (0, [.int (s0.1 0), .int (s0.1 1), .int (s0.1 2), .int (s0.1 3), .int (s0.1 4), .int (s0.1 5), .ref (a0 1), .ref (a0 2), .ref (a0 3), .ref (a0 4), .ref (a0 5), .ref (a0 6), .ref (a0 7), .ref (a0 8), .ref (a0 9), .ref (a0 10), .ref (a0 11), .ref (a0 12)])), ((a0 1), .inl (q 0, 4, .inl (s0.2.1 0))), ((a0 2), .inl (q 0, 4, .inl (s0.2.1 1))), ((a0 3), .inl (q 0, 160, .inl (s0.2.1 2))), ((a0 4), .inl (q 0, 40, .inl (s0.2.1 3))), ((a0 5), .inl (q 0, 40, .inl (s0.2.1 4))), ((a0 6), .inl (q 0, 40, .inl (s0.2.1 5))), ((a0 7), .inl (q 0, 40, .inl (s0.2.1 6))), ((a0 8), .inl (q 0, 40, .inl (s0.2.1 7))), ((a0 9), .inl (q 0, 40, .inl (s0.2.1 8))), ((a0 10), .inl (q 0, 40, .inl (s0.2.1 9))), ((a0 11), .inl (q 1, 40, .inr (.inl s0.2.2.1))), ((a0 12), .inl (q 0, s0.2.2.2.1, .inl s0.2.2.2.2))] s.heap := hP
  unfold wp_X0_signOn at h
  refine lv_aload_n hx hb dX0_signOn_0 rfl (lv_at hl 0 rfl) ?_
  refine lv_aload_n hx hb dX0_signOn_1 rfl (lv_at hl 0 rfl) ?_
  refine fl_get (C := RX0) (T := TX0) (N := 18) (ci := 0) (v := .ref (a0 4)) hx hb ht in_X0 hown hK hP 0 rfl rfl 9 (by decide) mw_192 rfl dX0_signOn_2 ?_
  refine lv_iload_n hx hb dX0_signOn_5 rfl (lv_at hl 1 rfl) ?_
  obtain ⟨g_1, h⟩ := h
  refine va_iald hx hb hK hP 4 0 rfl rfl g_1 dX0_signOn_6 ?_
  refine lv_iload_n hx hb dX0_signOn_7 rfl (lv_at hl 2 rfl) ?_
  refine vp_callSi (rd_wV (wc := bd_w a0 q s0) (As := [.int ((s0.2.1 3) (Int32.toNatClampNeg x1)), .int x2]) (rest := []) hx hb hml hown ht (c2_X0_signOf h) wd_X0_signOf mw_668 hQ hV va_S.rf (hP.sub [0, 1, 2, 3, 4, 5, 6, 7, 8, 9, 10, 11, 12] rfl) rfl rfl rfl hl.1 rfl (Nat.le_of_ble_eq_true rfl) dX0_signOn_8 ⟨Nat.le_of_ble_eq_true rfl, Nat.le_of_ble_eq_true rfl, rfl, rfl⟩ ⟨Nat.le_of_ble_eq_true rfl, Nat.le_of_ble_eq_true rfl⟩) (fun r_2 h => ?_)
  try dsimp only at h
  exact rd_iret hx hb hr hk h dX0_signOn_11

def wp_X0_wantedSign (post : Int32 → Prop) (s0 : Bd) (x1 : Int32) : Prop := vp_in x1 40 ∧ wp_X0_signOn (fun r_2 => post r_2) s0 x1 ((s0.2.1 6) (Int32.toNatClampNeg x1))
set_option maxHeartbeats 4000000 in
set_option maxRecDepth 100000 in
theorem c2_X0_wantedSign {l : Launch} {D : va_G} {q : Nat → ClassId} {a0 : Nat → Nat} {s0 : Bd} {x1 : Int32} {post : Int32 → Prop} (h : wp_X0_wantedSign post s0 x1) : Met l yX0_wantedSign (Cond.code yX0_wantedSign cX0_wantedSign 2 (some .int) :: w_all) ({ frames := 2, cells := 0, slots := 0, locals := 44 } : Room) (rd_P D q [.ref (a0 0), .int x1] (bd_w a0 q s0)) (vp_Si post) 0 0 (fun _ => False) := by
  refine rd_start (by decide) (Nat.le_of_ble_eq_true rfl) ?_
  intro p e s m below meth c ls hx hb hr hml hown ht hk hP hQ hV hl
  have hK := hQ.1
  have hown : s.vm.findClass RX0 = some m.cls := hown
  have hl : lv_has ls 2 [(0, .ref (a0 0)), (1, .int x1)] := hl
  have hP : va_P D vwCl [((a0 0), .inr (0, [.int (s0.1 0), .int (s0.1 1), .int (s0.1 2), .int (s0.1 3), .int (s0.1 4), .int (s0.1 5), .ref (a0 1), .ref (a0 2), .ref (a0 3), .ref (a0 4), .ref (a0 5), .ref (a0 6), .ref (a0 7), .ref (a0 8), .ref (a0 9), .ref (a0 10), .ref (a0 11), .ref (a0 12)])), ((a0 1), .inl (q 0, 4, .inl (s0.2.1 0))), ((a0 2), .inl (q 0, 4, .inl (s0.2.1 1))), ((a0 3), .inl (q 0, 160, .inl (s0.2.1 2))), ((a0 4), .inl (q 0, 40, .inl (s0.2.1 3))), ((a0 5), .inl (q 0, 40, .inl (s0.2.1 4))), ((a0 6), .inl (q 0, 40, .inl (s0.2.1 5))), ((a0 7), .inl (q 0, 40, .inl (s0.2.1 6))), ((a0 8), .inl (q 0, 40, .inl (s0.2.1 7))), ((a0 9), .inl (q 0, 40, .inl (s0.2.1 8))), ((a0 10), .inl (q 0, 40, .inl (s0.2.1 9))), ((a0 11), .inl (q 1, 40, .inr (.inl s0.2.2.1))), ((a0 12), .inl (q 0, s0.2.2.2.1, .inl s0.2.2.2.2))] s.heap := hP
  unfold wp_X0_wantedSign at h
  refine lv_aload_n hx hb dX0_wantedSign_0 rfl (lv_at hl 0 rfl) ?_
  refine lv_iload_n hx hb dX0_wantedSign_1 rfl (lv_at hl 1 rfl) ?_
  refine lv_aload_n hx hb dX0_wantedSign_2 rfl (lv_at hl 0 rfl) ?_
  refine fl_get (C := RX0) (T := TX0) (N := 18) (ci := 0) (v := .ref (a0 7)) hx hb ht in_X0 hown hK hP 0 rfl rfl 12 (by decide) mw_198 rfl dX0_wantedSign_3 ?_
  refine lv_iload_n hx hb dX0_wantedSign_6 rfl (lv_at hl 1 rfl) ?_
  obtain ⟨g_1, h⟩ := h
  refine va_iald hx hb hK hP 7 0 rfl rfl g_1 dX0_wantedSign_7 ?_
  refine vp_callSi (rd_wV (wc := bd_w a0 q s0) (As := [.int x1, .int ((s0.2.1 6) (Int32.toNatClampNeg x1))]) (rest := []) hx hb hml hown ht (c2_X0_signOn h) wd_X0_signOn mw_664 hQ hV va_S.rf (hP.sub [0, 1, 2, 3, 4, 5, 6, 7, 8, 9, 10, 11, 12] rfl) rfl rfl rfl hl.1 rfl (Nat.le_of_ble_eq_true rfl) dX0_wantedSign_8 ⟨Nat.le_of_ble_eq_true rfl, Nat.le_of_ble_eq_true rfl, rfl, rfl⟩ ⟨Nat.le_of_ble_eq_true rfl, Nat.le_of_ble_eq_true rfl⟩) (fun r_2 h => ?_)
  try dsimp only at h
  exact rd_iret hx hb hr hk h dX0_wantedSign_11

def wp_X0_showsWrong (post : Int32 → Prop) (s0 : Bd) (x1 : Int32) : Prop := vp_in x1 40 ∧ wp_X0_signOn (fun r_2 => wp_X0_wantedSign (fun r_4 => ((r_2 = r_4 → post 0) ∧ (¬ r_2 = r_4 → post 1))) s0 x1) s0 x1 ((s0.2.1 4) (Int32.toNatClampNeg x1))
set_option maxHeartbeats 4000000 in
set_option maxRecDepth 100000 in
theorem c2_X0_showsWrong {l : Launch} {D : va_G} {q : Nat → ClassId} {a0 : Nat → Nat} {s0 : Bd} {x1 : Int32} {post : Int32 → Prop} (h : wp_X0_showsWrong post s0 x1) : Met l yX0_showsWrong (Cond.code yX0_showsWrong cX0_showsWrong 2 (some .boolean) :: w_all) ({ frames := 3, cells := 0, slots := 0, locals := 65 } : Room) (rd_P D q [.ref (a0 0), .int x1] (bd_w a0 q s0)) (vp_Si post) 0 0 (fun _ => False) := by
  refine rd_start (by decide) (Nat.le_of_ble_eq_true rfl) ?_
  intro p e s m below meth c ls hx hb hr hml hown ht hk hP hQ hV hl
  have hK := hQ.1
  have hown : s.vm.findClass RX0 = some m.cls := hown
  have hl : lv_has ls 2 [(0, .ref (a0 0)), (1, .int x1)] := hl
  have hP : va_P D vwCl [((a0 0), .inr (0, [.int (s0.1 0), .int (s0.1 1), .int (s0.1 2), .int (s0.1 3), .int (s0.1 4), .int (s0.1 5), .ref (a0 1), .ref (a0 2), .ref (a0 3), .ref (a0 4), .ref (a0 5), .ref (a0 6), .ref (a0 7), .ref (a0 8), .ref (a0 9), .ref (a0 10), .ref (a0 11), .ref (a0 12)])), ((a0 1), .inl (q 0, 4, .inl (s0.2.1 0))), ((a0 2), .inl (q 0, 4, .inl (s0.2.1 1))), ((a0 3), .inl (q 0, 160, .inl (s0.2.1 2))), ((a0 4), .inl (q 0, 40, .inl (s0.2.1 3))), ((a0 5), .inl (q 0, 40, .inl (s0.2.1 4))), ((a0 6), .inl (q 0, 40, .inl (s0.2.1 5))), ((a0 7), .inl (q 0, 40, .inl (s0.2.1 6))), ((a0 8), .inl (q 0, 40, .inl (s0.2.1 7))), ((a0 9), .inl (q 0, 40, .inl (s0.2.1 8))), ((a0 10), .inl (q 0, 40, .inl (s0.2.1 9))), ((a0 11), .inl (q 1, 40, .inr (.inl s0.2.2.1))), ((a0 12), .inl (q 0, s0.2.2.2.1, .inl s0.2.2.2.2))] s.heap := hP
  unfold wp_X0_showsWrong at h
  refine lv_aload_n hx hb dX0_showsWrong_0 rfl (lv_at hl 0 rfl) ?_
  refine lv_iload_n hx hb dX0_showsWrong_1 rfl (lv_at hl 1 rfl) ?_
  refine lv_aload_n hx hb dX0_showsWrong_2 rfl (lv_at hl 0 rfl) ?_
  refine fl_get (C := RX0) (T := TX0) (N := 18) (ci := 0) (v := .ref (a0 5)) hx hb ht in_X0 hown hK hP 0 rfl rfl 10 (by decide) mw_194 rfl dX0_showsWrong_3 ?_
  refine lv_iload_n hx hb dX0_showsWrong_6 rfl (lv_at hl 1 rfl) ?_
  obtain ⟨g_1, h⟩ := h
  refine va_iald hx hb hK hP 5 0 rfl rfl g_1 dX0_showsWrong_7 ?_
  refine vp_callSi (rd_wV (wc := bd_w a0 q s0) (As := [.int x1, .int ((s0.2.1 4) (Int32.toNatClampNeg x1))]) (rest := []) hx hb hml hown ht (c2_X0_signOn h) wd_X0_signOn mw_664 hQ hV va_S.rf (hP.sub [0, 1, 2, 3, 4, 5, 6, 7, 8, 9, 10, 11, 12] rfl) rfl rfl rfl hl.1 rfl (Nat.le_of_ble_eq_true rfl) dX0_showsWrong_8 ⟨Nat.le_of_ble_eq_true rfl, Nat.le_of_ble_eq_true rfl, rfl, rfl⟩ ⟨Nat.le_of_ble_eq_true rfl, Nat.le_of_ble_eq_true rfl⟩) (fun r_2 h => ?_)
  try dsimp only at h
  refine lv_aload_n hx hb dX0_showsWrong_11 rfl (lv_at hl 0 rfl) ?_
  refine lv_iload_n hx hb dX0_showsWrong_12 rfl (lv_at hl 1 rfl) ?_
  refine vp_callSi (rd_wV (wc := bd_w a0 q s0) (As := [.int x1]) (rest := [.int r_2]) hx hb hml hown ht (c2_X0_wantedSign h) wd_X0_wantedSign mw_660 hQ hV va_S.rf (hP.sub [0, 1, 2, 3, 4, 5, 6, 7, 8, 9, 10, 11, 12] rfl) rfl rfl rfl hl.1 rfl (Nat.le_of_ble_eq_true rfl) dX0_showsWrong_13 ⟨Nat.le_of_ble_eq_true rfl, Nat.le_of_ble_eq_true rfl, rfl, rfl⟩ ⟨Nat.le_of_ble_eq_true rfl, Nat.le_of_ble_eq_true rfl⟩) (fun r_4 h => ?_)
  try dsimp only at h
  refine lv_icmp_eq (tgt := 23) hx hb dX0_showsWrong_16 (by decide) (fun c_6 => ?_) (fun c_6 => ?_)
  · replace h := h.1 c_6
    refine lv_iconst (v := 0) hx hb dX0_showsWrong_23 (by decide) ?_
    exact rd_zret hx hb hr hk rfl h dX0_showsWrong_24
  · replace h := h.2 c_6
    refine lv_iconst (v := 1) hx hb dX0_showsWrong_19 (by decide) ?_
    refine lv_goto (tgt := 24) hx hb dX0_showsWrong_20 (by decide) ?_
    exact rd_zret hx hb hr hk rfl h dX0_showsWrong_24

def wp_X0_wrongCount_L4 (s0 : Bd) (post : Int32 → Prop) (e29 : Int32 → Int32 → Prop) : Nat → Int32 → Int32 → Prop
  | 0, _, _ => False
  | n4 + 1, z1, z2 => wp_X0_cells (fun r_1 => ((r_1 ≤ z2 → e29 z1 z2) ∧ (¬ r_1 ≤ z2 → wp_X0_showsWrong (fun r_4 => ((r_4 = 0 → wp_X0_wrongCount_L4 s0 post e29 n4 z1 (z2 + 1)) ∧ (¬ r_4 = 0 → wp_X0_wrongCount_L4 s0 post e29 n4 (z1 + 1) (z2 + 1)))) s0 z2))) s0
def wp_X0_wrongCount (post : Int32 → Prop) (s0 : Bd) : Prop := (∃ n4, wp_X0_wrongCount_L4 s0 post (fun z1 z2 => post z1) n4 0 0)
set_option maxHeartbeats 4000000 in
set_option maxRecDepth 100000 in
theorem c2_X0_wrongCount {l : Launch} {D : va_G} {q : Nat → ClassId} {a0 : Nat → Nat} {s0 : Bd} {post : Int32 → Prop} (h : wp_X0_wrongCount post s0) : Met l yX0_wrongCount (Cond.code yX0_wrongCount cX0_wrongCount 3 (some .int) :: w_all) ({ frames := 4, cells := 0, slots := 0, locals := 86 } : Room) (rd_P D q [.ref (a0 0)] (bd_w a0 q s0)) (vp_Si post) 0 0 (fun _ => False) := by
  refine rd_start (by decide) (Nat.le_of_ble_eq_true rfl) ?_
  intro p e s m below meth c ls hx hb hr hml hown ht hk hP hQ hV hl
  have hK := hQ.1
  have hown : s.vm.findClass RX0 = some m.cls := hown
  have hl : lv_has ls 3 [(0, .ref (a0 0))] := hl
  have hP : va_P D vwCl [((a0 0), .inr (0, [.int (s0.1 0), .int (s0.1 1), .int (s0.1 2), .int (s0.1 3), .int (s0.1 4), .int (s0.1 5), .ref (a0 1), .ref (a0 2), .ref (a0 3), .ref (a0 4), .ref (a0 5), .ref (a0 6), .ref (a0 7), .ref (a0 8), .ref (a0 9), .ref (a0 10), .ref (a0 11), .ref (a0 12)])), ((a0 1), .inl (q 0, 4, .inl (s0.2.1 0))), ((a0 2), .inl (q 0, 4, .inl (s0.2.1 1))), ((a0 3), .inl (q 0, 160, .inl (s0.2.1 2))), ((a0 4), .inl (q 0, 40, .inl (s0.2.1 3))), ((a0 5), .inl (q 0, 40, .inl (s0.2.1 4))), ((a0 6), .inl (q 0, 40, .inl (s0.2.1 5))), ((a0 7), .inl (q 0, 40, .inl (s0.2.1 6))), ((a0 8), .inl (q 0, 40, .inl (s0.2.1 7))), ((a0 9), .inl (q 0, 40, .inl (s0.2.1 8))), ((a0 10), .inl (q 0, 40, .inl (s0.2.1 9))), ((a0 11), .inl (q 1, 40, .inr (.inl s0.2.2.1))), ((a0 12), .inl (q 0, s0.2.2.2.1, .inl s0.2.2.2.2))] s.heap := hP
  unfold wp_X0_wrongCount at h
  refine lv_iconst (v := 0) hx hb dX0_wrongCount_0 (by decide) ?_
  refine lv_istore_n (lv' := [(1, .int 0), (0, .ref (a0 0))]) hx hb dX0_wrongCount_1 rfl hl (by decide) rfl (fun ls hl => ?_)
  refine lv_iconst (v := 0) hx hb dX0_wrongCount_2 (by decide) ?_
  refine lv_istore_n (lv' := [(2, .int 0), (1, .int 0), (0, .ref (a0 0))]) hx hb dX0_wrongCount_3 rfl hl (by decide) rfl (fun ls hl => ?_)
  have lp4 : ∀ (e29 : Int32 → Int32 → Prop) (k29 : ∀ (z1 : Int32) (z2 : Int32) (ls : Array Slot), e29 z1 z2 → lv_has ls 3 [(1, .int z1), (2, .int z2), (0, .ref (a0 0))] → W p l e ({ frames := 4, cells := 0, slots := 0, locals := 86 } : Room) s m [.ref (a0 0)].toArray below meth c s.heap [] 0 0 (MQ below (vp_Si post) [.ref (a0 0)].toArray s 0 0 (fun _ => False)) (F0 m 29 ls [])) (n : Nat) (z1 : Int32) (z2 : Int32) (ls : Array Slot), wp_X0_wrongCount_L4 s0 post e29 n z1 z2 → lv_has ls 3 [(1, .int z1), (2, .int z2), (0, .ref (a0 0))] → W p l e ({ frames := 4, cells := 0, slots := 0, locals := 86 } : Room) s m [.ref (a0 0)].toArray below meth c s.heap [] 0 0 (MQ below (vp_Si post) [.ref (a0 0)].toArray s 0 0 (fun _ => False)) (F0 m 4 ls []) := by
    intro e29 k29 n
    induction n with
    | zero =>
      intro z1 z2 ls h
      exact h.elim
    | succ n ih =>
      intro z1 z2 ls h hl
      unfold wp_X0_wrongCount_L4 at h
      refine lv_iload_n hx hb dX0_wrongCount_4 rfl (lv_at hl 1 rfl) ?_
      refine lv_aload_n hx hb dX0_wrongCount_5 rfl (lv_at hl 2 rfl) ?_
      refine vp_callSi (rd_wV (wc := bd_w a0 q s0) (As := []) (rest := [.int z2]) hx hb hml hown ht (c2_X0_cells h) wd_X0_cells mw_588 hQ hV va_S.rf (hP.sub [0, 1, 2, 3, 4, 5, 6, 7, 8, 9, 10, 11, 12] rfl) rfl rfl rfl hl.1 rfl (Nat.le_of_ble_eq_true rfl) dX0_wrongCount_6 ⟨Nat.le_of_ble_eq_true rfl, Nat.le_of_ble_eq_true rfl, rfl, rfl⟩ ⟨Nat.le_of_ble_eq_true rfl, Nat.le_of_ble_eq_true rfl⟩) (fun r_1 h => ?_)
      try dsimp only at h
      refine lv_icmp_ge (tgt := 29) hx hb dX0_wrongCount_9 (by decide) (fun c_3 => ?_) (fun c_3 => ?_)
      · replace h := h.1 c_3
        exact k29 _ _ ls h (lv_sub hl [0, 1, 2] rfl)
      · replace h := h.2 c_3
        refine lv_aload_n hx hb dX0_wrongCount_12 rfl (lv_at hl 2 rfl) ?_
        refine lv_iload_n hx hb dX0_wrongCount_13 rfl (lv_at hl 1 rfl) ?_
        refine vp_callSi (rd_wV (wc := bd_w a0 q s0) (As := [.int z2]) (rest := []) hx hb hml hown ht (c2_X0_showsWrong h) wd_X0_showsWrong mw_988 hQ hV va_S.rf (hP.sub [0, 1, 2, 3, 4, 5, 6, 7, 8, 9, 10, 11, 12] rfl) rfl rfl rfl hl.1 rfl (Nat.le_of_ble_eq_true rfl) dX0_wrongCount_14 ⟨Nat.le_of_ble_eq_true rfl, Nat.le_of_ble_eq_true rfl, rfl, rfl⟩ ⟨Nat.le_of_ble_eq_true rfl, Nat.le_of_ble_eq_true rfl⟩) (fun r_4 h => ?_)
        try dsimp only at h
        refine lv_if_eq (tgt := 23) hx hb dX0_wrongCount_17 (by decide) (fun c_6 => ?_) (fun c_6 => ?_)
        · replace h := h.1 c_6
          refine lv_iinc (v := (z2 + 1)) (lv' := [(2, .int (z2 + 1)), (1, .int z1), (0, .ref (a0 0))]) hx hb dX0_wrongCount_23 hl (k := 1) rfl rfl (by decide) rfl (fun ls hl => ?_)
          refine lv_goto (tgt := 4) hx hb dX0_wrongCount_26 (by decide) ?_
          exact ih _ _ ls h (lv_sub hl [1, 0, 2] rfl)
        · replace h := h.2 c_6
          refine lv_iinc (v := (z1 + 1)) (lv' := [(1, .int (z1 + 1)), (2, .int z2), (0, .ref (a0 0))]) hx hb dX0_wrongCount_20 hl (k := 0) rfl rfl (by decide) rfl (fun ls hl => ?_)
          refine lv_iinc (v := (z2 + 1)) (lv' := [(2, .int (z2 + 1)), (1, .int (z1 + 1)), (0, .ref (a0 0))]) hx hb dX0_wrongCount_23 hl (k := 1) rfl rfl (by decide) rfl (fun ls hl => ?_)
          refine lv_goto (tgt := 4) hx hb dX0_wrongCount_26 (by decide) ?_
          exact ih _ _ ls h (lv_sub hl [1, 0, 2] rfl)
  obtain ⟨n4, h⟩ := h
  refine lp4 _ ?_ n4 _ _ ls h (lv_sub hl [1, 0, 2] rfl)
  · intro z1 z2 ls h hl
    try dsimp only at h
    refine lv_iload_n hx hb dX0_wrongCount_29 rfl (lv_at hl 0 rfl) ?_
    exact rd_iret hx hb hr hk h dX0_wrongCount_30

def wp_X0_sumOf_8_L4 (s0 : Bd) (post : Int32 → Prop) (e30 : Int32 → Int32 → Prop) : Nat → Int32 → Int32 → Prop
  | 0, _, _ => False
  | n4 + 1, z2, z3 => wp_X0_cells (fun r_1 => ((r_1 ≤ z3 → e30 z2 z3) ∧ (¬ r_1 ≤ z3 → ((40 ≤ z3 → e30 z2 z3) ∧ (¬ 40 ≤ z3 → vp_in z3 40 ∧ wp_X0_sumOf_8_L4 s0 post e30 n4 (z2 + ((s0.2.1 8) (Int32.toNatClampNeg z3))) (z3 + 1)))))) s0
def wp_X0_sumOf_8 (post : Int32 → Prop) (s0 : Bd) : Prop := (∃ n4, wp_X0_sumOf_8_L4 s0 post (fun z2 z3 => post z2) n4 0 0)
set_option maxHeartbeats 4000000 in
set_option maxRecDepth 100000 in
theorem c2_X0_sumOf_8 {l : Launch} {D : va_G} {q : Nat → ClassId} {a0 : Nat → Nat} {s0 : Bd} {post : Int32 → Prop} (h : wp_X0_sumOf_8 post s0) : Met l yX0_sumOf (Cond.code yX0_sumOf cX0_sumOf 4 (some .int) :: w_all) ({ frames := 1, cells := 0, slots := 0, locals := 20 } : Room) (rd_P D q [.ref (a0 0), .ref (a0 9)] (bd_w a0 q s0)) (vp_Si post) 0 0 (fun _ => False) := by
  refine rd_start (by decide) (Nat.le_of_ble_eq_true rfl) ?_
  intro p e s m below meth c ls hx hb hr hml hown ht hk hP hQ hV hl
  have hK := hQ.1
  have hown : s.vm.findClass RX0 = some m.cls := hown
  have hl : lv_has ls 4 [(0, .ref (a0 0)), (1, .ref (a0 9))] := hl
  have hP : va_P D vwCl [((a0 0), .inr (0, [.int (s0.1 0), .int (s0.1 1), .int (s0.1 2), .int (s0.1 3), .int (s0.1 4), .int (s0.1 5), .ref (a0 1), .ref (a0 2), .ref (a0 3), .ref (a0 4), .ref (a0 5), .ref (a0 6), .ref (a0 7), .ref (a0 8), .ref (a0 9), .ref (a0 10), .ref (a0 11), .ref (a0 12)])), ((a0 1), .inl (q 0, 4, .inl (s0.2.1 0))), ((a0 2), .inl (q 0, 4, .inl (s0.2.1 1))), ((a0 3), .inl (q 0, 160, .inl (s0.2.1 2))), ((a0 4), .inl (q 0, 40, .inl (s0.2.1 3))), ((a0 5), .inl (q 0, 40, .inl (s0.2.1 4))), ((a0 6), .inl (q 0, 40, .inl (s0.2.1 5))), ((a0 7), .inl (q 0, 40, .inl (s0.2.1 6))), ((a0 8), .inl (q 0, 40, .inl (s0.2.1 7))), ((a0 9), .inl (q 0, 40, .inl (s0.2.1 8))), ((a0 10), .inl (q 0, 40, .inl (s0.2.1 9))), ((a0 11), .inl (q 1, 40, .inr (.inl s0.2.2.1))), ((a0 12), .inl (q 0, s0.2.2.2.1, .inl s0.2.2.2.2))] s.heap := hP
  unfold wp_X0_sumOf_8 at h
  refine lv_iconst (v := 0) hx hb dX0_sumOf_0 (by decide) ?_
  refine lv_istore_n (lv' := [(2, .int 0), (0, .ref (a0 0)), (1, .ref (a0 9))]) hx hb dX0_sumOf_1 rfl hl (by decide) rfl (fun ls hl => ?_)
  refine lv_iconst (v := 0) hx hb dX0_sumOf_2 (by decide) ?_
  refine lv_istore_n (lv' := [(3, .int 0), (2, .int 0), (0, .ref (a0 0)), (1, .ref (a0 9))]) hx hb dX0_sumOf_3 rfl hl (by decide) rfl (fun ls hl => ?_)
  have lp4 : ∀ (e30 : Int32 → Int32 → Prop) (k30 : ∀ (z2 : Int32) (z3 : Int32) (ls : Array Slot), e30 z2 z3 → lv_has ls 4 [(2, .int z2), (3, .int z3), (0, .ref (a0 0)), (1, .ref (a0 9))] → W p l e ({ frames := 1, cells := 0, slots := 0, locals := 20 } : Room) s m [.ref (a0 0), .ref (a0 9)].toArray below meth c s.heap [] 0 0 (MQ below (vp_Si post) [.ref (a0 0), .ref (a0 9)].toArray s 0 0 (fun _ => False)) (F0 m 30 ls [])) (n : Nat) (z2 : Int32) (z3 : Int32) (ls : Array Slot), wp_X0_sumOf_8_L4 s0 post e30 n z2 z3 → lv_has ls 4 [(2, .int z2), (3, .int z3), (0, .ref (a0 0)), (1, .ref (a0 9))] → W p l e ({ frames := 1, cells := 0, slots := 0, locals := 20 } : Room) s m [.ref (a0 0), .ref (a0 9)].toArray below meth c s.heap [] 0 0 (MQ below (vp_Si post) [.ref (a0 0), .ref (a0 9)].toArray s 0 0 (fun _ => False)) (F0 m 4 ls []) := by
    intro e30 k30 n
    induction n with
    | zero =>
      intro z2 z3 ls h
      exact h.elim
    | succ n ih =>
      intro z2 z3 ls h hl
      unfold wp_X0_sumOf_8_L4 at h
      refine lv_iload_n hx hb dX0_sumOf_4 rfl (lv_at hl 1 rfl) ?_
      refine lv_aload_n hx hb dX0_sumOf_5 rfl (lv_at hl 2 rfl) ?_
      refine vp_callSi (rd_wV (wc := bd_w a0 q s0) (As := []) (rest := [.int z3]) hx hb hml hown ht (c2_X0_cells h) wd_X0_cells mw_588 hQ hV va_S.rf (hP.sub [0, 1, 2, 3, 4, 5, 6, 7, 8, 9, 10, 11, 12] rfl) rfl rfl rfl hl.1 rfl (Nat.le_of_ble_eq_true rfl) dX0_sumOf_6 ⟨Nat.le_of_ble_eq_true rfl, Nat.le_of_ble_eq_true rfl, rfl, rfl⟩ ⟨Nat.le_of_ble_eq_true rfl, Nat.le_of_ble_eq_true rfl⟩) (fun r_1 h => ?_)
      try dsimp only at h
      refine lv_icmp_ge (tgt := 30) hx hb dX0_sumOf_9 (by decide) (fun c_3 => ?_) (fun c_3 => ?_)
      · replace h := h.1 c_3
        exact k30 _ _ ls h (lv_sub hl [0, 1, 2, 3] rfl)
      · replace h := h.2 c_3
        refine lv_iload_n hx hb dX0_sumOf_12 rfl (lv_at hl 1 rfl) ?_
        refine lv_aload_n hx hb dX0_sumOf_13 rfl (lv_at hl 3 rfl) ?_
        refine va_alen (v := 40) hx hb hK hP 9 0 rfl rfl rfl dX0_sumOf_14 ?_
        refine lv_icmp_ge (tgt := 30) hx hb dX0_sumOf_15 (by decide) (fun c_4 => ?_) (fun c_4 => ?_)
        · replace h := h.1 c_4
          exact k30 _ _ ls h (lv_sub hl [0, 1, 2, 3] rfl)
        · replace h := h.2 c_4
          refine lv_iload_n hx hb dX0_sumOf_18 rfl (lv_at hl 0 rfl) ?_
          refine lv_aload_n hx hb dX0_sumOf_19 rfl (lv_at hl 3 rfl) ?_
          refine lv_iload_n hx hb dX0_sumOf_20 rfl (lv_at hl 1 rfl) ?_
          obtain ⟨g_5, h⟩ := h
          refine va_iald hx hb hK hP 9 0 rfl rfl g_5 dX0_sumOf_21 ?_
          refine lv_iadd hx hb dX0_sumOf_22 ?_
          refine lv_istore_n (lv' := [(2, .int (z2 + ((s0.2.1 8) (Int32.toNatClampNeg z3)))), (3, .int z3), (0, .ref (a0 0)), (1, .ref (a0 9))]) hx hb dX0_sumOf_23 rfl hl (by decide) rfl (fun ls hl => ?_)
          refine lv_iinc (v := (z3 + 1)) (lv' := [(3, .int (z3 + 1)), (2, .int (z2 + ((s0.2.1 8) (Int32.toNatClampNeg z3)))), (0, .ref (a0 0)), (1, .ref (a0 9))]) hx hb dX0_sumOf_24 hl (k := 1) rfl rfl (by decide) rfl (fun ls hl => ?_)
          refine lv_goto (tgt := 4) hx hb dX0_sumOf_27 (by decide) ?_
          exact ih _ _ ls h (lv_sub hl [1, 0, 2, 3] rfl)
  obtain ⟨n4, h⟩ := h
  refine lp4 _ ?_ n4 _ _ ls h (lv_sub hl [1, 0, 2, 3] rfl)
  · intro z2 z3 ls h hl
    try dsimp only at h
    refine lv_iload_n hx hb dX0_sumOf_30 rfl (lv_at hl 0 rfl) ?_
    exact rd_iret hx hb hr hk h dX0_sumOf_31

def wp_X0_sumOf_9_L4 (s0 : Bd) (post : Int32 → Prop) (e30 : Int32 → Int32 → Prop) : Nat → Int32 → Int32 → Prop
  | 0, _, _ => False
  | n4 + 1, z2, z3 => wp_X0_cells (fun r_1 => ((r_1 ≤ z3 → e30 z2 z3) ∧ (¬ r_1 ≤ z3 → ((40 ≤ z3 → e30 z2 z3) ∧ (¬ 40 ≤ z3 → vp_in z3 40 ∧ wp_X0_sumOf_9_L4 s0 post e30 n4 (z2 + ((s0.2.1 9) (Int32.toNatClampNeg z3))) (z3 + 1)))))) s0
def wp_X0_sumOf_9 (post : Int32 → Prop) (s0 : Bd) : Prop := (∃ n4, wp_X0_sumOf_9_L4 s0 post (fun z2 z3 => post z2) n4 0 0)
set_option maxHeartbeats 4000000 in
set_option maxRecDepth 100000 in
theorem c2_X0_sumOf_9 {l : Launch} {D : va_G} {q : Nat → ClassId} {a0 : Nat → Nat} {s0 : Bd} {post : Int32 → Prop} (h : wp_X0_sumOf_9 post s0) : Met l yX0_sumOf (Cond.code yX0_sumOf cX0_sumOf 4 (some .int) :: w_all) ({ frames := 1, cells := 0, slots := 0, locals := 20 } : Room) (rd_P D q [.ref (a0 0), .ref (a0 10)] (bd_w a0 q s0)) (vp_Si post) 0 0 (fun _ => False) := by
  refine rd_start (by decide) (Nat.le_of_ble_eq_true rfl) ?_
  intro p e s m below meth c ls hx hb hr hml hown ht hk hP hQ hV hl
  have hK := hQ.1
  have hown : s.vm.findClass RX0 = some m.cls := hown
  have hl : lv_has ls 4 [(0, .ref (a0 0)), (1, .ref (a0 10))] := hl
  have hP : va_P D vwCl [((a0 0), .inr (0, [.int (s0.1 0), .int (s0.1 1), .int (s0.1 2), .int (s0.1 3), .int (s0.1 4), .int (s0.1 5), .ref (a0 1), .ref (a0 2), .ref (a0 3), .ref (a0 4), .ref (a0 5), .ref (a0 6), .ref (a0 7), .ref (a0 8), .ref (a0 9), .ref (a0 10), .ref (a0 11), .ref (a0 12)])), ((a0 1), .inl (q 0, 4, .inl (s0.2.1 0))), ((a0 2), .inl (q 0, 4, .inl (s0.2.1 1))), ((a0 3), .inl (q 0, 160, .inl (s0.2.1 2))), ((a0 4), .inl (q 0, 40, .inl (s0.2.1 3))), ((a0 5), .inl (q 0, 40, .inl (s0.2.1 4))), ((a0 6), .inl (q 0, 40, .inl (s0.2.1 5))), ((a0 7), .inl (q 0, 40, .inl (s0.2.1 6))), ((a0 8), .inl (q 0, 40, .inl (s0.2.1 7))), ((a0 9), .inl (q 0, 40, .inl (s0.2.1 8))), ((a0 10), .inl (q 0, 40, .inl (s0.2.1 9))), ((a0 11), .inl (q 1, 40, .inr (.inl s0.2.2.1))), ((a0 12), .inl (q 0, s0.2.2.2.1, .inl s0.2.2.2.2))] s.heap := hP
  unfold wp_X0_sumOf_9 at h
  refine lv_iconst (v := 0) hx hb dX0_sumOf_0 (by decide) ?_
  refine lv_istore_n (lv' := [(2, .int 0), (0, .ref (a0 0)), (1, .ref (a0 10))]) hx hb dX0_sumOf_1 rfl hl (by decide) rfl (fun ls hl => ?_)
  refine lv_iconst (v := 0) hx hb dX0_sumOf_2 (by decide) ?_
  refine lv_istore_n (lv' := [(3, .int 0), (2, .int 0), (0, .ref (a0 0)), (1, .ref (a0 10))]) hx hb dX0_sumOf_3 rfl hl (by decide) rfl (fun ls hl => ?_)
  have lp4 : ∀ (e30 : Int32 → Int32 → Prop) (k30 : ∀ (z2 : Int32) (z3 : Int32) (ls : Array Slot), e30 z2 z3 → lv_has ls 4 [(2, .int z2), (3, .int z3), (0, .ref (a0 0)), (1, .ref (a0 10))] → W p l e ({ frames := 1, cells := 0, slots := 0, locals := 20 } : Room) s m [.ref (a0 0), .ref (a0 10)].toArray below meth c s.heap [] 0 0 (MQ below (vp_Si post) [.ref (a0 0), .ref (a0 10)].toArray s 0 0 (fun _ => False)) (F0 m 30 ls [])) (n : Nat) (z2 : Int32) (z3 : Int32) (ls : Array Slot), wp_X0_sumOf_9_L4 s0 post e30 n z2 z3 → lv_has ls 4 [(2, .int z2), (3, .int z3), (0, .ref (a0 0)), (1, .ref (a0 10))] → W p l e ({ frames := 1, cells := 0, slots := 0, locals := 20 } : Room) s m [.ref (a0 0), .ref (a0 10)].toArray below meth c s.heap [] 0 0 (MQ below (vp_Si post) [.ref (a0 0), .ref (a0 10)].toArray s 0 0 (fun _ => False)) (F0 m 4 ls []) := by
    intro e30 k30 n
    induction n with
    | zero =>
      intro z2 z3 ls h
      exact h.elim
    | succ n ih =>
      intro z2 z3 ls h hl
      unfold wp_X0_sumOf_9_L4 at h
      refine lv_iload_n hx hb dX0_sumOf_4 rfl (lv_at hl 1 rfl) ?_
      refine lv_aload_n hx hb dX0_sumOf_5 rfl (lv_at hl 2 rfl) ?_
      refine vp_callSi (rd_wV (wc := bd_w a0 q s0) (As := []) (rest := [.int z3]) hx hb hml hown ht (c2_X0_cells h) wd_X0_cells mw_588 hQ hV va_S.rf (hP.sub [0, 1, 2, 3, 4, 5, 6, 7, 8, 9, 10, 11, 12] rfl) rfl rfl rfl hl.1 rfl (Nat.le_of_ble_eq_true rfl) dX0_sumOf_6 ⟨Nat.le_of_ble_eq_true rfl, Nat.le_of_ble_eq_true rfl, rfl, rfl⟩ ⟨Nat.le_of_ble_eq_true rfl, Nat.le_of_ble_eq_true rfl⟩) (fun r_1 h => ?_)
      try dsimp only at h
      refine lv_icmp_ge (tgt := 30) hx hb dX0_sumOf_9 (by decide) (fun c_3 => ?_) (fun c_3 => ?_)
      · replace h := h.1 c_3
        exact k30 _ _ ls h (lv_sub hl [0, 1, 2, 3] rfl)
      · replace h := h.2 c_3
        refine lv_iload_n hx hb dX0_sumOf_12 rfl (lv_at hl 1 rfl) ?_
        refine lv_aload_n hx hb dX0_sumOf_13 rfl (lv_at hl 3 rfl) ?_
        refine va_alen (v := 40) hx hb hK hP 10 0 rfl rfl rfl dX0_sumOf_14 ?_
        refine lv_icmp_ge (tgt := 30) hx hb dX0_sumOf_15 (by decide) (fun c_4 => ?_) (fun c_4 => ?_)
        · replace h := h.1 c_4
          exact k30 _ _ ls h (lv_sub hl [0, 1, 2, 3] rfl)
        · replace h := h.2 c_4
          refine lv_iload_n hx hb dX0_sumOf_18 rfl (lv_at hl 0 rfl) ?_
          refine lv_aload_n hx hb dX0_sumOf_19 rfl (lv_at hl 3 rfl) ?_
          refine lv_iload_n hx hb dX0_sumOf_20 rfl (lv_at hl 1 rfl) ?_
          obtain ⟨g_5, h⟩ := h
          refine va_iald hx hb hK hP 10 0 rfl rfl g_5 dX0_sumOf_21 ?_
          refine lv_iadd hx hb dX0_sumOf_22 ?_
          refine lv_istore_n (lv' := [(2, .int (z2 + ((s0.2.1 9) (Int32.toNatClampNeg z3)))), (3, .int z3), (0, .ref (a0 0)), (1, .ref (a0 10))]) hx hb dX0_sumOf_23 rfl hl (by decide) rfl (fun ls hl => ?_)
          refine lv_iinc (v := (z3 + 1)) (lv' := [(3, .int (z3 + 1)), (2, .int (z2 + ((s0.2.1 9) (Int32.toNatClampNeg z3)))), (0, .ref (a0 0)), (1, .ref (a0 10))]) hx hb dX0_sumOf_24 hl (k := 1) rfl rfl (by decide) rfl (fun ls hl => ?_)
          refine lv_goto (tgt := 4) hx hb dX0_sumOf_27 (by decide) ?_
          exact ih _ _ ls h (lv_sub hl [1, 0, 2, 3] rfl)
  obtain ⟨n4, h⟩ := h
  refine lp4 _ ?_ n4 _ _ ls h (lv_sub hl [1, 0, 2, 3] rfl)
  · intro z2 z3 ls h hl
    try dsimp only at h
    refine lv_iload_n hx hb dX0_sumOf_30 rfl (lv_at hl 0 rfl) ?_
    exact rd_iret hx hb hr hk h dX0_sumOf_31
