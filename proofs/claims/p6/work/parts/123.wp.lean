def wp_X7_settle (post : Int32 → Md → Prop) (s0 : Md) : Prop := wp_X7_isBoard (fun r_1 => ((¬ r_1 = 0 → wp_X7_findsTurning (fun u_5 => ((¬ (u_5.1 1) = 0 → wp_X7_keepsAct (fun u_8 => wp_X7_settles (fun r_9 u_10 => post r_9 u_10) u_8) u_5) ∧ ((u_5.1 1) = 0 → post (-2) u_5))) s0) ∧ (r_1 = 0 → post (-1) s0))) s0
set_option maxHeartbeats 4000000 in
set_option maxRecDepth 100000 in
theorem c2_X7_settle {l : Launch} {D : va_G} {q : Nat → ClassId} {sz : Nat} {a0 : Nat → Nat} {s0 : Md} {post : Int32 → Md → Prop} (h : wp_X7_settle post s0) : Met l yX7_settle (Cond.code yX7_settle cX7_settle 1 (some .int) :: w_all) ({ frames := 6, cells := 0, slots := 0, locals := 131 } : Room) (mt_P D q [.ref (a0 0)] (md_v a0 q s0) sz) (va_Qi (fun r (u : Md) => post r u) (mt_B D (md_v a0 q s0) sz (fun u : Md => md_v a0 q u)) (va_A (md_v a0 q s0) sz)) 0 0 (va_A (md_v a0 q s0) sz) := by
  refine mt_start (by decide) (Nat.le_of_ble_eq_true rfl) ?_
  intro p e s m below meth c ls hx hb hr hml hown ht hk hin hP hQ hD hA hS hV hl
  have hK := hQ.1
  have hown : s.vm.findClass RX7 = some m.cls := hown
  have hl : lv_has ls 1 [(0, .ref (a0 0))] := hl
  have hP : va_P D vwCl [((a0 0), .inr (6, [.ref (a0 1), .ref (a0 2), .int (s0.1 0), .ref (a0 3), .ref (a0 5), .ref (a0 4), .long s0.2.1, .int (s0.1 1), .int (s0.1 2), .ref (a0 6), .int (s0.1 3), .int (s0.1 4), .ref (a0 7), .int (s0.1 5), .int (s0.1 6), .int (s0.1 7), .int (s0.1 8), .int (s0.1 9), .int (s0.1 10), .int (s0.1 11), .int (s0.1 12), .int (s0.1 13), .int (s0.1 14)])), ((a0 1), .inl (q 1, 6896, .inr (.inl (s0.2.2.1 0)))), ((a0 2), .inl (q 1, 68960, .inr (.inl (s0.2.2.1 1)))), ((a0 3), .inl (q 1, 13792, .inr (.inl (s0.2.2.1 2)))), ((a0 4), .inl (q 1, 6896, .inr (.inl (s0.2.2.1 3)))), ((a0 5), .inl (q 3, 2, .inl (s0.2.2.2 0))), ((a0 6), .inl (q 0, 40, .inl (s0.2.2.2 1))), ((a0 7), .inl (q 2, 400, .inl (s0.2.2.2 2)))] s.heap := hP
  have hD : va_D _ [((a0 0), .inr (6, [.ref (a0 1), .ref (a0 2), .int (s0.1 0), .ref (a0 3), .ref (a0 5), .ref (a0 4), .long s0.2.1, .int (s0.1 1), .int (s0.1 2), .ref (a0 6), .int (s0.1 3), .int (s0.1 4), .ref (a0 7), .int (s0.1 5), .int (s0.1 6), .int (s0.1 7), .int (s0.1 8), .int (s0.1 9), .int (s0.1 10), .int (s0.1 11), .int (s0.1 12), .int (s0.1 13), .int (s0.1 14)])), ((a0 1), .inl (q 1, 6896, .inr (.inl (s0.2.2.1 0)))), ((a0 2), .inl (q 1, 68960, .inr (.inl (s0.2.2.1 1)))), ((a0 3), .inl (q 1, 13792, .inr (.inl (s0.2.2.1 2)))), ((a0 4), .inl (q 1, 6896, .inr (.inl (s0.2.2.1 3)))), ((a0 5), .inl (q 3, 2, .inl (s0.2.2.2 0))), ((a0 6), .inl (q 0, 40, .inl (s0.2.2.2 1))), ((a0 7), .inl (q 2, 400, .inl (s0.2.2.2 2)))] := hD
  unfold wp_X7_settle at h
  refine lv_aload_n hx hb dX7_settle_0 rfl (lv_at hl 0 rfl) ?_
  refine vp_callSi (rd_wV (wc := md_v a0 q s0) (As := []) (rest := []) hx hb hml hown ht (c2_X7_isBoard h) wd_X7_isBoard mw_1283 hQ hV hS (hP.sub [0, 1, 2, 3, 4, 5, 6, 7] rfl) rfl rfl rfl hl.1 rfl (Nat.le_of_ble_eq_true rfl) dX7_settle_1 ⟨Nat.le_of_ble_eq_true rfl, Nat.le_of_ble_eq_true rfl, rfl, rfl⟩ ⟨Nat.le_of_ble_eq_true rfl, Nat.le_of_ble_eq_true rfl⟩) (fun r_1 h => ?_)
  try dsimp only at h
  refine lv_if_ne (tgt := 9) hx hb dX7_settle_4 (by decide) (fun c_3 => ?_) (fun c_3 => ?_)
  · replace h := h.1 c_3
    refine lv_aload_n hx hb dX7_settle_9 rfl (lv_at hl 0 rfl) ?_
    refine mt_gov (mt_wV (wc := md_v a0 q s0) (As := []) (rest := []) hx hb hml hown ht (c2_X7_findsTurning h) wd_X7_findsTurning mw_1308 hQ hV hS hA (hP.sub [0, 1, 2, 3, 4, 5, 6, 7] rfl) (hD.sub [0, 1, 2, 3, 4, 5, 6, 7] (by decide) rfl) rfl rfl rfl hl.1 rfl (Nat.le_of_ble_eq_true rfl) dX7_settle_10 ⟨Nat.le_of_ble_eq_true rfl, Nat.le_of_ble_eq_true rfl, rfl, rfl⟩ ⟨Nat.le_of_ble_eq_true rfl, Nat.le_of_ble_eq_true rfl⟩) (wr := []) hP hD hS hA [0, 1, 2, 3, 4, 5, 6, 7] [] rfl rfl (by decide) (by decide) (fun u_5 H locs h hP hD hS => ?_)
    try dsimp only at h
    have hP : va_P D vwCl [((a0 0), .inr (6, [.ref (a0 1), .ref (a0 2), .int (u_5.1 0), .ref (a0 3), .ref (a0 5), .ref (a0 4), .long u_5.2.1, .int (u_5.1 1), .int (u_5.1 2), .ref (a0 6), .int (u_5.1 3), .int (u_5.1 4), .ref (a0 7), .int (u_5.1 5), .int (u_5.1 6), .int (u_5.1 7), .int (u_5.1 8), .int (u_5.1 9), .int (u_5.1 10), .int (u_5.1 11), .int (u_5.1 12), .int (u_5.1 13), .int (u_5.1 14)])), ((a0 1), .inl (q 1, 6896, .inr (.inl (u_5.2.2.1 0)))), ((a0 2), .inl (q 1, 68960, .inr (.inl (u_5.2.2.1 1)))), ((a0 3), .inl (q 1, 13792, .inr (.inl (u_5.2.2.1 2)))), ((a0 4), .inl (q 1, 6896, .inr (.inl (u_5.2.2.1 3)))), ((a0 5), .inl (q 3, 2, .inl (u_5.2.2.2 0))), ((a0 6), .inl (q 0, 40, .inl (u_5.2.2.2 1))), ((a0 7), .inl (q 2, 400, .inl (u_5.2.2.2 2)))] H := hP
    have hD : va_D _ [((a0 0), .inr (6, [.ref (a0 1), .ref (a0 2), .int (u_5.1 0), .ref (a0 3), .ref (a0 5), .ref (a0 4), .long u_5.2.1, .int (u_5.1 1), .int (u_5.1 2), .ref (a0 6), .int (u_5.1 3), .int (u_5.1 4), .ref (a0 7), .int (u_5.1 5), .int (u_5.1 6), .int (u_5.1 7), .int (u_5.1 8), .int (u_5.1 9), .int (u_5.1 10), .int (u_5.1 11), .int (u_5.1 12), .int (u_5.1 13), .int (u_5.1 14)])), ((a0 1), .inl (q 1, 6896, .inr (.inl (u_5.2.2.1 0)))), ((a0 2), .inl (q 1, 68960, .inr (.inl (u_5.2.2.1 1)))), ((a0 3), .inl (q 1, 13792, .inr (.inl (u_5.2.2.1 2)))), ((a0 4), .inl (q 1, 6896, .inr (.inl (u_5.2.2.1 3)))), ((a0 5), .inl (q 3, 2, .inl (u_5.2.2.2 0))), ((a0 6), .inl (q 0, 40, .inl (u_5.2.2.2 1))), ((a0 7), .inl (q 2, 400, .inl (u_5.2.2.2 2)))] := hD
    refine lv_aload_n hx hb dX7_settle_13 rfl (lv_at hl 0 rfl) ?_
    refine fl_get (C := RX7) (T := TX7) (N := 23) (ci := 6) (v := .int (u_5.1 1)) hx hb ht in_X7 hown hK hP 0 rfl rfl 7 (by decide) mw_1137 rfl dX7_settle_14 ?_
    refine lv_if_ne (tgt := 23) hx hb dX7_settle_17 (by decide) (fun c_6 => ?_) (fun c_6 => ?_)
    · replace h := h.1 c_6
      refine lv_aload_n hx hb dX7_settle_23 rfl (lv_at hl 0 rfl) ?_
      refine mt_gov (mt_wV (wc := md_v a0 q u_5) (As := []) (rest := []) hx hb hml hown ht (c2_X7_keepsAct h) wd_X7_keepsAct mw_1233 hQ hV hS hA (hP.sub [0, 1, 2, 3, 4, 5, 6, 7] rfl) (hD.sub [0, 1, 2, 3, 4, 5, 6, 7] (by decide) rfl) rfl rfl rfl hl.1 rfl (Nat.le_of_ble_eq_true rfl) dX7_settle_24 ⟨Nat.le_of_ble_eq_true rfl, Nat.le_of_ble_eq_true rfl, rfl, rfl⟩ ⟨Nat.le_of_ble_eq_true rfl, Nat.le_of_ble_eq_true rfl⟩) (wr := []) hP hD hS hA [0, 1, 2, 3, 4, 5, 6, 7] [] rfl rfl (by decide) (by decide) (fun u_8 H locs h hP hD hS => ?_)
      try dsimp only at h
      have hP : va_P D vwCl [((a0 0), .inr (6, [.ref (a0 1), .ref (a0 2), .int (u_8.1 0), .ref (a0 3), .ref (a0 5), .ref (a0 4), .long u_8.2.1, .int (u_8.1 1), .int (u_8.1 2), .ref (a0 6), .int (u_8.1 3), .int (u_8.1 4), .ref (a0 7), .int (u_8.1 5), .int (u_8.1 6), .int (u_8.1 7), .int (u_8.1 8), .int (u_8.1 9), .int (u_8.1 10), .int (u_8.1 11), .int (u_8.1 12), .int (u_8.1 13), .int (u_8.1 14)])), ((a0 1), .inl (q 1, 6896, .inr (.inl (u_8.2.2.1 0)))), ((a0 2), .inl (q 1, 68960, .inr (.inl (u_8.2.2.1 1)))), ((a0 3), .inl (q 1, 13792, .inr (.inl (u_8.2.2.1 2)))), ((a0 4), .inl (q 1, 6896, .inr (.inl (u_8.2.2.1 3)))), ((a0 5), .inl (q 3, 2, .inl (u_8.2.2.2 0))), ((a0 6), .inl (q 0, 40, .inl (u_8.2.2.2 1))), ((a0 7), .inl (q 2, 400, .inl (u_8.2.2.2 2)))] H := hP
      have hD : va_D _ [((a0 0), .inr (6, [.ref (a0 1), .ref (a0 2), .int (u_8.1 0), .ref (a0 3), .ref (a0 5), .ref (a0 4), .long u_8.2.1, .int (u_8.1 1), .int (u_8.1 2), .ref (a0 6), .int (u_8.1 3), .int (u_8.1 4), .ref (a0 7), .int (u_8.1 5), .int (u_8.1 6), .int (u_8.1 7), .int (u_8.1 8), .int (u_8.1 9), .int (u_8.1 10), .int (u_8.1 11), .int (u_8.1 12), .int (u_8.1 13), .int (u_8.1 14)])), ((a0 1), .inl (q 1, 6896, .inr (.inl (u_8.2.2.1 0)))), ((a0 2), .inl (q 1, 68960, .inr (.inl (u_8.2.2.1 1)))), ((a0 3), .inl (q 1, 13792, .inr (.inl (u_8.2.2.1 2)))), ((a0 4), .inl (q 1, 6896, .inr (.inl (u_8.2.2.1 3)))), ((a0 5), .inl (q 3, 2, .inl (u_8.2.2.2 0))), ((a0 6), .inl (q 0, 40, .inl (u_8.2.2.2 1))), ((a0 7), .inl (q 2, 400, .inl (u_8.2.2.2 2)))] := hD
      refine lv_aload_n hx hb dX7_settle_27 rfl (lv_at hl 0 rfl) ?_
      refine mt_goi (mt_wV (wc := md_v a0 q u_8) (As := []) (rest := []) hx hb hml hown ht (c2_X7_settles h) wd_X7_settles mw_1332 hQ hV hS hA (hP.sub [0, 1, 2, 3, 4, 5, 6, 7] rfl) (hD.sub [0, 1, 2, 3, 4, 5, 6, 7] (by decide) rfl) rfl rfl rfl hl.1 rfl (Nat.le_of_ble_eq_true rfl) dX7_settle_28 ⟨Nat.le_of_ble_eq_true rfl, Nat.le_of_ble_eq_true rfl, rfl, rfl⟩ ⟨Nat.le_of_ble_eq_true rfl, Nat.le_of_ble_eq_true rfl⟩) (wr := []) hP hD hS hA [0, 1, 2, 3, 4, 5, 6, 7] [] rfl rfl (by decide) (by decide) (fun r_9 u_10 H locs h hP hD hS => ?_)
      try dsimp only at h
      have hP : va_P D vwCl [((a0 0), .inr (6, [.ref (a0 1), .ref (a0 2), .int (u_10.1 0), .ref (a0 3), .ref (a0 5), .ref (a0 4), .long u_10.2.1, .int (u_10.1 1), .int (u_10.1 2), .ref (a0 6), .int (u_10.1 3), .int (u_10.1 4), .ref (a0 7), .int (u_10.1 5), .int (u_10.1 6), .int (u_10.1 7), .int (u_10.1 8), .int (u_10.1 9), .int (u_10.1 10), .int (u_10.1 11), .int (u_10.1 12), .int (u_10.1 13), .int (u_10.1 14)])), ((a0 1), .inl (q 1, 6896, .inr (.inl (u_10.2.2.1 0)))), ((a0 2), .inl (q 1, 68960, .inr (.inl (u_10.2.2.1 1)))), ((a0 3), .inl (q 1, 13792, .inr (.inl (u_10.2.2.1 2)))), ((a0 4), .inl (q 1, 6896, .inr (.inl (u_10.2.2.1 3)))), ((a0 5), .inl (q 3, 2, .inl (u_10.2.2.2 0))), ((a0 6), .inl (q 0, 40, .inl (u_10.2.2.2 1))), ((a0 7), .inl (q 2, 400, .inl (u_10.2.2.2 2)))] H := hP
      have hD : va_D _ [((a0 0), .inr (6, [.ref (a0 1), .ref (a0 2), .int (u_10.1 0), .ref (a0 3), .ref (a0 5), .ref (a0 4), .long u_10.2.1, .int (u_10.1 1), .int (u_10.1 2), .ref (a0 6), .int (u_10.1 3), .int (u_10.1 4), .ref (a0 7), .int (u_10.1 5), .int (u_10.1 6), .int (u_10.1 7), .int (u_10.1 8), .int (u_10.1 9), .int (u_10.1 10), .int (u_10.1 11), .int (u_10.1 12), .int (u_10.1 13), .int (u_10.1 14)])), ((a0 1), .inl (q 1, 6896, .inr (.inl (u_10.2.2.1 0)))), ((a0 2), .inl (q 1, 68960, .inr (.inl (u_10.2.2.1 1)))), ((a0 3), .inl (q 1, 13792, .inr (.inl (u_10.2.2.1 2)))), ((a0 4), .inl (q 1, 6896, .inr (.inl (u_10.2.2.1 3)))), ((a0 5), .inl (q 3, 2, .inl (u_10.2.2.2 0))), ((a0 6), .inl (q 0, 40, .inl (u_10.2.2.2 1))), ((a0 7), .inl (q 2, 400, .inl (u_10.2.2.2 2)))] := hD
      exact mt_iret u_10 hx hb hr hk h (hP.sub (ws' := md_v a0 q u_10) [0, 1, 2, 3, 4, 5, 6, 7] rfl) (hD.sub (ws' := md_v a0 q u_10) [0, 1, 2, 3, 4, 5, 6, 7] (by decide) rfl) hS dX7_settle_31
    · replace h := h.2 c_6
      refine lv_bipush (v := (-2)) hx hb dX7_settle_20 (by decide) ?_
      exact mt_iret u_5 hx hb hr hk h (hP.sub (ws' := md_v a0 q u_5) [0, 1, 2, 3, 4, 5, 6, 7] rfl) (hD.sub (ws' := md_v a0 q u_5) [0, 1, 2, 3, 4, 5, 6, 7] (by decide) rfl) hS dX7_settle_22
  · replace h := h.2 c_3
    refine lv_iconst (v := (-1)) hx hb dX7_settle_7 (by decide) ?_
    exact mt_iret s0 hx hb hr hk h (hP.sub (ws' := md_v a0 q s0) [0, 1, 2, 3, 4, 5, 6, 7] rfl) (hD.sub (ws' := md_v a0 q s0) [0, 1, 2, 3, 4, 5, 6, 7] (by decide) rfl) hS dX7_settle_8

def wp_X7_lose (post : Int32 → Md → Prop) (s0 : Md) (x1 : Int32) (x2 : Int32) : Prop := wp_X7_isCell (fun r_1 => ((r_1 = 0 → post (-1) s0) ∧ (¬ r_1 = 0 → wp_X7_in (fun r_4 => ((¬ r_4 = 0 → wp_X7_of (fun r_7 => ((¬ r_7 = x2 → wp_X7_keepsAct (fun u_11 => wp_X7_sets (fun u_13 => post r_7 u_13) u_11 x1 (4 : Int32) (Int32.toInt64 x2)) s0) ∧ (r_7 = x2 → post (-2) s0))) s0 x1 (4 : Int32)) ∧ (r_4 = 0 → post (-1) s0))) (Int32.toInt64 x2) (0 : Int64) (9 : Int64)))) s0 x1
set_option maxHeartbeats 4000000 in
set_option maxRecDepth 100000 in
theorem c2_X7_lose {l : Launch} {D : va_G} {q : Nat → ClassId} {sz : Nat} {a0 : Nat → Nat} {s0 : Md} {x1 : Int32} {x2 : Int32} {post : Int32 → Md → Prop} (h : wp_X7_lose post s0 x1 x2) : Met l yX7_lose (Cond.code yX7_lose cX7_lose 4 (some .int) :: w_all) ({ frames := 3, cells := 0, slots := 0, locals := 61 } : Room) (mt_P D q [.ref (a0 0), .int x1, .int x2] (md_v a0 q s0) sz) (va_Qi (fun r (u : Md) => post r u) (mt_B D (md_v a0 q s0) sz (fun u : Md => md_v a0 q u)) (va_A (md_v a0 q s0) sz)) 0 0 (va_A (md_v a0 q s0) sz) := by
  refine mt_start (by decide) (Nat.le_of_ble_eq_true rfl) ?_
  intro p e s m below meth c ls hx hb hr hml hown ht hk hin hP hQ hD hA hS hV hl
  have hK := hQ.1
  have hown : s.vm.findClass RX7 = some m.cls := hown
  have hl : lv_has ls 4 [(0, .ref (a0 0)), (1, .int x1), (2, .int x2)] := hl
  have hP : va_P D vwCl [((a0 0), .inr (6, [.ref (a0 1), .ref (a0 2), .int (s0.1 0), .ref (a0 3), .ref (a0 5), .ref (a0 4), .long s0.2.1, .int (s0.1 1), .int (s0.1 2), .ref (a0 6), .int (s0.1 3), .int (s0.1 4), .ref (a0 7), .int (s0.1 5), .int (s0.1 6), .int (s0.1 7), .int (s0.1 8), .int (s0.1 9), .int (s0.1 10), .int (s0.1 11), .int (s0.1 12), .int (s0.1 13), .int (s0.1 14)])), ((a0 1), .inl (q 1, 6896, .inr (.inl (s0.2.2.1 0)))), ((a0 2), .inl (q 1, 68960, .inr (.inl (s0.2.2.1 1)))), ((a0 3), .inl (q 1, 13792, .inr (.inl (s0.2.2.1 2)))), ((a0 4), .inl (q 1, 6896, .inr (.inl (s0.2.2.1 3)))), ((a0 5), .inl (q 3, 2, .inl (s0.2.2.2 0))), ((a0 6), .inl (q 0, 40, .inl (s0.2.2.2 1))), ((a0 7), .inl (q 2, 400, .inl (s0.2.2.2 2)))] s.heap := hP
  have hD : va_D _ [((a0 0), .inr (6, [.ref (a0 1), .ref (a0 2), .int (s0.1 0), .ref (a0 3), .ref (a0 5), .ref (a0 4), .long s0.2.1, .int (s0.1 1), .int (s0.1 2), .ref (a0 6), .int (s0.1 3), .int (s0.1 4), .ref (a0 7), .int (s0.1 5), .int (s0.1 6), .int (s0.1 7), .int (s0.1 8), .int (s0.1 9), .int (s0.1 10), .int (s0.1 11), .int (s0.1 12), .int (s0.1 13), .int (s0.1 14)])), ((a0 1), .inl (q 1, 6896, .inr (.inl (s0.2.2.1 0)))), ((a0 2), .inl (q 1, 68960, .inr (.inl (s0.2.2.1 1)))), ((a0 3), .inl (q 1, 13792, .inr (.inl (s0.2.2.1 2)))), ((a0 4), .inl (q 1, 6896, .inr (.inl (s0.2.2.1 3)))), ((a0 5), .inl (q 3, 2, .inl (s0.2.2.2 0))), ((a0 6), .inl (q 0, 40, .inl (s0.2.2.2 1))), ((a0 7), .inl (q 2, 400, .inl (s0.2.2.2 2)))] := hD
  unfold wp_X7_lose at h
  refine lv_aload_n hx hb dX7_lose_0 rfl (lv_at hl 0 rfl) ?_
  refine lv_iload_n hx hb dX7_lose_1 rfl (lv_at hl 1 rfl) ?_
  refine vp_callSi (rd_wV (wc := md_v a0 q s0) (As := [.int x1]) (rest := []) hx hb hml hown ht (c2_X7_isCell h) wd_X7_isCell mw_1340 hQ hV hS (hP.sub [0, 1, 2, 3, 4, 5, 6, 7] rfl) rfl rfl rfl hl.1 rfl (Nat.le_of_ble_eq_true rfl) dX7_lose_2 ⟨Nat.le_of_ble_eq_true rfl, Nat.le_of_ble_eq_true rfl, rfl, rfl⟩ ⟨Nat.le_of_ble_eq_true rfl, Nat.le_of_ble_eq_true rfl⟩) (fun r_1 h => ?_)
  try dsimp only at h
  refine lv_if_eq (tgt := 20) hx hb dX7_lose_5 (by decide) (fun c_3 => ?_) (fun c_3 => ?_)
  · replace h := h.1 c_3
    refine lv_iconst (v := (-1)) hx hb dX7_lose_20 (by decide) ?_
    exact mt_iret s0 hx hb hr hk h (hP.sub (ws' := md_v a0 q s0) [0, 1, 2, 3, 4, 5, 6, 7] rfl) (hD.sub (ws' := md_v a0 q s0) [0, 1, 2, 3, 4, 5, 6, 7] (by decide) rfl) hS dX7_lose_21
  · replace h := h.2 c_3
    refine lv_iload_n hx hb dX7_lose_8 rfl (lv_at hl 2 rfl) ?_
    refine lv_i2l (v := (Int32.toInt64 x2)) hx hb dX7_lose_9 rfl ?_
    refine lv_lconst (v := 0) hx hb dX7_lose_10 (by decide) ?_
    refine lv_ldc2 (v := 9) hx hb hown (ht _ mw_1344) dX7_lose_11 ?_
    refine vp_callSi (rd_wS (wc := ([] : va_W)) (As := [.long (Int32.toInt64 x2), .long 0, .long 9]) (rest := []) hx hb hml hown ht (c2_X7_in h) wd_X7_in mw_1213 hQ hV hS (hP.sub [] rfl) rfl hl.1 rfl (Nat.le_of_ble_eq_true rfl) dX7_lose_14 ⟨Nat.le_of_ble_eq_true rfl, Nat.le_of_ble_eq_true rfl, rfl, rfl⟩ ⟨Nat.le_of_ble_eq_true rfl, Nat.le_of_ble_eq_true rfl⟩) (fun r_4 h => ?_)
    try dsimp only at h
    refine lv_if_ne (tgt := 22) hx hb dX7_lose_17 (by decide) (fun c_6 => ?_) (fun c_6 => ?_)
    · replace h := h.1 c_6
      refine lv_aload_n hx hb dX7_lose_22 rfl (lv_at hl 0 rfl) ?_
      refine lv_iload_n hx hb dX7_lose_23 rfl (lv_at hl 1 rfl) ?_
      refine lv_iconst (v := 4) hx hb dX7_lose_24 (by decide) ?_
      refine vp_callSi (rd_wV (wc := md_v a0 q s0) (As := [.int x1, .int 4]) (rest := []) hx hb hml hown ht (c2_X7_of h) wd_X7_of mw_1249 hQ hV hS (hP.sub [0, 1, 2, 3, 4, 5, 6, 7] rfl) rfl rfl rfl hl.1 rfl (Nat.le_of_ble_eq_true rfl) dX7_lose_25 ⟨Nat.le_of_ble_eq_true rfl, Nat.le_of_ble_eq_true rfl, rfl, rfl⟩ ⟨Nat.le_of_ble_eq_true rfl, Nat.le_of_ble_eq_true rfl⟩) (fun r_7 h => ?_)
      try dsimp only at h
      refine lv_istore_n (lv' := [(3, .int r_7), (0, .ref (a0 0)), (1, .int x1), (2, .int x2)]) hx hb dX7_lose_28 rfl hl (by decide) rfl (fun ls hl => ?_)
      refine lv_iload_n hx hb dX7_lose_29 rfl (lv_at hl 0 rfl) ?_
      refine lv_iload_n hx hb dX7_lose_30 rfl (lv_at hl 3 rfl) ?_
      refine lv_icmp_ne (tgt := 37) hx hb dX7_lose_31 (by decide) (fun c_9 => ?_) (fun c_9 => ?_)
      · replace h := h.1 c_9
        refine lv_aload_n hx hb dX7_lose_37 rfl (lv_at hl 1 rfl) ?_
        refine mt_gov (mt_wV (wc := md_v a0 q s0) (As := []) (rest := []) hx hb hml hown ht (c2_X7_keepsAct h) wd_X7_keepsAct mw_1233 hQ hV hS hA (hP.sub [0, 1, 2, 3, 4, 5, 6, 7] rfl) (hD.sub [0, 1, 2, 3, 4, 5, 6, 7] (by decide) rfl) rfl rfl rfl hl.1 rfl (Nat.le_of_ble_eq_true rfl) dX7_lose_38 ⟨Nat.le_of_ble_eq_true rfl, Nat.le_of_ble_eq_true rfl, rfl, rfl⟩ ⟨Nat.le_of_ble_eq_true rfl, Nat.le_of_ble_eq_true rfl⟩) (wr := []) hP hD hS hA [0, 1, 2, 3, 4, 5, 6, 7] [] rfl rfl (by decide) (by decide) (fun u_11 H locs h hP hD hS => ?_)
        try dsimp only at h
        have hP : va_P D vwCl [((a0 0), .inr (6, [.ref (a0 1), .ref (a0 2), .int (u_11.1 0), .ref (a0 3), .ref (a0 5), .ref (a0 4), .long u_11.2.1, .int (u_11.1 1), .int (u_11.1 2), .ref (a0 6), .int (u_11.1 3), .int (u_11.1 4), .ref (a0 7), .int (u_11.1 5), .int (u_11.1 6), .int (u_11.1 7), .int (u_11.1 8), .int (u_11.1 9), .int (u_11.1 10), .int (u_11.1 11), .int (u_11.1 12), .int (u_11.1 13), .int (u_11.1 14)])), ((a0 1), .inl (q 1, 6896, .inr (.inl (u_11.2.2.1 0)))), ((a0 2), .inl (q 1, 68960, .inr (.inl (u_11.2.2.1 1)))), ((a0 3), .inl (q 1, 13792, .inr (.inl (u_11.2.2.1 2)))), ((a0 4), .inl (q 1, 6896, .inr (.inl (u_11.2.2.1 3)))), ((a0 5), .inl (q 3, 2, .inl (u_11.2.2.2 0))), ((a0 6), .inl (q 0, 40, .inl (u_11.2.2.2 1))), ((a0 7), .inl (q 2, 400, .inl (u_11.2.2.2 2)))] H := hP
        have hD : va_D _ [((a0 0), .inr (6, [.ref (a0 1), .ref (a0 2), .int (u_11.1 0), .ref (a0 3), .ref (a0 5), .ref (a0 4), .long u_11.2.1, .int (u_11.1 1), .int (u_11.1 2), .ref (a0 6), .int (u_11.1 3), .int (u_11.1 4), .ref (a0 7), .int (u_11.1 5), .int (u_11.1 6), .int (u_11.1 7), .int (u_11.1 8), .int (u_11.1 9), .int (u_11.1 10), .int (u_11.1 11), .int (u_11.1 12), .int (u_11.1 13), .int (u_11.1 14)])), ((a0 1), .inl (q 1, 6896, .inr (.inl (u_11.2.2.1 0)))), ((a0 2), .inl (q 1, 68960, .inr (.inl (u_11.2.2.1 1)))), ((a0 3), .inl (q 1, 13792, .inr (.inl (u_11.2.2.1 2)))), ((a0 4), .inl (q 1, 6896, .inr (.inl (u_11.2.2.1 3)))), ((a0 5), .inl (q 3, 2, .inl (u_11.2.2.2 0))), ((a0 6), .inl (q 0, 40, .inl (u_11.2.2.2 1))), ((a0 7), .inl (q 2, 400, .inl (u_11.2.2.2 2)))] := hD
        refine lv_aload_n hx hb dX7_lose_41 rfl (lv_at hl 1 rfl) ?_
        refine lv_iload_n hx hb dX7_lose_42 rfl (lv_at hl 2 rfl) ?_
        refine lv_iconst (v := 4) hx hb dX7_lose_43 (by decide) ?_
        refine lv_iload_n hx hb dX7_lose_44 rfl (lv_at hl 3 rfl) ?_
        refine lv_i2l (v := (Int32.toInt64 x2)) hx hb dX7_lose_45 rfl ?_
        refine mt_gov (mt_wV (wc := md_v a0 q u_11) (As := [.int x1, .int 4, .long (Int32.toInt64 x2)]) (rest := []) hx hb hml hown ht (c2_X7_sets h) wd_X7_sets mw_1275 hQ hV hS hA (hP.sub [0, 1, 2, 3, 4, 5, 6, 7] rfl) (hD.sub [0, 1, 2, 3, 4, 5, 6, 7] (by decide) rfl) rfl rfl rfl hl.1 rfl (Nat.le_of_ble_eq_true rfl) dX7_lose_46 ⟨Nat.le_of_ble_eq_true rfl, Nat.le_of_ble_eq_true rfl, rfl, rfl⟩ ⟨Nat.le_of_ble_eq_true rfl, Nat.le_of_ble_eq_true rfl⟩) (wr := []) hP hD hS hA [0, 1, 2, 3, 4, 5, 6, 7] [] rfl rfl (by decide) (by decide) (fun u_13 H locs h hP hD hS => ?_)
        try dsimp only at h
        have hP : va_P D vwCl [((a0 0), .inr (6, [.ref (a0 1), .ref (a0 2), .int (u_13.1 0), .ref (a0 3), .ref (a0 5), .ref (a0 4), .long u_13.2.1, .int (u_13.1 1), .int (u_13.1 2), .ref (a0 6), .int (u_13.1 3), .int (u_13.1 4), .ref (a0 7), .int (u_13.1 5), .int (u_13.1 6), .int (u_13.1 7), .int (u_13.1 8), .int (u_13.1 9), .int (u_13.1 10), .int (u_13.1 11), .int (u_13.1 12), .int (u_13.1 13), .int (u_13.1 14)])), ((a0 1), .inl (q 1, 6896, .inr (.inl (u_13.2.2.1 0)))), ((a0 2), .inl (q 1, 68960, .inr (.inl (u_13.2.2.1 1)))), ((a0 3), .inl (q 1, 13792, .inr (.inl (u_13.2.2.1 2)))), ((a0 4), .inl (q 1, 6896, .inr (.inl (u_13.2.2.1 3)))), ((a0 5), .inl (q 3, 2, .inl (u_13.2.2.2 0))), ((a0 6), .inl (q 0, 40, .inl (u_13.2.2.2 1))), ((a0 7), .inl (q 2, 400, .inl (u_13.2.2.2 2)))] H := hP
        have hD : va_D _ [((a0 0), .inr (6, [.ref (a0 1), .ref (a0 2), .int (u_13.1 0), .ref (a0 3), .ref (a0 5), .ref (a0 4), .long u_13.2.1, .int (u_13.1 1), .int (u_13.1 2), .ref (a0 6), .int (u_13.1 3), .int (u_13.1 4), .ref (a0 7), .int (u_13.1 5), .int (u_13.1 6), .int (u_13.1 7), .int (u_13.1 8), .int (u_13.1 9), .int (u_13.1 10), .int (u_13.1 11), .int (u_13.1 12), .int (u_13.1 13), .int (u_13.1 14)])), ((a0 1), .inl (q 1, 6896, .inr (.inl (u_13.2.2.1 0)))), ((a0 2), .inl (q 1, 68960, .inr (.inl (u_13.2.2.1 1)))), ((a0 3), .inl (q 1, 13792, .inr (.inl (u_13.2.2.1 2)))), ((a0 4), .inl (q 1, 6896, .inr (.inl (u_13.2.2.1 3)))), ((a0 5), .inl (q 3, 2, .inl (u_13.2.2.2 0))), ((a0 6), .inl (q 0, 40, .inl (u_13.2.2.2 1))), ((a0 7), .inl (q 2, 400, .inl (u_13.2.2.2 2)))] := hD
        refine lv_iload_n hx hb dX7_lose_49 rfl (lv_at hl 0 rfl) ?_
        exact mt_iret u_13 hx hb hr hk h (hP.sub (ws' := md_v a0 q u_13) [0, 1, 2, 3, 4, 5, 6, 7] rfl) (hD.sub (ws' := md_v a0 q u_13) [0, 1, 2, 3, 4, 5, 6, 7] (by decide) rfl) hS dX7_lose_50
      · replace h := h.2 c_9
        refine lv_bipush (v := (-2)) hx hb dX7_lose_34 (by decide) ?_
        exact mt_iret s0 hx hb hr hk h (hP.sub (ws' := md_v a0 q s0) [0, 1, 2, 3, 4, 5, 6, 7] rfl) (hD.sub (ws' := md_v a0 q s0) [0, 1, 2, 3, 4, 5, 6, 7] (by decide) rfl) hS dX7_lose_36
    · replace h := h.2 c_6
      refine lv_iconst (v := (-1)) hx hb dX7_lose_20 (by decide) ?_
      exact mt_iret s0 hx hb hr hk h (hP.sub (ws' := md_v a0 q s0) [0, 1, 2, 3, 4, 5, 6, 7] rfl) (hD.sub (ws' := md_v a0 q s0) [0, 1, 2, 3, 4, 5, 6, 7] (by decide) rfl) hS dX7_lose_21

def wp_X7_isFlap (post : Int32 → Prop) (s0 : Md) (x1 : Int32) (x2 : Int32) : Prop := wp_X7_isCell (fun r_1 => ((r_1 = 0 → post 0) ∧ (¬ r_1 = 0 → wp_X7_flaps (fun r_4 => wp_X7_in (fun r_6 => ((r_6 = 0 → post 0) ∧ (¬ r_6 = 0 → post 1))) (Int32.toInt64 x2) (1 : Int64) (Int32.toInt64 (r_4 - 1))) s0 x1))) s0 x1
set_option maxHeartbeats 4000000 in
set_option maxRecDepth 100000 in
theorem c2_X7_isFlap {l : Launch} {D : va_G} {q : Nat → ClassId} {a0 : Nat → Nat} {s0 : Md} {x1 : Int32} {x2 : Int32} {post : Int32 → Prop} (h : wp_X7_isFlap post s0 x1 x2) : Met l yX7_isFlap (Cond.code yX7_isFlap cX7_isFlap 3 (some .boolean) :: w_all) ({ frames := 3, cells := 0, slots := 0, locals := 61 } : Room) (rd_P D q [.ref (a0 0), .int x1, .int x2] (md_v a0 q s0)) (vp_Si post) 0 0 (fun _ => False) := by
  refine rd_start (by decide) (Nat.le_of_ble_eq_true rfl) ?_
  intro p e s m below meth c ls hx hb hr hml hown ht hk hP hQ hV hl
  have hK := hQ.1
  have hown : s.vm.findClass RX7 = some m.cls := hown
  have hl : lv_has ls 3 [(0, .ref (a0 0)), (1, .int x1), (2, .int x2)] := hl
  have hP : va_P D vwCl [((a0 0), .inr (6, [.ref (a0 1), .ref (a0 2), .int (s0.1 0), .ref (a0 3), .ref (a0 5), .ref (a0 4), .long s0.2.1, .int (s0.1 1), .int (s0.1 2), .ref (a0 6), .int (s0.1 3), .int (s0.1 4), .ref (a0 7), .int (s0.1 5), .int (s0.1 6), .int (s0.1 7), .int (s0.1 8), .int (s0.1 9), .int (s0.1 10), .int (s0.1 11), .int (s0.1 12), .int (s0.1 13), .int (s0.1 14)])), ((a0 1), .inl (q 1, 6896, .inr (.inl (s0.2.2.1 0)))), ((a0 2), .inl (q 1, 68960, .inr (.inl (s0.2.2.1 1)))), ((a0 3), .inl (q 1, 13792, .inr (.inl (s0.2.2.1 2)))), ((a0 4), .inl (q 1, 6896, .inr (.inl (s0.2.2.1 3)))), ((a0 5), .inl (q 3, 2, .inl (s0.2.2.2 0))), ((a0 6), .inl (q 0, 40, .inl (s0.2.2.2 1))), ((a0 7), .inl (q 2, 400, .inl (s0.2.2.2 2)))] s.heap := hP
  unfold wp_X7_isFlap at h
  refine lv_aload_n hx hb dX7_isFlap_0 rfl (lv_at hl 0 rfl) ?_
  refine lv_iload_n hx hb dX7_isFlap_1 rfl (lv_at hl 1 rfl) ?_
  refine vp_callSi (rd_wV (wc := md_v a0 q s0) (As := [.int x1]) (rest := []) hx hb hml hown ht (c2_X7_isCell h) wd_X7_isCell mw_1340 hQ hV va_S.rf (hP.sub [0, 1, 2, 3, 4, 5, 6, 7] rfl) rfl rfl rfl hl.1 rfl (Nat.le_of_ble_eq_true rfl) dX7_isFlap_2 ⟨Nat.le_of_ble_eq_true rfl, Nat.le_of_ble_eq_true rfl, rfl, rfl⟩ ⟨Nat.le_of_ble_eq_true rfl, Nat.le_of_ble_eq_true rfl⟩) (fun r_1 h => ?_)
  try dsimp only at h
  refine lv_if_eq (tgt := 29) hx hb dX7_isFlap_5 (by decide) (fun c_3 => ?_) (fun c_3 => ?_)
  · replace h := h.1 c_3
    refine lv_iconst (v := 0) hx hb dX7_isFlap_29 (by decide) ?_
    exact rd_zret hx hb hr hk rfl h dX7_isFlap_30
  · replace h := h.2 c_3
    refine lv_iload_n hx hb dX7_isFlap_8 rfl (lv_at hl 2 rfl) ?_
    refine lv_i2l (v := (Int32.toInt64 x2)) hx hb dX7_isFlap_9 rfl ?_
    refine lv_lconst (v := 1) hx hb dX7_isFlap_10 (by decide) ?_
    refine lv_aload_n hx hb dX7_isFlap_11 rfl (lv_at hl 0 rfl) ?_
    refine lv_iload_n hx hb dX7_isFlap_12 rfl (lv_at hl 1 rfl) ?_
    refine vp_callSi (rd_wV (wc := md_v a0 q s0) (As := [.int x1]) (rest := [.long 1, .long (Int32.toInt64 x2)]) hx hb hml hown ht (c2_X7_flaps h) wd_X7_flaps mw_1245 hQ hV va_S.rf (hP.sub [0, 1, 2, 3, 4, 5, 6, 7] rfl) rfl rfl rfl hl.1 rfl (Nat.le_of_ble_eq_true rfl) dX7_isFlap_13 ⟨Nat.le_of_ble_eq_true rfl, Nat.le_of_ble_eq_true rfl, rfl, rfl⟩ ⟨Nat.le_of_ble_eq_true rfl, Nat.le_of_ble_eq_true rfl⟩) (fun r_4 h => ?_)
    try dsimp only at h
    refine lv_iconst (v := 1) hx hb dX7_isFlap_16 (by decide) ?_
    refine lv_isub hx hb dX7_isFlap_17 ?_
    refine lv_i2l (v := (Int32.toInt64 (r_4 - 1))) hx hb dX7_isFlap_18 rfl ?_
    refine vp_callSi (rd_wS (wc := ([] : va_W)) (As := [.long (Int32.toInt64 x2), .long 1, .long (Int32.toInt64 (r_4 - 1))]) (rest := []) hx hb hml hown ht (c2_X7_in h) wd_X7_in mw_1213 hQ hV va_S.rf (hP.sub [] rfl) rfl hl.1 rfl (Nat.le_of_ble_eq_true rfl) dX7_isFlap_19 ⟨Nat.le_of_ble_eq_true rfl, Nat.le_of_ble_eq_true rfl, rfl, rfl⟩ ⟨Nat.le_of_ble_eq_true rfl, Nat.le_of_ble_eq_true rfl⟩) (fun r_6 h => ?_)
    try dsimp only at h
    refine lv_if_eq (tgt := 29) hx hb dX7_isFlap_22 (by decide) (fun c_8 => ?_) (fun c_8 => ?_)
    · replace h := h.1 c_8
      refine lv_iconst (v := 0) hx hb dX7_isFlap_29 (by decide) ?_
      exact rd_zret hx hb hr hk rfl h dX7_isFlap_30
    · replace h := h.2 c_8
      refine lv_iconst (v := 1) hx hb dX7_isFlap_25 (by decide) ?_
      refine lv_goto (tgt := 30) hx hb dX7_isFlap_26 (by decide) ?_
      exact rd_zret hx hb hr hk rfl h dX7_isFlap_30

def wp_X7_wears (post : Md → Prop) (s0 : Md) (x1 : Int32) (x2 : Int32) : Prop := wp_X7_wornOf (fun r_1 => wp_X7_sets (fun u_4 => wp_X7_of (fun r_5 => ((¬ r_5 = x2 → post u_4) ∧ (r_5 = x2 → wp_X7_sets (fun u_9 => post u_9) u_4 x1 (3 : Int32) (0 : Int64)))) u_4 x1 (3 : Int32)) s0 x1 (7 : Int32) (r_1 ||| ((1 : Int64) <<< (Int32.toInt64 x2 &&& 63)))) s0 x1
set_option maxHeartbeats 4000000 in
set_option maxRecDepth 100000 in
theorem c2_X7_wears {l : Launch} {D : va_G} {q : Nat → ClassId} {sz : Nat} {a0 : Nat → Nat} {s0 : Md} {x1 : Int32} {x2 : Int32} {post : Md → Prop} (h : wp_X7_wears post s0 x1 x2) : Met l yX7_wears (Cond.code yX7_wears cX7_wears 3 none :: w_all) ({ frames := 1, cells := 0, slots := 0, locals := 24 } : Room) (mt_P D q [.ref (a0 0), .int x1, .int x2] (md_v a0 q s0) sz) (va_Qv (fun u : Md => post u) (mt_B D (md_v a0 q s0) sz (fun u : Md => md_v a0 q u)) (va_A (md_v a0 q s0) sz)) 0 0 (va_A (md_v a0 q s0) sz) := by
  refine mt_start (by decide) (Nat.le_of_ble_eq_true rfl) ?_
  intro p e s m below meth c ls hx hb hr hml hown ht hk hin hP hQ hD hA hS hV hl
  have hK := hQ.1
  have hown : s.vm.findClass RX7 = some m.cls := hown
  have hl : lv_has ls 3 [(0, .ref (a0 0)), (1, .int x1), (2, .int x2)] := hl
  have hP : va_P D vwCl [((a0 0), .inr (6, [.ref (a0 1), .ref (a0 2), .int (s0.1 0), .ref (a0 3), .ref (a0 5), .ref (a0 4), .long s0.2.1, .int (s0.1 1), .int (s0.1 2), .ref (a0 6), .int (s0.1 3), .int (s0.1 4), .ref (a0 7), .int (s0.1 5), .int (s0.1 6), .int (s0.1 7), .int (s0.1 8), .int (s0.1 9), .int (s0.1 10), .int (s0.1 11), .int (s0.1 12), .int (s0.1 13), .int (s0.1 14)])), ((a0 1), .inl (q 1, 6896, .inr (.inl (s0.2.2.1 0)))), ((a0 2), .inl (q 1, 68960, .inr (.inl (s0.2.2.1 1)))), ((a0 3), .inl (q 1, 13792, .inr (.inl (s0.2.2.1 2)))), ((a0 4), .inl (q 1, 6896, .inr (.inl (s0.2.2.1 3)))), ((a0 5), .inl (q 3, 2, .inl (s0.2.2.2 0))), ((a0 6), .inl (q 0, 40, .inl (s0.2.2.2 1))), ((a0 7), .inl (q 2, 400, .inl (s0.2.2.2 2)))] s.heap := hP
  have hD : va_D _ [((a0 0), .inr (6, [.ref (a0 1), .ref (a0 2), .int (s0.1 0), .ref (a0 3), .ref (a0 5), .ref (a0 4), .long s0.2.1, .int (s0.1 1), .int (s0.1 2), .ref (a0 6), .int (s0.1 3), .int (s0.1 4), .ref (a0 7), .int (s0.1 5), .int (s0.1 6), .int (s0.1 7), .int (s0.1 8), .int (s0.1 9), .int (s0.1 10), .int (s0.1 11), .int (s0.1 12), .int (s0.1 13), .int (s0.1 14)])), ((a0 1), .inl (q 1, 6896, .inr (.inl (s0.2.2.1 0)))), ((a0 2), .inl (q 1, 68960, .inr (.inl (s0.2.2.1 1)))), ((a0 3), .inl (q 1, 13792, .inr (.inl (s0.2.2.1 2)))), ((a0 4), .inl (q 1, 6896, .inr (.inl (s0.2.2.1 3)))), ((a0 5), .inl (q 3, 2, .inl (s0.2.2.2 0))), ((a0 6), .inl (q 0, 40, .inl (s0.2.2.2 1))), ((a0 7), .inl (q 2, 400, .inl (s0.2.2.2 2)))] := hD
  unfold wp_X7_wears at h
  refine lv_aload_n hx hb dX7_wears_0 rfl (lv_at hl 0 rfl) ?_
  refine lv_iload_n hx hb dX7_wears_1 rfl (lv_at hl 1 rfl) ?_
  refine lv_bipush (v := 7) hx hb dX7_wears_2 (by decide) ?_
  refine lv_aload_n hx hb dX7_wears_4 rfl (lv_at hl 0 rfl) ?_
  refine lv_iload_n hx hb dX7_wears_5 rfl (lv_at hl 1 rfl) ?_
  refine vp_callSl (rd_wV (wc := md_v a0 q s0) (As := [.int x1]) (rest := [.int 7, .int x1, .ref (a0 0)]) hx hb hml hown ht (c2_X7_wornOf h) wd_X7_wornOf mw_1261 hQ hV hS (hP.sub [0, 1, 2, 3, 4, 5, 6, 7] rfl) rfl rfl rfl hl.1 rfl (Nat.le_of_ble_eq_true rfl) dX7_wears_6 ⟨Nat.le_of_ble_eq_true rfl, Nat.le_of_ble_eq_true rfl, rfl, rfl⟩ ⟨Nat.le_of_ble_eq_true rfl, Nat.le_of_ble_eq_true rfl⟩) (fun r_1 h => ?_)
  try dsimp only at h
  refine lv_lconst (v := 1) hx hb dX7_wears_9 (by decide) ?_
  refine lv_iload_n hx hb dX7_wears_10 rfl (lv_at hl 2 rfl) ?_
  refine lv_lshl (v := ((1 : Int64) <<< (Int32.toInt64 x2 &&& 63))) hx hb dX7_wears_11 rfl ?_
  refine lv_lor hx hb dX7_wears_12 ?_
  refine mt_gov (mt_wV (wc := md_v a0 q s0) (As := [.int x1, .int 7, .long (r_1 ||| ((1 : Int64) <<< (Int32.toInt64 x2 &&& 63)))]) (rest := []) hx hb hml hown ht (c2_X7_sets h) wd_X7_sets mw_1275 hQ hV hS hA (hP.sub [0, 1, 2, 3, 4, 5, 6, 7] rfl) (hD.sub [0, 1, 2, 3, 4, 5, 6, 7] (by decide) rfl) rfl rfl rfl hl.1 rfl (Nat.le_of_ble_eq_true rfl) dX7_wears_13 ⟨Nat.le_of_ble_eq_true rfl, Nat.le_of_ble_eq_true rfl, rfl, rfl⟩ ⟨Nat.le_of_ble_eq_true rfl, Nat.le_of_ble_eq_true rfl⟩) (wr := []) hP hD hS hA [0, 1, 2, 3, 4, 5, 6, 7] [] rfl rfl (by decide) (by decide) (fun u_4 H locs h hP hD hS => ?_)
  try dsimp only at h
  have hP : va_P D vwCl [((a0 0), .inr (6, [.ref (a0 1), .ref (a0 2), .int (u_4.1 0), .ref (a0 3), .ref (a0 5), .ref (a0 4), .long u_4.2.1, .int (u_4.1 1), .int (u_4.1 2), .ref (a0 6), .int (u_4.1 3), .int (u_4.1 4), .ref (a0 7), .int (u_4.1 5), .int (u_4.1 6), .int (u_4.1 7), .int (u_4.1 8), .int (u_4.1 9), .int (u_4.1 10), .int (u_4.1 11), .int (u_4.1 12), .int (u_4.1 13), .int (u_4.1 14)])), ((a0 1), .inl (q 1, 6896, .inr (.inl (u_4.2.2.1 0)))), ((a0 2), .inl (q 1, 68960, .inr (.inl (u_4.2.2.1 1)))), ((a0 3), .inl (q 1, 13792, .inr (.inl (u_4.2.2.1 2)))), ((a0 4), .inl (q 1, 6896, .inr (.inl (u_4.2.2.1 3)))), ((a0 5), .inl (q 3, 2, .inl (u_4.2.2.2 0))), ((a0 6), .inl (q 0, 40, .inl (u_4.2.2.2 1))), ((a0 7), .inl (q 2, 400, .inl (u_4.2.2.2 2)))] H := hP
  have hD : va_D _ [((a0 0), .inr (6, [.ref (a0 1), .ref (a0 2), .int (u_4.1 0), .ref (a0 3), .ref (a0 5), .ref (a0 4), .long u_4.2.1, .int (u_4.1 1), .int (u_4.1 2), .ref (a0 6), .int (u_4.1 3), .int (u_4.1 4), .ref (a0 7), .int (u_4.1 5), .int (u_4.1 6), .int (u_4.1 7), .int (u_4.1 8), .int (u_4.1 9), .int (u_4.1 10), .int (u_4.1 11), .int (u_4.1 12), .int (u_4.1 13), .int (u_4.1 14)])), ((a0 1), .inl (q 1, 6896, .inr (.inl (u_4.2.2.1 0)))), ((a0 2), .inl (q 1, 68960, .inr (.inl (u_4.2.2.1 1)))), ((a0 3), .inl (q 1, 13792, .inr (.inl (u_4.2.2.1 2)))), ((a0 4), .inl (q 1, 6896, .inr (.inl (u_4.2.2.1 3)))), ((a0 5), .inl (q 3, 2, .inl (u_4.2.2.2 0))), ((a0 6), .inl (q 0, 40, .inl (u_4.2.2.2 1))), ((a0 7), .inl (q 2, 400, .inl (u_4.2.2.2 2)))] := hD
  refine lv_aload_n hx hb dX7_wears_16 rfl (lv_at hl 0 rfl) ?_
  refine lv_iload_n hx hb dX7_wears_17 rfl (lv_at hl 1 rfl) ?_
  refine lv_iconst (v := 3) hx hb dX7_wears_18 (by decide) ?_
  refine vp_callSi (rd_wV (wc := md_v a0 q u_4) (As := [.int x1, .int 3]) (rest := []) hx hb hml hown ht (c2_X7_of h) wd_X7_of mw_1249 hQ hV hS (hP.sub [0, 1, 2, 3, 4, 5, 6, 7] rfl) rfl rfl rfl hl.1 rfl (Nat.le_of_ble_eq_true rfl) dX7_wears_19 ⟨Nat.le_of_ble_eq_true rfl, Nat.le_of_ble_eq_true rfl, rfl, rfl⟩ ⟨Nat.le_of_ble_eq_true rfl, Nat.le_of_ble_eq_true rfl⟩) (fun r_5 h => ?_)
  try dsimp only at h
  refine lv_iload_n hx hb dX7_wears_22 rfl (lv_at hl 2 rfl) ?_
  refine lv_icmp_ne (tgt := 33) hx hb dX7_wears_23 (by decide) (fun c_7 => ?_) (fun c_7 => ?_)
  · replace h := h.1 c_7
    exact mt_vret u_4 hx hb hr hk h (hP.sub (ws' := md_v a0 q u_4) [0, 1, 2, 3, 4, 5, 6, 7] rfl) (hD.sub (ws' := md_v a0 q u_4) [0, 1, 2, 3, 4, 5, 6, 7] (by decide) rfl) hS dX7_wears_33
  · replace h := h.2 c_7
    refine lv_aload_n hx hb dX7_wears_26 rfl (lv_at hl 0 rfl) ?_
    refine lv_iload_n hx hb dX7_wears_27 rfl (lv_at hl 1 rfl) ?_
    refine lv_iconst (v := 3) hx hb dX7_wears_28 (by decide) ?_
    refine lv_lconst (v := 0) hx hb dX7_wears_29 (by decide) ?_
    refine mt_gov (mt_wV (wc := md_v a0 q u_4) (As := [.int x1, .int 3, .long 0]) (rest := []) hx hb hml hown ht (c2_X7_sets h) wd_X7_sets mw_1275 hQ hV hS hA (hP.sub [0, 1, 2, 3, 4, 5, 6, 7] rfl) (hD.sub [0, 1, 2, 3, 4, 5, 6, 7] (by decide) rfl) rfl rfl rfl hl.1 rfl (Nat.le_of_ble_eq_true rfl) dX7_wears_30 ⟨Nat.le_of_ble_eq_true rfl, Nat.le_of_ble_eq_true rfl, rfl, rfl⟩ ⟨Nat.le_of_ble_eq_true rfl, Nat.le_of_ble_eq_true rfl⟩) (wr := []) hP hD hS hA [0, 1, 2, 3, 4, 5, 6, 7] [] rfl rfl (by decide) (by decide) (fun u_9 H locs h hP hD hS => ?_)
    try dsimp only at h
    have hP : va_P D vwCl [((a0 0), .inr (6, [.ref (a0 1), .ref (a0 2), .int (u_9.1 0), .ref (a0 3), .ref (a0 5), .ref (a0 4), .long u_9.2.1, .int (u_9.1 1), .int (u_9.1 2), .ref (a0 6), .int (u_9.1 3), .int (u_9.1 4), .ref (a0 7), .int (u_9.1 5), .int (u_9.1 6), .int (u_9.1 7), .int (u_9.1 8), .int (u_9.1 9), .int (u_9.1 10), .int (u_9.1 11), .int (u_9.1 12), .int (u_9.1 13), .int (u_9.1 14)])), ((a0 1), .inl (q 1, 6896, .inr (.inl (u_9.2.2.1 0)))), ((a0 2), .inl (q 1, 68960, .inr (.inl (u_9.2.2.1 1)))), ((a0 3), .inl (q 1, 13792, .inr (.inl (u_9.2.2.1 2)))), ((a0 4), .inl (q 1, 6896, .inr (.inl (u_9.2.2.1 3)))), ((a0 5), .inl (q 3, 2, .inl (u_9.2.2.2 0))), ((a0 6), .inl (q 0, 40, .inl (u_9.2.2.2 1))), ((a0 7), .inl (q 2, 400, .inl (u_9.2.2.2 2)))] H := hP
    have hD : va_D _ [((a0 0), .inr (6, [.ref (a0 1), .ref (a0 2), .int (u_9.1 0), .ref (a0 3), .ref (a0 5), .ref (a0 4), .long u_9.2.1, .int (u_9.1 1), .int (u_9.1 2), .ref (a0 6), .int (u_9.1 3), .int (u_9.1 4), .ref (a0 7), .int (u_9.1 5), .int (u_9.1 6), .int (u_9.1 7), .int (u_9.1 8), .int (u_9.1 9), .int (u_9.1 10), .int (u_9.1 11), .int (u_9.1 12), .int (u_9.1 13), .int (u_9.1 14)])), ((a0 1), .inl (q 1, 6896, .inr (.inl (u_9.2.2.1 0)))), ((a0 2), .inl (q 1, 68960, .inr (.inl (u_9.2.2.1 1)))), ((a0 3), .inl (q 1, 13792, .inr (.inl (u_9.2.2.1 2)))), ((a0 4), .inl (q 1, 6896, .inr (.inl (u_9.2.2.1 3)))), ((a0 5), .inl (q 3, 2, .inl (u_9.2.2.2 0))), ((a0 6), .inl (q 0, 40, .inl (u_9.2.2.2 1))), ((a0 7), .inl (q 2, 400, .inl (u_9.2.2.2 2)))] := hD
    exact mt_vret u_9 hx hb hr hk h (hP.sub (ws' := md_v a0 q u_9) [0, 1, 2, 3, 4, 5, 6, 7] rfl) (hD.sub (ws' := md_v a0 q u_9) [0, 1, 2, 3, 4, 5, 6, 7] (by decide) rfl) hS dX7_wears_33

def wp_X7_wear (post : Int32 → Md → Prop) (s0 : Md) (x1 : Int32) (x2 : Int32) : Prop := wp_X7_isFlap (fun r_1 => ((¬ r_1 = 0 → wp_X7_wornOf (fun r_4 => wp_X7_isIn (fun r_6 => ((r_6 = 0 → wp_X7_keepsAct (fun u_10 => wp_X7_wears (fun u_12 => wp_X7_wornOf (fun r_13 => wp_X7_bits (fun r_15 => post r_15 u_12) r_13) u_12 x1) u_10 x1 x2) s0) ∧ (¬ r_6 = 0 → post (-2) s0))) r_4 x2) s0 x1) ∧ (r_1 = 0 → post (-1) s0))) s0 x1 x2
set_option maxHeartbeats 4000000 in
set_option maxRecDepth 100000 in
theorem c2_X7_wear {l : Launch} {D : va_G} {q : Nat → ClassId} {sz : Nat} {a0 : Nat → Nat} {s0 : Md} {x1 : Int32} {x2 : Int32} {post : Int32 → Md → Prop} (h : wp_X7_wear post s0 x1 x2) : Met l yX7_wear (Cond.code yX7_wear cX7_wear 3 (some .int) :: w_all) ({ frames := 4, cells := 0, slots := 0, locals := 83 } : Room) (mt_P D q [.ref (a0 0), .int x1, .int x2] (md_v a0 q s0) sz) (va_Qi (fun r (u : Md) => post r u) (mt_B D (md_v a0 q s0) sz (fun u : Md => md_v a0 q u)) (va_A (md_v a0 q s0) sz)) 0 0 (va_A (md_v a0 q s0) sz) := by
  refine mt_start (by decide) (Nat.le_of_ble_eq_true rfl) ?_
  intro p e s m below meth c ls hx hb hr hml hown ht hk hin hP hQ hD hA hS hV hl
  have hK := hQ.1
  have hown : s.vm.findClass RX7 = some m.cls := hown
  have hl : lv_has ls 3 [(0, .ref (a0 0)), (1, .int x1), (2, .int x2)] := hl
  have hP : va_P D vwCl [((a0 0), .inr (6, [.ref (a0 1), .ref (a0 2), .int (s0.1 0), .ref (a0 3), .ref (a0 5), .ref (a0 4), .long s0.2.1, .int (s0.1 1), .int (s0.1 2), .ref (a0 6), .int (s0.1 3), .int (s0.1 4), .ref (a0 7), .int (s0.1 5), .int (s0.1 6), .int (s0.1 7), .int (s0.1 8), .int (s0.1 9), .int (s0.1 10), .int (s0.1 11), .int (s0.1 12), .int (s0.1 13), .int (s0.1 14)])), ((a0 1), .inl (q 1, 6896, .inr (.inl (s0.2.2.1 0)))), ((a0 2), .inl (q 1, 68960, .inr (.inl (s0.2.2.1 1)))), ((a0 3), .inl (q 1, 13792, .inr (.inl (s0.2.2.1 2)))), ((a0 4), .inl (q 1, 6896, .inr (.inl (s0.2.2.1 3)))), ((a0 5), .inl (q 3, 2, .inl (s0.2.2.2 0))), ((a0 6), .inl (q 0, 40, .inl (s0.2.2.2 1))), ((a0 7), .inl (q 2, 400, .inl (s0.2.2.2 2)))] s.heap := hP
  have hD : va_D _ [((a0 0), .inr (6, [.ref (a0 1), .ref (a0 2), .int (s0.1 0), .ref (a0 3), .ref (a0 5), .ref (a0 4), .long s0.2.1, .int (s0.1 1), .int (s0.1 2), .ref (a0 6), .int (s0.1 3), .int (s0.1 4), .ref (a0 7), .int (s0.1 5), .int (s0.1 6), .int (s0.1 7), .int (s0.1 8), .int (s0.1 9), .int (s0.1 10), .int (s0.1 11), .int (s0.1 12), .int (s0.1 13), .int (s0.1 14)])), ((a0 1), .inl (q 1, 6896, .inr (.inl (s0.2.2.1 0)))), ((a0 2), .inl (q 1, 68960, .inr (.inl (s0.2.2.1 1)))), ((a0 3), .inl (q 1, 13792, .inr (.inl (s0.2.2.1 2)))), ((a0 4), .inl (q 1, 6896, .inr (.inl (s0.2.2.1 3)))), ((a0 5), .inl (q 3, 2, .inl (s0.2.2.2 0))), ((a0 6), .inl (q 0, 40, .inl (s0.2.2.2 1))), ((a0 7), .inl (q 2, 400, .inl (s0.2.2.2 2)))] := hD
  unfold wp_X7_wear at h
  refine lv_aload_n hx hb dX7_wear_0 rfl (lv_at hl 0 rfl) ?_
  refine lv_iload_n hx hb dX7_wear_1 rfl (lv_at hl 1 rfl) ?_
  refine lv_iload_n hx hb dX7_wear_2 rfl (lv_at hl 2 rfl) ?_
  refine vp_callSi (rd_wV (wc := md_v a0 q s0) (As := [.int x1, .int x2]) (rest := []) hx hb hml hown ht (c2_X7_isFlap h) wd_X7_isFlap mw_1349 hQ hV hS (hP.sub [0, 1, 2, 3, 4, 5, 6, 7] rfl) rfl rfl rfl hl.1 rfl (Nat.le_of_ble_eq_true rfl) dX7_wear_3 ⟨Nat.le_of_ble_eq_true rfl, Nat.le_of_ble_eq_true rfl, rfl, rfl⟩ ⟨Nat.le_of_ble_eq_true rfl, Nat.le_of_ble_eq_true rfl⟩) (fun r_1 h => ?_)
  try dsimp only at h
  refine lv_if_ne (tgt := 11) hx hb dX7_wear_6 (by decide) (fun c_3 => ?_) (fun c_3 => ?_)
  · replace h := h.1 c_3
    refine lv_aload_n hx hb dX7_wear_11 rfl (lv_at hl 0 rfl) ?_
    refine lv_iload_n hx hb dX7_wear_12 rfl (lv_at hl 1 rfl) ?_
    refine vp_callSl (rd_wV (wc := md_v a0 q s0) (As := [.int x1]) (rest := []) hx hb hml hown ht (c2_X7_wornOf h) wd_X7_wornOf mw_1261 hQ hV hS (hP.sub [0, 1, 2, 3, 4, 5, 6, 7] rfl) rfl rfl rfl hl.1 rfl (Nat.le_of_ble_eq_true rfl) dX7_wear_13 ⟨Nat.le_of_ble_eq_true rfl, Nat.le_of_ble_eq_true rfl, rfl, rfl⟩ ⟨Nat.le_of_ble_eq_true rfl, Nat.le_of_ble_eq_true rfl⟩) (fun r_4 h => ?_)
    try dsimp only at h
    refine lv_iload_n hx hb dX7_wear_16 rfl (lv_at hl 2 rfl) ?_
    refine vp_callSi (rd_wS (wc := ([] : va_W)) (As := [.long r_4, .int x2]) (rest := []) hx hb hml hown ht (c2_X7_isIn h) wd_X7_isIn mw_1265 hQ hV hS (hP.sub [] rfl) rfl hl.1 rfl (Nat.le_of_ble_eq_true rfl) dX7_wear_17 ⟨Nat.le_of_ble_eq_true rfl, Nat.le_of_ble_eq_true rfl, rfl, rfl⟩ ⟨Nat.le_of_ble_eq_true rfl, Nat.le_of_ble_eq_true rfl⟩) (fun r_6 h => ?_)
    try dsimp only at h
    refine lv_if_eq (tgt := 26) hx hb dX7_wear_20 (by decide) (fun c_8 => ?_) (fun c_8 => ?_)
    · replace h := h.1 c_8
      refine lv_aload_n hx hb dX7_wear_26 rfl (lv_at hl 0 rfl) ?_
      refine mt_gov (mt_wV (wc := md_v a0 q s0) (As := []) (rest := []) hx hb hml hown ht (c2_X7_keepsAct h) wd_X7_keepsAct mw_1233 hQ hV hS hA (hP.sub [0, 1, 2, 3, 4, 5, 6, 7] rfl) (hD.sub [0, 1, 2, 3, 4, 5, 6, 7] (by decide) rfl) rfl rfl rfl hl.1 rfl (Nat.le_of_ble_eq_true rfl) dX7_wear_27 ⟨Nat.le_of_ble_eq_true rfl, Nat.le_of_ble_eq_true rfl, rfl, rfl⟩ ⟨Nat.le_of_ble_eq_true rfl, Nat.le_of_ble_eq_true rfl⟩) (wr := []) hP hD hS hA [0, 1, 2, 3, 4, 5, 6, 7] [] rfl rfl (by decide) (by decide) (fun u_10 H locs h hP hD hS => ?_)
      try dsimp only at h
      have hP : va_P D vwCl [((a0 0), .inr (6, [.ref (a0 1), .ref (a0 2), .int (u_10.1 0), .ref (a0 3), .ref (a0 5), .ref (a0 4), .long u_10.2.1, .int (u_10.1 1), .int (u_10.1 2), .ref (a0 6), .int (u_10.1 3), .int (u_10.1 4), .ref (a0 7), .int (u_10.1 5), .int (u_10.1 6), .int (u_10.1 7), .int (u_10.1 8), .int (u_10.1 9), .int (u_10.1 10), .int (u_10.1 11), .int (u_10.1 12), .int (u_10.1 13), .int (u_10.1 14)])), ((a0 1), .inl (q 1, 6896, .inr (.inl (u_10.2.2.1 0)))), ((a0 2), .inl (q 1, 68960, .inr (.inl (u_10.2.2.1 1)))), ((a0 3), .inl (q 1, 13792, .inr (.inl (u_10.2.2.1 2)))), ((a0 4), .inl (q 1, 6896, .inr (.inl (u_10.2.2.1 3)))), ((a0 5), .inl (q 3, 2, .inl (u_10.2.2.2 0))), ((a0 6), .inl (q 0, 40, .inl (u_10.2.2.2 1))), ((a0 7), .inl (q 2, 400, .inl (u_10.2.2.2 2)))] H := hP
      have hD : va_D _ [((a0 0), .inr (6, [.ref (a0 1), .ref (a0 2), .int (u_10.1 0), .ref (a0 3), .ref (a0 5), .ref (a0 4), .long u_10.2.1, .int (u_10.1 1), .int (u_10.1 2), .ref (a0 6), .int (u_10.1 3), .int (u_10.1 4), .ref (a0 7), .int (u_10.1 5), .int (u_10.1 6), .int (u_10.1 7), .int (u_10.1 8), .int (u_10.1 9), .int (u_10.1 10), .int (u_10.1 11), .int (u_10.1 12), .int (u_10.1 13), .int (u_10.1 14)])), ((a0 1), .inl (q 1, 6896, .inr (.inl (u_10.2.2.1 0)))), ((a0 2), .inl (q 1, 68960, .inr (.inl (u_10.2.2.1 1)))), ((a0 3), .inl (q 1, 13792, .inr (.inl (u_10.2.2.1 2)))), ((a0 4), .inl (q 1, 6896, .inr (.inl (u_10.2.2.1 3)))), ((a0 5), .inl (q 3, 2, .inl (u_10.2.2.2 0))), ((a0 6), .inl (q 0, 40, .inl (u_10.2.2.2 1))), ((a0 7), .inl (q 2, 400, .inl (u_10.2.2.2 2)))] := hD
      refine lv_aload_n hx hb dX7_wear_30 rfl (lv_at hl 0 rfl) ?_
      refine lv_iload_n hx hb dX7_wear_31 rfl (lv_at hl 1 rfl) ?_
      refine lv_iload_n hx hb dX7_wear_32 rfl (lv_at hl 2 rfl) ?_
      refine mt_gov (mt_wV (wc := md_v a0 q u_10) (As := [.int x1, .int x2]) (rest := []) hx hb hml hown ht (c2_X7_wears h) wd_X7_wears mw_1353 hQ hV hS hA (hP.sub [0, 1, 2, 3, 4, 5, 6, 7] rfl) (hD.sub [0, 1, 2, 3, 4, 5, 6, 7] (by decide) rfl) rfl rfl rfl hl.1 rfl (Nat.le_of_ble_eq_true rfl) dX7_wear_33 ⟨Nat.le_of_ble_eq_true rfl, Nat.le_of_ble_eq_true rfl, rfl, rfl⟩ ⟨Nat.le_of_ble_eq_true rfl, Nat.le_of_ble_eq_true rfl⟩) (wr := []) hP hD hS hA [0, 1, 2, 3, 4, 5, 6, 7] [] rfl rfl (by decide) (by decide) (fun u_12 H locs h hP hD hS => ?_)
      try dsimp only at h
      have hP : va_P D vwCl [((a0 0), .inr (6, [.ref (a0 1), .ref (a0 2), .int (u_12.1 0), .ref (a0 3), .ref (a0 5), .ref (a0 4), .long u_12.2.1, .int (u_12.1 1), .int (u_12.1 2), .ref (a0 6), .int (u_12.1 3), .int (u_12.1 4), .ref (a0 7), .int (u_12.1 5), .int (u_12.1 6), .int (u_12.1 7), .int (u_12.1 8), .int (u_12.1 9), .int (u_12.1 10), .int (u_12.1 11), .int (u_12.1 12), .int (u_12.1 13), .int (u_12.1 14)])), ((a0 1), .inl (q 1, 6896, .inr (.inl (u_12.2.2.1 0)))), ((a0 2), .inl (q 1, 68960, .inr (.inl (u_12.2.2.1 1)))), ((a0 3), .inl (q 1, 13792, .inr (.inl (u_12.2.2.1 2)))), ((a0 4), .inl (q 1, 6896, .inr (.inl (u_12.2.2.1 3)))), ((a0 5), .inl (q 3, 2, .inl (u_12.2.2.2 0))), ((a0 6), .inl (q 0, 40, .inl (u_12.2.2.2 1))), ((a0 7), .inl (q 2, 400, .inl (u_12.2.2.2 2)))] H := hP
      have hD : va_D _ [((a0 0), .inr (6, [.ref (a0 1), .ref (a0 2), .int (u_12.1 0), .ref (a0 3), .ref (a0 5), .ref (a0 4), .long u_12.2.1, .int (u_12.1 1), .int (u_12.1 2), .ref (a0 6), .int (u_12.1 3), .int (u_12.1 4), .ref (a0 7), .int (u_12.1 5), .int (u_12.1 6), .int (u_12.1 7), .int (u_12.1 8), .int (u_12.1 9), .int (u_12.1 10), .int (u_12.1 11), .int (u_12.1 12), .int (u_12.1 13), .int (u_12.1 14)])), ((a0 1), .inl (q 1, 6896, .inr (.inl (u_12.2.2.1 0)))), ((a0 2), .inl (q 1, 68960, .inr (.inl (u_12.2.2.1 1)))), ((a0 3), .inl (q 1, 13792, .inr (.inl (u_12.2.2.1 2)))), ((a0 4), .inl (q 1, 6896, .inr (.inl (u_12.2.2.1 3)))), ((a0 5), .inl (q 3, 2, .inl (u_12.2.2.2 0))), ((a0 6), .inl (q 0, 40, .inl (u_12.2.2.2 1))), ((a0 7), .inl (q 2, 400, .inl (u_12.2.2.2 2)))] := hD
      refine lv_aload_n hx hb dX7_wear_36 rfl (lv_at hl 0 rfl) ?_
      refine lv_iload_n hx hb dX7_wear_37 rfl (lv_at hl 1 rfl) ?_
      refine vp_callSl (rd_wV (wc := md_v a0 q u_12) (As := [.int x1]) (rest := []) hx hb hml hown ht (c2_X7_wornOf h) wd_X7_wornOf mw_1261 hQ hV hS (hP.sub [0, 1, 2, 3, 4, 5, 6, 7] rfl) rfl rfl rfl hl.1 rfl (Nat.le_of_ble_eq_true rfl) dX7_wear_38 ⟨Nat.le_of_ble_eq_true rfl, Nat.le_of_ble_eq_true rfl, rfl, rfl⟩ ⟨Nat.le_of_ble_eq_true rfl, Nat.le_of_ble_eq_true rfl⟩) (fun r_13 h => ?_)
      try dsimp only at h
      refine vp_callSi (rd_wS (wc := ([] : va_W)) (As := [.long r_13]) (rest := []) hx hb hml hown ht (c2_X7_bits h) wd_X7_bits mw_1357 hQ hV hS (hP.sub [] rfl) rfl hl.1 rfl (Nat.le_of_ble_eq_true rfl) dX7_wear_41 ⟨Nat.le_of_ble_eq_true rfl, Nat.le_of_ble_eq_true rfl, rfl, rfl⟩ ⟨Nat.le_of_ble_eq_true rfl, Nat.le_of_ble_eq_true rfl⟩) (fun r_15 h => ?_)
      try dsimp only at h
      exact mt_iret u_12 hx hb hr hk h (hP.sub (ws' := md_v a0 q u_12) [0, 1, 2, 3, 4, 5, 6, 7] rfl) (hD.sub (ws' := md_v a0 q u_12) [0, 1, 2, 3, 4, 5, 6, 7] (by decide) rfl) hS dX7_wear_44
    · replace h := h.2 c_8
      refine lv_bipush (v := (-2)) hx hb dX7_wear_23 (by decide) ?_
      exact mt_iret s0 hx hb hr hk h (hP.sub (ws' := md_v a0 q s0) [0, 1, 2, 3, 4, 5, 6, 7] rfl) (hD.sub (ws' := md_v a0 q s0) [0, 1, 2, 3, 4, 5, 6, 7] (by decide) rfl) hS dX7_wear_25
  · replace h := h.2 c_3
    refine lv_iconst (v := (-1)) hx hb dX7_wear_9 (by decide) ?_
    exact mt_iret s0 hx hb hr hk h (hP.sub (ws' := md_v a0 q s0) [0, 1, 2, 3, 4, 5, 6, 7] rfl) (hD.sub (ws' := md_v a0 q s0) [0, 1, 2, 3, 4, 5, 6, 7] (by decide) rfl) hS dX7_wear_10

def wp_X7_mend (post : Int32 → Md → Prop) (s0 : Md) (x1 : Int32) (x2 : Int32) : Prop := wp_X7_isFlap (fun r_1 => ((¬ r_1 = 0 → wp_X7_wornOf (fun r_4 => wp_X7_isIn (fun r_6 => ((¬ r_6 = 0 → wp_X7_keepsAct (fun u_10 => wp_X7_wornOf (fun r_11 => wp_X7_sets (fun u_14 => wp_X7_wornOf (fun r_15 => wp_X7_bits (fun r_17 => post r_17 u_14) r_15) u_14 x1) u_10 x1 (7 : Int32) (r_11 &&& (((1 : Int64) <<< (Int32.toInt64 x2 &&& 63)) ^^^ (-1)))) u_10 x1) s0) ∧ (r_6 = 0 → post (-2) s0))) r_4 x2) s0 x1) ∧ (r_1 = 0 → post (-1) s0))) s0 x1 x2
set_option maxHeartbeats 4000000 in
set_option maxRecDepth 100000 in
theorem c2_X7_mend {l : Launch} {D : va_G} {q : Nat → ClassId} {sz : Nat} {a0 : Nat → Nat} {s0 : Md} {x1 : Int32} {x2 : Int32} {post : Int32 → Md → Prop} (h : wp_X7_mend post s0 x1 x2) : Met l yX7_mend (Cond.code yX7_mend cX7_mend 3 (some .int) :: w_all) ({ frames := 4, cells := 0, slots := 0, locals := 83 } : Room) (mt_P D q [.ref (a0 0), .int x1, .int x2] (md_v a0 q s0) sz) (va_Qi (fun r (u : Md) => post r u) (mt_B D (md_v a0 q s0) sz (fun u : Md => md_v a0 q u)) (va_A (md_v a0 q s0) sz)) 0 0 (va_A (md_v a0 q s0) sz) := by
  refine mt_start (by decide) (Nat.le_of_ble_eq_true rfl) ?_
  intro p e s m below meth c ls hx hb hr hml hown ht hk hin hP hQ hD hA hS hV hl
  have hK := hQ.1
  have hown : s.vm.findClass RX7 = some m.cls := hown
  have hl : lv_has ls 3 [(0, .ref (a0 0)), (1, .int x1), (2, .int x2)] := hl
  have hP : va_P D vwCl [((a0 0), .inr (6, [.ref (a0 1), .ref (a0 2), .int (s0.1 0), .ref (a0 3), .ref (a0 5), .ref (a0 4), .long s0.2.1, .int (s0.1 1), .int (s0.1 2), .ref (a0 6), .int (s0.1 3), .int (s0.1 4), .ref (a0 7), .int (s0.1 5), .int (s0.1 6), .int (s0.1 7), .int (s0.1 8), .int (s0.1 9), .int (s0.1 10), .int (s0.1 11), .int (s0.1 12), .int (s0.1 13), .int (s0.1 14)])), ((a0 1), .inl (q 1, 6896, .inr (.inl (s0.2.2.1 0)))), ((a0 2), .inl (q 1, 68960, .inr (.inl (s0.2.2.1 1)))), ((a0 3), .inl (q 1, 13792, .inr (.inl (s0.2.2.1 2)))), ((a0 4), .inl (q 1, 6896, .inr (.inl (s0.2.2.1 3)))), ((a0 5), .inl (q 3, 2, .inl (s0.2.2.2 0))), ((a0 6), .inl (q 0, 40, .inl (s0.2.2.2 1))), ((a0 7), .inl (q 2, 400, .inl (s0.2.2.2 2)))] s.heap := hP
  have hD : va_D _ [((a0 0), .inr (6, [.ref (a0 1), .ref (a0 2), .int (s0.1 0), .ref (a0 3), .ref (a0 5), .ref (a0 4), .long s0.2.1, .int (s0.1 1), .int (s0.1 2), .ref (a0 6), .int (s0.1 3), .int (s0.1 4), .ref (a0 7), .int (s0.1 5), .int (s0.1 6), .int (s0.1 7), .int (s0.1 8), .int (s0.1 9), .int (s0.1 10), .int (s0.1 11), .int (s0.1 12), .int (s0.1 13), .int (s0.1 14)])), ((a0 1), .inl (q 1, 6896, .inr (.inl (s0.2.2.1 0)))), ((a0 2), .inl (q 1, 68960, .inr (.inl (s0.2.2.1 1)))), ((a0 3), .inl (q 1, 13792, .inr (.inl (s0.2.2.1 2)))), ((a0 4), .inl (q 1, 6896, .inr (.inl (s0.2.2.1 3)))), ((a0 5), .inl (q 3, 2, .inl (s0.2.2.2 0))), ((a0 6), .inl (q 0, 40, .inl (s0.2.2.2 1))), ((a0 7), .inl (q 2, 400, .inl (s0.2.2.2 2)))] := hD
  unfold wp_X7_mend at h
  refine lv_aload_n hx hb dX7_mend_0 rfl (lv_at hl 0 rfl) ?_
  refine lv_iload_n hx hb dX7_mend_1 rfl (lv_at hl 1 rfl) ?_
  refine lv_iload_n hx hb dX7_mend_2 rfl (lv_at hl 2 rfl) ?_
  refine vp_callSi (rd_wV (wc := md_v a0 q s0) (As := [.int x1, .int x2]) (rest := []) hx hb hml hown ht (c2_X7_isFlap h) wd_X7_isFlap mw_1349 hQ hV hS (hP.sub [0, 1, 2, 3, 4, 5, 6, 7] rfl) rfl rfl rfl hl.1 rfl (Nat.le_of_ble_eq_true rfl) dX7_mend_3 ⟨Nat.le_of_ble_eq_true rfl, Nat.le_of_ble_eq_true rfl, rfl, rfl⟩ ⟨Nat.le_of_ble_eq_true rfl, Nat.le_of_ble_eq_true rfl⟩) (fun r_1 h => ?_)
  try dsimp only at h
  refine lv_if_ne (tgt := 11) hx hb dX7_mend_6 (by decide) (fun c_3 => ?_) (fun c_3 => ?_)
  · replace h := h.1 c_3
    refine lv_aload_n hx hb dX7_mend_11 rfl (lv_at hl 0 rfl) ?_
    refine lv_iload_n hx hb dX7_mend_12 rfl (lv_at hl 1 rfl) ?_
    refine vp_callSl (rd_wV (wc := md_v a0 q s0) (As := [.int x1]) (rest := []) hx hb hml hown ht (c2_X7_wornOf h) wd_X7_wornOf mw_1261 hQ hV hS (hP.sub [0, 1, 2, 3, 4, 5, 6, 7] rfl) rfl rfl rfl hl.1 rfl (Nat.le_of_ble_eq_true rfl) dX7_mend_13 ⟨Nat.le_of_ble_eq_true rfl, Nat.le_of_ble_eq_true rfl, rfl, rfl⟩ ⟨Nat.le_of_ble_eq_true rfl, Nat.le_of_ble_eq_true rfl⟩) (fun r_4 h => ?_)
    try dsimp only at h
    refine lv_iload_n hx hb dX7_mend_16 rfl (lv_at hl 2 rfl) ?_
    refine vp_callSi (rd_wS (wc := ([] : va_W)) (As := [.long r_4, .int x2]) (rest := []) hx hb hml hown ht (c2_X7_isIn h) wd_X7_isIn mw_1265 hQ hV hS (hP.sub [] rfl) rfl hl.1 rfl (Nat.le_of_ble_eq_true rfl) dX7_mend_17 ⟨Nat.le_of_ble_eq_true rfl, Nat.le_of_ble_eq_true rfl, rfl, rfl⟩ ⟨Nat.le_of_ble_eq_true rfl, Nat.le_of_ble_eq_true rfl⟩) (fun r_6 h => ?_)
    try dsimp only at h
    refine lv_if_ne (tgt := 26) hx hb dX7_mend_20 (by decide) (fun c_8 => ?_) (fun c_8 => ?_)
    · replace h := h.1 c_8
      refine lv_aload_n hx hb dX7_mend_26 rfl (lv_at hl 0 rfl) ?_
      refine mt_gov (mt_wV (wc := md_v a0 q s0) (As := []) (rest := []) hx hb hml hown ht (c2_X7_keepsAct h) wd_X7_keepsAct mw_1233 hQ hV hS hA (hP.sub [0, 1, 2, 3, 4, 5, 6, 7] rfl) (hD.sub [0, 1, 2, 3, 4, 5, 6, 7] (by decide) rfl) rfl rfl rfl hl.1 rfl (Nat.le_of_ble_eq_true rfl) dX7_mend_27 ⟨Nat.le_of_ble_eq_true rfl, Nat.le_of_ble_eq_true rfl, rfl, rfl⟩ ⟨Nat.le_of_ble_eq_true rfl, Nat.le_of_ble_eq_true rfl⟩) (wr := []) hP hD hS hA [0, 1, 2, 3, 4, 5, 6, 7] [] rfl rfl (by decide) (by decide) (fun u_10 H locs h hP hD hS => ?_)
      try dsimp only at h
      have hP : va_P D vwCl [((a0 0), .inr (6, [.ref (a0 1), .ref (a0 2), .int (u_10.1 0), .ref (a0 3), .ref (a0 5), .ref (a0 4), .long u_10.2.1, .int (u_10.1 1), .int (u_10.1 2), .ref (a0 6), .int (u_10.1 3), .int (u_10.1 4), .ref (a0 7), .int (u_10.1 5), .int (u_10.1 6), .int (u_10.1 7), .int (u_10.1 8), .int (u_10.1 9), .int (u_10.1 10), .int (u_10.1 11), .int (u_10.1 12), .int (u_10.1 13), .int (u_10.1 14)])), ((a0 1), .inl (q 1, 6896, .inr (.inl (u_10.2.2.1 0)))), ((a0 2), .inl (q 1, 68960, .inr (.inl (u_10.2.2.1 1)))), ((a0 3), .inl (q 1, 13792, .inr (.inl (u_10.2.2.1 2)))), ((a0 4), .inl (q 1, 6896, .inr (.inl (u_10.2.2.1 3)))), ((a0 5), .inl (q 3, 2, .inl (u_10.2.2.2 0))), ((a0 6), .inl (q 0, 40, .inl (u_10.2.2.2 1))), ((a0 7), .inl (q 2, 400, .inl (u_10.2.2.2 2)))] H := hP
      have hD : va_D _ [((a0 0), .inr (6, [.ref (a0 1), .ref (a0 2), .int (u_10.1 0), .ref (a0 3), .ref (a0 5), .ref (a0 4), .long u_10.2.1, .int (u_10.1 1), .int (u_10.1 2), .ref (a0 6), .int (u_10.1 3), .int (u_10.1 4), .ref (a0 7), .int (u_10.1 5), .int (u_10.1 6), .int (u_10.1 7), .int (u_10.1 8), .int (u_10.1 9), .int (u_10.1 10), .int (u_10.1 11), .int (u_10.1 12), .int (u_10.1 13), .int (u_10.1 14)])), ((a0 1), .inl (q 1, 6896, .inr (.inl (u_10.2.2.1 0)))), ((a0 2), .inl (q 1, 68960, .inr (.inl (u_10.2.2.1 1)))), ((a0 3), .inl (q 1, 13792, .inr (.inl (u_10.2.2.1 2)))), ((a0 4), .inl (q 1, 6896, .inr (.inl (u_10.2.2.1 3)))), ((a0 5), .inl (q 3, 2, .inl (u_10.2.2.2 0))), ((a0 6), .inl (q 0, 40, .inl (u_10.2.2.2 1))), ((a0 7), .inl (q 2, 400, .inl (u_10.2.2.2 2)))] := hD
      refine lv_aload_n hx hb dX7_mend_30 rfl (lv_at hl 0 rfl) ?_
      refine lv_iload_n hx hb dX7_mend_31 rfl (lv_at hl 1 rfl) ?_
      refine lv_bipush (v := 7) hx hb dX7_mend_32 (by decide) ?_
      refine lv_aload_n hx hb dX7_mend_34 rfl (lv_at hl 0 rfl) ?_
      refine lv_iload_n hx hb dX7_mend_35 rfl (lv_at hl 1 rfl) ?_
      refine vp_callSl (rd_wV (wc := md_v a0 q u_10) (As := [.int x1]) (rest := [.int 7, .int x1, .ref (a0 0)]) hx hb hml hown ht (c2_X7_wornOf h) wd_X7_wornOf mw_1261 hQ hV hS (hP.sub [0, 1, 2, 3, 4, 5, 6, 7] rfl) rfl rfl rfl hl.1 rfl (Nat.le_of_ble_eq_true rfl) dX7_mend_36 ⟨Nat.le_of_ble_eq_true rfl, Nat.le_of_ble_eq_true rfl, rfl, rfl⟩ ⟨Nat.le_of_ble_eq_true rfl, Nat.le_of_ble_eq_true rfl⟩) (fun r_11 h => ?_)
      try dsimp only at h
      refine lv_lconst (v := 1) hx hb dX7_mend_39 (by decide) ?_
      refine lv_iload_n hx hb dX7_mend_40 rfl (lv_at hl 2 rfl) ?_
      refine lv_lshl (v := ((1 : Int64) <<< (Int32.toInt64 x2 &&& 63))) hx hb dX7_mend_41 rfl ?_
      refine lv_ldc2 (v := (-1)) hx hb hown (ht _ mw_1364) dX7_mend_42 ?_
      refine lv_lxor hx hb dX7_mend_45 ?_
      refine lv_land hx hb dX7_mend_46 ?_
      refine mt_gov (mt_wV (wc := md_v a0 q u_10) (As := [.int x1, .int 7, .long (r_11 &&& (((1 : Int64) <<< (Int32.toInt64 x2 &&& 63)) ^^^ (-1)))]) (rest := []) hx hb hml hown ht (c2_X7_sets h) wd_X7_sets mw_1275 hQ hV hS hA (hP.sub [0, 1, 2, 3, 4, 5, 6, 7] rfl) (hD.sub [0, 1, 2, 3, 4, 5, 6, 7] (by decide) rfl) rfl rfl rfl hl.1 rfl (Nat.le_of_ble_eq_true rfl) dX7_mend_47 ⟨Nat.le_of_ble_eq_true rfl, Nat.le_of_ble_eq_true rfl, rfl, rfl⟩ ⟨Nat.le_of_ble_eq_true rfl, Nat.le_of_ble_eq_true rfl⟩) (wr := []) hP hD hS hA [0, 1, 2, 3, 4, 5, 6, 7] [] rfl rfl (by decide) (by decide) (fun u_14 H locs h hP hD hS => ?_)
      try dsimp only at h
      have hP : va_P D vwCl [((a0 0), .inr (6, [.ref (a0 1), .ref (a0 2), .int (u_14.1 0), .ref (a0 3), .ref (a0 5), .ref (a0 4), .long u_14.2.1, .int (u_14.1 1), .int (u_14.1 2), .ref (a0 6), .int (u_14.1 3), .int (u_14.1 4), .ref (a0 7), .int (u_14.1 5), .int (u_14.1 6), .int (u_14.1 7), .int (u_14.1 8), .int (u_14.1 9), .int (u_14.1 10), .int (u_14.1 11), .int (u_14.1 12), .int (u_14.1 13), .int (u_14.1 14)])), ((a0 1), .inl (q 1, 6896, .inr (.inl (u_14.2.2.1 0)))), ((a0 2), .inl (q 1, 68960, .inr (.inl (u_14.2.2.1 1)))), ((a0 3), .inl (q 1, 13792, .inr (.inl (u_14.2.2.1 2)))), ((a0 4), .inl (q 1, 6896, .inr (.inl (u_14.2.2.1 3)))), ((a0 5), .inl (q 3, 2, .inl (u_14.2.2.2 0))), ((a0 6), .inl (q 0, 40, .inl (u_14.2.2.2 1))), ((a0 7), .inl (q 2, 400, .inl (u_14.2.2.2 2)))] H := hP
      have hD : va_D _ [((a0 0), .inr (6, [.ref (a0 1), .ref (a0 2), .int (u_14.1 0), .ref (a0 3), .ref (a0 5), .ref (a0 4), .long u_14.2.1, .int (u_14.1 1), .int (u_14.1 2), .ref (a0 6), .int (u_14.1 3), .int (u_14.1 4), .ref (a0 7), .int (u_14.1 5), .int (u_14.1 6), .int (u_14.1 7), .int (u_14.1 8), .int (u_14.1 9), .int (u_14.1 10), .int (u_14.1 11), .int (u_14.1 12), .int (u_14.1 13), .int (u_14.1 14)])), ((a0 1), .inl (q 1, 6896, .inr (.inl (u_14.2.2.1 0)))), ((a0 2), .inl (q 1, 68960, .inr (.inl (u_14.2.2.1 1)))), ((a0 3), .inl (q 1, 13792, .inr (.inl (u_14.2.2.1 2)))), ((a0 4), .inl (q 1, 6896, .inr (.inl (u_14.2.2.1 3)))), ((a0 5), .inl (q 3, 2, .inl (u_14.2.2.2 0))), ((a0 6), .inl (q 0, 40, .inl (u_14.2.2.2 1))), ((a0 7), .inl (q 2, 400, .inl (u_14.2.2.2 2)))] := hD
      refine lv_aload_n hx hb dX7_mend_50 rfl (lv_at hl 0 rfl) ?_
      refine lv_iload_n hx hb dX7_mend_51 rfl (lv_at hl 1 rfl) ?_
      refine vp_callSl (rd_wV (wc := md_v a0 q u_14) (As := [.int x1]) (rest := []) hx hb hml hown ht (c2_X7_wornOf h) wd_X7_wornOf mw_1261 hQ hV hS (hP.sub [0, 1, 2, 3, 4, 5, 6, 7] rfl) rfl rfl rfl hl.1 rfl (Nat.le_of_ble_eq_true rfl) dX7_mend_52 ⟨Nat.le_of_ble_eq_true rfl, Nat.le_of_ble_eq_true rfl, rfl, rfl⟩ ⟨Nat.le_of_ble_eq_true rfl, Nat.le_of_ble_eq_true rfl⟩) (fun r_15 h => ?_)
      try dsimp only at h
      refine vp_callSi (rd_wS (wc := ([] : va_W)) (As := [.long r_15]) (rest := []) hx hb hml hown ht (c2_X7_bits h) wd_X7_bits mw_1357 hQ hV hS (hP.sub [] rfl) rfl hl.1 rfl (Nat.le_of_ble_eq_true rfl) dX7_mend_55 ⟨Nat.le_of_ble_eq_true rfl, Nat.le_of_ble_eq_true rfl, rfl, rfl⟩ ⟨Nat.le_of_ble_eq_true rfl, Nat.le_of_ble_eq_true rfl⟩) (fun r_17 h => ?_)
      try dsimp only at h
      exact mt_iret u_14 hx hb hr hk h (hP.sub (ws' := md_v a0 q u_14) [0, 1, 2, 3, 4, 5, 6, 7] rfl) (hD.sub (ws' := md_v a0 q u_14) [0, 1, 2, 3, 4, 5, 6, 7] (by decide) rfl) hS dX7_mend_58
    · replace h := h.2 c_8
      refine lv_bipush (v := (-2)) hx hb dX7_mend_23 (by decide) ?_
      exact mt_iret s0 hx hb hr hk h (hP.sub (ws' := md_v a0 q s0) [0, 1, 2, 3, 4, 5, 6, 7] rfl) (hD.sub (ws' := md_v a0 q s0) [0, 1, 2, 3, 4, 5, 6, 7] (by decide) rfl) hS dX7_mend_25
  · replace h := h.2 c_3
    refine lv_iconst (v := (-1)) hx hb dX7_mend_9 (by decide) ?_
    exact mt_iret s0 hx hb hr hk h (hP.sub (ws' := md_v a0 q s0) [0, 1, 2, 3, 4, 5, 6, 7] rfl) (hD.sub (ws' := md_v a0 q s0) [0, 1, 2, 3, 4, 5, 6, 7] (by decide) rfl) hS dX7_mend_10

def wp_X7_limit (post : Int32 → Md → Prop) (s0 : Md) (x1 : Int32) : Prop := wp_X7_isBoard (fun r_1 => ((r_1 = 0 → post (-1) s0) ∧ (¬ r_1 = 0 → wp_X7_in (fun r_4 => ((¬ r_4 = 0 → ((¬ (Int64.toInt32 ((s0.2.2.1 0) (Int32.toNatClampNeg 2))) = x1 → wp_X7_keepsAct (fun u_9 => post (Int64.toInt32 ((s0.2.2.1 0) (Int32.toNatClampNeg 2))) (u_9.1, u_9.2.1, (va_up u_9.2.2.1 0 (vp_updL (u_9.2.2.1 0) (Int32.toNatClampNeg 2) (Int32.toInt64 x1))), u_9.2.2.2)) s0) ∧ ((Int64.toInt32 ((s0.2.2.1 0) (Int32.toNatClampNeg 2))) = x1 → post (-2) s0))) ∧ (r_4 = 0 → post (-1) s0))) (Int32.toInt64 x1) (1 : Int64) (99 : Int64)))) s0
set_option maxHeartbeats 4000000 in
set_option maxRecDepth 100000 in
theorem c2_X7_limit {l : Launch} {D : va_G} {q : Nat → ClassId} {sz : Nat} {a0 : Nat → Nat} {s0 : Md} {x1 : Int32} {post : Int32 → Md → Prop} (h : wp_X7_limit post s0 x1) : Met l yX7_limit (Cond.code yX7_limit cX7_limit 3 (some .int) :: w_all) ({ frames := 2, cells := 0, slots := 0, locals := 40 } : Room) (mt_P D q [.ref (a0 0), .int x1] (md_v a0 q s0) sz) (va_Qi (fun r (u : Md) => post r u) (mt_B D (md_v a0 q s0) sz (fun u : Md => md_v a0 q u)) (va_A (md_v a0 q s0) sz)) 0 0 (va_A (md_v a0 q s0) sz) := by
  refine mt_start (by decide) (Nat.le_of_ble_eq_true rfl) ?_
  intro p e s m below meth c ls hx hb hr hml hown ht hk hin hP hQ hD hA hS hV hl
  have hK := hQ.1
  have hown : s.vm.findClass RX7 = some m.cls := hown
  have hl : lv_has ls 3 [(0, .ref (a0 0)), (1, .int x1)] := hl
  have hP : va_P D vwCl [((a0 0), .inr (6, [.ref (a0 1), .ref (a0 2), .int (s0.1 0), .ref (a0 3), .ref (a0 5), .ref (a0 4), .long s0.2.1, .int (s0.1 1), .int (s0.1 2), .ref (a0 6), .int (s0.1 3), .int (s0.1 4), .ref (a0 7), .int (s0.1 5), .int (s0.1 6), .int (s0.1 7), .int (s0.1 8), .int (s0.1 9), .int (s0.1 10), .int (s0.1 11), .int (s0.1 12), .int (s0.1 13), .int (s0.1 14)])), ((a0 1), .inl (q 1, 6896, .inr (.inl (s0.2.2.1 0)))), ((a0 2), .inl (q 1, 68960, .inr (.inl (s0.2.2.1 1)))), ((a0 3), .inl (q 1, 13792, .inr (.inl (s0.2.2.1 2)))), ((a0 4), .inl (q 1, 6896, .inr (.inl (s0.2.2.1 3)))), ((a0 5), .inl (q 3, 2, .inl (s0.2.2.2 0))), ((a0 6), .inl (q 0, 40, .inl (s0.2.2.2 1))), ((a0 7), .inl (q 2, 400, .inl (s0.2.2.2 2)))] s.heap := hP
  have hD : va_D _ [((a0 0), .inr (6, [.ref (a0 1), .ref (a0 2), .int (s0.1 0), .ref (a0 3), .ref (a0 5), .ref (a0 4), .long s0.2.1, .int (s0.1 1), .int (s0.1 2), .ref (a0 6), .int (s0.1 3), .int (s0.1 4), .ref (a0 7), .int (s0.1 5), .int (s0.1 6), .int (s0.1 7), .int (s0.1 8), .int (s0.1 9), .int (s0.1 10), .int (s0.1 11), .int (s0.1 12), .int (s0.1 13), .int (s0.1 14)])), ((a0 1), .inl (q 1, 6896, .inr (.inl (s0.2.2.1 0)))), ((a0 2), .inl (q 1, 68960, .inr (.inl (s0.2.2.1 1)))), ((a0 3), .inl (q 1, 13792, .inr (.inl (s0.2.2.1 2)))), ((a0 4), .inl (q 1, 6896, .inr (.inl (s0.2.2.1 3)))), ((a0 5), .inl (q 3, 2, .inl (s0.2.2.2 0))), ((a0 6), .inl (q 0, 40, .inl (s0.2.2.2 1))), ((a0 7), .inl (q 2, 400, .inl (s0.2.2.2 2)))] := hD
  unfold wp_X7_limit at h
  refine lv_aload_n hx hb dX7_limit_0 rfl (lv_at hl 0 rfl) ?_
  refine vp_callSi (rd_wV (wc := md_v a0 q s0) (As := []) (rest := []) hx hb hml hown ht (c2_X7_isBoard h) wd_X7_isBoard mw_1283 hQ hV hS (hP.sub [0, 1, 2, 3, 4, 5, 6, 7] rfl) rfl rfl rfl hl.1 rfl (Nat.le_of_ble_eq_true rfl) dX7_limit_1 ⟨Nat.le_of_ble_eq_true rfl, Nat.le_of_ble_eq_true rfl, rfl, rfl⟩ ⟨Nat.le_of_ble_eq_true rfl, Nat.le_of_ble_eq_true rfl⟩) (fun r_1 h => ?_)
  try dsimp only at h
  refine lv_if_eq (tgt := 19) hx hb dX7_limit_4 (by decide) (fun c_3 => ?_) (fun c_3 => ?_)
  · replace h := h.1 c_3
    refine lv_iconst (v := (-1)) hx hb dX7_limit_19 (by decide) ?_
    exact mt_iret s0 hx hb hr hk h (hP.sub (ws' := md_v a0 q s0) [0, 1, 2, 3, 4, 5, 6, 7] rfl) (hD.sub (ws' := md_v a0 q s0) [0, 1, 2, 3, 4, 5, 6, 7] (by decide) rfl) hS dX7_limit_20
  · replace h := h.2 c_3
    refine lv_iload_n hx hb dX7_limit_7 rfl (lv_at hl 1 rfl) ?_
    refine lv_i2l (v := (Int32.toInt64 x1)) hx hb dX7_limit_8 rfl ?_
    refine lv_lconst (v := 1) hx hb dX7_limit_9 (by decide) ?_
    refine lv_ldc2 (v := 99) hx hb hown (ht _ mw_1303) dX7_limit_10 ?_
    refine vp_callSi (rd_wS (wc := ([] : va_W)) (As := [.long (Int32.toInt64 x1), .long 1, .long 99]) (rest := []) hx hb hml hown ht (c2_X7_in h) wd_X7_in mw_1213 hQ hV hS (hP.sub [] rfl) rfl hl.1 rfl (Nat.le_of_ble_eq_true rfl) dX7_limit_13 ⟨Nat.le_of_ble_eq_true rfl, Nat.le_of_ble_eq_true rfl, rfl, rfl⟩ ⟨Nat.le_of_ble_eq_true rfl, Nat.le_of_ble_eq_true rfl⟩) (fun r_4 h => ?_)
    try dsimp only at h
    refine lv_if_ne (tgt := 21) hx hb dX7_limit_16 (by decide) (fun c_6 => ?_) (fun c_6 => ?_)
    · replace h := h.1 c_6
      refine lv_aload_n hx hb dX7_limit_21 rfl (lv_at hl 0 rfl) ?_
      refine fl_get (C := RX7) (T := TX7) (N := 23) (ci := 6) (v := .ref (a0 1)) hx hb ht in_X7 hown hK hP 0 rfl rfl 0 (by decide) mw_1130 rfl dX7_limit_22 ?_
      refine lv_iconst (v := 2) hx hb dX7_limit_25 (by decide) ?_
      refine va_lald hx hb hK hP 1 1 rfl rfl (in_c rfl) dX7_limit_26 ?_
      refine lv_l2i (v := (Int64.toInt32 ((s0.2.2.1 0) (Int32.toNatClampNeg 2)))) hx hb dX7_limit_27 rfl ?_
      refine lv_istore_n (lv' := [(2, .int (Int64.toInt32 ((s0.2.2.1 0) (Int32.toNatClampNeg 2)))), (0, .ref (a0 0)), (1, .int x1)]) hx hb dX7_limit_28 rfl hl (by decide) rfl (fun ls hl => ?_)
      refine lv_iload_n hx hb dX7_limit_29 rfl (lv_at hl 0 rfl) ?_
      refine lv_iload_n hx hb dX7_limit_30 rfl (lv_at hl 2 rfl) ?_
      refine lv_icmp_ne (tgt := 37) hx hb dX7_limit_31 (by decide) (fun c_7 => ?_) (fun c_7 => ?_)
      · replace h := h.1 c_7
        refine lv_aload_n hx hb dX7_limit_37 rfl (lv_at hl 1 rfl) ?_
        refine mt_gov (mt_wV (wc := md_v a0 q s0) (As := []) (rest := []) hx hb hml hown ht (c2_X7_keepsAct h) wd_X7_keepsAct mw_1233 hQ hV hS hA (hP.sub [0, 1, 2, 3, 4, 5, 6, 7] rfl) (hD.sub [0, 1, 2, 3, 4, 5, 6, 7] (by decide) rfl) rfl rfl rfl hl.1 rfl (Nat.le_of_ble_eq_true rfl) dX7_limit_38 ⟨Nat.le_of_ble_eq_true rfl, Nat.le_of_ble_eq_true rfl, rfl, rfl⟩ ⟨Nat.le_of_ble_eq_true rfl, Nat.le_of_ble_eq_true rfl⟩) (wr := []) hP hD hS hA [0, 1, 2, 3, 4, 5, 6, 7] [] rfl rfl (by decide) (by decide) (fun u_9 H locs h hP hD hS => ?_)
        try dsimp only at h
        have hP : va_P D vwCl [((a0 0), .inr (6, [.ref (a0 1), .ref (a0 2), .int (u_9.1 0), .ref (a0 3), .ref (a0 5), .ref (a0 4), .long u_9.2.1, .int (u_9.1 1), .int (u_9.1 2), .ref (a0 6), .int (u_9.1 3), .int (u_9.1 4), .ref (a0 7), .int (u_9.1 5), .int (u_9.1 6), .int (u_9.1 7), .int (u_9.1 8), .int (u_9.1 9), .int (u_9.1 10), .int (u_9.1 11), .int (u_9.1 12), .int (u_9.1 13), .int (u_9.1 14)])), ((a0 1), .inl (q 1, 6896, .inr (.inl (u_9.2.2.1 0)))), ((a0 2), .inl (q 1, 68960, .inr (.inl (u_9.2.2.1 1)))), ((a0 3), .inl (q 1, 13792, .inr (.inl (u_9.2.2.1 2)))), ((a0 4), .inl (q 1, 6896, .inr (.inl (u_9.2.2.1 3)))), ((a0 5), .inl (q 3, 2, .inl (u_9.2.2.2 0))), ((a0 6), .inl (q 0, 40, .inl (u_9.2.2.2 1))), ((a0 7), .inl (q 2, 400, .inl (u_9.2.2.2 2)))] H := hP
        have hD : va_D _ [((a0 0), .inr (6, [.ref (a0 1), .ref (a0 2), .int (u_9.1 0), .ref (a0 3), .ref (a0 5), .ref (a0 4), .long u_9.2.1, .int (u_9.1 1), .int (u_9.1 2), .ref (a0 6), .int (u_9.1 3), .int (u_9.1 4), .ref (a0 7), .int (u_9.1 5), .int (u_9.1 6), .int (u_9.1 7), .int (u_9.1 8), .int (u_9.1 9), .int (u_9.1 10), .int (u_9.1 11), .int (u_9.1 12), .int (u_9.1 13), .int (u_9.1 14)])), ((a0 1), .inl (q 1, 6896, .inr (.inl (u_9.2.2.1 0)))), ((a0 2), .inl (q 1, 68960, .inr (.inl (u_9.2.2.1 1)))), ((a0 3), .inl (q 1, 13792, .inr (.inl (u_9.2.2.1 2)))), ((a0 4), .inl (q 1, 6896, .inr (.inl (u_9.2.2.1 3)))), ((a0 5), .inl (q 3, 2, .inl (u_9.2.2.2 0))), ((a0 6), .inl (q 0, 40, .inl (u_9.2.2.2 1))), ((a0 7), .inl (q 2, 400, .inl (u_9.2.2.2 2)))] := hD
        refine lv_aload_n hx hb dX7_limit_41 rfl (lv_at hl 1 rfl) ?_
        refine fl_get (C := RX7) (T := TX7) (N := 23) (ci := 6) (v := .ref (a0 1)) hx hb ht in_X7 hown hK hP 0 rfl rfl 0 (by decide) mw_1130 rfl dX7_limit_42 ?_
        refine lv_iconst (v := 2) hx hb dX7_limit_45 (by decide) ?_
        refine lv_iload_n hx hb dX7_limit_46 rfl (lv_at hl 2 rfl) ?_
        refine lv_i2l (v := (Int32.toInt64 x1)) hx hb dX7_limit_47 rfl ?_
        refine va_last hx hb hK hP hD hS 1 1 rfl rfl (in_c rfl) dX7_limit_48 (fun H locs hP hD hS => ?_)
        have hP : va_P D vwCl [((a0 0), .inr (6, [.ref (a0 1), .ref (a0 2), .int (u_9.1 0), .ref (a0 3), .ref (a0 5), .ref (a0 4), .long u_9.2.1, .int (u_9.1 1), .int (u_9.1 2), .ref (a0 6), .int (u_9.1 3), .int (u_9.1 4), .ref (a0 7), .int (u_9.1 5), .int (u_9.1 6), .int (u_9.1 7), .int (u_9.1 8), .int (u_9.1 9), .int (u_9.1 10), .int (u_9.1 11), .int (u_9.1 12), .int (u_9.1 13), .int (u_9.1 14)])), ((a0 1), .inl (q 1, 6896, .inr (.inl (vp_updL (u_9.2.2.1 0) (Int32.toNatClampNeg 2) (Int32.toInt64 x1))))), ((a0 2), .inl (q 1, 68960, .inr (.inl (u_9.2.2.1 1)))), ((a0 3), .inl (q 1, 13792, .inr (.inl (u_9.2.2.1 2)))), ((a0 4), .inl (q 1, 6896, .inr (.inl (u_9.2.2.1 3)))), ((a0 5), .inl (q 3, 2, .inl (u_9.2.2.2 0))), ((a0 6), .inl (q 0, 40, .inl (u_9.2.2.2 1))), ((a0 7), .inl (q 2, 400, .inl (u_9.2.2.2 2)))] H := hP
        have hD : va_D _ [((a0 0), .inr (6, [.ref (a0 1), .ref (a0 2), .int (u_9.1 0), .ref (a0 3), .ref (a0 5), .ref (a0 4), .long u_9.2.1, .int (u_9.1 1), .int (u_9.1 2), .ref (a0 6), .int (u_9.1 3), .int (u_9.1 4), .ref (a0 7), .int (u_9.1 5), .int (u_9.1 6), .int (u_9.1 7), .int (u_9.1 8), .int (u_9.1 9), .int (u_9.1 10), .int (u_9.1 11), .int (u_9.1 12), .int (u_9.1 13), .int (u_9.1 14)])), ((a0 1), .inl (q 1, 6896, .inr (.inl (vp_updL (u_9.2.2.1 0) (Int32.toNatClampNeg 2) (Int32.toInt64 x1))))), ((a0 2), .inl (q 1, 68960, .inr (.inl (u_9.2.2.1 1)))), ((a0 3), .inl (q 1, 13792, .inr (.inl (u_9.2.2.1 2)))), ((a0 4), .inl (q 1, 6896, .inr (.inl (u_9.2.2.1 3)))), ((a0 5), .inl (q 3, 2, .inl (u_9.2.2.2 0))), ((a0 6), .inl (q 0, 40, .inl (u_9.2.2.2 1))), ((a0 7), .inl (q 2, 400, .inl (u_9.2.2.2 2)))] := hD
        refine lv_iload_n hx hb dX7_limit_49 rfl (lv_at hl 0 rfl) ?_
        exact mt_iret (u_9.1, u_9.2.1, (va_up u_9.2.2.1 0 (vp_updL (u_9.2.2.1 0) (Int32.toNatClampNeg 2) (Int32.toInt64 x1))), u_9.2.2.2) hx hb hr hk h (hP.sub (ws' := md_v a0 q (u_9.1, u_9.2.1, (va_up u_9.2.2.1 0 (vp_updL (u_9.2.2.1 0) (Int32.toNatClampNeg 2) (Int32.toInt64 x1))), u_9.2.2.2)) [0, 1, 2, 3, 4, 5, 6, 7] rfl) (hD.sub (ws' := md_v a0 q (u_9.1, u_9.2.1, (va_up u_9.2.2.1 0 (vp_updL (u_9.2.2.1 0) (Int32.toNatClampNeg 2) (Int32.toInt64 x1))), u_9.2.2.2)) [0, 1, 2, 3, 4, 5, 6, 7] (by decide) rfl) hS dX7_limit_50
      · replace h := h.2 c_7
        refine lv_bipush (v := (-2)) hx hb dX7_limit_34 (by decide) ?_
        exact mt_iret s0 hx hb hr hk h (hP.sub (ws' := md_v a0 q s0) [0, 1, 2, 3, 4, 5, 6, 7] rfl) (hD.sub (ws' := md_v a0 q s0) [0, 1, 2, 3, 4, 5, 6, 7] (by decide) rfl) hS dX7_limit_36
    · replace h := h.2 c_6
      refine lv_iconst (v := (-1)) hx hb dX7_limit_19 (by decide) ?_
      exact mt_iret s0 hx hb hr hk h (hP.sub (ws' := md_v a0 q s0) [0, 1, 2, 3, 4, 5, 6, 7] rfl) (hD.sub (ws' := md_v a0 q s0) [0, 1, 2, 3, 4, 5, 6, 7] (by decide) rfl) hS dX7_limit_20

def wp_X7_exchange_L109 (post : Int32 → Md → Prop) (e131 : Md → Int32 → Int32 → Int32 → Int32 → Int64 → Int32 → Prop) : Nat → Md → Int32 → Int32 → Int32 → Int32 → Int64 → Int32 → Prop
  | 0, _, _, _, _, _, _, _ => False
  | n109 + 1, t0, z1, z2, z3, z4, w5, z7 => ((6896 ≤ z7 → e131 t0 z1 z2 z3 z4 w5 z7) ∧ (¬ 6896 ≤ z7 → vp_in z7 6896 ∧ wp_X7_exchange_L109 post e131 n109 (t0.1, t0.2.1, (va_up t0.2.2.1 0 (vp_updL (t0.2.2.1 0) (Int32.toNatClampNeg z7) 0)), t0.2.2.2) z1 z2 z3 z4 w5 (z7 + 1)))
def wp_X7_exchange (post : Int32 → Md → Prop) (s0 : Md) (x1 : Int32) (x2 : Int32) (x3 : Int32) : Prop := wp_X7_isDrum (fun r_1 => ((r_1 = 0 → post (-1) s0) ∧ (¬ r_1 = 0 → wp_X7_flapsOf (fun r_4 => wp_X7_in (fun r_6 => ((r_6 = 0 → post (-1) s0) ∧ (¬ r_6 = 0 → wp_X7_flapsOf (fun r_9 => wp_X7_in (fun r_11 => ((r_11 = 0 → post (-1) s0) ∧ (¬ r_11 = 0 → ((¬ x2 = x3 → wp_X7_keepsAct (fun u_16 => vp_in (((8 + (42 * x1)) + 2) + x2) 6896 ∧ vp_in (((8 + (42 * x1)) + 2) + x3) 6896 ∧ vp_in (((8 + (42 * x1)) + 2) + x2) 6896 ∧ vp_in (((8 + (42 * x1)) + 2) + x3) 6896 ∧ (∃ n109, wp_X7_exchange_L109 post (fun t0 z1 z2 z3 z4 w5 z7 => post 1 t0) n109 (u_16.1, u_16.2.1, (va_up u_16.2.2.1 0 (vp_updL (vp_updL (u_16.2.2.1 0) (Int32.toNatClampNeg (((8 + (42 * x1)) + 2) + x2)) ((u_16.2.2.1 0) (Int32.toNatClampNeg (((8 + (42 * x1)) + 2) + x3)))) (Int32.toNatClampNeg (((8 + (42 * x1)) + 2) + x3)) ((u_16.2.2.1 0) (Int32.toNatClampNeg (((8 + (42 * x1)) + 2) + x2))))), u_16.2.2.2) x1 x2 x3 ((8 + (42 * x1)) + 2) ((u_16.2.2.1 0) (Int32.toNatClampNeg (((8 + (42 * x1)) + 2) + x2))) 496)) s0) ∧ (x2 = x3 → post (-1) s0))))) (Int32.toInt64 x3) (1 : Int64) (Int32.toInt64 (r_9 - 1))) s0 x1))) (Int32.toInt64 x2) (1 : Int64) (Int32.toInt64 (r_4 - 1))) s0 x1))) s0 x1
set_option maxHeartbeats 4000000 in
set_option maxRecDepth 100000 in
theorem c2_X7_exchange {l : Launch} {D : va_G} {q : Nat → ClassId} {sz : Nat} {a0 : Nat → Nat} {s0 : Md} {x1 : Int32} {x2 : Int32} {x3 : Int32} {post : Int32 → Md → Prop} (h : wp_X7_exchange post s0 x1 x2 x3) : Met l yX7_exchange (Cond.code yX7_exchange cX7_exchange 8 (some .int) :: w_all) ({ frames := 2, cells := 0, slots := 0, locals := 46 } : Room) (mt_P D q [.ref (a0 0), .int x1, .int x2, .int x3] (md_v a0 q s0) sz) (va_Qi (fun r (u : Md) => post r u) (mt_B D (md_v a0 q s0) sz (fun u : Md => md_v a0 q u)) (va_A (md_v a0 q s0) sz)) 0 0 (va_A (md_v a0 q s0) sz) := by
  refine mt_start (by decide) (Nat.le_of_ble_eq_true rfl) ?_
  intro p e s m below meth c ls hx hb hr hml hown ht hk hin hP hQ hD hA hS hV hl
  have hK := hQ.1
  have hown : s.vm.findClass RX7 = some m.cls := hown
  have hl : lv_has ls 8 [(0, .ref (a0 0)), (1, .int x1), (2, .int x2), (3, .int x3)] := hl
  have hP : va_P D vwCl [((a0 0), .inr (6, [.ref (a0 1), .ref (a0 2), .int (s0.1 0), .ref (a0 3), .ref (a0 5), .ref (a0 4), .long s0.2.1, .int (s0.1 1), .int (s0.1 2), .ref (a0 6), .int (s0.1 3), .int (s0.1 4), .ref (a0 7), .int (s0.1 5), .int (s0.1 6), .int (s0.1 7), .int (s0.1 8), .int (s0.1 9), .int (s0.1 10), .int (s0.1 11), .int (s0.1 12), .int (s0.1 13), .int (s0.1 14)])), ((a0 1), .inl (q 1, 6896, .inr (.inl (s0.2.2.1 0)))), ((a0 2), .inl (q 1, 68960, .inr (.inl (s0.2.2.1 1)))), ((a0 3), .inl (q 1, 13792, .inr (.inl (s0.2.2.1 2)))), ((a0 4), .inl (q 1, 6896, .inr (.inl (s0.2.2.1 3)))), ((a0 5), .inl (q 3, 2, .inl (s0.2.2.2 0))), ((a0 6), .inl (q 0, 40, .inl (s0.2.2.2 1))), ((a0 7), .inl (q 2, 400, .inl (s0.2.2.2 2)))] s.heap := hP
  have hD : va_D _ [((a0 0), .inr (6, [.ref (a0 1), .ref (a0 2), .int (s0.1 0), .ref (a0 3), .ref (a0 5), .ref (a0 4), .long s0.2.1, .int (s0.1 1), .int (s0.1 2), .ref (a0 6), .int (s0.1 3), .int (s0.1 4), .ref (a0 7), .int (s0.1 5), .int (s0.1 6), .int (s0.1 7), .int (s0.1 8), .int (s0.1 9), .int (s0.1 10), .int (s0.1 11), .int (s0.1 12), .int (s0.1 13), .int (s0.1 14)])), ((a0 1), .inl (q 1, 6896, .inr (.inl (s0.2.2.1 0)))), ((a0 2), .inl (q 1, 68960, .inr (.inl (s0.2.2.1 1)))), ((a0 3), .inl (q 1, 13792, .inr (.inl (s0.2.2.1 2)))), ((a0 4), .inl (q 1, 6896, .inr (.inl (s0.2.2.1 3)))), ((a0 5), .inl (q 3, 2, .inl (s0.2.2.2 0))), ((a0 6), .inl (q 0, 40, .inl (s0.2.2.2 1))), ((a0 7), .inl (q 2, 400, .inl (s0.2.2.2 2)))] := hD
  unfold wp_X7_exchange at h
  refine lv_aload_n hx hb dX7_exchange_0 rfl (lv_at hl 0 rfl) ?_
  refine lv_iload_n hx hb dX7_exchange_1 rfl (lv_at hl 1 rfl) ?_
  refine vp_callSi (rd_wV (wc := md_v a0 q s0) (As := [.int x1]) (rest := []) hx hb hml hown ht (c2_X7_isDrum h) wd_X7_isDrum mw_1373 hQ hV hS (hP.sub [0, 1, 2, 3, 4, 5, 6, 7] rfl) rfl rfl rfl hl.1 rfl (Nat.le_of_ble_eq_true rfl) dX7_exchange_2 ⟨Nat.le_of_ble_eq_true rfl, Nat.le_of_ble_eq_true rfl, rfl, rfl⟩ ⟨Nat.le_of_ble_eq_true rfl, Nat.le_of_ble_eq_true rfl⟩) (fun r_1 h => ?_)
  try dsimp only at h
  refine lv_if_eq (tgt := 47) hx hb dX7_exchange_5 (by decide) (fun c_3 => ?_) (fun c_3 => ?_)
  · replace h := h.1 c_3
    refine lv_iconst (v := (-1)) hx hb dX7_exchange_47 (by decide) ?_
    exact mt_iret s0 hx hb hr hk h (hP.sub (ws' := md_v a0 q s0) [0, 1, 2, 3, 4, 5, 6, 7] rfl) (hD.sub (ws' := md_v a0 q s0) [0, 1, 2, 3, 4, 5, 6, 7] (by decide) rfl) hS dX7_exchange_48
  · replace h := h.2 c_3
    refine lv_iload_n hx hb dX7_exchange_8 rfl (lv_at hl 2 rfl) ?_
    refine lv_i2l (v := (Int32.toInt64 x2)) hx hb dX7_exchange_9 rfl ?_
    refine lv_lconst (v := 1) hx hb dX7_exchange_10 (by decide) ?_
    refine lv_aload_n hx hb dX7_exchange_11 rfl (lv_at hl 0 rfl) ?_
    refine lv_iload_n hx hb dX7_exchange_12 rfl (lv_at hl 1 rfl) ?_
    refine vp_callSi (rd_wV (wc := md_v a0 q s0) (As := [.int x1]) (rest := [.long 1, .long (Int32.toInt64 x2)]) hx hb hml hown ht (c2_X7_flapsOf h) wd_X7_flapsOf mw_1253 hQ hV hS (hP.sub [0, 1, 2, 3, 4, 5, 6, 7] rfl) rfl rfl rfl hl.1 rfl (Nat.le_of_ble_eq_true rfl) dX7_exchange_13 ⟨Nat.le_of_ble_eq_true rfl, Nat.le_of_ble_eq_true rfl, rfl, rfl⟩ ⟨Nat.le_of_ble_eq_true rfl, Nat.le_of_ble_eq_true rfl⟩) (fun r_4 h => ?_)
    try dsimp only at h
    refine lv_iconst (v := 1) hx hb dX7_exchange_16 (by decide) ?_
    refine lv_isub hx hb dX7_exchange_17 ?_
    refine lv_i2l (v := (Int32.toInt64 (r_4 - 1))) hx hb dX7_exchange_18 rfl ?_
    refine vp_callSi (rd_wS (wc := ([] : va_W)) (As := [.long (Int32.toInt64 x2), .long 1, .long (Int32.toInt64 (r_4 - 1))]) (rest := []) hx hb hml hown ht (c2_X7_in h) wd_X7_in mw_1213 hQ hV hS (hP.sub [] rfl) rfl hl.1 rfl (Nat.le_of_ble_eq_true rfl) dX7_exchange_19 ⟨Nat.le_of_ble_eq_true rfl, Nat.le_of_ble_eq_true rfl, rfl, rfl⟩ ⟨Nat.le_of_ble_eq_true rfl, Nat.le_of_ble_eq_true rfl⟩) (fun r_6 h => ?_)
    try dsimp only at h
    refine lv_if_eq (tgt := 47) hx hb dX7_exchange_22 (by decide) (fun c_8 => ?_) (fun c_8 => ?_)
    · replace h := h.1 c_8
      refine lv_iconst (v := (-1)) hx hb dX7_exchange_47 (by decide) ?_
      exact mt_iret s0 hx hb hr hk h (hP.sub (ws' := md_v a0 q s0) [0, 1, 2, 3, 4, 5, 6, 7] rfl) (hD.sub (ws' := md_v a0 q s0) [0, 1, 2, 3, 4, 5, 6, 7] (by decide) rfl) hS dX7_exchange_48
    · replace h := h.2 c_8
      refine lv_iload_n hx hb dX7_exchange_25 rfl (lv_at hl 3 rfl) ?_
      refine lv_i2l (v := (Int32.toInt64 x3)) hx hb dX7_exchange_26 rfl ?_
      refine lv_lconst (v := 1) hx hb dX7_exchange_27 (by decide) ?_
      refine lv_aload_n hx hb dX7_exchange_28 rfl (lv_at hl 0 rfl) ?_
      refine lv_iload_n hx hb dX7_exchange_29 rfl (lv_at hl 1 rfl) ?_
      refine vp_callSi (rd_wV (wc := md_v a0 q s0) (As := [.int x1]) (rest := [.long 1, .long (Int32.toInt64 x3)]) hx hb hml hown ht (c2_X7_flapsOf h) wd_X7_flapsOf mw_1253 hQ hV hS (hP.sub [0, 1, 2, 3, 4, 5, 6, 7] rfl) rfl rfl rfl hl.1 rfl (Nat.le_of_ble_eq_true rfl) dX7_exchange_30 ⟨Nat.le_of_ble_eq_true rfl, Nat.le_of_ble_eq_true rfl, rfl, rfl⟩ ⟨Nat.le_of_ble_eq_true rfl, Nat.le_of_ble_eq_true rfl⟩) (fun r_9 h => ?_)
      try dsimp only at h
      refine lv_iconst (v := 1) hx hb dX7_exchange_33 (by decide) ?_
      refine lv_isub hx hb dX7_exchange_34 ?_
      refine lv_i2l (v := (Int32.toInt64 (r_9 - 1))) hx hb dX7_exchange_35 rfl ?_
      refine vp_callSi (rd_wS (wc := ([] : va_W)) (As := [.long (Int32.toInt64 x3), .long 1, .long (Int32.toInt64 (r_9 - 1))]) (rest := []) hx hb hml hown ht (c2_X7_in h) wd_X7_in mw_1213 hQ hV hS (hP.sub [] rfl) rfl hl.1 rfl (Nat.le_of_ble_eq_true rfl) dX7_exchange_36 ⟨Nat.le_of_ble_eq_true rfl, Nat.le_of_ble_eq_true rfl, rfl, rfl⟩ ⟨Nat.le_of_ble_eq_true rfl, Nat.le_of_ble_eq_true rfl⟩) (fun r_11 h => ?_)
      try dsimp only at h
      refine lv_if_eq (tgt := 47) hx hb dX7_exchange_39 (by decide) (fun c_13 => ?_) (fun c_13 => ?_)
      · replace h := h.1 c_13
        refine lv_iconst (v := (-1)) hx hb dX7_exchange_47 (by decide) ?_
        exact mt_iret s0 hx hb hr hk h (hP.sub (ws' := md_v a0 q s0) [0, 1, 2, 3, 4, 5, 6, 7] rfl) (hD.sub (ws' := md_v a0 q s0) [0, 1, 2, 3, 4, 5, 6, 7] (by decide) rfl) hS dX7_exchange_48
      · replace h := h.2 c_13
        refine lv_iload_n hx hb dX7_exchange_42 rfl (lv_at hl 2 rfl) ?_
        refine lv_iload_n hx hb dX7_exchange_43 rfl (lv_at hl 3 rfl) ?_
        refine lv_icmp_ne (tgt := 49) hx hb dX7_exchange_44 (by decide) (fun c_14 => ?_) (fun c_14 => ?_)
        · replace h := h.1 c_14
          refine lv_aload_n hx hb dX7_exchange_49 rfl (lv_at hl 0 rfl) ?_
          refine mt_gov (mt_wV (wc := md_v a0 q s0) (As := []) (rest := []) hx hb hml hown ht (c2_X7_keepsAct h) wd_X7_keepsAct mw_1233 hQ hV hS hA (hP.sub [0, 1, 2, 3, 4, 5, 6, 7] rfl) (hD.sub [0, 1, 2, 3, 4, 5, 6, 7] (by decide) rfl) rfl rfl rfl hl.1 rfl (Nat.le_of_ble_eq_true rfl) dX7_exchange_50 ⟨Nat.le_of_ble_eq_true rfl, Nat.le_of_ble_eq_true rfl, rfl, rfl⟩ ⟨Nat.le_of_ble_eq_true rfl, Nat.le_of_ble_eq_true rfl⟩) (wr := []) hP hD hS hA [0, 1, 2, 3, 4, 5, 6, 7] [] rfl rfl (by decide) (by decide) (fun u_16 H locs h hP hD hS => ?_)
          try dsimp only at h
          have hP : va_P D vwCl [((a0 0), .inr (6, [.ref (a0 1), .ref (a0 2), .int (u_16.1 0), .ref (a0 3), .ref (a0 5), .ref (a0 4), .long u_16.2.1, .int (u_16.1 1), .int (u_16.1 2), .ref (a0 6), .int (u_16.1 3), .int (u_16.1 4), .ref (a0 7), .int (u_16.1 5), .int (u_16.1 6), .int (u_16.1 7), .int (u_16.1 8), .int (u_16.1 9), .int (u_16.1 10), .int (u_16.1 11), .int (u_16.1 12), .int (u_16.1 13), .int (u_16.1 14)])), ((a0 1), .inl (q 1, 6896, .inr (.inl (u_16.2.2.1 0)))), ((a0 2), .inl (q 1, 68960, .inr (.inl (u_16.2.2.1 1)))), ((a0 3), .inl (q 1, 13792, .inr (.inl (u_16.2.2.1 2)))), ((a0 4), .inl (q 1, 6896, .inr (.inl (u_16.2.2.1 3)))), ((a0 5), .inl (q 3, 2, .inl (u_16.2.2.2 0))), ((a0 6), .inl (q 0, 40, .inl (u_16.2.2.2 1))), ((a0 7), .inl (q 2, 400, .inl (u_16.2.2.2 2)))] H := hP
          have hD : va_D _ [((a0 0), .inr (6, [.ref (a0 1), .ref (a0 2), .int (u_16.1 0), .ref (a0 3), .ref (a0 5), .ref (a0 4), .long u_16.2.1, .int (u_16.1 1), .int (u_16.1 2), .ref (a0 6), .int (u_16.1 3), .int (u_16.1 4), .ref (a0 7), .int (u_16.1 5), .int (u_16.1 6), .int (u_16.1 7), .int (u_16.1 8), .int (u_16.1 9), .int (u_16.1 10), .int (u_16.1 11), .int (u_16.1 12), .int (u_16.1 13), .int (u_16.1 14)])), ((a0 1), .inl (q 1, 6896, .inr (.inl (u_16.2.2.1 0)))), ((a0 2), .inl (q 1, 68960, .inr (.inl (u_16.2.2.1 1)))), ((a0 3), .inl (q 1, 13792, .inr (.inl (u_16.2.2.1 2)))), ((a0 4), .inl (q 1, 6896, .inr (.inl (u_16.2.2.1 3)))), ((a0 5), .inl (q 3, 2, .inl (u_16.2.2.2 0))), ((a0 6), .inl (q 0, 40, .inl (u_16.2.2.2 1))), ((a0 7), .inl (q 2, 400, .inl (u_16.2.2.2 2)))] := hD
          refine lv_bipush (v := 8) hx hb dX7_exchange_53 (by decide) ?_
          refine lv_bipush (v := 42) hx hb dX7_exchange_55 (by decide) ?_
          refine lv_iload_n hx hb dX7_exchange_57 rfl (lv_at hl 1 rfl) ?_
          refine lv_imul hx hb dX7_exchange_58 ?_
          refine lv_iadd hx hb dX7_exchange_59 ?_
          refine lv_iconst (v := 2) hx hb dX7_exchange_60 (by decide) ?_
          refine lv_iadd hx hb dX7_exchange_61 ?_
          refine lv_istore (lv' := [(4, .int ((8 + (42 * x1)) + 2)), (0, .ref (a0 0)), (1, .int x1), (2, .int x2), (3, .int x3)]) hx hb dX7_exchange_62 hl (by decide) rfl (fun ls hl => ?_)
          refine lv_aload_n hx hb dX7_exchange_64 rfl (lv_at hl 1 rfl) ?_
          refine fl_get (C := RX7) (T := TX7) (N := 23) (ci := 6) (v := .ref (a0 1)) hx hb ht in_X7 hown hK hP 0 rfl rfl 0 (by decide) mw_1130 rfl dX7_exchange_65 ?_
          refine lv_iload hx hb dX7_exchange_68 (lv_at hl 0 rfl) ?_
          refine lv_iload_n hx hb dX7_exchange_70 rfl (lv_at hl 3 rfl) ?_
          refine lv_iadd hx hb dX7_exchange_71 ?_
          obtain ⟨g_17, h⟩ := h
          refine va_lald hx hb hK hP 1 1 rfl rfl g_17 dX7_exchange_72 ?_
          refine lv_lstore (lv' := [(5, .long ((u_16.2.2.1 0) (Int32.toNatClampNeg (((8 + (42 * x1)) + 2) + x2)))), (4, .int ((8 + (42 * x1)) + 2)), (0, .ref (a0 0)), (1, .int x1), (2, .int x2), (3, .int x3)]) hx hb dX7_exchange_73 hl (by decide) rfl (fun ls hl => ?_)
          refine lv_aload_n hx hb dX7_exchange_75 rfl (lv_at hl 2 rfl) ?_
          refine fl_get (C := RX7) (T := TX7) (N := 23) (ci := 6) (v := .ref (a0 1)) hx hb ht in_X7 hown hK hP 0 rfl rfl 0 (by decide) mw_1130 rfl dX7_exchange_76 ?_
          refine lv_iload hx hb dX7_exchange_79 (lv_at hl 1 rfl) ?_
          refine lv_iload_n hx hb dX7_exchange_81 rfl (lv_at hl 4 rfl) ?_
          refine lv_iadd hx hb dX7_exchange_82 ?_
          refine lv_aload_n hx hb dX7_exchange_83 rfl (lv_at hl 2 rfl) ?_
          refine fl_get (C := RX7) (T := TX7) (N := 23) (ci := 6) (v := .ref (a0 1)) hx hb ht in_X7 hown hK hP 0 rfl rfl 0 (by decide) mw_1130 rfl dX7_exchange_84 ?_
          refine lv_iload hx hb dX7_exchange_87 (lv_at hl 1 rfl) ?_
          refine lv_iload_n hx hb dX7_exchange_89 rfl (lv_at hl 5 rfl) ?_
          refine lv_iadd hx hb dX7_exchange_90 ?_
          obtain ⟨g_18, h⟩ := h
          refine va_lald hx hb hK hP 1 1 rfl rfl g_18 dX7_exchange_91 ?_
          obtain ⟨g_19, h⟩ := h
          refine va_last hx hb hK hP hD hS 1 1 rfl rfl g_19 dX7_exchange_92 (fun H locs hP hD hS => ?_)
          have hP : va_P D vwCl [((a0 0), .inr (6, [.ref (a0 1), .ref (a0 2), .int (u_16.1 0), .ref (a0 3), .ref (a0 5), .ref (a0 4), .long u_16.2.1, .int (u_16.1 1), .int (u_16.1 2), .ref (a0 6), .int (u_16.1 3), .int (u_16.1 4), .ref (a0 7), .int (u_16.1 5), .int (u_16.1 6), .int (u_16.1 7), .int (u_16.1 8), .int (u_16.1 9), .int (u_16.1 10), .int (u_16.1 11), .int (u_16.1 12), .int (u_16.1 13), .int (u_16.1 14)])), ((a0 1), .inl (q 1, 6896, .inr (.inl (vp_updL (u_16.2.2.1 0) (Int32.toNatClampNeg (((8 + (42 * x1)) + 2) + x2)) ((u_16.2.2.1 0) (Int32.toNatClampNeg (((8 + (42 * x1)) + 2) + x3))))))), ((a0 2), .inl (q 1, 68960, .inr (.inl (u_16.2.2.1 1)))), ((a0 3), .inl (q 1, 13792, .inr (.inl (u_16.2.2.1 2)))), ((a0 4), .inl (q 1, 6896, .inr (.inl (u_16.2.2.1 3)))), ((a0 5), .inl (q 3, 2, .inl (u_16.2.2.2 0))), ((a0 6), .inl (q 0, 40, .inl (u_16.2.2.2 1))), ((a0 7), .inl (q 2, 400, .inl (u_16.2.2.2 2)))] H := hP
          have hD : va_D _ [((a0 0), .inr (6, [.ref (a0 1), .ref (a0 2), .int (u_16.1 0), .ref (a0 3), .ref (a0 5), .ref (a0 4), .long u_16.2.1, .int (u_16.1 1), .int (u_16.1 2), .ref (a0 6), .int (u_16.1 3), .int (u_16.1 4), .ref (a0 7), .int (u_16.1 5), .int (u_16.1 6), .int (u_16.1 7), .int (u_16.1 8), .int (u_16.1 9), .int (u_16.1 10), .int (u_16.1 11), .int (u_16.1 12), .int (u_16.1 13), .int (u_16.1 14)])), ((a0 1), .inl (q 1, 6896, .inr (.inl (vp_updL (u_16.2.2.1 0) (Int32.toNatClampNeg (((8 + (42 * x1)) + 2) + x2)) ((u_16.2.2.1 0) (Int32.toNatClampNeg (((8 + (42 * x1)) + 2) + x3))))))), ((a0 2), .inl (q 1, 68960, .inr (.inl (u_16.2.2.1 1)))), ((a0 3), .inl (q 1, 13792, .inr (.inl (u_16.2.2.1 2)))), ((a0 4), .inl (q 1, 6896, .inr (.inl (u_16.2.2.1 3)))), ((a0 5), .inl (q 3, 2, .inl (u_16.2.2.2 0))), ((a0 6), .inl (q 0, 40, .inl (u_16.2.2.2 1))), ((a0 7), .inl (q 2, 400, .inl (u_16.2.2.2 2)))] := hD
          refine lv_aload_n hx hb dX7_exchange_93 rfl (lv_at hl 2 rfl) ?_
          refine fl_get (C := RX7) (T := TX7) (N := 23) (ci := 6) (v := .ref (a0 1)) hx hb ht in_X7 hown hK hP 0 rfl rfl 0 (by decide) mw_1130 rfl dX7_exchange_94 ?_
          refine lv_iload hx hb dX7_exchange_97 (lv_at hl 1 rfl) ?_
          refine lv_iload_n hx hb dX7_exchange_99 rfl (lv_at hl 5 rfl) ?_
          refine lv_iadd hx hb dX7_exchange_100 ?_
          refine lv_lload hx hb dX7_exchange_101 (lv_at hl 0 rfl) ?_
          obtain ⟨g_20, h⟩ := h
          refine va_last hx hb hK hP hD hS 1 1 rfl rfl g_20 dX7_exchange_103 (fun H locs hP hD hS => ?_)
          have hP : va_P D vwCl [((a0 0), .inr (6, [.ref (a0 1), .ref (a0 2), .int (u_16.1 0), .ref (a0 3), .ref (a0 5), .ref (a0 4), .long u_16.2.1, .int (u_16.1 1), .int (u_16.1 2), .ref (a0 6), .int (u_16.1 3), .int (u_16.1 4), .ref (a0 7), .int (u_16.1 5), .int (u_16.1 6), .int (u_16.1 7), .int (u_16.1 8), .int (u_16.1 9), .int (u_16.1 10), .int (u_16.1 11), .int (u_16.1 12), .int (u_16.1 13), .int (u_16.1 14)])), ((a0 1), .inl (q 1, 6896, .inr (.inl (vp_updL (vp_updL (u_16.2.2.1 0) (Int32.toNatClampNeg (((8 + (42 * x1)) + 2) + x2)) ((u_16.2.2.1 0) (Int32.toNatClampNeg (((8 + (42 * x1)) + 2) + x3)))) (Int32.toNatClampNeg (((8 + (42 * x1)) + 2) + x3)) ((u_16.2.2.1 0) (Int32.toNatClampNeg (((8 + (42 * x1)) + 2) + x2))))))), ((a0 2), .inl (q 1, 68960, .inr (.inl (u_16.2.2.1 1)))), ((a0 3), .inl (q 1, 13792, .inr (.inl (u_16.2.2.1 2)))), ((a0 4), .inl (q 1, 6896, .inr (.inl (u_16.2.2.1 3)))), ((a0 5), .inl (q 3, 2, .inl (u_16.2.2.2 0))), ((a0 6), .inl (q 0, 40, .inl (u_16.2.2.2 1))), ((a0 7), .inl (q 2, 400, .inl (u_16.2.2.2 2)))] H := hP
          have hD : va_D _ [((a0 0), .inr (6, [.ref (a0 1), .ref (a0 2), .int (u_16.1 0), .ref (a0 3), .ref (a0 5), .ref (a0 4), .long u_16.2.1, .int (u_16.1 1), .int (u_16.1 2), .ref (a0 6), .int (u_16.1 3), .int (u_16.1 4), .ref (a0 7), .int (u_16.1 5), .int (u_16.1 6), .int (u_16.1 7), .int (u_16.1 8), .int (u_16.1 9), .int (u_16.1 10), .int (u_16.1 11), .int (u_16.1 12), .int (u_16.1 13), .int (u_16.1 14)])), ((a0 1), .inl (q 1, 6896, .inr (.inl (vp_updL (vp_updL (u_16.2.2.1 0) (Int32.toNatClampNeg (((8 + (42 * x1)) + 2) + x2)) ((u_16.2.2.1 0) (Int32.toNatClampNeg (((8 + (42 * x1)) + 2) + x3)))) (Int32.toNatClampNeg (((8 + (42 * x1)) + 2) + x3)) ((u_16.2.2.1 0) (Int32.toNatClampNeg (((8 + (42 * x1)) + 2) + x2))))))), ((a0 2), .inl (q 1, 68960, .inr (.inl (u_16.2.2.1 1)))), ((a0 3), .inl (q 1, 13792, .inr (.inl (u_16.2.2.1 2)))), ((a0 4), .inl (q 1, 6896, .inr (.inl (u_16.2.2.1 3)))), ((a0 5), .inl (q 3, 2, .inl (u_16.2.2.2 0))), ((a0 6), .inl (q 0, 40, .inl (u_16.2.2.2 1))), ((a0 7), .inl (q 2, 400, .inl (u_16.2.2.2 2)))] := hD
          refine lv_sipush (v := 496) hx hb dX7_exchange_104 (by decide) ?_
          refine lv_istore (lv' := [(7, .int 496), (5, .long ((u_16.2.2.1 0) (Int32.toNatClampNeg (((8 + (42 * x1)) + 2) + x2)))), (4, .int ((8 + (42 * x1)) + 2)), (0, .ref (a0 0)), (1, .int x1), (2, .int x2), (3, .int x3)]) hx hb dX7_exchange_107 hl (by decide) rfl (fun ls hl => ?_)
          have lp109 : ∀ (e131 : Md → Int32 → Int32 → Int32 → Int32 → Int64 → Int32 → Prop) (k131 : ∀ (t0 : Md) (z1 : Int32) (z2 : Int32) (z3 : Int32) (z4 : Int32) (w5 : Int64) (z7 : Int32) (H : Heap) (locs : List Loc) (ls : Array Slot), e131 t0 z1 z2 z3 z4 w5 z7 → va_P D vwCl (md_v a0 q t0) H → va_D (va_A (md_v a0 q s0) sz) (md_v a0 q t0) → va_S (va_A (md_v a0 q s0) sz) s.heap H locs → lv_has ls 8 [(1, .int z1), (2, .int z2), (3, .int z3), (4, .int z4), (5, .long w5), (7, .int z7), (0, .ref (a0 0))] → W p l e ({ frames := 2, cells := 0, slots := 0, locals := 46 } : Room) s m [.ref (a0 0), .int x1, .int x2, .int x3].toArray below meth c H locs 0 0 (MQ below (va_Qi (fun r (u : Md) => post r u) (mt_B D (md_v a0 q s0) sz (fun u : Md => md_v a0 q u)) (va_A (md_v a0 q s0) sz)) [.ref (a0 0), .int x1, .int x2, .int x3].toArray s 0 0 (va_A (md_v a0 q s0) sz)) (F0 m 131 ls [])) (n : Nat) (t0 : Md) (z1 : Int32) (z2 : Int32) (z3 : Int32) (z4 : Int32) (w5 : Int64) (z7 : Int32) (H : Heap) (locs : List Loc) (ls : Array Slot), wp_X7_exchange_L109 post e131 n t0 z1 z2 z3 z4 w5 z7 → va_P D vwCl (md_v a0 q t0) H → va_D (va_A (md_v a0 q s0) sz) (md_v a0 q t0) → va_S (va_A (md_v a0 q s0) sz) s.heap H locs → lv_has ls 8 [(1, .int z1), (2, .int z2), (3, .int z3), (4, .int z4), (5, .long w5), (7, .int z7), (0, .ref (a0 0))] → W p l e ({ frames := 2, cells := 0, slots := 0, locals := 46 } : Room) s m [.ref (a0 0), .int x1, .int x2, .int x3].toArray below meth c H locs 0 0 (MQ below (va_Qi (fun r (u : Md) => post r u) (mt_B D (md_v a0 q s0) sz (fun u : Md => md_v a0 q u)) (va_A (md_v a0 q s0) sz)) [.ref (a0 0), .int x1, .int x2, .int x3].toArray s 0 0 (va_A (md_v a0 q s0) sz)) (F0 m 109 ls []) := by
            intro e131 k131 n
            induction n with
            | zero =>
              intro t0 z1 z2 z3 z4 w5 z7 H locs ls h
              exact h.elim
            | succ n ih =>
              intro t0 z1 z2 z3 z4 w5 z7 H locs ls h hP hD hS hl
              have hP : va_P D vwCl [((a0 0), .inr (6, [.ref (a0 1), .ref (a0 2), .int (t0.1 0), .ref (a0 3), .ref (a0 5), .ref (a0 4), .long t0.2.1, .int (t0.1 1), .int (t0.1 2), .ref (a0 6), .int (t0.1 3), .int (t0.1 4), .ref (a0 7), .int (t0.1 5), .int (t0.1 6), .int (t0.1 7), .int (t0.1 8), .int (t0.1 9), .int (t0.1 10), .int (t0.1 11), .int (t0.1 12), .int (t0.1 13), .int (t0.1 14)])), ((a0 1), .inl (q 1, 6896, .inr (.inl (t0.2.2.1 0)))), ((a0 2), .inl (q 1, 68960, .inr (.inl (t0.2.2.1 1)))), ((a0 3), .inl (q 1, 13792, .inr (.inl (t0.2.2.1 2)))), ((a0 4), .inl (q 1, 6896, .inr (.inl (t0.2.2.1 3)))), ((a0 5), .inl (q 3, 2, .inl (t0.2.2.2 0))), ((a0 6), .inl (q 0, 40, .inl (t0.2.2.2 1))), ((a0 7), .inl (q 2, 400, .inl (t0.2.2.2 2)))] H := hP
              have hD : va_D _ [((a0 0), .inr (6, [.ref (a0 1), .ref (a0 2), .int (t0.1 0), .ref (a0 3), .ref (a0 5), .ref (a0 4), .long t0.2.1, .int (t0.1 1), .int (t0.1 2), .ref (a0 6), .int (t0.1 3), .int (t0.1 4), .ref (a0 7), .int (t0.1 5), .int (t0.1 6), .int (t0.1 7), .int (t0.1 8), .int (t0.1 9), .int (t0.1 10), .int (t0.1 11), .int (t0.1 12), .int (t0.1 13), .int (t0.1 14)])), ((a0 1), .inl (q 1, 6896, .inr (.inl (t0.2.2.1 0)))), ((a0 2), .inl (q 1, 68960, .inr (.inl (t0.2.2.1 1)))), ((a0 3), .inl (q 1, 13792, .inr (.inl (t0.2.2.1 2)))), ((a0 4), .inl (q 1, 6896, .inr (.inl (t0.2.2.1 3)))), ((a0 5), .inl (q 3, 2, .inl (t0.2.2.2 0))), ((a0 6), .inl (q 0, 40, .inl (t0.2.2.2 1))), ((a0 7), .inl (q 2, 400, .inl (t0.2.2.2 2)))] := hD
              unfold wp_X7_exchange_L109 at h
              refine lv_iload hx hb dX7_exchange_109 (lv_at hl 5 rfl) ?_
              refine lv_sipush (v := 6896) hx hb dX7_exchange_111 (by decide) ?_
              refine lv_icmp_ge (tgt := 131) hx hb dX7_exchange_114 (by decide) (fun c_21 => ?_) (fun c_21 => ?_)
              · replace h := h.1 c_21
                exact k131 _ _ _ _ _ _ _ _ _ ls h (hP.sub (ws' := md_v a0 q t0) [0, 1, 2, 3, 4, 5, 6, 7] rfl) (hD.sub (ws' := md_v a0 q t0) [0, 1, 2, 3, 4, 5, 6, 7] (by decide) rfl) hS (lv_sub hl [0, 1, 2, 3, 4, 5, 6] rfl)
              · replace h := h.2 c_21
                refine lv_aload_n hx hb dX7_exchange_117 rfl (lv_at hl 6 rfl) ?_
                refine fl_get (C := RX7) (T := TX7) (N := 23) (ci := 6) (v := .ref (a0 1)) hx hb ht in_X7 hown hK hP 0 rfl rfl 0 (by decide) mw_1130 rfl dX7_exchange_118 ?_
                refine lv_iload hx hb dX7_exchange_121 (lv_at hl 5 rfl) ?_
                refine lv_lconst (v := 0) hx hb dX7_exchange_123 (by decide) ?_
                obtain ⟨g_22, h⟩ := h
                refine va_last hx hb hK hP hD hS 1 1 rfl rfl g_22 dX7_exchange_124 (fun H locs hP hD hS => ?_)
                have hP : va_P D vwCl [((a0 0), .inr (6, [.ref (a0 1), .ref (a0 2), .int (t0.1 0), .ref (a0 3), .ref (a0 5), .ref (a0 4), .long t0.2.1, .int (t0.1 1), .int (t0.1 2), .ref (a0 6), .int (t0.1 3), .int (t0.1 4), .ref (a0 7), .int (t0.1 5), .int (t0.1 6), .int (t0.1 7), .int (t0.1 8), .int (t0.1 9), .int (t0.1 10), .int (t0.1 11), .int (t0.1 12), .int (t0.1 13), .int (t0.1 14)])), ((a0 1), .inl (q 1, 6896, .inr (.inl (vp_updL (t0.2.2.1 0) (Int32.toNatClampNeg z7) 0)))), ((a0 2), .inl (q 1, 68960, .inr (.inl (t0.2.2.1 1)))), ((a0 3), .inl (q 1, 13792, .inr (.inl (t0.2.2.1 2)))), ((a0 4), .inl (q 1, 6896, .inr (.inl (t0.2.2.1 3)))), ((a0 5), .inl (q 3, 2, .inl (t0.2.2.2 0))), ((a0 6), .inl (q 0, 40, .inl (t0.2.2.2 1))), ((a0 7), .inl (q 2, 400, .inl (t0.2.2.2 2)))] H := hP
                have hD : va_D _ [((a0 0), .inr (6, [.ref (a0 1), .ref (a0 2), .int (t0.1 0), .ref (a0 3), .ref (a0 5), .ref (a0 4), .long t0.2.1, .int (t0.1 1), .int (t0.1 2), .ref (a0 6), .int (t0.1 3), .int (t0.1 4), .ref (a0 7), .int (t0.1 5), .int (t0.1 6), .int (t0.1 7), .int (t0.1 8), .int (t0.1 9), .int (t0.1 10), .int (t0.1 11), .int (t0.1 12), .int (t0.1 13), .int (t0.1 14)])), ((a0 1), .inl (q 1, 6896, .inr (.inl (vp_updL (t0.2.2.1 0) (Int32.toNatClampNeg z7) 0)))), ((a0 2), .inl (q 1, 68960, .inr (.inl (t0.2.2.1 1)))), ((a0 3), .inl (q 1, 13792, .inr (.inl (t0.2.2.1 2)))), ((a0 4), .inl (q 1, 6896, .inr (.inl (t0.2.2.1 3)))), ((a0 5), .inl (q 3, 2, .inl (t0.2.2.2 0))), ((a0 6), .inl (q 0, 40, .inl (t0.2.2.2 1))), ((a0 7), .inl (q 2, 400, .inl (t0.2.2.2 2)))] := hD
                refine lv_iinc (v := (z7 + 1)) (lv' := [(7, .int (z7 + 1)), (1, .int z1), (2, .int z2), (3, .int z3), (4, .int z4), (5, .long w5), (0, .ref (a0 0))]) hx hb dX7_exchange_125 hl (k := 5) rfl rfl (by decide) rfl (fun ls hl => ?_)
                refine lv_goto (tgt := 109) hx hb dX7_exchange_128 (by decide) ?_
                exact ih _ _ _ _ _ _ _ _ _ ls h (hP.sub (ws' := md_v a0 q (t0.1, t0.2.1, (va_up t0.2.2.1 0 (vp_updL (t0.2.2.1 0) (Int32.toNatClampNeg z7) 0)), t0.2.2.2)) [0, 1, 2, 3, 4, 5, 6, 7] rfl) (hD.sub (ws' := md_v a0 q (t0.1, t0.2.1, (va_up t0.2.2.1 0 (vp_updL (t0.2.2.1 0) (Int32.toNatClampNeg z7) 0)), t0.2.2.2)) [0, 1, 2, 3, 4, 5, 6, 7] (by decide) rfl) hS (lv_sub hl [1, 2, 3, 4, 5, 0, 6] rfl)
          obtain ⟨n109, h⟩ := h
          refine lp109 _ ?_ n109 _ _ _ _ _ _ _ _ _ ls h (hP.sub (ws' := md_v a0 q (u_16.1, u_16.2.1, (va_up u_16.2.2.1 0 (vp_updL (vp_updL (u_16.2.2.1 0) (Int32.toNatClampNeg (((8 + (42 * x1)) + 2) + x2)) ((u_16.2.2.1 0) (Int32.toNatClampNeg (((8 + (42 * x1)) + 2) + x3)))) (Int32.toNatClampNeg (((8 + (42 * x1)) + 2) + x3)) ((u_16.2.2.1 0) (Int32.toNatClampNeg (((8 + (42 * x1)) + 2) + x2))))), u_16.2.2.2)) [0, 1, 2, 3, 4, 5, 6, 7] rfl) (hD.sub (ws' := md_v a0 q (u_16.1, u_16.2.1, (va_up u_16.2.2.1 0 (vp_updL (vp_updL (u_16.2.2.1 0) (Int32.toNatClampNeg (((8 + (42 * x1)) + 2) + x2)) ((u_16.2.2.1 0) (Int32.toNatClampNeg (((8 + (42 * x1)) + 2) + x3)))) (Int32.toNatClampNeg (((8 + (42 * x1)) + 2) + x3)) ((u_16.2.2.1 0) (Int32.toNatClampNeg (((8 + (42 * x1)) + 2) + x2))))), u_16.2.2.2)) [0, 1, 2, 3, 4, 5, 6, 7] (by decide) rfl) hS (lv_sub hl [4, 5, 6, 2, 1, 0, 3] rfl)
          · intro t0 z1 z2 z3 z4 w5 z7 H locs ls h hP hD hS hl
            try dsimp only at h
            have hP : va_P D vwCl [((a0 0), .inr (6, [.ref (a0 1), .ref (a0 2), .int (t0.1 0), .ref (a0 3), .ref (a0 5), .ref (a0 4), .long t0.2.1, .int (t0.1 1), .int (t0.1 2), .ref (a0 6), .int (t0.1 3), .int (t0.1 4), .ref (a0 7), .int (t0.1 5), .int (t0.1 6), .int (t0.1 7), .int (t0.1 8), .int (t0.1 9), .int (t0.1 10), .int (t0.1 11), .int (t0.1 12), .int (t0.1 13), .int (t0.1 14)])), ((a0 1), .inl (q 1, 6896, .inr (.inl (t0.2.2.1 0)))), ((a0 2), .inl (q 1, 68960, .inr (.inl (t0.2.2.1 1)))), ((a0 3), .inl (q 1, 13792, .inr (.inl (t0.2.2.1 2)))), ((a0 4), .inl (q 1, 6896, .inr (.inl (t0.2.2.1 3)))), ((a0 5), .inl (q 3, 2, .inl (t0.2.2.2 0))), ((a0 6), .inl (q 0, 40, .inl (t0.2.2.2 1))), ((a0 7), .inl (q 2, 400, .inl (t0.2.2.2 2)))] H := hP
            have hD : va_D _ [((a0 0), .inr (6, [.ref (a0 1), .ref (a0 2), .int (t0.1 0), .ref (a0 3), .ref (a0 5), .ref (a0 4), .long t0.2.1, .int (t0.1 1), .int (t0.1 2), .ref (a0 6), .int (t0.1 3), .int (t0.1 4), .ref (a0 7), .int (t0.1 5), .int (t0.1 6), .int (t0.1 7), .int (t0.1 8), .int (t0.1 9), .int (t0.1 10), .int (t0.1 11), .int (t0.1 12), .int (t0.1 13), .int (t0.1 14)])), ((a0 1), .inl (q 1, 6896, .inr (.inl (t0.2.2.1 0)))), ((a0 2), .inl (q 1, 68960, .inr (.inl (t0.2.2.1 1)))), ((a0 3), .inl (q 1, 13792, .inr (.inl (t0.2.2.1 2)))), ((a0 4), .inl (q 1, 6896, .inr (.inl (t0.2.2.1 3)))), ((a0 5), .inl (q 3, 2, .inl (t0.2.2.2 0))), ((a0 6), .inl (q 0, 40, .inl (t0.2.2.2 1))), ((a0 7), .inl (q 2, 400, .inl (t0.2.2.2 2)))] := hD
            refine lv_iconst (v := 1) hx hb dX7_exchange_131 (by decide) ?_
            exact mt_iret t0 hx hb hr hk h (hP.sub (ws' := md_v a0 q t0) [0, 1, 2, 3, 4, 5, 6, 7] rfl) (hD.sub (ws' := md_v a0 q t0) [0, 1, 2, 3, 4, 5, 6, 7] (by decide) rfl) hS dX7_exchange_132
        · replace h := h.2 c_14
          refine lv_iconst (v := (-1)) hx hb dX7_exchange_47 (by decide) ?_
          exact mt_iret s0 hx hb hr hk h (hP.sub (ws' := md_v a0 q s0) [0, 1, 2, 3, 4, 5, 6, 7] rfl) (hD.sub (ws' := md_v a0 q s0) [0, 1, 2, 3, 4, 5, 6, 7] (by decide) rfl) hS dX7_exchange_48
