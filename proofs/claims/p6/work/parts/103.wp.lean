def wp_X0_swapSigns (post : Bd → Prop) (s0 : Bd) (x1 : Int32) (x2 : Int32) (x3 : Int32) : Prop := wp_X0_isMovable (fun r_1 => ((r_1 = 0 → post s0) ∧ (¬ r_1 = 0 → wp_X0_isMovable (fun r_4 => ((¬ r_4 = 0 → vp_in ((x1 * 40) + x2) 160 ∧ vp_in ((x1 * 40) + x3) 160 ∧ vp_in ((x1 * 40) + x2) 160 ∧ vp_in ((x1 * 40) + x3) 160 ∧ post (s0.1, (va_up s0.2.1 2 (upd (upd (s0.2.1 2) (Int32.toNatClampNeg ((x1 * 40) + x2)) ((s0.2.1 2) (Int32.toNatClampNeg ((x1 * 40) + x3)))) (Int32.toNatClampNeg ((x1 * 40) + x3)) ((s0.2.1 2) (Int32.toNatClampNeg ((x1 * 40) + x2))))), s0.2.2.1, s0.2.2.2.1, s0.2.2.2.2)) ∧ (r_4 = 0 → post s0))) s0 x1 x3))) s0 x1 x2
set_option maxHeartbeats 4000000 in
set_option maxRecDepth 100000 in
theorem c2_X0_swapSigns {l : Launch} {D : va_G} {q : Nat → ClassId} {sz : Nat} {a0 : Nat → Nat} {s0 : Bd} {x1 : Int32} {x2 : Int32} {x3 : Int32} {post : Bd → Prop} (h : wp_X0_swapSigns post s0 x1 x2 x3) : Met l yX0_swapSigns (Cond.code yX0_swapSigns cX0_swapSigns 6 none :: w_all) ({ frames := 2, cells := 0, slots := 0, locals := 43 } : Room) (mt_P D q [.ref (a0 0), .int x1, .int x2, .int x3] (bd_w a0 q s0) sz) (va_Qv (fun u : Bd => post u) (mt_B D (bd_w a0 q s0) sz (fun u : Bd => bd_w a0 q u)) (va_A (bd_w a0 q s0) sz)) 0 0 (va_A (bd_w a0 q s0) sz) := by
  refine mt_start (by decide) (Nat.le_of_ble_eq_true rfl) ?_
  intro p e s m below meth c ls hx hb hr hml hown ht hk hin hP hQ hD hA hS hV hl
  have hK := hQ.1
  have hown : s.vm.findClass RX0 = some m.cls := hown
  have hl : lv_has ls 6 [(0, .ref (a0 0)), (1, .int x1), (2, .int x2), (3, .int x3)] := hl
  have hP : va_P D vwCl [((a0 0), .inr (0, [.int (s0.1 0), .int (s0.1 1), .int (s0.1 2), .int (s0.1 3), .int (s0.1 4), .int (s0.1 5), .ref (a0 1), .ref (a0 2), .ref (a0 3), .ref (a0 4), .ref (a0 5), .ref (a0 6), .ref (a0 7), .ref (a0 8), .ref (a0 9), .ref (a0 10), .ref (a0 11), .ref (a0 12)])), ((a0 1), .inl (q 0, 4, .inl (s0.2.1 0))), ((a0 2), .inl (q 0, 4, .inl (s0.2.1 1))), ((a0 3), .inl (q 0, 160, .inl (s0.2.1 2))), ((a0 4), .inl (q 0, 40, .inl (s0.2.1 3))), ((a0 5), .inl (q 0, 40, .inl (s0.2.1 4))), ((a0 6), .inl (q 0, 40, .inl (s0.2.1 5))), ((a0 7), .inl (q 0, 40, .inl (s0.2.1 6))), ((a0 8), .inl (q 0, 40, .inl (s0.2.1 7))), ((a0 9), .inl (q 0, 40, .inl (s0.2.1 8))), ((a0 10), .inl (q 0, 40, .inl (s0.2.1 9))), ((a0 11), .inl (q 1, 40, .inr (.inl s0.2.2.1))), ((a0 12), .inl (q 0, s0.2.2.2.1, .inl s0.2.2.2.2))] s.heap := hP
  have hD : va_D _ [((a0 0), .inr (0, [.int (s0.1 0), .int (s0.1 1), .int (s0.1 2), .int (s0.1 3), .int (s0.1 4), .int (s0.1 5), .ref (a0 1), .ref (a0 2), .ref (a0 3), .ref (a0 4), .ref (a0 5), .ref (a0 6), .ref (a0 7), .ref (a0 8), .ref (a0 9), .ref (a0 10), .ref (a0 11), .ref (a0 12)])), ((a0 1), .inl (q 0, 4, .inl (s0.2.1 0))), ((a0 2), .inl (q 0, 4, .inl (s0.2.1 1))), ((a0 3), .inl (q 0, 160, .inl (s0.2.1 2))), ((a0 4), .inl (q 0, 40, .inl (s0.2.1 3))), ((a0 5), .inl (q 0, 40, .inl (s0.2.1 4))), ((a0 6), .inl (q 0, 40, .inl (s0.2.1 5))), ((a0 7), .inl (q 0, 40, .inl (s0.2.1 6))), ((a0 8), .inl (q 0, 40, .inl (s0.2.1 7))), ((a0 9), .inl (q 0, 40, .inl (s0.2.1 8))), ((a0 10), .inl (q 0, 40, .inl (s0.2.1 9))), ((a0 11), .inl (q 1, 40, .inr (.inl s0.2.2.1))), ((a0 12), .inl (q 0, s0.2.2.2.1, .inl s0.2.2.2.2))] := hD
  unfold wp_X0_swapSigns at h
  refine lv_aload_n hx hb dX0_swapSigns_0 rfl (lv_at hl 0 rfl) ?_
  refine lv_iload_n hx hb dX0_swapSigns_1 rfl (lv_at hl 1 rfl) ?_
  refine lv_iload_n hx hb dX0_swapSigns_2 rfl (lv_at hl 2 rfl) ?_
  refine vp_callSi (rd_wV (wc := bd_w a0 q s0) (As := [.int x1, .int x2]) (rest := []) hx hb hml hown ht (c2_X0_isMovable h) wd_X0_isMovable mw_780 hQ hV hS (hP.sub [0, 1, 2, 3, 4, 5, 6, 7, 8, 9, 10, 11, 12] rfl) rfl rfl rfl hl.1 rfl (Nat.le_of_ble_eq_true rfl) dX0_swapSigns_3 ⟨Nat.le_of_ble_eq_true rfl, Nat.le_of_ble_eq_true rfl, rfl, rfl⟩ ⟨Nat.le_of_ble_eq_true rfl, Nat.le_of_ble_eq_true rfl⟩) (fun r_1 h => ?_)
  try dsimp only at h
  refine lv_if_eq (tgt := 18) hx hb dX0_swapSigns_6 (by decide) (fun c_3 => ?_) (fun c_3 => ?_)
  · replace h := h.1 c_3
    exact mt_vret s0 hx hb hr hk h (hP.sub (ws' := bd_w a0 q s0) [0, 1, 2, 3, 4, 5, 6, 7, 8, 9, 10, 11, 12] rfl) (hD.sub (ws' := bd_w a0 q s0) [0, 1, 2, 3, 4, 5, 6, 7, 8, 9, 10, 11, 12] (by decide) rfl) hS dX0_swapSigns_18
  · replace h := h.2 c_3
    refine lv_aload_n hx hb dX0_swapSigns_9 rfl (lv_at hl 0 rfl) ?_
    refine lv_iload_n hx hb dX0_swapSigns_10 rfl (lv_at hl 1 rfl) ?_
    refine lv_iload_n hx hb dX0_swapSigns_11 rfl (lv_at hl 3 rfl) ?_
    refine vp_callSi (rd_wV (wc := bd_w a0 q s0) (As := [.int x1, .int x3]) (rest := []) hx hb hml hown ht (c2_X0_isMovable h) wd_X0_isMovable mw_780 hQ hV hS (hP.sub [0, 1, 2, 3, 4, 5, 6, 7, 8, 9, 10, 11, 12] rfl) rfl rfl rfl hl.1 rfl (Nat.le_of_ble_eq_true rfl) dX0_swapSigns_12 ⟨Nat.le_of_ble_eq_true rfl, Nat.le_of_ble_eq_true rfl, rfl, rfl⟩ ⟨Nat.le_of_ble_eq_true rfl, Nat.le_of_ble_eq_true rfl⟩) (fun r_4 h => ?_)
    try dsimp only at h
    refine lv_if_ne (tgt := 19) hx hb dX0_swapSigns_15 (by decide) (fun c_6 => ?_) (fun c_6 => ?_)
    · replace h := h.1 c_6
      refine lv_iload_n hx hb dX0_swapSigns_19 rfl (lv_at hl 1 rfl) ?_
      refine lv_bipush (v := 40) hx hb dX0_swapSigns_20 (by decide) ?_
      refine lv_imul hx hb dX0_swapSigns_22 ?_
      refine lv_istore (lv' := [(4, .int (x1 * 40)), (0, .ref (a0 0)), (1, .int x1), (2, .int x2), (3, .int x3)]) hx hb dX0_swapSigns_23 hl (by decide) rfl (fun ls hl => ?_)
      refine lv_aload_n hx hb dX0_swapSigns_25 rfl (lv_at hl 1 rfl) ?_
      refine fl_get (C := RX0) (T := TX0) (N := 18) (ci := 0) (v := .ref (a0 3)) hx hb ht in_X0 hown hK hP 0 rfl rfl 8 (by decide) mw_191 rfl dX0_swapSigns_26 ?_
      refine lv_iload hx hb dX0_swapSigns_29 (lv_at hl 0 rfl) ?_
      refine lv_iload_n hx hb dX0_swapSigns_31 rfl (lv_at hl 3 rfl) ?_
      refine lv_iadd hx hb dX0_swapSigns_32 ?_
      obtain ⟨g_7, h⟩ := h
      refine va_iald hx hb hK hP 3 0 rfl rfl g_7 dX0_swapSigns_33 ?_
      refine lv_istore (lv' := [(5, .int ((s0.2.1 2) (Int32.toNatClampNeg ((x1 * 40) + x2)))), (4, .int (x1 * 40)), (0, .ref (a0 0)), (1, .int x1), (2, .int x2), (3, .int x3)]) hx hb dX0_swapSigns_34 hl (by decide) rfl (fun ls hl => ?_)
      refine lv_aload_n hx hb dX0_swapSigns_36 rfl (lv_at hl 2 rfl) ?_
      refine fl_get (C := RX0) (T := TX0) (N := 18) (ci := 0) (v := .ref (a0 3)) hx hb ht in_X0 hown hK hP 0 rfl rfl 8 (by decide) mw_191 rfl dX0_swapSigns_37 ?_
      refine lv_iload hx hb dX0_swapSigns_40 (lv_at hl 1 rfl) ?_
      refine lv_iload_n hx hb dX0_swapSigns_42 rfl (lv_at hl 4 rfl) ?_
      refine lv_iadd hx hb dX0_swapSigns_43 ?_
      refine lv_aload_n hx hb dX0_swapSigns_44 rfl (lv_at hl 2 rfl) ?_
      refine fl_get (C := RX0) (T := TX0) (N := 18) (ci := 0) (v := .ref (a0 3)) hx hb ht in_X0 hown hK hP 0 rfl rfl 8 (by decide) mw_191 rfl dX0_swapSigns_45 ?_
      refine lv_iload hx hb dX0_swapSigns_48 (lv_at hl 1 rfl) ?_
      refine lv_iload_n hx hb dX0_swapSigns_50 rfl (lv_at hl 5 rfl) ?_
      refine lv_iadd hx hb dX0_swapSigns_51 ?_
      obtain ⟨g_8, h⟩ := h
      refine va_iald hx hb hK hP 3 0 rfl rfl g_8 dX0_swapSigns_52 ?_
      obtain ⟨g_9, h⟩ := h
      refine va_iast hx hb hK hP hD hS 3 0 rfl rfl g_9 dX0_swapSigns_53 (fun H locs hP hD hS => ?_)
      have hP : va_P D vwCl [((a0 0), .inr (0, [.int (s0.1 0), .int (s0.1 1), .int (s0.1 2), .int (s0.1 3), .int (s0.1 4), .int (s0.1 5), .ref (a0 1), .ref (a0 2), .ref (a0 3), .ref (a0 4), .ref (a0 5), .ref (a0 6), .ref (a0 7), .ref (a0 8), .ref (a0 9), .ref (a0 10), .ref (a0 11), .ref (a0 12)])), ((a0 1), .inl (q 0, 4, .inl (s0.2.1 0))), ((a0 2), .inl (q 0, 4, .inl (s0.2.1 1))), ((a0 3), .inl (q 0, 160, .inl (upd (s0.2.1 2) (Int32.toNatClampNeg ((x1 * 40) + x2)) ((s0.2.1 2) (Int32.toNatClampNeg ((x1 * 40) + x3)))))), ((a0 4), .inl (q 0, 40, .inl (s0.2.1 3))), ((a0 5), .inl (q 0, 40, .inl (s0.2.1 4))), ((a0 6), .inl (q 0, 40, .inl (s0.2.1 5))), ((a0 7), .inl (q 0, 40, .inl (s0.2.1 6))), ((a0 8), .inl (q 0, 40, .inl (s0.2.1 7))), ((a0 9), .inl (q 0, 40, .inl (s0.2.1 8))), ((a0 10), .inl (q 0, 40, .inl (s0.2.1 9))), ((a0 11), .inl (q 1, 40, .inr (.inl s0.2.2.1))), ((a0 12), .inl (q 0, s0.2.2.2.1, .inl s0.2.2.2.2))] H := hP
      have hD : va_D _ [((a0 0), .inr (0, [.int (s0.1 0), .int (s0.1 1), .int (s0.1 2), .int (s0.1 3), .int (s0.1 4), .int (s0.1 5), .ref (a0 1), .ref (a0 2), .ref (a0 3), .ref (a0 4), .ref (a0 5), .ref (a0 6), .ref (a0 7), .ref (a0 8), .ref (a0 9), .ref (a0 10), .ref (a0 11), .ref (a0 12)])), ((a0 1), .inl (q 0, 4, .inl (s0.2.1 0))), ((a0 2), .inl (q 0, 4, .inl (s0.2.1 1))), ((a0 3), .inl (q 0, 160, .inl (upd (s0.2.1 2) (Int32.toNatClampNeg ((x1 * 40) + x2)) ((s0.2.1 2) (Int32.toNatClampNeg ((x1 * 40) + x3)))))), ((a0 4), .inl (q 0, 40, .inl (s0.2.1 3))), ((a0 5), .inl (q 0, 40, .inl (s0.2.1 4))), ((a0 6), .inl (q 0, 40, .inl (s0.2.1 5))), ((a0 7), .inl (q 0, 40, .inl (s0.2.1 6))), ((a0 8), .inl (q 0, 40, .inl (s0.2.1 7))), ((a0 9), .inl (q 0, 40, .inl (s0.2.1 8))), ((a0 10), .inl (q 0, 40, .inl (s0.2.1 9))), ((a0 11), .inl (q 1, 40, .inr (.inl s0.2.2.1))), ((a0 12), .inl (q 0, s0.2.2.2.1, .inl s0.2.2.2.2))] := hD
      refine lv_aload_n hx hb dX0_swapSigns_54 rfl (lv_at hl 2 rfl) ?_
      refine fl_get (C := RX0) (T := TX0) (N := 18) (ci := 0) (v := .ref (a0 3)) hx hb ht in_X0 hown hK hP 0 rfl rfl 8 (by decide) mw_191 rfl dX0_swapSigns_55 ?_
      refine lv_iload hx hb dX0_swapSigns_58 (lv_at hl 1 rfl) ?_
      refine lv_iload_n hx hb dX0_swapSigns_60 rfl (lv_at hl 5 rfl) ?_
      refine lv_iadd hx hb dX0_swapSigns_61 ?_
      refine lv_iload hx hb dX0_swapSigns_62 (lv_at hl 0 rfl) ?_
      obtain ⟨g_10, h⟩ := h
      refine va_iast hx hb hK hP hD hS 3 0 rfl rfl g_10 dX0_swapSigns_64 (fun H locs hP hD hS => ?_)
      have hP : va_P D vwCl [((a0 0), .inr (0, [.int (s0.1 0), .int (s0.1 1), .int (s0.1 2), .int (s0.1 3), .int (s0.1 4), .int (s0.1 5), .ref (a0 1), .ref (a0 2), .ref (a0 3), .ref (a0 4), .ref (a0 5), .ref (a0 6), .ref (a0 7), .ref (a0 8), .ref (a0 9), .ref (a0 10), .ref (a0 11), .ref (a0 12)])), ((a0 1), .inl (q 0, 4, .inl (s0.2.1 0))), ((a0 2), .inl (q 0, 4, .inl (s0.2.1 1))), ((a0 3), .inl (q 0, 160, .inl (upd (upd (s0.2.1 2) (Int32.toNatClampNeg ((x1 * 40) + x2)) ((s0.2.1 2) (Int32.toNatClampNeg ((x1 * 40) + x3)))) (Int32.toNatClampNeg ((x1 * 40) + x3)) ((s0.2.1 2) (Int32.toNatClampNeg ((x1 * 40) + x2)))))), ((a0 4), .inl (q 0, 40, .inl (s0.2.1 3))), ((a0 5), .inl (q 0, 40, .inl (s0.2.1 4))), ((a0 6), .inl (q 0, 40, .inl (s0.2.1 5))), ((a0 7), .inl (q 0, 40, .inl (s0.2.1 6))), ((a0 8), .inl (q 0, 40, .inl (s0.2.1 7))), ((a0 9), .inl (q 0, 40, .inl (s0.2.1 8))), ((a0 10), .inl (q 0, 40, .inl (s0.2.1 9))), ((a0 11), .inl (q 1, 40, .inr (.inl s0.2.2.1))), ((a0 12), .inl (q 0, s0.2.2.2.1, .inl s0.2.2.2.2))] H := hP
      have hD : va_D _ [((a0 0), .inr (0, [.int (s0.1 0), .int (s0.1 1), .int (s0.1 2), .int (s0.1 3), .int (s0.1 4), .int (s0.1 5), .ref (a0 1), .ref (a0 2), .ref (a0 3), .ref (a0 4), .ref (a0 5), .ref (a0 6), .ref (a0 7), .ref (a0 8), .ref (a0 9), .ref (a0 10), .ref (a0 11), .ref (a0 12)])), ((a0 1), .inl (q 0, 4, .inl (s0.2.1 0))), ((a0 2), .inl (q 0, 4, .inl (s0.2.1 1))), ((a0 3), .inl (q 0, 160, .inl (upd (upd (s0.2.1 2) (Int32.toNatClampNeg ((x1 * 40) + x2)) ((s0.2.1 2) (Int32.toNatClampNeg ((x1 * 40) + x3)))) (Int32.toNatClampNeg ((x1 * 40) + x3)) ((s0.2.1 2) (Int32.toNatClampNeg ((x1 * 40) + x2)))))), ((a0 4), .inl (q 0, 40, .inl (s0.2.1 3))), ((a0 5), .inl (q 0, 40, .inl (s0.2.1 4))), ((a0 6), .inl (q 0, 40, .inl (s0.2.1 5))), ((a0 7), .inl (q 0, 40, .inl (s0.2.1 6))), ((a0 8), .inl (q 0, 40, .inl (s0.2.1 7))), ((a0 9), .inl (q 0, 40, .inl (s0.2.1 8))), ((a0 10), .inl (q 0, 40, .inl (s0.2.1 9))), ((a0 11), .inl (q 1, 40, .inr (.inl s0.2.2.1))), ((a0 12), .inl (q 0, s0.2.2.2.1, .inl s0.2.2.2.2))] := hD
      exact mt_vret (s0.1, (va_up s0.2.1 2 (upd (upd (s0.2.1 2) (Int32.toNatClampNeg ((x1 * 40) + x2)) ((s0.2.1 2) (Int32.toNatClampNeg ((x1 * 40) + x3)))) (Int32.toNatClampNeg ((x1 * 40) + x3)) ((s0.2.1 2) (Int32.toNatClampNeg ((x1 * 40) + x2))))), s0.2.2.1, s0.2.2.2.1, s0.2.2.2.2) hx hb hr hk h (hP.sub (ws' := bd_w a0 q (s0.1, (va_up s0.2.1 2 (upd (upd (s0.2.1 2) (Int32.toNatClampNeg ((x1 * 40) + x2)) ((s0.2.1 2) (Int32.toNatClampNeg ((x1 * 40) + x3)))) (Int32.toNatClampNeg ((x1 * 40) + x3)) ((s0.2.1 2) (Int32.toNatClampNeg ((x1 * 40) + x2))))), s0.2.2.1, s0.2.2.2.1, s0.2.2.2.2)) [0, 1, 2, 3, 4, 5, 6, 7, 8, 9, 10, 11, 12] rfl) (hD.sub (ws' := bd_w a0 q (s0.1, (va_up s0.2.1 2 (upd (upd (s0.2.1 2) (Int32.toNatClampNeg ((x1 * 40) + x2)) ((s0.2.1 2) (Int32.toNatClampNeg ((x1 * 40) + x3)))) (Int32.toNatClampNeg ((x1 * 40) + x3)) ((s0.2.1 2) (Int32.toNatClampNeg ((x1 * 40) + x2))))), s0.2.2.1, s0.2.2.2.1, s0.2.2.2.2)) [0, 1, 2, 3, 4, 5, 6, 7, 8, 9, 10, 11, 12] (by decide) rfl) hS dX0_swapSigns_65
    · replace h := h.2 c_6
      exact mt_vret s0 hx hb hr hk h (hP.sub (ws' := bd_w a0 q s0) [0, 1, 2, 3, 4, 5, 6, 7, 8, 9, 10, 11, 12] rfl) (hD.sub (ws' := bd_w a0 q s0) [0, 1, 2, 3, 4, 5, 6, 7, 8, 9, 10, 11, 12] (by decide) rfl) hS dX0_swapSigns_18

def wp_X0_cellsWith_L4 (s0 : Bd) (post : Int32 → Prop) (e31 : Int32 → Int32 → Int32 → Prop) : Nat → Int32 → Int32 → Int32 → Prop
  | 0, _, _, _ => False
  | n4 + 1, z1, z2, z3 => wp_X0_cells (fun r_1 => ((r_1 ≤ z3 → e31 z1 z2 z3) ∧ (¬ r_1 ≤ z3 → vp_in z3 40 ∧ ((¬ ((s0.2.1 3) (Int32.toNatClampNeg z3)) = z1 → wp_X0_cellsWith_L4 s0 post e31 n4 z1 z2 (z3 + 1)) ∧ (((s0.2.1 3) (Int32.toNatClampNeg z3)) = z1 → wp_X0_cellsWith_L4 s0 post e31 n4 z1 (z2 + 1) (z3 + 1)))))) s0
def wp_X0_cellsWith (post : Int32 → Prop) (s0 : Bd) (x1 : Int32) : Prop := (∃ n4, wp_X0_cellsWith_L4 s0 post (fun z1 z2 z3 => post z2) n4 x1 0 0)
set_option maxHeartbeats 4000000 in
set_option maxRecDepth 100000 in
theorem c2_X0_cellsWith {l : Launch} {D : va_G} {q : Nat → ClassId} {a0 : Nat → Nat} {s0 : Bd} {x1 : Int32} {post : Int32 → Prop} (h : wp_X0_cellsWith post s0 x1) : Met l yX0_cellsWith (Cond.code yX0_cellsWith cX0_cellsWith 4 (some .int) :: w_all) ({ frames := 1, cells := 0, slots := 0, locals := 20 } : Room) (rd_P D q [.ref (a0 0), .int x1] (bd_w a0 q s0)) (vp_Si post) 0 0 (fun _ => False) := by
  refine rd_start (by decide) (Nat.le_of_ble_eq_true rfl) ?_
  intro p e s m below meth c ls hx hb hr hml hown ht hk hP hQ hV hl
  have hK := hQ.1
  have hown : s.vm.findClass RX0 = some m.cls := hown
  have hl : lv_has ls 4 [(0, .ref (a0 0)), (1, .int x1)] := hl
  have hP : va_P D vwCl [((a0 0), .inr (0, [.int (s0.1 0), .int (s0.1 1), .int (s0.1 2), .int (s0.1 3), .int (s0.1 4), .int (s0.1 5), .ref (a0 1), .ref (a0 2), .ref (a0 3), .ref (a0 4), .ref (a0 5), .ref (a0 6), .ref (a0 7), .ref (a0 8), .ref (a0 9), .ref (a0 10), .ref (a0 11), .ref (a0 12)])), ((a0 1), .inl (q 0, 4, .inl (s0.2.1 0))), ((a0 2), .inl (q 0, 4, .inl (s0.2.1 1))), ((a0 3), .inl (q 0, 160, .inl (s0.2.1 2))), ((a0 4), .inl (q 0, 40, .inl (s0.2.1 3))), ((a0 5), .inl (q 0, 40, .inl (s0.2.1 4))), ((a0 6), .inl (q 0, 40, .inl (s0.2.1 5))), ((a0 7), .inl (q 0, 40, .inl (s0.2.1 6))), ((a0 8), .inl (q 0, 40, .inl (s0.2.1 7))), ((a0 9), .inl (q 0, 40, .inl (s0.2.1 8))), ((a0 10), .inl (q 0, 40, .inl (s0.2.1 9))), ((a0 11), .inl (q 1, 40, .inr (.inl s0.2.2.1))), ((a0 12), .inl (q 0, s0.2.2.2.1, .inl s0.2.2.2.2))] s.heap := hP
  unfold wp_X0_cellsWith at h
  refine lv_iconst (v := 0) hx hb dX0_cellsWith_0 (by decide) ?_
  refine lv_istore_n (lv' := [(2, .int 0), (0, .ref (a0 0)), (1, .int x1)]) hx hb dX0_cellsWith_1 rfl hl (by decide) rfl (fun ls hl => ?_)
  refine lv_iconst (v := 0) hx hb dX0_cellsWith_2 (by decide) ?_
  refine lv_istore_n (lv' := [(3, .int 0), (2, .int 0), (0, .ref (a0 0)), (1, .int x1)]) hx hb dX0_cellsWith_3 rfl hl (by decide) rfl (fun ls hl => ?_)
  have lp4 : ∀ (e31 : Int32 → Int32 → Int32 → Prop) (k31 : ∀ (z1 : Int32) (z2 : Int32) (z3 : Int32) (ls : Array Slot), e31 z1 z2 z3 → lv_has ls 4 [(1, .int z1), (2, .int z2), (3, .int z3), (0, .ref (a0 0))] → W p l e ({ frames := 1, cells := 0, slots := 0, locals := 20 } : Room) s m [.ref (a0 0), .int x1].toArray below meth c s.heap [] 0 0 (MQ below (vp_Si post) [.ref (a0 0), .int x1].toArray s 0 0 (fun _ => False)) (F0 m 31 ls [])) (n : Nat) (z1 : Int32) (z2 : Int32) (z3 : Int32) (ls : Array Slot), wp_X0_cellsWith_L4 s0 post e31 n z1 z2 z3 → lv_has ls 4 [(1, .int z1), (2, .int z2), (3, .int z3), (0, .ref (a0 0))] → W p l e ({ frames := 1, cells := 0, slots := 0, locals := 20 } : Room) s m [.ref (a0 0), .int x1].toArray below meth c s.heap [] 0 0 (MQ below (vp_Si post) [.ref (a0 0), .int x1].toArray s 0 0 (fun _ => False)) (F0 m 4 ls []) := by
    intro e31 k31 n
    induction n with
    | zero =>
      intro z1 z2 z3 ls h
      exact h.elim
    | succ n ih =>
      intro z1 z2 z3 ls h hl
      unfold wp_X0_cellsWith_L4 at h
      refine lv_iload_n hx hb dX0_cellsWith_4 rfl (lv_at hl 2 rfl) ?_
      refine lv_aload_n hx hb dX0_cellsWith_5 rfl (lv_at hl 3 rfl) ?_
      refine vp_callSi (rd_wV (wc := bd_w a0 q s0) (As := []) (rest := [.int z3]) hx hb hml hown ht (c2_X0_cells h) wd_X0_cells mw_588 hQ hV va_S.rf (hP.sub [0, 1, 2, 3, 4, 5, 6, 7, 8, 9, 10, 11, 12] rfl) rfl rfl rfl hl.1 rfl (Nat.le_of_ble_eq_true rfl) dX0_cellsWith_6 ⟨Nat.le_of_ble_eq_true rfl, Nat.le_of_ble_eq_true rfl, rfl, rfl⟩ ⟨Nat.le_of_ble_eq_true rfl, Nat.le_of_ble_eq_true rfl⟩) (fun r_1 h => ?_)
      try dsimp only at h
      refine lv_icmp_ge (tgt := 31) hx hb dX0_cellsWith_9 (by decide) (fun c_3 => ?_) (fun c_3 => ?_)
      · replace h := h.1 c_3
        exact k31 _ _ _ ls h (lv_sub hl [0, 1, 2, 3] rfl)
      · replace h := h.2 c_3
        refine lv_aload_n hx hb dX0_cellsWith_12 rfl (lv_at hl 3 rfl) ?_
        refine fl_get (C := RX0) (T := TX0) (N := 18) (ci := 0) (v := .ref (a0 4)) hx hb ht in_X0 hown hK hP 0 rfl rfl 9 (by decide) mw_192 rfl dX0_cellsWith_13 ?_
        refine lv_iload_n hx hb dX0_cellsWith_16 rfl (lv_at hl 2 rfl) ?_
        obtain ⟨g_4, h⟩ := h
        refine va_iald hx hb hK hP 4 0 rfl rfl g_4 dX0_cellsWith_17 ?_
        refine lv_iload_n hx hb dX0_cellsWith_18 rfl (lv_at hl 0 rfl) ?_
        refine lv_icmp_ne (tgt := 25) hx hb dX0_cellsWith_19 (by decide) (fun c_5 => ?_) (fun c_5 => ?_)
        · replace h := h.1 c_5
          refine lv_iinc (v := (z3 + 1)) (lv' := [(3, .int (z3 + 1)), (1, .int z1), (2, .int z2), (0, .ref (a0 0))]) hx hb dX0_cellsWith_25 hl (k := 2) rfl rfl (by decide) rfl (fun ls hl => ?_)
          refine lv_goto (tgt := 4) hx hb dX0_cellsWith_28 (by decide) ?_
          exact ih _ _ _ ls h (lv_sub hl [1, 2, 0, 3] rfl)
        · replace h := h.2 c_5
          refine lv_iinc (v := (z2 + 1)) (lv' := [(2, .int (z2 + 1)), (1, .int z1), (3, .int z3), (0, .ref (a0 0))]) hx hb dX0_cellsWith_22 hl (k := 1) rfl rfl (by decide) rfl (fun ls hl => ?_)
          refine lv_iinc (v := (z3 + 1)) (lv' := [(3, .int (z3 + 1)), (2, .int (z2 + 1)), (1, .int z1), (0, .ref (a0 0))]) hx hb dX0_cellsWith_25 hl (k := 2) rfl rfl (by decide) rfl (fun ls hl => ?_)
          refine lv_goto (tgt := 4) hx hb dX0_cellsWith_28 (by decide) ?_
          exact ih _ _ _ ls h (lv_sub hl [2, 1, 0, 3] rfl)
  obtain ⟨n4, h⟩ := h
  refine lp4 _ ?_ n4 _ _ _ ls h (lv_sub hl [3, 1, 0, 2] rfl)
  · intro z1 z2 z3 ls h hl
    try dsimp only at h
    refine lv_iload_n hx hb dX0_cellsWith_31 rfl (lv_at hl 1 rfl) ?_
    exact rd_iret hx hb hr hk h dX0_cellsWith_32

def wp_X0_flapsWith_L19 (s0 : Bd) (post : Int32 → Prop) (e49 : Int32 → Int32 → Int32 → Int32 → Int32 → Int32 → Int32 → Prop) : Nat → Int32 → Int32 → Int32 → Int32 → Int32 → Int32 → Int32 → Prop
  | 0, _, _, _, _, _, _, _ => False
  | n19 + 1, z1, z2, z3, z4, z5, z6, z7 => ((z5 ≤ z7 → e49 z1 z2 z3 z4 z5 z6 z7) ∧ (¬ z5 ≤ z7 → vp_in (z4 + z7) 160 ∧ ((¬ ((s0.2.1 2) (Int32.toNatClampNeg (z4 + z7))) = z2 → wp_X0_flapsWith_L19 s0 post e49 n19 z1 z2 z3 z4 z5 z6 (z7 + 1)) ∧ (((s0.2.1 2) (Int32.toNatClampNeg (z4 + z7))) = z2 → wp_X0_flapsWith_L19 s0 post e49 n19 z1 z2 z3 z4 z5 (z6 + 1) (z7 + 1)))))
def wp_X0_flapsWith (post : Int32 → Prop) (s0 : Bd) (x1 : Int32) (x2 : Int32) (x3 : Int32) : Prop := wp_X0_flapsOn (fun r_1 => (∃ n19, wp_X0_flapsWith_L19 s0 post (fun z1 z2 z3 z4 z5 z6 z7 => post z6) n19 x1 x2 x3 (x1 * 40) r_1 0 x3)) s0 x1
set_option maxHeartbeats 4000000 in
set_option maxRecDepth 100000 in
theorem c2_X0_flapsWith {l : Launch} {D : va_G} {q : Nat → ClassId} {a0 : Nat → Nat} {s0 : Bd} {x1 : Int32} {x2 : Int32} {x3 : Int32} {post : Int32 → Prop} (h : wp_X0_flapsWith post s0 x1 x2 x3) : Met l yX0_flapsWith (Cond.code yX0_flapsWith cX0_flapsWith 8 (some .int) :: w_all) ({ frames := 1, cells := 0, slots := 0, locals := 21 } : Room) (rd_P D q [.ref (a0 0), .int x1, .int x2, .int x3] (bd_w a0 q s0)) (vp_Si post) 0 0 (fun _ => False) := by
  refine rd_start (by decide) (Nat.le_of_ble_eq_true rfl) ?_
  intro p e s m below meth c ls hx hb hr hml hown ht hk hP hQ hV hl
  have hK := hQ.1
  have hown : s.vm.findClass RX0 = some m.cls := hown
  have hl : lv_has ls 8 [(0, .ref (a0 0)), (1, .int x1), (2, .int x2), (3, .int x3)] := hl
  have hP : va_P D vwCl [((a0 0), .inr (0, [.int (s0.1 0), .int (s0.1 1), .int (s0.1 2), .int (s0.1 3), .int (s0.1 4), .int (s0.1 5), .ref (a0 1), .ref (a0 2), .ref (a0 3), .ref (a0 4), .ref (a0 5), .ref (a0 6), .ref (a0 7), .ref (a0 8), .ref (a0 9), .ref (a0 10), .ref (a0 11), .ref (a0 12)])), ((a0 1), .inl (q 0, 4, .inl (s0.2.1 0))), ((a0 2), .inl (q 0, 4, .inl (s0.2.1 1))), ((a0 3), .inl (q 0, 160, .inl (s0.2.1 2))), ((a0 4), .inl (q 0, 40, .inl (s0.2.1 3))), ((a0 5), .inl (q 0, 40, .inl (s0.2.1 4))), ((a0 6), .inl (q 0, 40, .inl (s0.2.1 5))), ((a0 7), .inl (q 0, 40, .inl (s0.2.1 6))), ((a0 8), .inl (q 0, 40, .inl (s0.2.1 7))), ((a0 9), .inl (q 0, 40, .inl (s0.2.1 8))), ((a0 10), .inl (q 0, 40, .inl (s0.2.1 9))), ((a0 11), .inl (q 1, 40, .inr (.inl s0.2.2.1))), ((a0 12), .inl (q 0, s0.2.2.2.1, .inl s0.2.2.2.2))] s.heap := hP
  unfold wp_X0_flapsWith at h
  refine lv_iload_n hx hb dX0_flapsWith_0 rfl (lv_at hl 1 rfl) ?_
  refine lv_bipush (v := 40) hx hb dX0_flapsWith_1 (by decide) ?_
  refine lv_imul hx hb dX0_flapsWith_3 ?_
  refine lv_istore (lv' := [(4, .int (x1 * 40)), (0, .ref (a0 0)), (1, .int x1), (2, .int x2), (3, .int x3)]) hx hb dX0_flapsWith_4 hl (by decide) rfl (fun ls hl => ?_)
  refine lv_aload_n hx hb dX0_flapsWith_6 rfl (lv_at hl 1 rfl) ?_
  refine lv_iload_n hx hb dX0_flapsWith_7 rfl (lv_at hl 2 rfl) ?_
  refine vp_callSi (rd_wV (wc := bd_w a0 q s0) (As := [.int x1]) (rest := []) hx hb hml hown ht (c2_X0_flapsOn h) wd_X0_flapsOn mw_772 hQ hV va_S.rf (hP.sub [0, 1, 2, 3, 4, 5, 6, 7, 8, 9, 10, 11, 12] rfl) rfl rfl rfl hl.1 rfl (Nat.le_of_ble_eq_true rfl) dX0_flapsWith_8 ⟨Nat.le_of_ble_eq_true rfl, Nat.le_of_ble_eq_true rfl, rfl, rfl⟩ ⟨Nat.le_of_ble_eq_true rfl, Nat.le_of_ble_eq_true rfl⟩) (fun r_1 h => ?_)
  try dsimp only at h
  refine lv_istore (lv' := [(5, .int r_1), (4, .int (x1 * 40)), (0, .ref (a0 0)), (1, .int x1), (2, .int x2), (3, .int x3)]) hx hb dX0_flapsWith_11 hl (by decide) rfl (fun ls hl => ?_)
  refine lv_iconst (v := 0) hx hb dX0_flapsWith_13 (by decide) ?_
  refine lv_istore (lv' := [(6, .int 0), (5, .int r_1), (4, .int (x1 * 40)), (0, .ref (a0 0)), (1, .int x1), (2, .int x2), (3, .int x3)]) hx hb dX0_flapsWith_14 hl (by decide) rfl (fun ls hl => ?_)
  refine lv_iload_n hx hb dX0_flapsWith_16 rfl (lv_at hl 6 rfl) ?_
  refine lv_istore (lv' := [(7, .int x3), (6, .int 0), (5, .int r_1), (4, .int (x1 * 40)), (0, .ref (a0 0)), (1, .int x1), (2, .int x2), (3, .int x3)]) hx hb dX0_flapsWith_17 hl (by decide) rfl (fun ls hl => ?_)
  have lp19 : ∀ (e49 : Int32 → Int32 → Int32 → Int32 → Int32 → Int32 → Int32 → Prop) (k49 : ∀ (z1 : Int32) (z2 : Int32) (z3 : Int32) (z4 : Int32) (z5 : Int32) (z6 : Int32) (z7 : Int32) (ls : Array Slot), e49 z1 z2 z3 z4 z5 z6 z7 → lv_has ls 8 [(1, .int z1), (2, .int z2), (3, .int z3), (4, .int z4), (5, .int z5), (6, .int z6), (7, .int z7), (0, .ref (a0 0))] → W p l e ({ frames := 1, cells := 0, slots := 0, locals := 21 } : Room) s m [.ref (a0 0), .int x1, .int x2, .int x3].toArray below meth c s.heap [] 0 0 (MQ below (vp_Si post) [.ref (a0 0), .int x1, .int x2, .int x3].toArray s 0 0 (fun _ => False)) (F0 m 49 ls [])) (n : Nat) (z1 : Int32) (z2 : Int32) (z3 : Int32) (z4 : Int32) (z5 : Int32) (z6 : Int32) (z7 : Int32) (ls : Array Slot), wp_X0_flapsWith_L19 s0 post e49 n z1 z2 z3 z4 z5 z6 z7 → lv_has ls 8 [(1, .int z1), (2, .int z2), (3, .int z3), (4, .int z4), (5, .int z5), (6, .int z6), (7, .int z7), (0, .ref (a0 0))] → W p l e ({ frames := 1, cells := 0, slots := 0, locals := 21 } : Room) s m [.ref (a0 0), .int x1, .int x2, .int x3].toArray below meth c s.heap [] 0 0 (MQ below (vp_Si post) [.ref (a0 0), .int x1, .int x2, .int x3].toArray s 0 0 (fun _ => False)) (F0 m 19 ls []) := by
    intro e49 k49 n
    induction n with
    | zero =>
      intro z1 z2 z3 z4 z5 z6 z7 ls h
      exact h.elim
    | succ n ih =>
      intro z1 z2 z3 z4 z5 z6 z7 ls h hl
      unfold wp_X0_flapsWith_L19 at h
      refine lv_iload hx hb dX0_flapsWith_19 (lv_at hl 6 rfl) ?_
      refine lv_iload hx hb dX0_flapsWith_21 (lv_at hl 4 rfl) ?_
      refine lv_icmp_ge (tgt := 49) hx hb dX0_flapsWith_23 (by decide) (fun c_3 => ?_) (fun c_3 => ?_)
      · replace h := h.1 c_3
        exact k49 _ _ _ _ _ _ _ ls h (lv_sub hl [0, 1, 2, 3, 4, 5, 6, 7] rfl)
      · replace h := h.2 c_3
        refine lv_aload_n hx hb dX0_flapsWith_26 rfl (lv_at hl 7 rfl) ?_
        refine fl_get (C := RX0) (T := TX0) (N := 18) (ci := 0) (v := .ref (a0 3)) hx hb ht in_X0 hown hK hP 0 rfl rfl 8 (by decide) mw_191 rfl dX0_flapsWith_27 ?_
        refine lv_iload hx hb dX0_flapsWith_30 (lv_at hl 3 rfl) ?_
        refine lv_iload hx hb dX0_flapsWith_32 (lv_at hl 6 rfl) ?_
        refine lv_iadd hx hb dX0_flapsWith_34 ?_
        obtain ⟨g_4, h⟩ := h
        refine va_iald hx hb hK hP 3 0 rfl rfl g_4 dX0_flapsWith_35 ?_
        refine lv_iload_n hx hb dX0_flapsWith_36 rfl (lv_at hl 1 rfl) ?_
        refine lv_icmp_ne (tgt := 43) hx hb dX0_flapsWith_37 (by decide) (fun c_5 => ?_) (fun c_5 => ?_)
        · replace h := h.1 c_5
          refine lv_iinc (v := (z7 + 1)) (lv' := [(7, .int (z7 + 1)), (1, .int z1), (2, .int z2), (3, .int z3), (4, .int z4), (5, .int z5), (6, .int z6), (0, .ref (a0 0))]) hx hb dX0_flapsWith_43 hl (k := 6) rfl rfl (by decide) rfl (fun ls hl => ?_)
          refine lv_goto (tgt := 19) hx hb dX0_flapsWith_46 (by decide) ?_
          exact ih _ _ _ _ _ _ _ ls h (lv_sub hl [1, 2, 3, 4, 5, 6, 0, 7] rfl)
        · replace h := h.2 c_5
          refine lv_iinc (v := (z6 + 1)) (lv' := [(6, .int (z6 + 1)), (1, .int z1), (2, .int z2), (3, .int z3), (4, .int z4), (5, .int z5), (7, .int z7), (0, .ref (a0 0))]) hx hb dX0_flapsWith_40 hl (k := 5) rfl rfl (by decide) rfl (fun ls hl => ?_)
          refine lv_iinc (v := (z7 + 1)) (lv' := [(7, .int (z7 + 1)), (6, .int (z6 + 1)), (1, .int z1), (2, .int z2), (3, .int z3), (4, .int z4), (5, .int z5), (0, .ref (a0 0))]) hx hb dX0_flapsWith_43 hl (k := 6) rfl rfl (by decide) rfl (fun ls hl => ?_)
          refine lv_goto (tgt := 19) hx hb dX0_flapsWith_46 (by decide) ?_
          exact ih _ _ _ _ _ _ _ ls h (lv_sub hl [2, 3, 4, 5, 6, 1, 0, 7] rfl)
  obtain ⟨n19, h⟩ := h
  refine lp19 _ ?_ n19 _ _ _ _ _ _ _ ls h (lv_sub hl [5, 6, 7, 3, 2, 1, 0, 4] rfl)
  · intro z1 z2 z3 z4 z5 z6 z7 ls h hl
    try dsimp only at h
    refine lv_iload hx hb dX0_flapsWith_49 (lv_at hl 5 rfl) ?_
    exact rd_iret hx hb hr hk h dX0_flapsWith_51

def wp_X0_drumHas (post : Int32 → Prop) (s0 : Bd) (x1 : Int32) (x2 : Int32) : Prop := wp_X0_flapsWith (fun r_1 => ((r_1 ≤ 0 → post 0) ∧ (¬ r_1 ≤ 0 → post 1))) s0 x1 x2 (0 : Int32)
set_option maxHeartbeats 4000000 in
set_option maxRecDepth 100000 in
theorem c2_X0_drumHas {l : Launch} {D : va_G} {q : Nat → ClassId} {a0 : Nat → Nat} {s0 : Bd} {x1 : Int32} {x2 : Int32} {post : Int32 → Prop} (h : wp_X0_drumHas post s0 x1 x2) : Met l yX0_drumHas (Cond.code yX0_drumHas cX0_drumHas 3 (some .boolean) :: w_all) ({ frames := 2, cells := 0, slots := 0, locals := 48 } : Room) (rd_P D q [.ref (a0 0), .int x1, .int x2] (bd_w a0 q s0)) (vp_Si post) 0 0 (fun _ => False) := by
  refine rd_start (by decide) (Nat.le_of_ble_eq_true rfl) ?_
  intro p e s m below meth c ls hx hb hr hml hown ht hk hP hQ hV hl
  have hK := hQ.1
  have hown : s.vm.findClass RX0 = some m.cls := hown
  have hl : lv_has ls 3 [(0, .ref (a0 0)), (1, .int x1), (2, .int x2)] := hl
  have hP : va_P D vwCl [((a0 0), .inr (0, [.int (s0.1 0), .int (s0.1 1), .int (s0.1 2), .int (s0.1 3), .int (s0.1 4), .int (s0.1 5), .ref (a0 1), .ref (a0 2), .ref (a0 3), .ref (a0 4), .ref (a0 5), .ref (a0 6), .ref (a0 7), .ref (a0 8), .ref (a0 9), .ref (a0 10), .ref (a0 11), .ref (a0 12)])), ((a0 1), .inl (q 0, 4, .inl (s0.2.1 0))), ((a0 2), .inl (q 0, 4, .inl (s0.2.1 1))), ((a0 3), .inl (q 0, 160, .inl (s0.2.1 2))), ((a0 4), .inl (q 0, 40, .inl (s0.2.1 3))), ((a0 5), .inl (q 0, 40, .inl (s0.2.1 4))), ((a0 6), .inl (q 0, 40, .inl (s0.2.1 5))), ((a0 7), .inl (q 0, 40, .inl (s0.2.1 6))), ((a0 8), .inl (q 0, 40, .inl (s0.2.1 7))), ((a0 9), .inl (q 0, 40, .inl (s0.2.1 8))), ((a0 10), .inl (q 0, 40, .inl (s0.2.1 9))), ((a0 11), .inl (q 1, 40, .inr (.inl s0.2.2.1))), ((a0 12), .inl (q 0, s0.2.2.2.1, .inl s0.2.2.2.2))] s.heap := hP
  unfold wp_X0_drumHas at h
  refine lv_aload_n hx hb dX0_drumHas_0 rfl (lv_at hl 0 rfl) ?_
  refine lv_iload_n hx hb dX0_drumHas_1 rfl (lv_at hl 1 rfl) ?_
  refine lv_iload_n hx hb dX0_drumHas_2 rfl (lv_at hl 2 rfl) ?_
  refine lv_iconst (v := 0) hx hb dX0_drumHas_3 (by decide) ?_
  refine vp_callSi (rd_wV (wc := bd_w a0 q s0) (As := [.int x1, .int x2, .int 0]) (rest := []) hx hb hml hown ht (c2_X0_flapsWith h) wd_X0_flapsWith mw_921 hQ hV va_S.rf (hP.sub [0, 1, 2, 3, 4, 5, 6, 7, 8, 9, 10, 11, 12] rfl) rfl rfl rfl hl.1 rfl (Nat.le_of_ble_eq_true rfl) dX0_drumHas_4 ⟨Nat.le_of_ble_eq_true rfl, Nat.le_of_ble_eq_true rfl, rfl, rfl⟩ ⟨Nat.le_of_ble_eq_true rfl, Nat.le_of_ble_eq_true rfl⟩) (fun r_1 h => ?_)
  try dsimp only at h
  refine lv_if_le (tgt := 14) hx hb dX0_drumHas_7 (by decide) (fun c_3 => ?_) (fun c_3 => ?_)
  · replace h := h.1 c_3
    refine lv_iconst (v := 0) hx hb dX0_drumHas_14 (by decide) ?_
    exact rd_zret hx hb hr hk rfl h dX0_drumHas_15
  · replace h := h.2 c_3
    refine lv_iconst (v := 1) hx hb dX0_drumHas_10 (by decide) ?_
    refine lv_goto (tgt := 15) hx hb dX0_drumHas_11 (by decide) ?_
    exact rd_zret hx hb hr hk rfl h dX0_drumHas_15

def wp_X0_someDrumHas_L2 (s0 : Bd) (post : Int32 → Prop) (e27 : Int32 → Int32 → Prop) : Nat → Int32 → Int32 → Prop
  | 0, _, _ => False
  | n2 + 1, z1, z2 => (((s0.1 3) ≤ z2 → e27 z1 z2) ∧ (¬ (s0.1 3) ≤ z2 → wp_X0_drumHas (fun r_2 => ((r_2 = 0 → wp_X0_someDrumHas_L2 s0 post e27 n2 z1 (z2 + 1)) ∧ (¬ r_2 = 0 → post 1))) s0 z2 z1))
def wp_X0_someDrumHas (post : Int32 → Prop) (s0 : Bd) (x1 : Int32) : Prop := (∃ n2, wp_X0_someDrumHas_L2 s0 post (fun z1 z2 => post 0) n2 x1 0)
set_option maxHeartbeats 4000000 in
set_option maxRecDepth 100000 in
theorem c2_X0_someDrumHas {l : Launch} {D : va_G} {q : Nat → ClassId} {a0 : Nat → Nat} {s0 : Bd} {x1 : Int32} {post : Int32 → Prop} (h : wp_X0_someDrumHas post s0 x1) : Met l yX0_someDrumHas (Cond.code yX0_someDrumHas cX0_someDrumHas 3 (some .boolean) :: w_all) ({ frames := 3, cells := 0, slots := 0, locals := 70 } : Room) (rd_P D q [.ref (a0 0), .int x1] (bd_w a0 q s0)) (vp_Si post) 0 0 (fun _ => False) := by
  refine rd_start (by decide) (Nat.le_of_ble_eq_true rfl) ?_
  intro p e s m below meth c ls hx hb hr hml hown ht hk hP hQ hV hl
  have hK := hQ.1
  have hown : s.vm.findClass RX0 = some m.cls := hown
  have hl : lv_has ls 3 [(0, .ref (a0 0)), (1, .int x1)] := hl
  have hP : va_P D vwCl [((a0 0), .inr (0, [.int (s0.1 0), .int (s0.1 1), .int (s0.1 2), .int (s0.1 3), .int (s0.1 4), .int (s0.1 5), .ref (a0 1), .ref (a0 2), .ref (a0 3), .ref (a0 4), .ref (a0 5), .ref (a0 6), .ref (a0 7), .ref (a0 8), .ref (a0 9), .ref (a0 10), .ref (a0 11), .ref (a0 12)])), ((a0 1), .inl (q 0, 4, .inl (s0.2.1 0))), ((a0 2), .inl (q 0, 4, .inl (s0.2.1 1))), ((a0 3), .inl (q 0, 160, .inl (s0.2.1 2))), ((a0 4), .inl (q 0, 40, .inl (s0.2.1 3))), ((a0 5), .inl (q 0, 40, .inl (s0.2.1 4))), ((a0 6), .inl (q 0, 40, .inl (s0.2.1 5))), ((a0 7), .inl (q 0, 40, .inl (s0.2.1 6))), ((a0 8), .inl (q 0, 40, .inl (s0.2.1 7))), ((a0 9), .inl (q 0, 40, .inl (s0.2.1 8))), ((a0 10), .inl (q 0, 40, .inl (s0.2.1 9))), ((a0 11), .inl (q 1, 40, .inr (.inl s0.2.2.1))), ((a0 12), .inl (q 0, s0.2.2.2.1, .inl s0.2.2.2.2))] s.heap := hP
  unfold wp_X0_someDrumHas at h
  refine lv_iconst (v := 0) hx hb dX0_someDrumHas_0 (by decide) ?_
  refine lv_istore_n (lv' := [(2, .int 0), (0, .ref (a0 0)), (1, .int x1)]) hx hb dX0_someDrumHas_1 rfl hl (by decide) rfl (fun ls hl => ?_)
  have lp2 : ∀ (e27 : Int32 → Int32 → Prop) (k27 : ∀ (z1 : Int32) (z2 : Int32) (ls : Array Slot), e27 z1 z2 → lv_has ls 3 [(1, .int z1), (2, .int z2), (0, .ref (a0 0))] → W p l e ({ frames := 3, cells := 0, slots := 0, locals := 70 } : Room) s m [.ref (a0 0), .int x1].toArray below meth c s.heap [] 0 0 (MQ below (vp_Si post) [.ref (a0 0), .int x1].toArray s 0 0 (fun _ => False)) (F0 m 27 ls [])) (n : Nat) (z1 : Int32) (z2 : Int32) (ls : Array Slot), wp_X0_someDrumHas_L2 s0 post e27 n z1 z2 → lv_has ls 3 [(1, .int z1), (2, .int z2), (0, .ref (a0 0))] → W p l e ({ frames := 3, cells := 0, slots := 0, locals := 70 } : Room) s m [.ref (a0 0), .int x1].toArray below meth c s.heap [] 0 0 (MQ below (vp_Si post) [.ref (a0 0), .int x1].toArray s 0 0 (fun _ => False)) (F0 m 2 ls []) := by
    intro e27 k27 n
    induction n with
    | zero =>
      intro z1 z2 ls h
      exact h.elim
    | succ n ih =>
      intro z1 z2 ls h hl
      unfold wp_X0_someDrumHas_L2 at h
      refine lv_iload_n hx hb dX0_someDrumHas_2 rfl (lv_at hl 1 rfl) ?_
      refine lv_aload_n hx hb dX0_someDrumHas_3 rfl (lv_at hl 2 rfl) ?_
      refine fl_get (C := RX0) (T := TX0) (N := 18) (ci := 0) (v := .int (s0.1 3)) hx hb ht in_X0 hown hK hP 0 rfl rfl 3 (by decide) mw_179 rfl dX0_someDrumHas_4 ?_
      refine lv_icmp_ge (tgt := 27) hx hb dX0_someDrumHas_7 (by decide) (fun c_1 => ?_) (fun c_1 => ?_)
      · replace h := h.1 c_1
        exact k27 _ _ ls h (lv_sub hl [0, 1, 2] rfl)
      · replace h := h.2 c_1
        refine lv_aload_n hx hb dX0_someDrumHas_10 rfl (lv_at hl 2 rfl) ?_
        refine lv_iload_n hx hb dX0_someDrumHas_11 rfl (lv_at hl 1 rfl) ?_
        refine lv_iload_n hx hb dX0_someDrumHas_12 rfl (lv_at hl 0 rfl) ?_
        refine vp_callSi (rd_wV (wc := bd_w a0 q s0) (As := [.int z2, .int z1]) (rest := []) hx hb hml hown ht (c2_X0_drumHas h) wd_X0_drumHas mw_1096 hQ hV va_S.rf (hP.sub [0, 1, 2, 3, 4, 5, 6, 7, 8, 9, 10, 11, 12] rfl) rfl rfl rfl hl.1 rfl (Nat.le_of_ble_eq_true rfl) dX0_someDrumHas_13 ⟨Nat.le_of_ble_eq_true rfl, Nat.le_of_ble_eq_true rfl, rfl, rfl⟩ ⟨Nat.le_of_ble_eq_true rfl, Nat.le_of_ble_eq_true rfl⟩) (fun r_2 h => ?_)
        try dsimp only at h
        refine lv_if_eq (tgt := 21) hx hb dX0_someDrumHas_16 (by decide) (fun c_4 => ?_) (fun c_4 => ?_)
        · replace h := h.1 c_4
          refine lv_iinc (v := (z2 + 1)) (lv' := [(2, .int (z2 + 1)), (1, .int z1), (0, .ref (a0 0))]) hx hb dX0_someDrumHas_21 hl (k := 1) rfl rfl (by decide) rfl (fun ls hl => ?_)
          refine lv_goto (tgt := 2) hx hb dX0_someDrumHas_24 (by decide) ?_
          exact ih _ _ ls h (lv_sub hl [1, 0, 2] rfl)
        · replace h := h.2 c_4
          refine lv_iconst (v := 1) hx hb dX0_someDrumHas_19 (by decide) ?_
          exact rd_zret hx hb hr hk rfl h dX0_someDrumHas_20
  obtain ⟨n2, h⟩ := h
  refine lp2 _ ?_ n2 _ _ ls h (lv_sub hl [2, 0, 1] rfl)
  · intro z1 z2 ls h hl
    try dsimp only at h
    refine lv_iconst (v := 0) hx hb dX0_someDrumHas_27 (by decide) ?_
    exact rd_zret hx hb hr hk rfl h dX0_someDrumHas_28

def wp_X0_isLastOfSign (post : Int32 → Prop) (s0 : Bd) (x1 : Int32) (x2 : Int32) : Prop := wp_X0_signOf (fun r_1 => wp_X0_flapsWith (fun r_3 => ((¬ r_3 = 0 → post 0) ∧ (r_3 = 0 → post 1))) s0 x1 r_1 (x2 + 1)) s0 x1 x2
set_option maxHeartbeats 4000000 in
set_option maxRecDepth 100000 in
theorem c2_X0_isLastOfSign {l : Launch} {D : va_G} {q : Nat → ClassId} {a0 : Nat → Nat} {s0 : Bd} {x1 : Int32} {x2 : Int32} {post : Int32 → Prop} (h : wp_X0_isLastOfSign post s0 x1 x2) : Met l yX0_isLastOfSign (Cond.code yX0_isLastOfSign cX0_isLastOfSign 3 (some .boolean) :: w_all) ({ frames := 2, cells := 0, slots := 0, locals := 48 } : Room) (rd_P D q [.ref (a0 0), .int x1, .int x2] (bd_w a0 q s0)) (vp_Si post) 0 0 (fun _ => False) := by
  refine rd_start (by decide) (Nat.le_of_ble_eq_true rfl) ?_
  intro p e s m below meth c ls hx hb hr hml hown ht hk hP hQ hV hl
  have hK := hQ.1
  have hown : s.vm.findClass RX0 = some m.cls := hown
  have hl : lv_has ls 3 [(0, .ref (a0 0)), (1, .int x1), (2, .int x2)] := hl
  have hP : va_P D vwCl [((a0 0), .inr (0, [.int (s0.1 0), .int (s0.1 1), .int (s0.1 2), .int (s0.1 3), .int (s0.1 4), .int (s0.1 5), .ref (a0 1), .ref (a0 2), .ref (a0 3), .ref (a0 4), .ref (a0 5), .ref (a0 6), .ref (a0 7), .ref (a0 8), .ref (a0 9), .ref (a0 10), .ref (a0 11), .ref (a0 12)])), ((a0 1), .inl (q 0, 4, .inl (s0.2.1 0))), ((a0 2), .inl (q 0, 4, .inl (s0.2.1 1))), ((a0 3), .inl (q 0, 160, .inl (s0.2.1 2))), ((a0 4), .inl (q 0, 40, .inl (s0.2.1 3))), ((a0 5), .inl (q 0, 40, .inl (s0.2.1 4))), ((a0 6), .inl (q 0, 40, .inl (s0.2.1 5))), ((a0 7), .inl (q 0, 40, .inl (s0.2.1 6))), ((a0 8), .inl (q 0, 40, .inl (s0.2.1 7))), ((a0 9), .inl (q 0, 40, .inl (s0.2.1 8))), ((a0 10), .inl (q 0, 40, .inl (s0.2.1 9))), ((a0 11), .inl (q 1, 40, .inr (.inl s0.2.2.1))), ((a0 12), .inl (q 0, s0.2.2.2.1, .inl s0.2.2.2.2))] s.heap := hP
  unfold wp_X0_isLastOfSign at h
  refine lv_aload_n hx hb dX0_isLastOfSign_0 rfl (lv_at hl 0 rfl) ?_
  refine lv_iload_n hx hb dX0_isLastOfSign_1 rfl (lv_at hl 1 rfl) ?_
  refine lv_aload_n hx hb dX0_isLastOfSign_2 rfl (lv_at hl 0 rfl) ?_
  refine lv_iload_n hx hb dX0_isLastOfSign_3 rfl (lv_at hl 1 rfl) ?_
  refine lv_iload_n hx hb dX0_isLastOfSign_4 rfl (lv_at hl 2 rfl) ?_
  refine vp_callSi (rd_wV (wc := bd_w a0 q s0) (As := [.int x1, .int x2]) (rest := [.int x1, .ref (a0 0)]) hx hb hml hown ht (c2_X0_signOf h) wd_X0_signOf mw_668 hQ hV va_S.rf (hP.sub [0, 1, 2, 3, 4, 5, 6, 7, 8, 9, 10, 11, 12] rfl) rfl rfl rfl hl.1 rfl (Nat.le_of_ble_eq_true rfl) dX0_isLastOfSign_5 ⟨Nat.le_of_ble_eq_true rfl, Nat.le_of_ble_eq_true rfl, rfl, rfl⟩ ⟨Nat.le_of_ble_eq_true rfl, Nat.le_of_ble_eq_true rfl⟩) (fun r_1 h => ?_)
  try dsimp only at h
  refine lv_iload_n hx hb dX0_isLastOfSign_8 rfl (lv_at hl 2 rfl) ?_
  refine lv_iconst (v := 1) hx hb dX0_isLastOfSign_9 (by decide) ?_
  refine lv_iadd hx hb dX0_isLastOfSign_10 ?_
  refine vp_callSi (rd_wV (wc := bd_w a0 q s0) (As := [.int x1, .int r_1, .int (x2 + 1)]) (rest := []) hx hb hml hown ht (c2_X0_flapsWith h) wd_X0_flapsWith mw_921 hQ hV va_S.rf (hP.sub [0, 1, 2, 3, 4, 5, 6, 7, 8, 9, 10, 11, 12] rfl) rfl rfl rfl hl.1 rfl (Nat.le_of_ble_eq_true rfl) dX0_isLastOfSign_11 ⟨Nat.le_of_ble_eq_true rfl, Nat.le_of_ble_eq_true rfl, rfl, rfl⟩ ⟨Nat.le_of_ble_eq_true rfl, Nat.le_of_ble_eq_true rfl⟩) (fun r_3 h => ?_)
  try dsimp only at h
  refine lv_if_ne (tgt := 21) hx hb dX0_isLastOfSign_14 (by decide) (fun c_5 => ?_) (fun c_5 => ?_)
  · replace h := h.1 c_5
    refine lv_iconst (v := 0) hx hb dX0_isLastOfSign_21 (by decide) ?_
    exact rd_zret hx hb hr hk rfl h dX0_isLastOfSign_22
  · replace h := h.2 c_5
    refine lv_iconst (v := 1) hx hb dX0_isLastOfSign_17 (by decide) ?_
    refine lv_goto (tgt := 22) hx hb dX0_isLastOfSign_18 (by decide) ?_
    exact rd_zret hx hb hr hk rfl h dX0_isLastOfSign_22

def wp_X0_nearest_L60 (s0 : Bd) (post : Int32 → Prop) (e121 : Int32 → Int32 → Int32 → Int32 → Int32 → Int64 → Int32 → Int32 → Prop) : Nat → Int32 → Int32 → Int32 → Int32 → Int32 → Int64 → Int32 → Int32 → Prop
  | 0, _, _, _, _, _, _, _, _ => False
  | n60 + 1, z1, z2, z3, z4, z5, w6, z8, z9 => ((z4 ≤ z9 → e121 z1 z2 z3 z4 z5 w6 z8 z9) ∧ (¬ z4 ≤ z9 → vp_in (z5 + z8) 160 ∧ ((¬ ((s0.2.1 2) (Int32.toNatClampNeg (z5 + z8))) = z2 → ((z4 ≤ (z8 + 1) → wp_X0_nearest_L60 s0 post e121 n60 z1 z2 z3 z4 z5 w6 0 (z9 + 1)) ∧ (¬ z4 ≤ (z8 + 1) → wp_X0_nearest_L60 s0 post e121 n60 z1 z2 z3 z4 z5 w6 (z8 + 1) (z9 + 1)))) ∧ (((s0.2.1 2) (Int32.toNatClampNeg (z5 + z8))) = z2 → (((lg_cmp ((w6 >>> (Int32.toInt64 z8 &&& 63)) &&& 1) 0) = 0 → ((z4 ≤ (z8 + 1) → wp_X0_nearest_L60 s0 post e121 n60 z1 z2 z3 z4 z5 w6 0 (z9 + 1)) ∧ (¬ z4 ≤ (z8 + 1) → wp_X0_nearest_L60 s0 post e121 n60 z1 z2 z3 z4 z5 w6 (z8 + 1) (z9 + 1)))) ∧ (¬ (lg_cmp ((w6 >>> (Int32.toInt64 z8 &&& 63)) &&& 1) 0) = 0 → post z8))))))
def wp_X0_nearest (post : Int32 → Prop) (s0 : Bd) (x1 : Int32) (x2 : Int32) : Prop := vp_in x1 40 ∧ ((((s0.2.1 3) (Int32.toNatClampNeg x1)) < 0 → vp_in x1 40 ∧ vp_in x1 40 ∧ (∃ n60, wp_X0_nearest_L60 s0 post (fun z1 z2 z3 z4 z5 w6 z8 z9 => post (-1)) n60 x1 x2 ((s0.2.1 3) (Int32.toNatClampNeg x1)) 0 (((s0.2.1 3) (Int32.toNatClampNeg x1)) * 40) ((s0.2.2.1 (Int32.toNatClampNeg x1)) ^^^ (-1)) ((s0.2.1 5) (Int32.toNatClampNeg x1)) 0)) ∧ (¬ ((s0.2.1 3) (Int32.toNatClampNeg x1)) < 0 → (((s0.1 3) ≤ ((s0.2.1 3) (Int32.toNatClampNeg x1)) → vp_in x1 40 ∧ vp_in x1 40 ∧ (∃ n60, wp_X0_nearest_L60 s0 post (fun z1 z2 z3 z4 z5 w6 z8 z9 => post (-1)) n60 x1 x2 ((s0.2.1 3) (Int32.toNatClampNeg x1)) 0 (((s0.2.1 3) (Int32.toNatClampNeg x1)) * 40) ((s0.2.2.1 (Int32.toNatClampNeg x1)) ^^^ (-1)) ((s0.2.1 5) (Int32.toNatClampNeg x1)) 0)) ∧ (¬ (s0.1 3) ≤ ((s0.2.1 3) (Int32.toNatClampNeg x1)) → vp_in ((s0.2.1 3) (Int32.toNatClampNeg x1)) 4 ∧ vp_in x1 40 ∧ vp_in x1 40 ∧ (∃ n60, wp_X0_nearest_L60 s0 post (fun z1 z2 z3 z4 z5 w6 z8 z9 => post (-1)) n60 x1 x2 ((s0.2.1 3) (Int32.toNatClampNeg x1)) ((s0.2.1 1) (Int32.toNatClampNeg ((s0.2.1 3) (Int32.toNatClampNeg x1)))) (((s0.2.1 3) (Int32.toNatClampNeg x1)) * 40) ((s0.2.2.1 (Int32.toNatClampNeg x1)) ^^^ (-1)) ((s0.2.1 5) (Int32.toNatClampNeg x1)) 0)))))
set_option maxHeartbeats 4000000 in
set_option maxRecDepth 100000 in
theorem c2_X0_nearest {l : Launch} {D : va_G} {q : Nat → ClassId} {a0 : Nat → Nat} {s0 : Bd} {x1 : Int32} {x2 : Int32} {post : Int32 → Prop} (h : wp_X0_nearest post s0 x1 x2) : Met l yX0_nearest (Cond.code yX0_nearest cX0_nearest 10 (some .int) :: w_all) ({ frames := 0, cells := 0, slots := 0, locals := 0 } : Room) (rd_P D q [.ref (a0 0), .int x1, .int x2] (bd_w a0 q s0)) (vp_Si post) 0 0 (fun _ => False) := by
  refine rd_start (by decide) (Nat.le_of_ble_eq_true rfl) ?_
  intro p e s m below meth c ls hx hb hr hml hown ht hk hP hQ hV hl
  have hK := hQ.1
  have hown : s.vm.findClass RX0 = some m.cls := hown
  have hl : lv_has ls 10 [(0, .ref (a0 0)), (1, .int x1), (2, .int x2)] := hl
  have hP : va_P D vwCl [((a0 0), .inr (0, [.int (s0.1 0), .int (s0.1 1), .int (s0.1 2), .int (s0.1 3), .int (s0.1 4), .int (s0.1 5), .ref (a0 1), .ref (a0 2), .ref (a0 3), .ref (a0 4), .ref (a0 5), .ref (a0 6), .ref (a0 7), .ref (a0 8), .ref (a0 9), .ref (a0 10), .ref (a0 11), .ref (a0 12)])), ((a0 1), .inl (q 0, 4, .inl (s0.2.1 0))), ((a0 2), .inl (q 0, 4, .inl (s0.2.1 1))), ((a0 3), .inl (q 0, 160, .inl (s0.2.1 2))), ((a0 4), .inl (q 0, 40, .inl (s0.2.1 3))), ((a0 5), .inl (q 0, 40, .inl (s0.2.1 4))), ((a0 6), .inl (q 0, 40, .inl (s0.2.1 5))), ((a0 7), .inl (q 0, 40, .inl (s0.2.1 6))), ((a0 8), .inl (q 0, 40, .inl (s0.2.1 7))), ((a0 9), .inl (q 0, 40, .inl (s0.2.1 8))), ((a0 10), .inl (q 0, 40, .inl (s0.2.1 9))), ((a0 11), .inl (q 1, 40, .inr (.inl s0.2.2.1))), ((a0 12), .inl (q 0, s0.2.2.2.1, .inl s0.2.2.2.2))] s.heap := hP
  unfold wp_X0_nearest at h
  refine lv_aload_n hx hb dX0_nearest_0 rfl (lv_at hl 0 rfl) ?_
  refine fl_get (C := RX0) (T := TX0) (N := 18) (ci := 0) (v := .ref (a0 4)) hx hb ht in_X0 hown hK hP 0 rfl rfl 9 (by decide) mw_192 rfl dX0_nearest_1 ?_
  refine lv_iload_n hx hb dX0_nearest_4 rfl (lv_at hl 1 rfl) ?_
  obtain ⟨g_1, h⟩ := h
  refine va_iald hx hb hK hP 4 0 rfl rfl g_1 dX0_nearest_5 ?_
  refine lv_istore_n (lv' := [(3, .int ((s0.2.1 3) (Int32.toNatClampNeg x1))), (0, .ref (a0 0)), (1, .int x1), (2, .int x2)]) hx hb dX0_nearest_6 rfl hl (by decide) rfl (fun ls hl => ?_)
  refine lv_iload_n hx hb dX0_nearest_7 rfl (lv_at hl 0 rfl) ?_
  refine lv_if_lt (tgt := 28) hx hb dX0_nearest_8 (by decide) (fun c_2 => ?_) (fun c_2 => ?_)
  · replace h := h.1 c_2
    refine lv_iconst (v := 0) hx hb dX0_nearest_28 (by decide) ?_
    refine lv_istore (lv' := [(4, .int 0), (3, .int ((s0.2.1 3) (Int32.toNatClampNeg x1))), (0, .ref (a0 0)), (1, .int x1), (2, .int x2)]) hx hb dX0_nearest_29 hl (by decide) rfl (fun ls hl => ?_)
    refine lv_iload_n hx hb dX0_nearest_31 rfl (lv_at hl 1 rfl) ?_
    refine lv_bipush (v := 40) hx hb dX0_nearest_32 (by decide) ?_
    refine lv_imul hx hb dX0_nearest_34 ?_
    refine lv_istore (lv' := [(5, .int (((s0.2.1 3) (Int32.toNatClampNeg x1)) * 40)), (4, .int 0), (3, .int ((s0.2.1 3) (Int32.toNatClampNeg x1))), (0, .ref (a0 0)), (1, .int x1), (2, .int x2)]) hx hb dX0_nearest_35 hl (by decide) rfl (fun ls hl => ?_)
    refine lv_aload_n hx hb dX0_nearest_37 rfl (lv_at hl 3 rfl) ?_
    refine fl_get (C := RX0) (T := TX0) (N := 18) (ci := 0) (v := .ref (a0 11)) hx hb ht in_X0 hown hK hP 0 rfl rfl 16 (by decide) mw_206 rfl dX0_nearest_38 ?_
    refine lv_iload_n hx hb dX0_nearest_41 rfl (lv_at hl 4 rfl) ?_
    obtain ⟨g_3, h⟩ := h
    refine va_lald hx hb hK hP 11 1 rfl rfl g_3 dX0_nearest_42 ?_
    refine lv_ldc2 (v := (-1)) hx hb hown (ht _ mw_576) dX0_nearest_43 ?_
    refine lv_lxor hx hb dX0_nearest_46 ?_
    refine lv_lstore (lv' := [(6, .long ((s0.2.2.1 (Int32.toNatClampNeg x1)) ^^^ (-1))), (5, .int (((s0.2.1 3) (Int32.toNatClampNeg x1)) * 40)), (4, .int 0), (3, .int ((s0.2.1 3) (Int32.toNatClampNeg x1))), (0, .ref (a0 0)), (1, .int x1), (2, .int x2)]) hx hb dX0_nearest_47 hl (by decide) rfl (fun ls hl => ?_)
    refine lv_aload_n hx hb dX0_nearest_49 rfl (lv_at hl 4 rfl) ?_
    refine fl_get (C := RX0) (T := TX0) (N := 18) (ci := 0) (v := .ref (a0 6)) hx hb ht in_X0 hown hK hP 0 rfl rfl 11 (by decide) mw_196 rfl dX0_nearest_50 ?_
    refine lv_iload_n hx hb dX0_nearest_53 rfl (lv_at hl 5 rfl) ?_
    obtain ⟨g_4, h⟩ := h
    refine va_iald hx hb hK hP 6 0 rfl rfl g_4 dX0_nearest_54 ?_
    refine lv_istore (lv' := [(8, .int ((s0.2.1 5) (Int32.toNatClampNeg x1))), (6, .long ((s0.2.2.1 (Int32.toNatClampNeg x1)) ^^^ (-1))), (5, .int (((s0.2.1 3) (Int32.toNatClampNeg x1)) * 40)), (4, .int 0), (3, .int ((s0.2.1 3) (Int32.toNatClampNeg x1))), (0, .ref (a0 0)), (1, .int x1), (2, .int x2)]) hx hb dX0_nearest_55 hl (by decide) rfl (fun ls hl => ?_)
    refine lv_iconst (v := 0) hx hb dX0_nearest_57 (by decide) ?_
    refine lv_istore (lv' := [(9, .int 0), (8, .int ((s0.2.1 5) (Int32.toNatClampNeg x1))), (6, .long ((s0.2.2.1 (Int32.toNatClampNeg x1)) ^^^ (-1))), (5, .int (((s0.2.1 3) (Int32.toNatClampNeg x1)) * 40)), (4, .int 0), (3, .int ((s0.2.1 3) (Int32.toNatClampNeg x1))), (0, .ref (a0 0)), (1, .int x1), (2, .int x2)]) hx hb dX0_nearest_58 hl (by decide) rfl (fun ls hl => ?_)
    have lp60 : ∀ (e121 : Int32 → Int32 → Int32 → Int32 → Int32 → Int64 → Int32 → Int32 → Prop) (k121 : ∀ (z1 : Int32) (z2 : Int32) (z3 : Int32) (z4 : Int32) (z5 : Int32) (w6 : Int64) (z8 : Int32) (z9 : Int32) (ls : Array Slot), e121 z1 z2 z3 z4 z5 w6 z8 z9 → lv_has ls 10 [(1, .int z1), (2, .int z2), (3, .int z3), (4, .int z4), (5, .int z5), (6, .long w6), (8, .int z8), (9, .int z9), (0, .ref (a0 0))] → W p l e ({ frames := 0, cells := 0, slots := 0, locals := 0 } : Room) s m [.ref (a0 0), .int x1, .int x2].toArray below meth c s.heap [] 0 0 (MQ below (vp_Si post) [.ref (a0 0), .int x1, .int x2].toArray s 0 0 (fun _ => False)) (F0 m 121 ls [])) (n : Nat) (z1 : Int32) (z2 : Int32) (z3 : Int32) (z4 : Int32) (z5 : Int32) (w6 : Int64) (z8 : Int32) (z9 : Int32) (ls : Array Slot), wp_X0_nearest_L60 s0 post e121 n z1 z2 z3 z4 z5 w6 z8 z9 → lv_has ls 10 [(1, .int z1), (2, .int z2), (3, .int z3), (4, .int z4), (5, .int z5), (6, .long w6), (8, .int z8), (9, .int z9), (0, .ref (a0 0))] → W p l e ({ frames := 0, cells := 0, slots := 0, locals := 0 } : Room) s m [.ref (a0 0), .int x1, .int x2].toArray below meth c s.heap [] 0 0 (MQ below (vp_Si post) [.ref (a0 0), .int x1, .int x2].toArray s 0 0 (fun _ => False)) (F0 m 60 ls []) := by
      intro e121 k121 n
      induction n with
      | zero =>
        intro z1 z2 z3 z4 z5 w6 z8 z9 ls h
        exact h.elim
      | succ n ih =>
        intro z1 z2 z3 z4 z5 w6 z8 z9 ls h hl
        unfold wp_X0_nearest_L60 at h
        refine lv_iload hx hb dX0_nearest_60 (lv_at hl 7 rfl) ?_
        refine lv_iload hx hb dX0_nearest_62 (lv_at hl 3 rfl) ?_
        refine lv_icmp_ge (tgt := 121) hx hb dX0_nearest_64 (by decide) (fun c_5 => ?_) (fun c_5 => ?_)
        · replace h := h.1 c_5
          exact k121 _ _ _ _ _ _ _ _ ls h (lv_sub hl [0, 1, 2, 3, 4, 5, 6, 7, 8] rfl)
        · replace h := h.2 c_5
          refine lv_aload_n hx hb dX0_nearest_67 rfl (lv_at hl 8 rfl) ?_
          refine fl_get (C := RX0) (T := TX0) (N := 18) (ci := 0) (v := .ref (a0 3)) hx hb ht in_X0 hown hK hP 0 rfl rfl 8 (by decide) mw_191 rfl dX0_nearest_68 ?_
          refine lv_iload hx hb dX0_nearest_71 (lv_at hl 4 rfl) ?_
          refine lv_iload hx hb dX0_nearest_73 (lv_at hl 6 rfl) ?_
          refine lv_iadd hx hb dX0_nearest_75 ?_
          obtain ⟨g_6, h⟩ := h
          refine va_iald hx hb hK hP 3 0 rfl rfl g_6 dX0_nearest_76 ?_
          refine lv_iload_n hx hb dX0_nearest_77 rfl (lv_at hl 1 rfl) ?_
          refine lv_icmp_ne (tgt := 96) hx hb dX0_nearest_78 (by decide) (fun c_7 => ?_) (fun c_7 => ?_)
          · replace h := h.1 c_7
            refine lv_iload hx hb dX0_nearest_96 (lv_at hl 6 rfl) ?_
            refine lv_iconst (v := 1) hx hb dX0_nearest_98 (by decide) ?_
            refine lv_iadd hx hb dX0_nearest_99 ?_
            refine lv_iload hx hb dX0_nearest_100 (lv_at hl 3 rfl) ?_
            refine lv_icmp_ge (tgt := 112) hx hb dX0_nearest_102 (by decide) (fun c_8 => ?_) (fun c_8 => ?_)
            · replace h := h.1 c_8
              refine lv_iconst (v := 0) hx hb dX0_nearest_112 (by decide) ?_
              refine lv_istore (lv' := [(8, .int 0), (1, .int z1), (2, .int z2), (3, .int z3), (4, .int z4), (5, .int z5), (6, .long w6), (9, .int z9), (0, .ref (a0 0))]) hx hb dX0_nearest_113 hl (by decide) rfl (fun ls hl => ?_)
              refine lv_iinc (v := (z9 + 1)) (lv' := [(9, .int (z9 + 1)), (8, .int 0), (1, .int z1), (2, .int z2), (3, .int z3), (4, .int z4), (5, .int z5), (6, .long w6), (0, .ref (a0 0))]) hx hb dX0_nearest_115 hl (k := 7) rfl rfl (by decide) rfl (fun ls hl => ?_)
              refine lv_goto (tgt := 60) hx hb dX0_nearest_118 (by decide) ?_
              exact ih _ _ _ _ _ _ _ _ ls h (lv_sub hl [2, 3, 4, 5, 6, 7, 1, 0, 8] rfl)
            · replace h := h.2 c_8
              refine lv_iload hx hb dX0_nearest_105 (lv_at hl 6 rfl) ?_
              refine lv_iconst (v := 1) hx hb dX0_nearest_107 (by decide) ?_
              refine lv_iadd hx hb dX0_nearest_108 ?_
              refine lv_goto (tgt := 113) hx hb dX0_nearest_109 (by decide) ?_
              refine lv_istore (lv' := [(8, .int (z8 + 1)), (1, .int z1), (2, .int z2), (3, .int z3), (4, .int z4), (5, .int z5), (6, .long w6), (9, .int z9), (0, .ref (a0 0))]) hx hb dX0_nearest_113 hl (by decide) rfl (fun ls hl => ?_)
              refine lv_iinc (v := (z9 + 1)) (lv' := [(9, .int (z9 + 1)), (8, .int (z8 + 1)), (1, .int z1), (2, .int z2), (3, .int z3), (4, .int z4), (5, .int z5), (6, .long w6), (0, .ref (a0 0))]) hx hb dX0_nearest_115 hl (k := 7) rfl rfl (by decide) rfl (fun ls hl => ?_)
              refine lv_goto (tgt := 60) hx hb dX0_nearest_118 (by decide) ?_
              exact ih _ _ _ _ _ _ _ _ ls h (lv_sub hl [2, 3, 4, 5, 6, 7, 1, 0, 8] rfl)
          · replace h := h.2 c_7
            refine lv_lload hx hb dX0_nearest_81 (lv_at hl 5 rfl) ?_
            refine lv_iload hx hb dX0_nearest_83 (lv_at hl 6 rfl) ?_
            refine lv_lshr (v := (w6 >>> (Int32.toInt64 z8 &&& 63))) hx hb dX0_nearest_85 rfl ?_
            refine lv_lconst (v := 1) hx hb dX0_nearest_86 (by decide) ?_
            refine lv_land hx hb dX0_nearest_87 ?_
            refine lv_lconst (v := 0) hx hb dX0_nearest_88 (by decide) ?_
            refine W.lcmp hx hb dX0_nearest_89 ?_
            refine lv_if_eq (tgt := 96) hx hb dX0_nearest_90 (by decide) (fun c_9 => ?_) (fun c_9 => ?_)
            · replace h := h.1 c_9
              refine lv_iload hx hb dX0_nearest_96 (lv_at hl 6 rfl) ?_
              refine lv_iconst (v := 1) hx hb dX0_nearest_98 (by decide) ?_
              refine lv_iadd hx hb dX0_nearest_99 ?_
              refine lv_iload hx hb dX0_nearest_100 (lv_at hl 3 rfl) ?_
              refine lv_icmp_ge (tgt := 112) hx hb dX0_nearest_102 (by decide) (fun c_10 => ?_) (fun c_10 => ?_)
              · replace h := h.1 c_10
                refine lv_iconst (v := 0) hx hb dX0_nearest_112 (by decide) ?_
                refine lv_istore (lv' := [(8, .int 0), (1, .int z1), (2, .int z2), (3, .int z3), (4, .int z4), (5, .int z5), (6, .long w6), (9, .int z9), (0, .ref (a0 0))]) hx hb dX0_nearest_113 hl (by decide) rfl (fun ls hl => ?_)
                refine lv_iinc (v := (z9 + 1)) (lv' := [(9, .int (z9 + 1)), (8, .int 0), (1, .int z1), (2, .int z2), (3, .int z3), (4, .int z4), (5, .int z5), (6, .long w6), (0, .ref (a0 0))]) hx hb dX0_nearest_115 hl (k := 7) rfl rfl (by decide) rfl (fun ls hl => ?_)
                refine lv_goto (tgt := 60) hx hb dX0_nearest_118 (by decide) ?_
                exact ih _ _ _ _ _ _ _ _ ls h (lv_sub hl [2, 3, 4, 5, 6, 7, 1, 0, 8] rfl)
              · replace h := h.2 c_10
                refine lv_iload hx hb dX0_nearest_105 (lv_at hl 6 rfl) ?_
                refine lv_iconst (v := 1) hx hb dX0_nearest_107 (by decide) ?_
                refine lv_iadd hx hb dX0_nearest_108 ?_
                refine lv_goto (tgt := 113) hx hb dX0_nearest_109 (by decide) ?_
                refine lv_istore (lv' := [(8, .int (z8 + 1)), (1, .int z1), (2, .int z2), (3, .int z3), (4, .int z4), (5, .int z5), (6, .long w6), (9, .int z9), (0, .ref (a0 0))]) hx hb dX0_nearest_113 hl (by decide) rfl (fun ls hl => ?_)
                refine lv_iinc (v := (z9 + 1)) (lv' := [(9, .int (z9 + 1)), (8, .int (z8 + 1)), (1, .int z1), (2, .int z2), (3, .int z3), (4, .int z4), (5, .int z5), (6, .long w6), (0, .ref (a0 0))]) hx hb dX0_nearest_115 hl (k := 7) rfl rfl (by decide) rfl (fun ls hl => ?_)
                refine lv_goto (tgt := 60) hx hb dX0_nearest_118 (by decide) ?_
                exact ih _ _ _ _ _ _ _ _ ls h (lv_sub hl [2, 3, 4, 5, 6, 7, 1, 0, 8] rfl)
            · replace h := h.2 c_9
              refine lv_iload hx hb dX0_nearest_93 (lv_at hl 6 rfl) ?_
              exact rd_iret hx hb hr hk h dX0_nearest_95
    obtain ⟨n60, h⟩ := h
    refine lp60 _ ?_ n60 _ _ _ _ _ _ _ _ ls h (lv_sub hl [7, 8, 5, 4, 3, 2, 1, 0, 6] rfl)
    · intro z1 z2 z3 z4 z5 w6 z8 z9 ls h hl
      try dsimp only at h
      refine lv_iconst (v := (-1)) hx hb dX0_nearest_121 (by decide) ?_
      exact rd_iret hx hb hr hk h dX0_nearest_122
  · replace h := h.2 c_2
    refine lv_iload_n hx hb dX0_nearest_11 rfl (lv_at hl 0 rfl) ?_
    refine lv_aload_n hx hb dX0_nearest_12 rfl (lv_at hl 1 rfl) ?_
    refine fl_get (C := RX0) (T := TX0) (N := 18) (ci := 0) (v := .int (s0.1 3)) hx hb ht in_X0 hown hK hP 0 rfl rfl 3 (by decide) mw_179 rfl dX0_nearest_13 ?_
    refine lv_icmp_ge (tgt := 28) hx hb dX0_nearest_16 (by decide) (fun c_11 => ?_) (fun c_11 => ?_)
    · replace h := h.1 c_11
      refine lv_iconst (v := 0) hx hb dX0_nearest_28 (by decide) ?_
      refine lv_istore (lv' := [(4, .int 0), (3, .int ((s0.2.1 3) (Int32.toNatClampNeg x1))), (0, .ref (a0 0)), (1, .int x1), (2, .int x2)]) hx hb dX0_nearest_29 hl (by decide) rfl (fun ls hl => ?_)
      refine lv_iload_n hx hb dX0_nearest_31 rfl (lv_at hl 1 rfl) ?_
      refine lv_bipush (v := 40) hx hb dX0_nearest_32 (by decide) ?_
      refine lv_imul hx hb dX0_nearest_34 ?_
      refine lv_istore (lv' := [(5, .int (((s0.2.1 3) (Int32.toNatClampNeg x1)) * 40)), (4, .int 0), (3, .int ((s0.2.1 3) (Int32.toNatClampNeg x1))), (0, .ref (a0 0)), (1, .int x1), (2, .int x2)]) hx hb dX0_nearest_35 hl (by decide) rfl (fun ls hl => ?_)
      refine lv_aload_n hx hb dX0_nearest_37 rfl (lv_at hl 3 rfl) ?_
      refine fl_get (C := RX0) (T := TX0) (N := 18) (ci := 0) (v := .ref (a0 11)) hx hb ht in_X0 hown hK hP 0 rfl rfl 16 (by decide) mw_206 rfl dX0_nearest_38 ?_
      refine lv_iload_n hx hb dX0_nearest_41 rfl (lv_at hl 4 rfl) ?_
      obtain ⟨g_12, h⟩ := h
      refine va_lald hx hb hK hP 11 1 rfl rfl g_12 dX0_nearest_42 ?_
      refine lv_ldc2 (v := (-1)) hx hb hown (ht _ mw_576) dX0_nearest_43 ?_
      refine lv_lxor hx hb dX0_nearest_46 ?_
      refine lv_lstore (lv' := [(6, .long ((s0.2.2.1 (Int32.toNatClampNeg x1)) ^^^ (-1))), (5, .int (((s0.2.1 3) (Int32.toNatClampNeg x1)) * 40)), (4, .int 0), (3, .int ((s0.2.1 3) (Int32.toNatClampNeg x1))), (0, .ref (a0 0)), (1, .int x1), (2, .int x2)]) hx hb dX0_nearest_47 hl (by decide) rfl (fun ls hl => ?_)
      refine lv_aload_n hx hb dX0_nearest_49 rfl (lv_at hl 4 rfl) ?_
      refine fl_get (C := RX0) (T := TX0) (N := 18) (ci := 0) (v := .ref (a0 6)) hx hb ht in_X0 hown hK hP 0 rfl rfl 11 (by decide) mw_196 rfl dX0_nearest_50 ?_
      refine lv_iload_n hx hb dX0_nearest_53 rfl (lv_at hl 5 rfl) ?_
      obtain ⟨g_13, h⟩ := h
      refine va_iald hx hb hK hP 6 0 rfl rfl g_13 dX0_nearest_54 ?_
      refine lv_istore (lv' := [(8, .int ((s0.2.1 5) (Int32.toNatClampNeg x1))), (6, .long ((s0.2.2.1 (Int32.toNatClampNeg x1)) ^^^ (-1))), (5, .int (((s0.2.1 3) (Int32.toNatClampNeg x1)) * 40)), (4, .int 0), (3, .int ((s0.2.1 3) (Int32.toNatClampNeg x1))), (0, .ref (a0 0)), (1, .int x1), (2, .int x2)]) hx hb dX0_nearest_55 hl (by decide) rfl (fun ls hl => ?_)
      refine lv_iconst (v := 0) hx hb dX0_nearest_57 (by decide) ?_
      refine lv_istore (lv' := [(9, .int 0), (8, .int ((s0.2.1 5) (Int32.toNatClampNeg x1))), (6, .long ((s0.2.2.1 (Int32.toNatClampNeg x1)) ^^^ (-1))), (5, .int (((s0.2.1 3) (Int32.toNatClampNeg x1)) * 40)), (4, .int 0), (3, .int ((s0.2.1 3) (Int32.toNatClampNeg x1))), (0, .ref (a0 0)), (1, .int x1), (2, .int x2)]) hx hb dX0_nearest_58 hl (by decide) rfl (fun ls hl => ?_)
      have lp60 : ∀ (e121 : Int32 → Int32 → Int32 → Int32 → Int32 → Int64 → Int32 → Int32 → Prop) (k121 : ∀ (z1 : Int32) (z2 : Int32) (z3 : Int32) (z4 : Int32) (z5 : Int32) (w6 : Int64) (z8 : Int32) (z9 : Int32) (ls : Array Slot), e121 z1 z2 z3 z4 z5 w6 z8 z9 → lv_has ls 10 [(1, .int z1), (2, .int z2), (3, .int z3), (4, .int z4), (5, .int z5), (6, .long w6), (8, .int z8), (9, .int z9), (0, .ref (a0 0))] → W p l e ({ frames := 0, cells := 0, slots := 0, locals := 0 } : Room) s m [.ref (a0 0), .int x1, .int x2].toArray below meth c s.heap [] 0 0 (MQ below (vp_Si post) [.ref (a0 0), .int x1, .int x2].toArray s 0 0 (fun _ => False)) (F0 m 121 ls [])) (n : Nat) (z1 : Int32) (z2 : Int32) (z3 : Int32) (z4 : Int32) (z5 : Int32) (w6 : Int64) (z8 : Int32) (z9 : Int32) (ls : Array Slot), wp_X0_nearest_L60 s0 post e121 n z1 z2 z3 z4 z5 w6 z8 z9 → lv_has ls 10 [(1, .int z1), (2, .int z2), (3, .int z3), (4, .int z4), (5, .int z5), (6, .long w6), (8, .int z8), (9, .int z9), (0, .ref (a0 0))] → W p l e ({ frames := 0, cells := 0, slots := 0, locals := 0 } : Room) s m [.ref (a0 0), .int x1, .int x2].toArray below meth c s.heap [] 0 0 (MQ below (vp_Si post) [.ref (a0 0), .int x1, .int x2].toArray s 0 0 (fun _ => False)) (F0 m 60 ls []) := by
        intro e121 k121 n
        induction n with
        | zero =>
          intro z1 z2 z3 z4 z5 w6 z8 z9 ls h
          exact h.elim
        | succ n ih =>
          intro z1 z2 z3 z4 z5 w6 z8 z9 ls h hl
          unfold wp_X0_nearest_L60 at h
          refine lv_iload hx hb dX0_nearest_60 (lv_at hl 7 rfl) ?_
          refine lv_iload hx hb dX0_nearest_62 (lv_at hl 3 rfl) ?_
          refine lv_icmp_ge (tgt := 121) hx hb dX0_nearest_64 (by decide) (fun c_14 => ?_) (fun c_14 => ?_)
          · replace h := h.1 c_14
            exact k121 _ _ _ _ _ _ _ _ ls h (lv_sub hl [0, 1, 2, 3, 4, 5, 6, 7, 8] rfl)
          · replace h := h.2 c_14
            refine lv_aload_n hx hb dX0_nearest_67 rfl (lv_at hl 8 rfl) ?_
            refine fl_get (C := RX0) (T := TX0) (N := 18) (ci := 0) (v := .ref (a0 3)) hx hb ht in_X0 hown hK hP 0 rfl rfl 8 (by decide) mw_191 rfl dX0_nearest_68 ?_
            refine lv_iload hx hb dX0_nearest_71 (lv_at hl 4 rfl) ?_
            refine lv_iload hx hb dX0_nearest_73 (lv_at hl 6 rfl) ?_
            refine lv_iadd hx hb dX0_nearest_75 ?_
            obtain ⟨g_15, h⟩ := h
            refine va_iald hx hb hK hP 3 0 rfl rfl g_15 dX0_nearest_76 ?_
            refine lv_iload_n hx hb dX0_nearest_77 rfl (lv_at hl 1 rfl) ?_
            refine lv_icmp_ne (tgt := 96) hx hb dX0_nearest_78 (by decide) (fun c_16 => ?_) (fun c_16 => ?_)
            · replace h := h.1 c_16
              refine lv_iload hx hb dX0_nearest_96 (lv_at hl 6 rfl) ?_
              refine lv_iconst (v := 1) hx hb dX0_nearest_98 (by decide) ?_
              refine lv_iadd hx hb dX0_nearest_99 ?_
              refine lv_iload hx hb dX0_nearest_100 (lv_at hl 3 rfl) ?_
              refine lv_icmp_ge (tgt := 112) hx hb dX0_nearest_102 (by decide) (fun c_17 => ?_) (fun c_17 => ?_)
              · replace h := h.1 c_17
                refine lv_iconst (v := 0) hx hb dX0_nearest_112 (by decide) ?_
                refine lv_istore (lv' := [(8, .int 0), (1, .int z1), (2, .int z2), (3, .int z3), (4, .int z4), (5, .int z5), (6, .long w6), (9, .int z9), (0, .ref (a0 0))]) hx hb dX0_nearest_113 hl (by decide) rfl (fun ls hl => ?_)
                refine lv_iinc (v := (z9 + 1)) (lv' := [(9, .int (z9 + 1)), (8, .int 0), (1, .int z1), (2, .int z2), (3, .int z3), (4, .int z4), (5, .int z5), (6, .long w6), (0, .ref (a0 0))]) hx hb dX0_nearest_115 hl (k := 7) rfl rfl (by decide) rfl (fun ls hl => ?_)
                refine lv_goto (tgt := 60) hx hb dX0_nearest_118 (by decide) ?_
                exact ih _ _ _ _ _ _ _ _ ls h (lv_sub hl [2, 3, 4, 5, 6, 7, 1, 0, 8] rfl)
              · replace h := h.2 c_17
                refine lv_iload hx hb dX0_nearest_105 (lv_at hl 6 rfl) ?_
                refine lv_iconst (v := 1) hx hb dX0_nearest_107 (by decide) ?_
                refine lv_iadd hx hb dX0_nearest_108 ?_
                refine lv_goto (tgt := 113) hx hb dX0_nearest_109 (by decide) ?_
                refine lv_istore (lv' := [(8, .int (z8 + 1)), (1, .int z1), (2, .int z2), (3, .int z3), (4, .int z4), (5, .int z5), (6, .long w6), (9, .int z9), (0, .ref (a0 0))]) hx hb dX0_nearest_113 hl (by decide) rfl (fun ls hl => ?_)
                refine lv_iinc (v := (z9 + 1)) (lv' := [(9, .int (z9 + 1)), (8, .int (z8 + 1)), (1, .int z1), (2, .int z2), (3, .int z3), (4, .int z4), (5, .int z5), (6, .long w6), (0, .ref (a0 0))]) hx hb dX0_nearest_115 hl (k := 7) rfl rfl (by decide) rfl (fun ls hl => ?_)
                refine lv_goto (tgt := 60) hx hb dX0_nearest_118 (by decide) ?_
                exact ih _ _ _ _ _ _ _ _ ls h (lv_sub hl [2, 3, 4, 5, 6, 7, 1, 0, 8] rfl)
            · replace h := h.2 c_16
              refine lv_lload hx hb dX0_nearest_81 (lv_at hl 5 rfl) ?_
              refine lv_iload hx hb dX0_nearest_83 (lv_at hl 6 rfl) ?_
              refine lv_lshr (v := (w6 >>> (Int32.toInt64 z8 &&& 63))) hx hb dX0_nearest_85 rfl ?_
              refine lv_lconst (v := 1) hx hb dX0_nearest_86 (by decide) ?_
              refine lv_land hx hb dX0_nearest_87 ?_
              refine lv_lconst (v := 0) hx hb dX0_nearest_88 (by decide) ?_
              refine W.lcmp hx hb dX0_nearest_89 ?_
              refine lv_if_eq (tgt := 96) hx hb dX0_nearest_90 (by decide) (fun c_18 => ?_) (fun c_18 => ?_)
              · replace h := h.1 c_18
                refine lv_iload hx hb dX0_nearest_96 (lv_at hl 6 rfl) ?_
                refine lv_iconst (v := 1) hx hb dX0_nearest_98 (by decide) ?_
                refine lv_iadd hx hb dX0_nearest_99 ?_
                refine lv_iload hx hb dX0_nearest_100 (lv_at hl 3 rfl) ?_
                refine lv_icmp_ge (tgt := 112) hx hb dX0_nearest_102 (by decide) (fun c_19 => ?_) (fun c_19 => ?_)
                · replace h := h.1 c_19
                  refine lv_iconst (v := 0) hx hb dX0_nearest_112 (by decide) ?_
                  refine lv_istore (lv' := [(8, .int 0), (1, .int z1), (2, .int z2), (3, .int z3), (4, .int z4), (5, .int z5), (6, .long w6), (9, .int z9), (0, .ref (a0 0))]) hx hb dX0_nearest_113 hl (by decide) rfl (fun ls hl => ?_)
                  refine lv_iinc (v := (z9 + 1)) (lv' := [(9, .int (z9 + 1)), (8, .int 0), (1, .int z1), (2, .int z2), (3, .int z3), (4, .int z4), (5, .int z5), (6, .long w6), (0, .ref (a0 0))]) hx hb dX0_nearest_115 hl (k := 7) rfl rfl (by decide) rfl (fun ls hl => ?_)
                  refine lv_goto (tgt := 60) hx hb dX0_nearest_118 (by decide) ?_
                  exact ih _ _ _ _ _ _ _ _ ls h (lv_sub hl [2, 3, 4, 5, 6, 7, 1, 0, 8] rfl)
                · replace h := h.2 c_19
                  refine lv_iload hx hb dX0_nearest_105 (lv_at hl 6 rfl) ?_
                  refine lv_iconst (v := 1) hx hb dX0_nearest_107 (by decide) ?_
                  refine lv_iadd hx hb dX0_nearest_108 ?_
                  refine lv_goto (tgt := 113) hx hb dX0_nearest_109 (by decide) ?_
                  refine lv_istore (lv' := [(8, .int (z8 + 1)), (1, .int z1), (2, .int z2), (3, .int z3), (4, .int z4), (5, .int z5), (6, .long w6), (9, .int z9), (0, .ref (a0 0))]) hx hb dX0_nearest_113 hl (by decide) rfl (fun ls hl => ?_)
                  refine lv_iinc (v := (z9 + 1)) (lv' := [(9, .int (z9 + 1)), (8, .int (z8 + 1)), (1, .int z1), (2, .int z2), (3, .int z3), (4, .int z4), (5, .int z5), (6, .long w6), (0, .ref (a0 0))]) hx hb dX0_nearest_115 hl (k := 7) rfl rfl (by decide) rfl (fun ls hl => ?_)
                  refine lv_goto (tgt := 60) hx hb dX0_nearest_118 (by decide) ?_
                  exact ih _ _ _ _ _ _ _ _ ls h (lv_sub hl [2, 3, 4, 5, 6, 7, 1, 0, 8] rfl)
              · replace h := h.2 c_18
                refine lv_iload hx hb dX0_nearest_93 (lv_at hl 6 rfl) ?_
                exact rd_iret hx hb hr hk h dX0_nearest_95
      obtain ⟨n60, h⟩ := h
      refine lp60 _ ?_ n60 _ _ _ _ _ _ _ _ ls h (lv_sub hl [7, 8, 5, 4, 3, 2, 1, 0, 6] rfl)
      · intro z1 z2 z3 z4 z5 w6 z8 z9 ls h hl
        try dsimp only at h
        refine lv_iconst (v := (-1)) hx hb dX0_nearest_121 (by decide) ?_
        exact rd_iret hx hb hr hk h dX0_nearest_122
    · replace h := h.2 c_11
      refine lv_aload_n hx hb dX0_nearest_19 rfl (lv_at hl 1 rfl) ?_
      refine fl_get (C := RX0) (T := TX0) (N := 18) (ci := 0) (v := .ref (a0 2)) hx hb ht in_X0 hown hK hP 0 rfl rfl 7 (by decide) mw_190 rfl dX0_nearest_20 ?_
      refine lv_iload_n hx hb dX0_nearest_23 rfl (lv_at hl 0 rfl) ?_
      obtain ⟨g_20, h⟩ := h
      refine va_iald hx hb hK hP 2 0 rfl rfl g_20 dX0_nearest_24 ?_
      refine lv_goto (tgt := 29) hx hb dX0_nearest_25 (by decide) ?_
      refine lv_istore (lv' := [(4, .int ((s0.2.1 1) (Int32.toNatClampNeg ((s0.2.1 3) (Int32.toNatClampNeg x1))))), (3, .int ((s0.2.1 3) (Int32.toNatClampNeg x1))), (0, .ref (a0 0)), (1, .int x1), (2, .int x2)]) hx hb dX0_nearest_29 hl (by decide) rfl (fun ls hl => ?_)
      refine lv_iload_n hx hb dX0_nearest_31 rfl (lv_at hl 1 rfl) ?_
      refine lv_bipush (v := 40) hx hb dX0_nearest_32 (by decide) ?_
      refine lv_imul hx hb dX0_nearest_34 ?_
      refine lv_istore (lv' := [(5, .int (((s0.2.1 3) (Int32.toNatClampNeg x1)) * 40)), (4, .int ((s0.2.1 1) (Int32.toNatClampNeg ((s0.2.1 3) (Int32.toNatClampNeg x1))))), (3, .int ((s0.2.1 3) (Int32.toNatClampNeg x1))), (0, .ref (a0 0)), (1, .int x1), (2, .int x2)]) hx hb dX0_nearest_35 hl (by decide) rfl (fun ls hl => ?_)
      refine lv_aload_n hx hb dX0_nearest_37 rfl (lv_at hl 3 rfl) ?_
      refine fl_get (C := RX0) (T := TX0) (N := 18) (ci := 0) (v := .ref (a0 11)) hx hb ht in_X0 hown hK hP 0 rfl rfl 16 (by decide) mw_206 rfl dX0_nearest_38 ?_
      refine lv_iload_n hx hb dX0_nearest_41 rfl (lv_at hl 4 rfl) ?_
      obtain ⟨g_21, h⟩ := h
      refine va_lald hx hb hK hP 11 1 rfl rfl g_21 dX0_nearest_42 ?_
      refine lv_ldc2 (v := (-1)) hx hb hown (ht _ mw_576) dX0_nearest_43 ?_
      refine lv_lxor hx hb dX0_nearest_46 ?_
      refine lv_lstore (lv' := [(6, .long ((s0.2.2.1 (Int32.toNatClampNeg x1)) ^^^ (-1))), (5, .int (((s0.2.1 3) (Int32.toNatClampNeg x1)) * 40)), (4, .int ((s0.2.1 1) (Int32.toNatClampNeg ((s0.2.1 3) (Int32.toNatClampNeg x1))))), (3, .int ((s0.2.1 3) (Int32.toNatClampNeg x1))), (0, .ref (a0 0)), (1, .int x1), (2, .int x2)]) hx hb dX0_nearest_47 hl (by decide) rfl (fun ls hl => ?_)
      refine lv_aload_n hx hb dX0_nearest_49 rfl (lv_at hl 4 rfl) ?_
      refine fl_get (C := RX0) (T := TX0) (N := 18) (ci := 0) (v := .ref (a0 6)) hx hb ht in_X0 hown hK hP 0 rfl rfl 11 (by decide) mw_196 rfl dX0_nearest_50 ?_
      refine lv_iload_n hx hb dX0_nearest_53 rfl (lv_at hl 5 rfl) ?_
      obtain ⟨g_22, h⟩ := h
      refine va_iald hx hb hK hP 6 0 rfl rfl g_22 dX0_nearest_54 ?_
      refine lv_istore (lv' := [(8, .int ((s0.2.1 5) (Int32.toNatClampNeg x1))), (6, .long ((s0.2.2.1 (Int32.toNatClampNeg x1)) ^^^ (-1))), (5, .int (((s0.2.1 3) (Int32.toNatClampNeg x1)) * 40)), (4, .int ((s0.2.1 1) (Int32.toNatClampNeg ((s0.2.1 3) (Int32.toNatClampNeg x1))))), (3, .int ((s0.2.1 3) (Int32.toNatClampNeg x1))), (0, .ref (a0 0)), (1, .int x1), (2, .int x2)]) hx hb dX0_nearest_55 hl (by decide) rfl (fun ls hl => ?_)
      refine lv_iconst (v := 0) hx hb dX0_nearest_57 (by decide) ?_
      refine lv_istore (lv' := [(9, .int 0), (8, .int ((s0.2.1 5) (Int32.toNatClampNeg x1))), (6, .long ((s0.2.2.1 (Int32.toNatClampNeg x1)) ^^^ (-1))), (5, .int (((s0.2.1 3) (Int32.toNatClampNeg x1)) * 40)), (4, .int ((s0.2.1 1) (Int32.toNatClampNeg ((s0.2.1 3) (Int32.toNatClampNeg x1))))), (3, .int ((s0.2.1 3) (Int32.toNatClampNeg x1))), (0, .ref (a0 0)), (1, .int x1), (2, .int x2)]) hx hb dX0_nearest_58 hl (by decide) rfl (fun ls hl => ?_)
      have lp60 : ∀ (e121 : Int32 → Int32 → Int32 → Int32 → Int32 → Int64 → Int32 → Int32 → Prop) (k121 : ∀ (z1 : Int32) (z2 : Int32) (z3 : Int32) (z4 : Int32) (z5 : Int32) (w6 : Int64) (z8 : Int32) (z9 : Int32) (ls : Array Slot), e121 z1 z2 z3 z4 z5 w6 z8 z9 → lv_has ls 10 [(1, .int z1), (2, .int z2), (3, .int z3), (4, .int z4), (5, .int z5), (6, .long w6), (8, .int z8), (9, .int z9), (0, .ref (a0 0))] → W p l e ({ frames := 0, cells := 0, slots := 0, locals := 0 } : Room) s m [.ref (a0 0), .int x1, .int x2].toArray below meth c s.heap [] 0 0 (MQ below (vp_Si post) [.ref (a0 0), .int x1, .int x2].toArray s 0 0 (fun _ => False)) (F0 m 121 ls [])) (n : Nat) (z1 : Int32) (z2 : Int32) (z3 : Int32) (z4 : Int32) (z5 : Int32) (w6 : Int64) (z8 : Int32) (z9 : Int32) (ls : Array Slot), wp_X0_nearest_L60 s0 post e121 n z1 z2 z3 z4 z5 w6 z8 z9 → lv_has ls 10 [(1, .int z1), (2, .int z2), (3, .int z3), (4, .int z4), (5, .int z5), (6, .long w6), (8, .int z8), (9, .int z9), (0, .ref (a0 0))] → W p l e ({ frames := 0, cells := 0, slots := 0, locals := 0 } : Room) s m [.ref (a0 0), .int x1, .int x2].toArray below meth c s.heap [] 0 0 (MQ below (vp_Si post) [.ref (a0 0), .int x1, .int x2].toArray s 0 0 (fun _ => False)) (F0 m 60 ls []) := by
        intro e121 k121 n
        induction n with
        | zero =>
          intro z1 z2 z3 z4 z5 w6 z8 z9 ls h
          exact h.elim
        | succ n ih =>
          intro z1 z2 z3 z4 z5 w6 z8 z9 ls h hl
          unfold wp_X0_nearest_L60 at h
          refine lv_iload hx hb dX0_nearest_60 (lv_at hl 7 rfl) ?_
          refine lv_iload hx hb dX0_nearest_62 (lv_at hl 3 rfl) ?_
          refine lv_icmp_ge (tgt := 121) hx hb dX0_nearest_64 (by decide) (fun c_23 => ?_) (fun c_23 => ?_)
          · replace h := h.1 c_23
            exact k121 _ _ _ _ _ _ _ _ ls h (lv_sub hl [0, 1, 2, 3, 4, 5, 6, 7, 8] rfl)
          · replace h := h.2 c_23
            refine lv_aload_n hx hb dX0_nearest_67 rfl (lv_at hl 8 rfl) ?_
            refine fl_get (C := RX0) (T := TX0) (N := 18) (ci := 0) (v := .ref (a0 3)) hx hb ht in_X0 hown hK hP 0 rfl rfl 8 (by decide) mw_191 rfl dX0_nearest_68 ?_
            refine lv_iload hx hb dX0_nearest_71 (lv_at hl 4 rfl) ?_
            refine lv_iload hx hb dX0_nearest_73 (lv_at hl 6 rfl) ?_
            refine lv_iadd hx hb dX0_nearest_75 ?_
            obtain ⟨g_24, h⟩ := h
            refine va_iald hx hb hK hP 3 0 rfl rfl g_24 dX0_nearest_76 ?_
            refine lv_iload_n hx hb dX0_nearest_77 rfl (lv_at hl 1 rfl) ?_
            refine lv_icmp_ne (tgt := 96) hx hb dX0_nearest_78 (by decide) (fun c_25 => ?_) (fun c_25 => ?_)
            · replace h := h.1 c_25
              refine lv_iload hx hb dX0_nearest_96 (lv_at hl 6 rfl) ?_
              refine lv_iconst (v := 1) hx hb dX0_nearest_98 (by decide) ?_
              refine lv_iadd hx hb dX0_nearest_99 ?_
              refine lv_iload hx hb dX0_nearest_100 (lv_at hl 3 rfl) ?_
              refine lv_icmp_ge (tgt := 112) hx hb dX0_nearest_102 (by decide) (fun c_26 => ?_) (fun c_26 => ?_)
              · replace h := h.1 c_26
                refine lv_iconst (v := 0) hx hb dX0_nearest_112 (by decide) ?_
                refine lv_istore (lv' := [(8, .int 0), (1, .int z1), (2, .int z2), (3, .int z3), (4, .int z4), (5, .int z5), (6, .long w6), (9, .int z9), (0, .ref (a0 0))]) hx hb dX0_nearest_113 hl (by decide) rfl (fun ls hl => ?_)
                refine lv_iinc (v := (z9 + 1)) (lv' := [(9, .int (z9 + 1)), (8, .int 0), (1, .int z1), (2, .int z2), (3, .int z3), (4, .int z4), (5, .int z5), (6, .long w6), (0, .ref (a0 0))]) hx hb dX0_nearest_115 hl (k := 7) rfl rfl (by decide) rfl (fun ls hl => ?_)
                refine lv_goto (tgt := 60) hx hb dX0_nearest_118 (by decide) ?_
                exact ih _ _ _ _ _ _ _ _ ls h (lv_sub hl [2, 3, 4, 5, 6, 7, 1, 0, 8] rfl)
              · replace h := h.2 c_26
                refine lv_iload hx hb dX0_nearest_105 (lv_at hl 6 rfl) ?_
                refine lv_iconst (v := 1) hx hb dX0_nearest_107 (by decide) ?_
                refine lv_iadd hx hb dX0_nearest_108 ?_
                refine lv_goto (tgt := 113) hx hb dX0_nearest_109 (by decide) ?_
                refine lv_istore (lv' := [(8, .int (z8 + 1)), (1, .int z1), (2, .int z2), (3, .int z3), (4, .int z4), (5, .int z5), (6, .long w6), (9, .int z9), (0, .ref (a0 0))]) hx hb dX0_nearest_113 hl (by decide) rfl (fun ls hl => ?_)
                refine lv_iinc (v := (z9 + 1)) (lv' := [(9, .int (z9 + 1)), (8, .int (z8 + 1)), (1, .int z1), (2, .int z2), (3, .int z3), (4, .int z4), (5, .int z5), (6, .long w6), (0, .ref (a0 0))]) hx hb dX0_nearest_115 hl (k := 7) rfl rfl (by decide) rfl (fun ls hl => ?_)
                refine lv_goto (tgt := 60) hx hb dX0_nearest_118 (by decide) ?_
                exact ih _ _ _ _ _ _ _ _ ls h (lv_sub hl [2, 3, 4, 5, 6, 7, 1, 0, 8] rfl)
            · replace h := h.2 c_25
              refine lv_lload hx hb dX0_nearest_81 (lv_at hl 5 rfl) ?_
              refine lv_iload hx hb dX0_nearest_83 (lv_at hl 6 rfl) ?_
              refine lv_lshr (v := (w6 >>> (Int32.toInt64 z8 &&& 63))) hx hb dX0_nearest_85 rfl ?_
              refine lv_lconst (v := 1) hx hb dX0_nearest_86 (by decide) ?_
              refine lv_land hx hb dX0_nearest_87 ?_
              refine lv_lconst (v := 0) hx hb dX0_nearest_88 (by decide) ?_
              refine W.lcmp hx hb dX0_nearest_89 ?_
              refine lv_if_eq (tgt := 96) hx hb dX0_nearest_90 (by decide) (fun c_27 => ?_) (fun c_27 => ?_)
              · replace h := h.1 c_27
                refine lv_iload hx hb dX0_nearest_96 (lv_at hl 6 rfl) ?_
                refine lv_iconst (v := 1) hx hb dX0_nearest_98 (by decide) ?_
                refine lv_iadd hx hb dX0_nearest_99 ?_
                refine lv_iload hx hb dX0_nearest_100 (lv_at hl 3 rfl) ?_
                refine lv_icmp_ge (tgt := 112) hx hb dX0_nearest_102 (by decide) (fun c_28 => ?_) (fun c_28 => ?_)
                · replace h := h.1 c_28
                  refine lv_iconst (v := 0) hx hb dX0_nearest_112 (by decide) ?_
                  refine lv_istore (lv' := [(8, .int 0), (1, .int z1), (2, .int z2), (3, .int z3), (4, .int z4), (5, .int z5), (6, .long w6), (9, .int z9), (0, .ref (a0 0))]) hx hb dX0_nearest_113 hl (by decide) rfl (fun ls hl => ?_)
                  refine lv_iinc (v := (z9 + 1)) (lv' := [(9, .int (z9 + 1)), (8, .int 0), (1, .int z1), (2, .int z2), (3, .int z3), (4, .int z4), (5, .int z5), (6, .long w6), (0, .ref (a0 0))]) hx hb dX0_nearest_115 hl (k := 7) rfl rfl (by decide) rfl (fun ls hl => ?_)
                  refine lv_goto (tgt := 60) hx hb dX0_nearest_118 (by decide) ?_
                  exact ih _ _ _ _ _ _ _ _ ls h (lv_sub hl [2, 3, 4, 5, 6, 7, 1, 0, 8] rfl)
                · replace h := h.2 c_28
                  refine lv_iload hx hb dX0_nearest_105 (lv_at hl 6 rfl) ?_
                  refine lv_iconst (v := 1) hx hb dX0_nearest_107 (by decide) ?_
                  refine lv_iadd hx hb dX0_nearest_108 ?_
                  refine lv_goto (tgt := 113) hx hb dX0_nearest_109 (by decide) ?_
                  refine lv_istore (lv' := [(8, .int (z8 + 1)), (1, .int z1), (2, .int z2), (3, .int z3), (4, .int z4), (5, .int z5), (6, .long w6), (9, .int z9), (0, .ref (a0 0))]) hx hb dX0_nearest_113 hl (by decide) rfl (fun ls hl => ?_)
                  refine lv_iinc (v := (z9 + 1)) (lv' := [(9, .int (z9 + 1)), (8, .int (z8 + 1)), (1, .int z1), (2, .int z2), (3, .int z3), (4, .int z4), (5, .int z5), (6, .long w6), (0, .ref (a0 0))]) hx hb dX0_nearest_115 hl (k := 7) rfl rfl (by decide) rfl (fun ls hl => ?_)
                  refine lv_goto (tgt := 60) hx hb dX0_nearest_118 (by decide) ?_
                  exact ih _ _ _ _ _ _ _ _ ls h (lv_sub hl [2, 3, 4, 5, 6, 7, 1, 0, 8] rfl)
              · replace h := h.2 c_27
                refine lv_iload hx hb dX0_nearest_93 (lv_at hl 6 rfl) ?_
                exact rd_iret hx hb hr hk h dX0_nearest_95
      obtain ⟨n60, h⟩ := h
      refine lp60 _ ?_ n60 _ _ _ _ _ _ _ _ ls h (lv_sub hl [7, 8, 5, 4, 3, 2, 1, 0, 6] rfl)
      · intro z1 z2 z3 z4 z5 w6 z8 z9 ls h hl
        try dsimp only at h
        refine lv_iconst (v := (-1)) hx hb dX0_nearest_121 (by decide) ?_
        exact rd_iret hx hb hr hk h dX0_nearest_122

def wp_X0_missedOfOwn_L12 (s0 : Bd) (post : Int32 → Prop) (e57 : Int32 → Int32 → Int32 → Int32 → Prop) : Nat → Int32 → Int32 → Int32 → Int32 → Prop
  | 0, _, _, _, _ => False
  | n12 + 1, z1, z2, z3, z4 => wp_X0_flapsOn (fun r_2 => ((r_2 ≤ z4 → e57 z1 z2 z3 z4) ∧ (¬ r_2 ≤ z4 → wp_X0_isLastOfSign (fun r_5 => ((r_5 = 0 → wp_X0_missedOfOwn_L12 s0 post e57 n12 z1 z2 z3 (z4 + 1)) ∧ (¬ r_5 = 0 → wp_X0_signOf (fun r_8 => wp_X0_nearest (fun r_10 => ((¬ r_10 = (-1) → wp_X0_missedOfOwn_L12 s0 post e57 n12 z1 z2 z3 (z4 + 1)) ∧ (r_10 = (-1) → wp_X0_missedOfOwn_L12 s0 post e57 n12 z1 z2 (z3 + 1) (z4 + 1)))) s0 z1 r_8) s0 z2 z4))) s0 z2 z4))) s0 z2
def wp_X0_missedOfOwn (post : Int32 → Prop) (s0 : Bd) (x1 : Int32) : Prop := vp_in x1 40 ∧ (∃ n12, wp_X0_missedOfOwn_L12 s0 post (fun z1 z2 z3 z4 => post z3) n12 x1 ((s0.2.1 3) (Int32.toNatClampNeg x1)) 0 0)
set_option maxHeartbeats 4000000 in
set_option maxRecDepth 100000 in
theorem c2_X0_missedOfOwn {l : Launch} {D : va_G} {q : Nat → ClassId} {a0 : Nat → Nat} {s0 : Bd} {x1 : Int32} {post : Int32 → Prop} (h : wp_X0_missedOfOwn post s0 x1) : Met l yX0_missedOfOwn (Cond.code yX0_missedOfOwn cX0_missedOfOwn 5 (some .int) :: w_all) ({ frames := 3, cells := 0, slots := 0, locals := 70 } : Room) (rd_P D q [.ref (a0 0), .int x1] (bd_w a0 q s0)) (vp_Si post) 0 0 (fun _ => False) := by
  refine rd_start (by decide) (Nat.le_of_ble_eq_true rfl) ?_
  intro p e s m below meth c ls hx hb hr hml hown ht hk hP hQ hV hl
  have hK := hQ.1
  have hown : s.vm.findClass RX0 = some m.cls := hown
  have hl : lv_has ls 5 [(0, .ref (a0 0)), (1, .int x1)] := hl
  have hP : va_P D vwCl [((a0 0), .inr (0, [.int (s0.1 0), .int (s0.1 1), .int (s0.1 2), .int (s0.1 3), .int (s0.1 4), .int (s0.1 5), .ref (a0 1), .ref (a0 2), .ref (a0 3), .ref (a0 4), .ref (a0 5), .ref (a0 6), .ref (a0 7), .ref (a0 8), .ref (a0 9), .ref (a0 10), .ref (a0 11), .ref (a0 12)])), ((a0 1), .inl (q 0, 4, .inl (s0.2.1 0))), ((a0 2), .inl (q 0, 4, .inl (s0.2.1 1))), ((a0 3), .inl (q 0, 160, .inl (s0.2.1 2))), ((a0 4), .inl (q 0, 40, .inl (s0.2.1 3))), ((a0 5), .inl (q 0, 40, .inl (s0.2.1 4))), ((a0 6), .inl (q 0, 40, .inl (s0.2.1 5))), ((a0 7), .inl (q 0, 40, .inl (s0.2.1 6))), ((a0 8), .inl (q 0, 40, .inl (s0.2.1 7))), ((a0 9), .inl (q 0, 40, .inl (s0.2.1 8))), ((a0 10), .inl (q 0, 40, .inl (s0.2.1 9))), ((a0 11), .inl (q 1, 40, .inr (.inl s0.2.2.1))), ((a0 12), .inl (q 0, s0.2.2.2.1, .inl s0.2.2.2.2))] s.heap := hP
  unfold wp_X0_missedOfOwn at h
  refine lv_aload_n hx hb dX0_missedOfOwn_0 rfl (lv_at hl 0 rfl) ?_
  refine fl_get (C := RX0) (T := TX0) (N := 18) (ci := 0) (v := .ref (a0 4)) hx hb ht in_X0 hown hK hP 0 rfl rfl 9 (by decide) mw_192 rfl dX0_missedOfOwn_1 ?_
  refine lv_iload_n hx hb dX0_missedOfOwn_4 rfl (lv_at hl 1 rfl) ?_
  obtain ⟨g_1, h⟩ := h
  refine va_iald hx hb hK hP 4 0 rfl rfl g_1 dX0_missedOfOwn_5 ?_
  refine lv_istore_n (lv' := [(2, .int ((s0.2.1 3) (Int32.toNatClampNeg x1))), (0, .ref (a0 0)), (1, .int x1)]) hx hb dX0_missedOfOwn_6 rfl hl (by decide) rfl (fun ls hl => ?_)
  refine lv_iconst (v := 0) hx hb dX0_missedOfOwn_7 (by decide) ?_
  refine lv_istore_n (lv' := [(3, .int 0), (2, .int ((s0.2.1 3) (Int32.toNatClampNeg x1))), (0, .ref (a0 0)), (1, .int x1)]) hx hb dX0_missedOfOwn_8 rfl hl (by decide) rfl (fun ls hl => ?_)
  refine lv_iconst (v := 0) hx hb dX0_missedOfOwn_9 (by decide) ?_
  refine lv_istore (lv' := [(4, .int 0), (3, .int 0), (2, .int ((s0.2.1 3) (Int32.toNatClampNeg x1))), (0, .ref (a0 0)), (1, .int x1)]) hx hb dX0_missedOfOwn_10 hl (by decide) rfl (fun ls hl => ?_)
  have lp12 : ∀ (e57 : Int32 → Int32 → Int32 → Int32 → Prop) (k57 : ∀ (z1 : Int32) (z2 : Int32) (z3 : Int32) (z4 : Int32) (ls : Array Slot), e57 z1 z2 z3 z4 → lv_has ls 5 [(1, .int z1), (2, .int z2), (3, .int z3), (4, .int z4), (0, .ref (a0 0))] → W p l e ({ frames := 3, cells := 0, slots := 0, locals := 70 } : Room) s m [.ref (a0 0), .int x1].toArray below meth c s.heap [] 0 0 (MQ below (vp_Si post) [.ref (a0 0), .int x1].toArray s 0 0 (fun _ => False)) (F0 m 57 ls [])) (n : Nat) (z1 : Int32) (z2 : Int32) (z3 : Int32) (z4 : Int32) (ls : Array Slot), wp_X0_missedOfOwn_L12 s0 post e57 n z1 z2 z3 z4 → lv_has ls 5 [(1, .int z1), (2, .int z2), (3, .int z3), (4, .int z4), (0, .ref (a0 0))] → W p l e ({ frames := 3, cells := 0, slots := 0, locals := 70 } : Room) s m [.ref (a0 0), .int x1].toArray below meth c s.heap [] 0 0 (MQ below (vp_Si post) [.ref (a0 0), .int x1].toArray s 0 0 (fun _ => False)) (F0 m 12 ls []) := by
    intro e57 k57 n
    induction n with
    | zero =>
      intro z1 z2 z3 z4 ls h
      exact h.elim
    | succ n ih =>
      intro z1 z2 z3 z4 ls h hl
      unfold wp_X0_missedOfOwn_L12 at h
      refine lv_iload hx hb dX0_missedOfOwn_12 (lv_at hl 3 rfl) ?_
      refine lv_aload_n hx hb dX0_missedOfOwn_14 rfl (lv_at hl 4 rfl) ?_
      refine lv_iload_n hx hb dX0_missedOfOwn_15 rfl (lv_at hl 1 rfl) ?_
      refine vp_callSi (rd_wV (wc := bd_w a0 q s0) (As := [.int z2]) (rest := [.int z4]) hx hb hml hown ht (c2_X0_flapsOn h) wd_X0_flapsOn mw_772 hQ hV va_S.rf (hP.sub [0, 1, 2, 3, 4, 5, 6, 7, 8, 9, 10, 11, 12] rfl) rfl rfl rfl hl.1 rfl (Nat.le_of_ble_eq_true rfl) dX0_missedOfOwn_16 ⟨Nat.le_of_ble_eq_true rfl, Nat.le_of_ble_eq_true rfl, rfl, rfl⟩ ⟨Nat.le_of_ble_eq_true rfl, Nat.le_of_ble_eq_true rfl⟩) (fun r_2 h => ?_)
      try dsimp only at h
      refine lv_icmp_ge (tgt := 57) hx hb dX0_missedOfOwn_19 (by decide) (fun c_4 => ?_) (fun c_4 => ?_)
      · replace h := h.1 c_4
        exact k57 _ _ _ _ ls h (lv_sub hl [0, 1, 2, 3, 4] rfl)
      · replace h := h.2 c_4
        refine lv_aload_n hx hb dX0_missedOfOwn_22 rfl (lv_at hl 4 rfl) ?_
        refine lv_iload_n hx hb dX0_missedOfOwn_23 rfl (lv_at hl 1 rfl) ?_
        refine lv_iload hx hb dX0_missedOfOwn_24 (lv_at hl 3 rfl) ?_
        refine vp_callSi (rd_wV (wc := bd_w a0 q s0) (As := [.int z2, .int z4]) (rest := []) hx hb hml hown ht (c2_X0_isLastOfSign h) wd_X0_isLastOfSign mw_917 hQ hV va_S.rf (hP.sub [0, 1, 2, 3, 4, 5, 6, 7, 8, 9, 10, 11, 12] rfl) rfl rfl rfl hl.1 rfl (Nat.le_of_ble_eq_true rfl) dX0_missedOfOwn_26 ⟨Nat.le_of_ble_eq_true rfl, Nat.le_of_ble_eq_true rfl, rfl, rfl⟩ ⟨Nat.le_of_ble_eq_true rfl, Nat.le_of_ble_eq_true rfl⟩) (fun r_5 h => ?_)
        try dsimp only at h
        refine lv_if_eq (tgt := 51) hx hb dX0_missedOfOwn_29 (by decide) (fun c_7 => ?_) (fun c_7 => ?_)
        · replace h := h.1 c_7
          refine lv_iinc (v := (z4 + 1)) (lv' := [(4, .int (z4 + 1)), (1, .int z1), (2, .int z2), (3, .int z3), (0, .ref (a0 0))]) hx hb dX0_missedOfOwn_51 hl (k := 3) rfl rfl (by decide) rfl (fun ls hl => ?_)
          refine lv_goto (tgt := 12) hx hb dX0_missedOfOwn_54 (by decide) ?_
          exact ih _ _ _ _ ls h (lv_sub hl [1, 2, 3, 0, 4] rfl)
        · replace h := h.2 c_7
          refine lv_aload_n hx hb dX0_missedOfOwn_32 rfl (lv_at hl 4 rfl) ?_
          refine lv_iload_n hx hb dX0_missedOfOwn_33 rfl (lv_at hl 0 rfl) ?_
          refine lv_aload_n hx hb dX0_missedOfOwn_34 rfl (lv_at hl 4 rfl) ?_
          refine lv_iload_n hx hb dX0_missedOfOwn_35 rfl (lv_at hl 1 rfl) ?_
          refine lv_iload hx hb dX0_missedOfOwn_36 (lv_at hl 3 rfl) ?_
          refine vp_callSi (rd_wV (wc := bd_w a0 q s0) (As := [.int z2, .int z4]) (rest := [.int z1, .ref (a0 0)]) hx hb hml hown ht (c2_X0_signOf h) wd_X0_signOf mw_668 hQ hV va_S.rf (hP.sub [0, 1, 2, 3, 4, 5, 6, 7, 8, 9, 10, 11, 12] rfl) rfl rfl rfl hl.1 rfl (Nat.le_of_ble_eq_true rfl) dX0_missedOfOwn_38 ⟨Nat.le_of_ble_eq_true rfl, Nat.le_of_ble_eq_true rfl, rfl, rfl⟩ ⟨Nat.le_of_ble_eq_true rfl, Nat.le_of_ble_eq_true rfl⟩) (fun r_8 h => ?_)
          try dsimp only at h
          refine vp_callSi (rd_wV (wc := bd_w a0 q s0) (As := [.int z1, .int r_8]) (rest := []) hx hb hml hown ht (c2_X0_nearest h) wd_X0_nearest mw_572 hQ hV va_S.rf (hP.sub [0, 1, 2, 3, 4, 5, 6, 7, 8, 9, 10, 11, 12] rfl) rfl rfl rfl hl.1 rfl (Nat.le_of_ble_eq_true rfl) dX0_missedOfOwn_41 ⟨Nat.le_of_ble_eq_true rfl, Nat.le_of_ble_eq_true rfl, rfl, rfl⟩ ⟨Nat.le_of_ble_eq_true rfl, Nat.le_of_ble_eq_true rfl⟩) (fun r_10 h => ?_)
          try dsimp only at h
          refine lv_iconst (v := (-1)) hx hb dX0_missedOfOwn_44 (by decide) ?_
          refine lv_icmp_ne (tgt := 51) hx hb dX0_missedOfOwn_45 (by decide) (fun c_12 => ?_) (fun c_12 => ?_)
          · replace h := h.1 c_12
            refine lv_iinc (v := (z4 + 1)) (lv' := [(4, .int (z4 + 1)), (1, .int z1), (2, .int z2), (3, .int z3), (0, .ref (a0 0))]) hx hb dX0_missedOfOwn_51 hl (k := 3) rfl rfl (by decide) rfl (fun ls hl => ?_)
            refine lv_goto (tgt := 12) hx hb dX0_missedOfOwn_54 (by decide) ?_
            exact ih _ _ _ _ ls h (lv_sub hl [1, 2, 3, 0, 4] rfl)
          · replace h := h.2 c_12
            refine lv_iinc (v := (z3 + 1)) (lv' := [(3, .int (z3 + 1)), (1, .int z1), (2, .int z2), (4, .int z4), (0, .ref (a0 0))]) hx hb dX0_missedOfOwn_48 hl (k := 2) rfl rfl (by decide) rfl (fun ls hl => ?_)
            refine lv_iinc (v := (z4 + 1)) (lv' := [(4, .int (z4 + 1)), (3, .int (z3 + 1)), (1, .int z1), (2, .int z2), (0, .ref (a0 0))]) hx hb dX0_missedOfOwn_51 hl (k := 3) rfl rfl (by decide) rfl (fun ls hl => ?_)
            refine lv_goto (tgt := 12) hx hb dX0_missedOfOwn_54 (by decide) ?_
            exact ih _ _ _ _ ls h (lv_sub hl [2, 3, 1, 0, 4] rfl)
  obtain ⟨n12, h⟩ := h
  refine lp12 _ ?_ n12 _ _ _ _ ls h (lv_sub hl [4, 2, 1, 0, 3] rfl)
  · intro z1 z2 z3 z4 ls h hl
    try dsimp only at h
    refine lv_iload_n hx hb dX0_missedOfOwn_57 rfl (lv_at hl 2 rfl) ?_
    exact rd_iret hx hb hr hk h dX0_missedOfOwn_58

def wp_X0_signsOfOthers_L5 (s0 : Bd) (post : Int32 → Prop) (e37 : Int32 → Int32 → Int32 → Prop) : Nat → Int32 → Int32 → Int32 → Prop
  | 0, _, _, _ => False
  | n5 + 1, z1, z2, z3 => ((126 < z3 → e37 z1 z2 z3) ∧ (¬ 126 < z3 → wp_X0_someDrumHas (fun r_2 => ((r_2 = 0 → wp_X0_signsOfOthers_L5 s0 post e37 n5 z1 z2 (z3 + 1)) ∧ (¬ r_2 = 0 → wp_X0_drumHas (fun r_5 => ((¬ r_5 = 0 → wp_X0_signsOfOthers_L5 s0 post e37 n5 z1 z2 (z3 + 1)) ∧ (r_5 = 0 → wp_X0_signsOfOthers_L5 s0 post e37 n5 z1 (z2 + 1) (z3 + 1)))) s0 z1 z3))) s0 z3))
def wp_X0_signsOfOthers (post : Int32 → Prop) (s0 : Bd) (x1 : Int32) : Prop := (∃ n5, wp_X0_signsOfOthers_L5 s0 post (fun z1 z2 z3 => post z2) n5 x1 0 32)
set_option maxHeartbeats 4000000 in
set_option maxRecDepth 100000 in
theorem c2_X0_signsOfOthers {l : Launch} {D : va_G} {q : Nat → ClassId} {a0 : Nat → Nat} {s0 : Bd} {x1 : Int32} {post : Int32 → Prop} (h : wp_X0_signsOfOthers post s0 x1) : Met l yX0_signsOfOthers (Cond.code yX0_signsOfOthers cX0_signsOfOthers 4 (some .int) :: w_all) ({ frames := 4, cells := 0, slots := 0, locals := 92 } : Room) (rd_P D q [.ref (a0 0), .int x1] (bd_w a0 q s0)) (vp_Si post) 0 0 (fun _ => False) := by
  refine rd_start (by decide) (Nat.le_of_ble_eq_true rfl) ?_
  intro p e s m below meth c ls hx hb hr hml hown ht hk hP hQ hV hl
  have hK := hQ.1
  have hown : s.vm.findClass RX0 = some m.cls := hown
  have hl : lv_has ls 4 [(0, .ref (a0 0)), (1, .int x1)] := hl
  have hP : va_P D vwCl [((a0 0), .inr (0, [.int (s0.1 0), .int (s0.1 1), .int (s0.1 2), .int (s0.1 3), .int (s0.1 4), .int (s0.1 5), .ref (a0 1), .ref (a0 2), .ref (a0 3), .ref (a0 4), .ref (a0 5), .ref (a0 6), .ref (a0 7), .ref (a0 8), .ref (a0 9), .ref (a0 10), .ref (a0 11), .ref (a0 12)])), ((a0 1), .inl (q 0, 4, .inl (s0.2.1 0))), ((a0 2), .inl (q 0, 4, .inl (s0.2.1 1))), ((a0 3), .inl (q 0, 160, .inl (s0.2.1 2))), ((a0 4), .inl (q 0, 40, .inl (s0.2.1 3))), ((a0 5), .inl (q 0, 40, .inl (s0.2.1 4))), ((a0 6), .inl (q 0, 40, .inl (s0.2.1 5))), ((a0 7), .inl (q 0, 40, .inl (s0.2.1 6))), ((a0 8), .inl (q 0, 40, .inl (s0.2.1 7))), ((a0 9), .inl (q 0, 40, .inl (s0.2.1 8))), ((a0 10), .inl (q 0, 40, .inl (s0.2.1 9))), ((a0 11), .inl (q 1, 40, .inr (.inl s0.2.2.1))), ((a0 12), .inl (q 0, s0.2.2.2.1, .inl s0.2.2.2.2))] s.heap := hP
  unfold wp_X0_signsOfOthers at h
  refine lv_iconst (v := 0) hx hb dX0_signsOfOthers_0 (by decide) ?_
  refine lv_istore_n (lv' := [(2, .int 0), (0, .ref (a0 0)), (1, .int x1)]) hx hb dX0_signsOfOthers_1 rfl hl (by decide) rfl (fun ls hl => ?_)
  refine lv_bipush (v := 32) hx hb dX0_signsOfOthers_2 (by decide) ?_
  refine lv_istore_n (lv' := [(3, .int 32), (2, .int 0), (0, .ref (a0 0)), (1, .int x1)]) hx hb dX0_signsOfOthers_4 rfl hl (by decide) rfl (fun ls hl => ?_)
  have lp5 : ∀ (e37 : Int32 → Int32 → Int32 → Prop) (k37 : ∀ (z1 : Int32) (z2 : Int32) (z3 : Int32) (ls : Array Slot), e37 z1 z2 z3 → lv_has ls 4 [(1, .int z1), (2, .int z2), (3, .int z3), (0, .ref (a0 0))] → W p l e ({ frames := 4, cells := 0, slots := 0, locals := 92 } : Room) s m [.ref (a0 0), .int x1].toArray below meth c s.heap [] 0 0 (MQ below (vp_Si post) [.ref (a0 0), .int x1].toArray s 0 0 (fun _ => False)) (F0 m 37 ls [])) (n : Nat) (z1 : Int32) (z2 : Int32) (z3 : Int32) (ls : Array Slot), wp_X0_signsOfOthers_L5 s0 post e37 n z1 z2 z3 → lv_has ls 4 [(1, .int z1), (2, .int z2), (3, .int z3), (0, .ref (a0 0))] → W p l e ({ frames := 4, cells := 0, slots := 0, locals := 92 } : Room) s m [.ref (a0 0), .int x1].toArray below meth c s.heap [] 0 0 (MQ below (vp_Si post) [.ref (a0 0), .int x1].toArray s 0 0 (fun _ => False)) (F0 m 5 ls []) := by
    intro e37 k37 n
    induction n with
    | zero =>
      intro z1 z2 z3 ls h
      exact h.elim
    | succ n ih =>
      intro z1 z2 z3 ls h hl
      unfold wp_X0_signsOfOthers_L5 at h
      refine lv_iload_n hx hb dX0_signsOfOthers_5 rfl (lv_at hl 2 rfl) ?_
      refine lv_bipush (v := 126) hx hb dX0_signsOfOthers_6 (by decide) ?_
      refine lv_icmp_gt (tgt := 37) hx hb dX0_signsOfOthers_8 (by decide) (fun c_1 => ?_) (fun c_1 => ?_)
      · replace h := h.1 c_1
        exact k37 _ _ _ ls h (lv_sub hl [0, 1, 2, 3] rfl)
      · replace h := h.2 c_1
        refine lv_aload_n hx hb dX0_signsOfOthers_11 rfl (lv_at hl 3 rfl) ?_
        refine lv_iload_n hx hb dX0_signsOfOthers_12 rfl (lv_at hl 2 rfl) ?_
        refine vp_callSi (rd_wV (wc := bd_w a0 q s0) (As := [.int z3]) (rest := []) hx hb hml hown ht (c2_X0_someDrumHas h) wd_X0_someDrumHas mw_1092 hQ hV va_S.rf (hP.sub [0, 1, 2, 3, 4, 5, 6, 7, 8, 9, 10, 11, 12] rfl) rfl rfl rfl hl.1 rfl (Nat.le_of_ble_eq_true rfl) dX0_signsOfOthers_13 ⟨Nat.le_of_ble_eq_true rfl, Nat.le_of_ble_eq_true rfl, rfl, rfl⟩ ⟨Nat.le_of_ble_eq_true rfl, Nat.le_of_ble_eq_true rfl⟩) (fun r_2 h => ?_)
        try dsimp only at h
        refine lv_if_eq (tgt := 31) hx hb dX0_signsOfOthers_16 (by decide) (fun c_4 => ?_) (fun c_4 => ?_)
        · replace h := h.1 c_4
          refine lv_iinc (v := (z3 + 1)) (lv' := [(3, .int (z3 + 1)), (1, .int z1), (2, .int z2), (0, .ref (a0 0))]) hx hb dX0_signsOfOthers_31 hl (k := 2) rfl rfl (by decide) rfl (fun ls hl => ?_)
          refine lv_goto (tgt := 5) hx hb dX0_signsOfOthers_34 (by decide) ?_
          exact ih _ _ _ ls h (lv_sub hl [1, 2, 0, 3] rfl)
        · replace h := h.2 c_4
          refine lv_aload_n hx hb dX0_signsOfOthers_19 rfl (lv_at hl 3 rfl) ?_
          refine lv_iload_n hx hb dX0_signsOfOthers_20 rfl (lv_at hl 0 rfl) ?_
          refine lv_iload_n hx hb dX0_signsOfOthers_21 rfl (lv_at hl 2 rfl) ?_
          refine vp_callSi (rd_wV (wc := bd_w a0 q s0) (As := [.int z1, .int z3]) (rest := []) hx hb hml hown ht (c2_X0_drumHas h) wd_X0_drumHas mw_1096 hQ hV va_S.rf (hP.sub [0, 1, 2, 3, 4, 5, 6, 7, 8, 9, 10, 11, 12] rfl) rfl rfl rfl hl.1 rfl (Nat.le_of_ble_eq_true rfl) dX0_signsOfOthers_22 ⟨Nat.le_of_ble_eq_true rfl, Nat.le_of_ble_eq_true rfl, rfl, rfl⟩ ⟨Nat.le_of_ble_eq_true rfl, Nat.le_of_ble_eq_true rfl⟩) (fun r_5 h => ?_)
          try dsimp only at h
          refine lv_if_ne (tgt := 31) hx hb dX0_signsOfOthers_25 (by decide) (fun c_7 => ?_) (fun c_7 => ?_)
          · replace h := h.1 c_7
            refine lv_iinc (v := (z3 + 1)) (lv' := [(3, .int (z3 + 1)), (1, .int z1), (2, .int z2), (0, .ref (a0 0))]) hx hb dX0_signsOfOthers_31 hl (k := 2) rfl rfl (by decide) rfl (fun ls hl => ?_)
            refine lv_goto (tgt := 5) hx hb dX0_signsOfOthers_34 (by decide) ?_
            exact ih _ _ _ ls h (lv_sub hl [1, 2, 0, 3] rfl)
          · replace h := h.2 c_7
            refine lv_iinc (v := (z2 + 1)) (lv' := [(2, .int (z2 + 1)), (1, .int z1), (3, .int z3), (0, .ref (a0 0))]) hx hb dX0_signsOfOthers_28 hl (k := 1) rfl rfl (by decide) rfl (fun ls hl => ?_)
            refine lv_iinc (v := (z3 + 1)) (lv' := [(3, .int (z3 + 1)), (2, .int (z2 + 1)), (1, .int z1), (0, .ref (a0 0))]) hx hb dX0_signsOfOthers_31 hl (k := 2) rfl rfl (by decide) rfl (fun ls hl => ?_)
            refine lv_goto (tgt := 5) hx hb dX0_signsOfOthers_34 (by decide) ?_
            exact ih _ _ _ ls h (lv_sub hl [2, 1, 0, 3] rfl)
  obtain ⟨n5, h⟩ := h
  refine lp5 _ ?_ n5 _ _ _ ls h (lv_sub hl [3, 1, 0, 2] rfl)
  · intro z1 z2 z3 ls h hl
    try dsimp only at h
    refine lv_iload_n hx hb dX0_signsOfOthers_37 rfl (lv_at hl 1 rfl) ?_
    exact rd_iret hx hb hr hk h dX0_signsOfOthers_38
