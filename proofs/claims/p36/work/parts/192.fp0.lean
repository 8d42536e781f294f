def wp_X6_row (post : Int32 → Tp → Bd → Pa → Prop) (s1 : Tp) (s2 : Bd) (s6 : Pa) (x1 : Int32) : Prop := wp_X6_whyNotRow (fun r_1 => ((¬ r_1 = 0 → post r_1 ((va_up s1.1 0 0), s1.2) s2 s6) ∧ (r_1 = 0 → wp_X3_push (fun s_6 => wp_X0_wantSigns (fun r_10 u_11 => post r_10 ((va_up s1.1 0 0), s1.2) u_11 s_6) s2 s1 x1 (0 : Int32) (s1.1 0)) s6 s2))) s1 s2 x1
set_option maxHeartbeats 4000000 in
set_option maxRecDepth 100000 in
theorem c2_X6_row {l : Launch} {D : va_G} {q : Nat → ClassId} {sz : Nat} {a0 a1 a2 a3 a4 a5 : Nat → Nat} {p8 s8 p9 : Nat} {AA : Nat → Nat → Nat} {s1 : Tp} {s2 : Bd} {s6 : Pa} {x1 : Int32} {post : Int32 → Tp → Bd → Pa → Prop} (h : wp_X6_row post s1 s2 s6 x1) : Met l yX6_row (Cond.code yX6_row cX6_row 3 (some .int) :: w_all) ({ frames := 4, cells := 14, slots := 6906, locals := 146 } : Room) (mt_P D q [.ref (a0 0), .int x1] ((fo_w (a0 0) (a1 0) (a2 0) (a3 0) (a4 0) (a5 0) p8 s8 ++ tp_w a1 q s1 ++ bd_w a2 q s2 ++ pa_o p8 p9 s6 ++ pa_r p9 q 10 AA s6.2) ++ ps_w q 10 AA s6.2) sz) (va_Qi (fun r (u : (Nat → Nat → Nat) × Tp × Bd × Pa) => post r u.2.1 u.2.2.1 u.2.2.2) (mt_B D ((fo_w (a0 0) (a1 0) (a2 0) (a3 0) (a4 0) (a5 0) p8 s8 ++ tp_w a1 q s1 ++ bd_w a2 q s2 ++ pa_o p8 p9 s6 ++ pa_r p9 q 10 AA s6.2) ++ ps_w q 10 AA s6.2) sz (fun u : (Nat → Nat → Nat) × Tp × Bd × Pa => ((fo_w (a0 0) (a1 0) (a2 0) (a3 0) (a4 0) (a5 0) p8 s8 ++ tp_w a1 q u.2.1 ++ bd_w a2 q u.2.2.1 ++ pa_o p8 p9 u.2.2.2 ++ pa_r p9 q 10 u.1 u.2.2.2.2) ++ ps_w q 10 u.1 u.2.2.2.2))) (va_A ((fo_w (a0 0) (a1 0) (a2 0) (a3 0) (a4 0) (a5 0) p8 s8 ++ tp_w a1 q s1 ++ bd_w a2 q s2 ++ pa_o p8 p9 s6 ++ pa_r p9 q 10 AA s6.2) ++ ps_w q 10 AA s6.2) sz)) 14 6906 (va_A ((fo_w (a0 0) (a1 0) (a2 0) (a3 0) (a4 0) (a5 0) p8 s8 ++ tp_w a1 q s1 ++ bd_w a2 q s2 ++ pa_o p8 p9 s6 ++ pa_r p9 q 10 AA s6.2) ++ ps_w q 10 AA s6.2) sz) := by
  refine mt_start (by decide) (Nat.le_of_ble_eq_true rfl) ?_
  intro p e s m below meth c ls hx hb hr hml hown ht hk hin hP hQ hD hA hS hV hl
  have hK := hQ.1
  have hown : s.vm.findClass RX6 = some m.cls := hown
  have hl : lv_has ls 3 [(0, .ref (a0 0)), (1, .int x1)] := hl
  have hP : va_P D vwCl (([((a0 0), .inr (5, [.ref (a1 0), .ref (a2 0), .ref (a3 0), .ref (a4 0), .ref (a5 0), .ref p8, .ref s8])), ((a1 0), .inr (4, [.ref (a1 1), .int (s1.1 0), .int (s1.1 1), .int (s1.1 2), .int (s1.1 3), .int (s1.1 4), .int (s1.1 5)])), ((a1 1), .inl (q 0, 400, .inl s1.2)), ((a2 0), .inr (0, [.int (s2.1 0), .int (s2.1 1), .int (s2.1 2), .int (s2.1 3), .int (s2.1 4), .int (s2.1 5), .ref (a2 1), .ref (a2 2), .ref (a2 3), .ref (a2 4), .ref (a2 5), .ref (a2 6), .ref (a2 7), .ref (a2 8), .ref (a2 9), .ref (a2 10), .ref (a2 11), .ref (a2 12)])), ((a2 1), .inl (q 0, 4, .inl (s2.2.1 0))), ((a2 2), .inl (q 0, 4, .inl (s2.2.1 1))), ((a2 3), .inl (q 0, 160, .inl (s2.2.1 2))), ((a2 4), .inl (q 0, 40, .inl (s2.2.1 3))), ((a2 5), .inl (q 0, 40, .inl (s2.2.1 4))), ((a2 6), .inl (q 0, 40, .inl (s2.2.1 5))), ((a2 7), .inl (q 0, 40, .inl (s2.2.1 6))), ((a2 8), .inl (q 0, 40, .inl (s2.2.1 7))), ((a2 9), .inl (q 0, 40, .inl (s2.2.1 8))), ((a2 10), .inl (q 0, 40, .inl (s2.2.1 9))), ((a2 11), .inl (q 1, 40, .inr (.inl s2.2.2.1))), ((a2 12), .inl (q 0, s2.2.2.2.1, .inl s2.2.2.2.2)), (p8, .inr (2, [.ref p9, .int (s6.1 0), .int (s6.1 1)])), (p9, .inl (q 4, 10, .inr (.inr (.inr (.inr (pf_f AA s6.2))))))] : va_W) ++ ps_w q 10 AA s6.2) s.heap := hP
  have hD : va_D _ (([((a0 0), .inr (5, [.ref (a1 0), .ref (a2 0), .ref (a3 0), .ref (a4 0), .ref (a5 0), .ref p8, .ref s8])), ((a1 0), .inr (4, [.ref (a1 1), .int (s1.1 0), .int (s1.1 1), .int (s1.1 2), .int (s1.1 3), .int (s1.1 4), .int (s1.1 5)])), ((a1 1), .inl (q 0, 400, .inl s1.2)), ((a2 0), .inr (0, [.int (s2.1 0), .int (s2.1 1), .int (s2.1 2), .int (s2.1 3), .int (s2.1 4), .int (s2.1 5), .ref (a2 1), .ref (a2 2), .ref (a2 3), .ref (a2 4), .ref (a2 5), .ref (a2 6), .ref (a2 7), .ref (a2 8), .ref (a2 9), .ref (a2 10), .ref (a2 11), .ref (a2 12)])), ((a2 1), .inl (q 0, 4, .inl (s2.2.1 0))), ((a2 2), .inl (q 0, 4, .inl (s2.2.1 1))), ((a2 3), .inl (q 0, 160, .inl (s2.2.1 2))), ((a2 4), .inl (q 0, 40, .inl (s2.2.1 3))), ((a2 5), .inl (q 0, 40, .inl (s2.2.1 4))), ((a2 6), .inl (q 0, 40, .inl (s2.2.1 5))), ((a2 7), .inl (q 0, 40, .inl (s2.2.1 6))), ((a2 8), .inl (q 0, 40, .inl (s2.2.1 7))), ((a2 9), .inl (q 0, 40, .inl (s2.2.1 8))), ((a2 10), .inl (q 0, 40, .inl (s2.2.1 9))), ((a2 11), .inl (q 1, 40, .inr (.inl s2.2.2.1))), ((a2 12), .inl (q 0, s2.2.2.2.1, .inl s2.2.2.2.2)), (p8, .inr (2, [.ref p9, .int (s6.1 0), .int (s6.1 1)])), (p9, .inl (q 4, 10, .inr (.inr (.inr (.inr (pf_f AA s6.2))))))] : va_W) ++ ps_w q 10 AA s6.2) := hD
  unfold wp_X6_row at h
  refine lv_aload_n hx hb dX6_row_0 rfl (lv_at hl 0 rfl) ?_
  refine lv_iload_n hx hb dX6_row_1 rfl (lv_at hl 1 rfl) ?_
  refine vp_callSi (rd_wV (wc := fo_w (a0 0) (a1 0) (a2 0) (a3 0) (a4 0) (a5 0) p8 s8 ++ tp_w a1 q s1 ++ bd_w a2 q s2) (As := [.int x1]) (rest := []) hx hb hml hown ht (c2_X6_whyNotRow h) wd_X6_whyNotRow mw_617 hQ hV hS (hP.sub [0, 1, 2, 3, 4, 5, 6, 7, 8, 9, 10, 11, 12, 13, 14, 15] rfl) rfl rfl rfl hl.1 rfl (Nat.le_of_ble_eq_true rfl) dX6_row_2 ⟨Nat.le_of_ble_eq_true rfl, Nat.le_of_ble_eq_true rfl, rfl, rfl⟩ ⟨Nat.le_of_ble_eq_true rfl, Nat.le_of_ble_eq_true rfl⟩) (fun r_1 h => ?_)
  try dsimp only at h
  refine lv_istore_n (lv' := [(2, .int r_1), (0, .ref (a0 0)), (1, .int x1)]) hx hb dX6_row_5 rfl hl (by decide) rfl (fun ls hl => ?_)
  refine lv_iload_n hx hb dX6_row_6 rfl (lv_at hl 0 rfl) ?_
  refine lv_if_ne (tgt := 42) hx hb dX6_row_7 (by decide) (fun c_3 => ?_) (fun c_3 => ?_)
  · replace h := h.1 c_3
    refine lv_aload_n hx hb dX6_row_42 rfl (lv_at hl 1 rfl) ?_
    refine fl_get (C := RX6) (T := TX6) (N := 7) (ci := 5) (v := .ref (a1 0)) hx hb ht in_X6 hown hK hP 0 rfl rfl 0 (by decide) mw_355 rfl dX6_row_43 ?_
    refine lv_iconst (v := 0) hx hb dX6_row_46 (by decide) ?_
    refine fl_put (C := RX5) (T := TX5) (N := 7) (ci := 4) (v := .int 0) (ws2 := [((a0 0), .inr (5, [.ref (a1 0), .ref (a2 0), .ref (a3 0), .ref (a4 0), .ref (a5 0), .ref p8, .ref s8])), ((a1 0), .inr (4, [.ref (a1 1), .int 0, .int (s1.1 1), .int (s1.1 2), .int (s1.1 3), .int (s1.1 4), .int (s1.1 5)])), ((a1 1), .inl (q 0, 400, .inl s1.2)), ((a2 0), .inr (0, [.int (s2.1 0), .int (s2.1 1), .int (s2.1 2), .int (s2.1 3), .int (s2.1 4), .int (s2.1 5), .ref (a2 1), .ref (a2 2), .ref (a2 3), .ref (a2 4), .ref (a2 5), .ref (a2 6), .ref (a2 7), .ref (a2 8), .ref (a2 9), .ref (a2 10), .ref (a2 11), .ref (a2 12)])), ((a2 1), .inl (q 0, 4, .inl (s2.2.1 0))), ((a2 2), .inl (q 0, 4, .inl (s2.2.1 1))), ((a2 3), .inl (q 0, 160, .inl (s2.2.1 2))), ((a2 4), .inl (q 0, 40, .inl (s2.2.1 3))), ((a2 5), .inl (q 0, 40, .inl (s2.2.1 4))), ((a2 6), .inl (q 0, 40, .inl (s2.2.1 5))), ((a2 7), .inl (q 0, 40, .inl (s2.2.1 6))), ((a2 8), .inl (q 0, 40, .inl (s2.2.1 7))), ((a2 9), .inl (q 0, 40, .inl (s2.2.1 8))), ((a2 10), .inl (q 0, 40, .inl (s2.2.1 9))), ((a2 11), .inl (q 1, 40, .inr (.inl s2.2.2.1))), ((a2 12), .inl (q 0, s2.2.2.2.1, .inl s2.2.2.2.2)), (p8, .inr (2, [.ref p9, .int (s6.1 0), .int (s6.1 1)])), (p9, .inl (q 4, 10, .inr (.inr (.inr (.inr (pf_f AA s6.2))))))] ++ ps_w q 10 AA s6.2) hx hb ht in_X5 tyX5_ok nmX5 hown hK hP hD hS 1 rfl rfl 1 (by decide) mw_129 rfl rfl rfl (Nat.le_of_ble_eq_true rfl) dX6_row_47 rfl (fun H locs hP hD hS => ?_)
    refine lv_iload_n hx hb dX6_row_50 rfl (lv_at hl 0 rfl) ?_
    have hP := hP.part (cx := [((a0 0), .inr (5, [.ref (a1 0), .ref (a2 0), .ref (a3 0), .ref (a4 0), .ref (a5 0), .ref p8, .ref s8])), ((a1 0), .inr (4, [.ref (a1 1), .int 0, .int (s1.1 1), .int (s1.1 2), .int (s1.1 3), .int (s1.1 4), .int (s1.1 5)])), ((a1 1), .inl (q 0, 400, .inl s1.2)), ((a2 0), .inr (0, [.int (s2.1 0), .int (s2.1 1), .int (s2.1 2), .int (s2.1 3), .int (s2.1 4), .int (s2.1 5), .ref (a2 1), .ref (a2 2), .ref (a2 3), .ref (a2 4), .ref (a2 5), .ref (a2 6), .ref (a2 7), .ref (a2 8), .ref (a2 9), .ref (a2 10), .ref (a2 11), .ref (a2 12)])), ((a2 1), .inl (q 0, 4, .inl (s2.2.1 0))), ((a2 2), .inl (q 0, 4, .inl (s2.2.1 1))), ((a2 3), .inl (q 0, 160, .inl (s2.2.1 2))), ((a2 4), .inl (q 0, 40, .inl (s2.2.1 3))), ((a2 5), .inl (q 0, 40, .inl (s2.2.1 4))), ((a2 6), .inl (q 0, 40, .inl (s2.2.1 5))), ((a2 7), .inl (q 0, 40, .inl (s2.2.1 6))), ((a2 8), .inl (q 0, 40, .inl (s2.2.1 7))), ((a2 9), .inl (q 0, 40, .inl (s2.2.1 8))), ((a2 10), .inl (q 0, 40, .inl (s2.2.1 9))), ((a2 11), .inl (q 1, 40, .inr (.inl s2.2.2.1))), ((a2 12), .inl (q 0, s2.2.2.2.1, .inl s2.2.2.2.2)), (p8, .inr (2, [.ref p9, .int (s6.1 0), .int (s6.1 1)])), (p9, .inl (q 4, 10, .inr (.inr (.inr (.inr (pf_f AA s6.2))))))]) [0, 1, 2, 3, 4, 5, 6, 7, 8, 9, 10, 11, 12, 13, 14, 15, 16, 17] rfl
    have hD := hD.part (cx := [((a0 0), .inr (5, [.ref (a1 0), .ref (a2 0), .ref (a3 0), .ref (a4 0), .ref (a5 0), .ref p8, .ref s8])), ((a1 0), .inr (4, [.ref (a1 1), .int 0, .int (s1.1 1), .int (s1.1 2), .int (s1.1 3), .int (s1.1 4), .int (s1.1 5)])), ((a1 1), .inl (q 0, 400, .inl s1.2)), ((a2 0), .inr (0, [.int (s2.1 0), .int (s2.1 1), .int (s2.1 2), .int (s2.1 3), .int (s2.1 4), .int (s2.1 5), .ref (a2 1), .ref (a2 2), .ref (a2 3), .ref (a2 4), .ref (a2 5), .ref (a2 6), .ref (a2 7), .ref (a2 8), .ref (a2 9), .ref (a2 10), .ref (a2 11), .ref (a2 12)])), ((a2 1), .inl (q 0, 4, .inl (s2.2.1 0))), ((a2 2), .inl (q 0, 4, .inl (s2.2.1 1))), ((a2 3), .inl (q 0, 160, .inl (s2.2.1 2))), ((a2 4), .inl (q 0, 40, .inl (s2.2.1 3))), ((a2 5), .inl (q 0, 40, .inl (s2.2.1 4))), ((a2 6), .inl (q 0, 40, .inl (s2.2.1 5))), ((a2 7), .inl (q 0, 40, .inl (s2.2.1 6))), ((a2 8), .inl (q 0, 40, .inl (s2.2.1 7))), ((a2 9), .inl (q 0, 40, .inl (s2.2.1 8))), ((a2 10), .inl (q 0, 40, .inl (s2.2.1 9))), ((a2 11), .inl (q 1, 40, .inr (.inl s2.2.2.1))), ((a2 12), .inl (q 0, s2.2.2.2.1, .inl s2.2.2.2.2)), (p8, .inr (2, [.ref p9, .int (s6.1 0), .int (s6.1 1)])), (p9, .inl (q 4, 10, .inr (.inr (.inr (.inr (pf_f AA s6.2))))))]) [0, 1, 2, 3, 4, 5, 6, 7, 8, 9, 10, 11, 12, 13, 14, 15, 16, 17] (by decide) rfl
    refine W.widen (k := 14) (n := 6906) (Nat.le_of_ble_eq_true rfl) (Nat.le_of_ble_eq_true rfl) ?_
    exact mt_iret (AA, ((va_up s1.1 0 0), s1.2), s2, s6) hx hb hr hk h hP hD hS dX6_row_51
  · replace h := h.2 c_3
    refine lv_aload_n hx hb dX6_row_10 rfl (lv_at hl 1 rfl) ?_
    refine fl_get (C := RX6) (T := TX6) (N := 7) (ci := 5) (v := .ref p8) hx hb ht in_X6 hown hK hP 0 rfl rfl 5 (by decide) mw_360 rfl dX6_row_11 ?_
    refine lv_aload_n hx hb dX6_row_14 rfl (lv_at hl 1 rfl) ?_
    refine fl_get (C := RX6) (T := TX6) (N := 7) (ci := 5) (v := .ref (a2 0)) hx hb ht in_X6 hown hK hP 0 rfl rfl 1 (by decide) mw_356 rfl dX6_row_15 ?_
    refine mt_govP (X := [((a0 0), .inr (5, [.ref (a1 0), .ref (a2 0), .ref (a3 0), .ref (a4 0), .ref (a5 0), .ref p8, .ref s8])), ((a1 0), .inr (4, [.ref (a1 1), .int (s1.1 0), .int (s1.1 1), .int (s1.1 2), .int (s1.1 3), .int (s1.1 4), .int (s1.1 5)])), ((a1 1), .inl (q 0, 400, .inl s1.2)), ((a2 0), .inr (0, [.int (s2.1 0), .int (s2.1 1), .int (s2.1 2), .int (s2.1 3), .int (s2.1 4), .int (s2.1 5), .ref (a2 1), .ref (a2 2), .ref (a2 3), .ref (a2 4), .ref (a2 5), .ref (a2 6), .ref (a2 7), .ref (a2 8), .ref (a2 9), .ref (a2 10), .ref (a2 11), .ref (a2 12)])), ((a2 1), .inl (q 0, 4, .inl (s2.2.1 0))), ((a2 2), .inl (q 0, 4, .inl (s2.2.1 1))), ((a2 3), .inl (q 0, 160, .inl (s2.2.1 2))), ((a2 4), .inl (q 0, 40, .inl (s2.2.1 3))), ((a2 5), .inl (q 0, 40, .inl (s2.2.1 4))), ((a2 6), .inl (q 0, 40, .inl (s2.2.1 5))), ((a2 7), .inl (q 0, 40, .inl (s2.2.1 6))), ((a2 8), .inl (q 0, 40, .inl (s2.2.1 7))), ((a2 9), .inl (q 0, 40, .inl (s2.2.1 8))), ((a2 10), .inl (q 0, 40, .inl (s2.2.1 9))), ((a2 11), .inl (q 1, 40, .inr (.inl s2.2.2.1))), ((a2 12), .inl (q 0, s2.2.2.2.1, .inl s2.2.2.2.2)), (p8, .inr (2, [.ref p9, .int (s6.1 0), .int (s6.1 1)])), (p9, .inl (q 4, 10, .inr (.inr (.inr (.inr (pf_f AA s6.2))))))]) (pl := ps_w q 10 AA s6.2) (mt_wV (wc := (pa_o p8 p9 s6 ++ pa_r p9 q 10 AA s6.2 ++ bd_w a2 q s2) ++ ps_w q 10 AA s6.2) (As := [.ref (a2 0)]) (rest := []) hx hb hml hown ht (c2_X3_push (a0 := va_up (fun _ => p9) 0 p8) h) wd_X3_push mw_631 hQ hV hS hA (hP.part (cx := (pa_o p8 p9 s6 ++ pa_r p9 q 10 AA s6.2 ++ bd_w a2 q s2)) [16, 17, 3, 4, 5, 6, 7, 8, 9, 10, 11, 12, 13, 14, 15] rfl) (hD.part (cx := (pa_o p8 p9 s6 ++ pa_r p9 q 10 AA s6.2 ++ bd_w a2 q s2)) [16, 17, 3, 4, 5, 6, 7, 8, 9, 10, 11, 12, 13, 14, 15] (by decide) rfl) rfl rfl rfl hl.1 rfl (Nat.le_of_ble_eq_true rfl) dX6_row_18 ⟨Nat.le_of_ble_eq_true rfl, Nat.le_of_ble_eq_true rfl, rfl, rfl⟩ ⟨Nat.le_of_ble_eq_true rfl, Nat.le_of_ble_eq_true rfl⟩) (wr := [((a0 0), .inr (5, [.ref (a1 0), .ref (a2 0), .ref (a3 0), .ref (a4 0), .ref (a5 0), .ref p8, .ref s8])), ((a1 0), .inr (4, [.ref (a1 1), .int (s1.1 0), .int (s1.1 1), .int (s1.1 2), .int (s1.1 3), .int (s1.1 4), .int (s1.1 5)])), ((a1 1), .inl (q 0, 400, .inl s1.2))]) hP hD hS hA [16, 17, 3, 4, 5, 6, 7, 8, 9, 10, 11, 12, 13, 14, 15] [0, 1, 2] rfl rfl (by decide) (by decide) (fun u_4 H locs h hP hD hS => ?_)
    obtain ⟨A_7, s_6⟩ := u_4
    try dsimp only at h
    have hP : va_P D vwCl (([((a0 0), .inr (5, [.ref (a1 0), .ref (a2 0), .ref (a3 0), .ref (a4 0), .ref (a5 0), .ref p8, .ref s8])), ((a1 0), .inr (4, [.ref (a1 1), .int (s1.1 0), .int (s1.1 1), .int (s1.1 2), .int (s1.1 3), .int (s1.1 4), .int (s1.1 5)])), ((a1 1), .inl (q 0, 400, .inl s1.2)), (p8, .inr (2, [.ref p9, .int (s_6.1 0), .int (s_6.1 1)])), (p9, .inl (q 4, 10, .inr (.inr (.inr (.inr (pf_f A_7 s_6.2)))))), ((a2 0), .inr (0, [.int (s2.1 0), .int (s2.1 1), .int (s2.1 2), .int (s2.1 3), .int (s2.1 4), .int (s2.1 5), .ref (a2 1), .ref (a2 2), .ref (a2 3), .ref (a2 4), .ref (a2 5), .ref (a2 6), .ref (a2 7), .ref (a2 8), .ref (a2 9), .ref (a2 10), .ref (a2 11), .ref (a2 12)])), ((a2 1), .inl (q 0, 4, .inl (s2.2.1 0))), ((a2 2), .inl (q 0, 4, .inl (s2.2.1 1))), ((a2 3), .inl (q 0, 160, .inl (s2.2.1 2))), ((a2 4), .inl (q 0, 40, .inl (s2.2.1 3))), ((a2 5), .inl (q 0, 40, .inl (s2.2.1 4))), ((a2 6), .inl (q 0, 40, .inl (s2.2.1 5))), ((a2 7), .inl (q 0, 40, .inl (s2.2.1 6))), ((a2 8), .inl (q 0, 40, .inl (s2.2.1 7))), ((a2 9), .inl (q 0, 40, .inl (s2.2.1 8))), ((a2 10), .inl (q 0, 40, .inl (s2.2.1 9))), ((a2 11), .inl (q 1, 40, .inr (.inl s2.2.2.1))), ((a2 12), .inl (q 0, s2.2.2.2.1, .inl s2.2.2.2.2))] : va_W) ++ ps_w q 10 A_7 s_6.2) H := hP
    have hD : va_D _ (([((a0 0), .inr (5, [.ref (a1 0), .ref (a2 0), .ref (a3 0), .ref (a4 0), .ref (a5 0), .ref p8, .ref s8])), ((a1 0), .inr (4, [.ref (a1 1), .int (s1.1 0), .int (s1.1 1), .int (s1.1 2), .int (s1.1 3), .int (s1.1 4), .int (s1.1 5)])), ((a1 1), .inl (q 0, 400, .inl s1.2)), (p8, .inr (2, [.ref p9, .int (s_6.1 0), .int (s_6.1 1)])), (p9, .inl (q 4, 10, .inr (.inr (.inr (.inr (pf_f A_7 s_6.2)))))), ((a2 0), .inr (0, [.int (s2.1 0), .int (s2.1 1), .int (s2.1 2), .int (s2.1 3), .int (s2.1 4), .int (s2.1 5), .ref (a2 1), .ref (a2 2), .ref (a2 3), .ref (a2 4), .ref (a2 5), .ref (a2 6), .ref (a2 7), .ref (a2 8), .ref (a2 9), .ref (a2 10), .ref (a2 11), .ref (a2 12)])), ((a2 1), .inl (q 0, 4, .inl (s2.2.1 0))), ((a2 2), .inl (q 0, 4, .inl (s2.2.1 1))), ((a2 3), .inl (q 0, 160, .inl (s2.2.1 2))), ((a2 4), .inl (q 0, 40, .inl (s2.2.1 3))), ((a2 5), .inl (q 0, 40, .inl (s2.2.1 4))), ((a2 6), .inl (q 0, 40, .inl (s2.2.1 5))), ((a2 7), .inl (q 0, 40, .inl (s2.2.1 6))), ((a2 8), .inl (q 0, 40, .inl (s2.2.1 7))), ((a2 9), .inl (q 0, 40, .inl (s2.2.1 8))), ((a2 10), .inl (q 0, 40, .inl (s2.2.1 9))), ((a2 11), .inl (q 1, 40, .inr (.inl s2.2.2.1))), ((a2 12), .inl (q 0, s2.2.2.2.1, .inl s2.2.2.2.2))] : va_W) ++ ps_w q 10 A_7 s_6.2) := hD
    refine W.widen (k := 14) (n := 6906) (Nat.le_of_ble_eq_true rfl) (Nat.le_of_ble_eq_true rfl) ?_
    refine lv_aload_n hx hb dX6_row_21 rfl (lv_at hl 1 rfl) ?_
    refine fl_get (C := RX6) (T := TX6) (N := 7) (ci := 5) (v := .ref (a2 0)) hx hb ht in_X6 hown hK hP 0 rfl rfl 1 (by decide) mw_356 rfl dX6_row_22 ?_
    refine lv_iload_n hx hb dX6_row_25 rfl (lv_at hl 2 rfl) ?_
    refine lv_aload_n hx hb dX6_row_26 rfl (lv_at hl 1 rfl) ?_
    refine fl_get (C := RX6) (T := TX6) (N := 7) (ci := 5) (v := .ref (a1 0)) hx hb ht in_X6 hown hK hP 0 rfl rfl 0 (by decide) mw_355 rfl dX6_row_27 ?_
    refine lv_iconst (v := 0) hx hb dX6_row_30 (by decide) ?_
    refine lv_aload_n hx hb dX6_row_31 rfl (lv_at hl 1 rfl) ?_
    refine fl_get (C := RX6) (T := TX6) (N := 7) (ci := 5) (v := .ref (a1 0)) hx hb ht in_X6 hown hK hP 0 rfl rfl 0 (by decide) mw_355 rfl dX6_row_32 ?_
    refine fl_get (C := RX5) (T := TX5) (N := 7) (ci := 4) (v := .int (s1.1 0)) hx hb ht in_X5 hown hK hP 1 rfl rfl 1 (by decide) mw_129 rfl dX6_row_35 ?_
    refine mt_goiQ (X := [((a0 0), .inr (5, [.ref (a1 0), .ref (a2 0), .ref (a3 0), .ref (a4 0), .ref (a5 0), .ref p8, .ref s8])), ((a1 0), .inr (4, [.ref (a1 1), .int (s1.1 0), .int (s1.1 1), .int (s1.1 2), .int (s1.1 3), .int (s1.1 4), .int (s1.1 5)])), ((a1 1), .inl (q 0, 400, .inl s1.2)), (p8, .inr (2, [.ref p9, .int (s_6.1 0), .int (s_6.1 1)])), (p9, .inl (q 4, 10, .inr (.inr (.inr (.inr (pf_f A_7 s_6.2)))))), ((a2 0), .inr (0, [.int (s2.1 0), .int (s2.1 1), .int (s2.1 2), .int (s2.1 3), .int (s2.1 4), .int (s2.1 5), .ref (a2 1), .ref (a2 2), .ref (a2 3), .ref (a2 4), .ref (a2 5), .ref (a2 6), .ref (a2 7), .ref (a2 8), .ref (a2 9), .ref (a2 10), .ref (a2 11), .ref (a2 12)])), ((a2 1), .inl (q 0, 4, .inl (s2.2.1 0))), ((a2 2), .inl (q 0, 4, .inl (s2.2.1 1))), ((a2 3), .inl (q 0, 160, .inl (s2.2.1 2))), ((a2 4), .inl (q 0, 40, .inl (s2.2.1 3))), ((a2 5), .inl (q 0, 40, .inl (s2.2.1 4))), ((a2 6), .inl (q 0, 40, .inl (s2.2.1 5))), ((a2 7), .inl (q 0, 40, .inl (s2.2.1 6))), ((a2 8), .inl (q 0, 40, .inl (s2.2.1 7))), ((a2 9), .inl (q 0, 40, .inl (s2.2.1 8))), ((a2 10), .inl (q 0, 40, .inl (s2.2.1 9))), ((a2 11), .inl (q 1, 40, .inr (.inl s2.2.2.1))), ((a2 12), .inl (q 0, s2.2.2.2.1, .inl s2.2.2.2.2))]) (pl := ps_w q 10 A_7 s_6.2) (mt_wV (wc := bd_w a2 q s2 ++ tp_w a1 q s1) (As := [.int x1, .ref (a1 0), .int 0, .int (s1.1 0)]) (rest := []) hx hb hml hown ht (c2_X0_wantSigns h) wd_X0_wantSigns mw_643 hQ hV hS hA (hP.sub [5, 6, 7, 8, 9, 10, 11, 12, 13, 14, 15, 16, 17, 1, 2] rfl) (hD.sub [5, 6, 7, 8, 9, 10, 11, 12, 13, 14, 15, 16, 17, 1, 2] (by decide) rfl) rfl rfl rfl hl.1 rfl (Nat.le_of_ble_eq_true rfl) dX6_row_38 ⟨Nat.le_of_ble_eq_true rfl, Nat.le_of_ble_eq_true rfl, rfl, rfl⟩ ⟨Nat.le_of_ble_eq_true rfl, Nat.le_of_ble_eq_true rfl⟩) (wr := [((a0 0), .inr (5, [.ref (a1 0), .ref (a2 0), .ref (a3 0), .ref (a4 0), .ref (a5 0), .ref p8, .ref s8])), (p8, .inr (2, [.ref p9, .int (s_6.1 0), .int (s_6.1 1)])), (p9, .inl (q 4, 10, .inr (.inr (.inr (.inr (pf_f A_7 s_6.2))))))]) hP hD hS hA [5, 6, 7, 8, 9, 10, 11, 12, 13, 14, 15, 16, 17, 1, 2] [0, 3, 4] rfl rfl (by decide) (by decide) (fun r_10 u_11 H locs h hP hD hS => ?_)
    try dsimp only at h
    have hP : va_P D vwCl (([((a0 0), .inr (5, [.ref (a1 0), .ref (a2 0), .ref (a3 0), .ref (a4 0), .ref (a5 0), .ref p8, .ref s8])), (p8, .inr (2, [.ref p9, .int (s_6.1 0), .int (s_6.1 1)])), (p9, .inl (q 4, 10, .inr (.inr (.inr (.inr (pf_f A_7 s_6.2)))))), ((a2 0), .inr (0, [.int (u_11.1 0), .int (u_11.1 1), .int (u_11.1 2), .int (u_11.1 3), .int (u_11.1 4), .int (u_11.1 5), .ref (a2 1), .ref (a2 2), .ref (a2 3), .ref (a2 4), .ref (a2 5), .ref (a2 6), .ref (a2 7), .ref (a2 8), .ref (a2 9), .ref (a2 10), .ref (a2 11), .ref (a2 12)])), ((a2 1), .inl (q 0, 4, .inl (u_11.2.1 0))), ((a2 2), .inl (q 0, 4, .inl (u_11.2.1 1))), ((a2 3), .inl (q 0, 160, .inl (u_11.2.1 2))), ((a2 4), .inl (q 0, 40, .inl (u_11.2.1 3))), ((a2 5), .inl (q 0, 40, .inl (u_11.2.1 4))), ((a2 6), .inl (q 0, 40, .inl (u_11.2.1 5))), ((a2 7), .inl (q 0, 40, .inl (u_11.2.1 6))), ((a2 8), .inl (q 0, 40, .inl (u_11.2.1 7))), ((a2 9), .inl (q 0, 40, .inl (u_11.2.1 8))), ((a2 10), .inl (q 0, 40, .inl (u_11.2.1 9))), ((a2 11), .inl (q 1, 40, .inr (.inl u_11.2.2.1))), ((a2 12), .inl (q 0, u_11.2.2.2.1, .inl u_11.2.2.2.2)), ((a1 0), .inr (4, [.ref (a1 1), .int (s1.1 0), .int (s1.1 1), .int (s1.1 2), .int (s1.1 3), .int (s1.1 4), .int (s1.1 5)])), ((a1 1), .inl (q 0, 400, .inl s1.2))] : va_W) ++ ps_w q 10 A_7 s_6.2) H := hP
    have hD : va_D _ (([((a0 0), .inr (5, [.ref (a1 0), .ref (a2 0), .ref (a3 0), .ref (a4 0), .ref (a5 0), .ref p8, .ref s8])), (p8, .inr (2, [.ref p9, .int (s_6.1 0), .int (s_6.1 1)])), (p9, .inl (q 4, 10, .inr (.inr (.inr (.inr (pf_f A_7 s_6.2)))))), ((a2 0), .inr (0, [.int (u_11.1 0), .int (u_11.1 1), .int (u_11.1 2), .int (u_11.1 3), .int (u_11.1 4), .int (u_11.1 5), .ref (a2 1), .ref (a2 2), .ref (a2 3), .ref (a2 4), .ref (a2 5), .ref (a2 6), .ref (a2 7), .ref (a2 8), .ref (a2 9), .ref (a2 10), .ref (a2 11), .ref (a2 12)])), ((a2 1), .inl (q 0, 4, .inl (u_11.2.1 0))), ((a2 2), .inl (q 0, 4, .inl (u_11.2.1 1))), ((a2 3), .inl (q 0, 160, .inl (u_11.2.1 2))), ((a2 4), .inl (q 0, 40, .inl (u_11.2.1 3))), ((a2 5), .inl (q 0, 40, .inl (u_11.2.1 4))), ((a2 6), .inl (q 0, 40, .inl (u_11.2.1 5))), ((a2 7), .inl (q 0, 40, .inl (u_11.2.1 6))), ((a2 8), .inl (q 0, 40, .inl (u_11.2.1 7))), ((a2 9), .inl (q 0, 40, .inl (u_11.2.1 8))), ((a2 10), .inl (q 0, 40, .inl (u_11.2.1 9))), ((a2 11), .inl (q 1, 40, .inr (.inl u_11.2.2.1))), ((a2 12), .inl (q 0, u_11.2.2.2.1, .inl u_11.2.2.2.2)), ((a1 0), .inr (4, [.ref (a1 1), .int (s1.1 0), .int (s1.1 1), .int (s1.1 2), .int (s1.1 3), .int (s1.1 4), .int (s1.1 5)])), ((a1 1), .inl (q 0, 400, .inl s1.2))] : va_W) ++ ps_w q 10 A_7 s_6.2) := hD
    refine lv_istore_n (lv' := [(2, .int r_10), (0, .ref (a0 0)), (1, .int x1)]) hx hb dX6_row_41 rfl hl (by decide) rfl (fun ls hl => ?_)
    refine lv_aload_n hx hb dX6_row_42 rfl (lv_at hl 1 rfl) ?_
    refine fl_get (C := RX6) (T := TX6) (N := 7) (ci := 5) (v := .ref (a1 0)) hx hb ht in_X6 hown hK hP 0 rfl rfl 0 (by decide) mw_355 rfl dX6_row_43 ?_
    refine lv_iconst (v := 0) hx hb dX6_row_46 (by decide) ?_
    refine fl_put (C := RX5) (T := TX5) (N := 7) (ci := 4) (v := .int 0) (ws2 := [((a0 0), .inr (5, [.ref (a1 0), .ref (a2 0), .ref (a3 0), .ref (a4 0), .ref (a5 0), .ref p8, .ref s8])), (p8, .inr (2, [.ref p9, .int (s_6.1 0), .int (s_6.1 1)])), (p9, .inl (q 4, 10, .inr (.inr (.inr (.inr (pf_f A_7 s_6.2)))))), ((a2 0), .inr (0, [.int (u_11.1 0), .int (u_11.1 1), .int (u_11.1 2), .int (u_11.1 3), .int (u_11.1 4), .int (u_11.1 5), .ref (a2 1), .ref (a2 2), .ref (a2 3), .ref (a2 4), .ref (a2 5), .ref (a2 6), .ref (a2 7), .ref (a2 8), .ref (a2 9), .ref (a2 10), .ref (a2 11), .ref (a2 12)])), ((a2 1), .inl (q 0, 4, .inl (u_11.2.1 0))), ((a2 2), .inl (q 0, 4, .inl (u_11.2.1 1))), ((a2 3), .inl (q 0, 160, .inl (u_11.2.1 2))), ((a2 4), .inl (q 0, 40, .inl (u_11.2.1 3))), ((a2 5), .inl (q 0, 40, .inl (u_11.2.1 4))), ((a2 6), .inl (q 0, 40, .inl (u_11.2.1 5))), ((a2 7), .inl (q 0, 40, .inl (u_11.2.1 6))), ((a2 8), .inl (q 0, 40, .inl (u_11.2.1 7))), ((a2 9), .inl (q 0, 40, .inl (u_11.2.1 8))), ((a2 10), .inl (q 0, 40, .inl (u_11.2.1 9))), ((a2 11), .inl (q 1, 40, .inr (.inl u_11.2.2.1))), ((a2 12), .inl (q 0, u_11.2.2.2.1, .inl u_11.2.2.2.2)), ((a1 0), .inr (4, [.ref (a1 1), .int 0, .int (s1.1 1), .int (s1.1 2), .int (s1.1 3), .int (s1.1 4), .int (s1.1 5)])), ((a1 1), .inl (q 0, 400, .inl s1.2))] ++ ps_w q 10 A_7 s_6.2) hx hb ht in_X5 tyX5_ok nmX5 hown hK hP hD hS 16 rfl rfl 1 (by decide) mw_129 rfl rfl rfl (Nat.le_of_ble_eq_true rfl) dX6_row_47 rfl (fun H locs hP hD hS => ?_)
    refine lv_iload_n hx hb dX6_row_50 rfl (lv_at hl 0 rfl) ?_
    have hP := hP.part (cx := [((a0 0), .inr (5, [.ref (a1 0), .ref (a2 0), .ref (a3 0), .ref (a4 0), .ref (a5 0), .ref p8, .ref s8])), ((a1 0), .inr (4, [.ref (a1 1), .int 0, .int (s1.1 1), .int (s1.1 2), .int (s1.1 3), .int (s1.1 4), .int (s1.1 5)])), ((a1 1), .inl (q 0, 400, .inl s1.2)), ((a2 0), .inr (0, [.int (u_11.1 0), .int (u_11.1 1), .int (u_11.1 2), .int (u_11.1 3), .int (u_11.1 4), .int (u_11.1 5), .ref (a2 1), .ref (a2 2), .ref (a2 3), .ref (a2 4), .ref (a2 5), .ref (a2 6), .ref (a2 7), .ref (a2 8), .ref (a2 9), .ref (a2 10), .ref (a2 11), .ref (a2 12)])), ((a2 1), .inl (q 0, 4, .inl (u_11.2.1 0))), ((a2 2), .inl (q 0, 4, .inl (u_11.2.1 1))), ((a2 3), .inl (q 0, 160, .inl (u_11.2.1 2))), ((a2 4), .inl (q 0, 40, .inl (u_11.2.1 3))), ((a2 5), .inl (q 0, 40, .inl (u_11.2.1 4))), ((a2 6), .inl (q 0, 40, .inl (u_11.2.1 5))), ((a2 7), .inl (q 0, 40, .inl (u_11.2.1 6))), ((a2 8), .inl (q 0, 40, .inl (u_11.2.1 7))), ((a2 9), .inl (q 0, 40, .inl (u_11.2.1 8))), ((a2 10), .inl (q 0, 40, .inl (u_11.2.1 9))), ((a2 11), .inl (q 1, 40, .inr (.inl u_11.2.2.1))), ((a2 12), .inl (q 0, u_11.2.2.2.1, .inl u_11.2.2.2.2)), (p8, .inr (2, [.ref p9, .int (s_6.1 0), .int (s_6.1 1)])), (p9, .inl (q 4, 10, .inr (.inr (.inr (.inr (pf_f A_7 s_6.2))))))]) [0, 16, 17, 3, 4, 5, 6, 7, 8, 9, 10, 11, 12, 13, 14, 15, 1, 2] rfl
    have hD := hD.part (cx := [((a0 0), .inr (5, [.ref (a1 0), .ref (a2 0), .ref (a3 0), .ref (a4 0), .ref (a5 0), .ref p8, .ref s8])), ((a1 0), .inr (4, [.ref (a1 1), .int 0, .int (s1.1 1), .int (s1.1 2), .int (s1.1 3), .int (s1.1 4), .int (s1.1 5)])), ((a1 1), .inl (q 0, 400, .inl s1.2)), ((a2 0), .inr (0, [.int (u_11.1 0), .int (u_11.1 1), .int (u_11.1 2), .int (u_11.1 3), .int (u_11.1 4), .int (u_11.1 5), .ref (a2 1), .ref (a2 2), .ref (a2 3), .ref (a2 4), .ref (a2 5), .ref (a2 6), .ref (a2 7), .ref (a2 8), .ref (a2 9), .ref (a2 10), .ref (a2 11), .ref (a2 12)])), ((a2 1), .inl (q 0, 4, .inl (u_11.2.1 0))), ((a2 2), .inl (q 0, 4, .inl (u_11.2.1 1))), ((a2 3), .inl (q 0, 160, .inl (u_11.2.1 2))), ((a2 4), .inl (q 0, 40, .inl (u_11.2.1 3))), ((a2 5), .inl (q 0, 40, .inl (u_11.2.1 4))), ((a2 6), .inl (q 0, 40, .inl (u_11.2.1 5))), ((a2 7), .inl (q 0, 40, .inl (u_11.2.1 6))), ((a2 8), .inl (q 0, 40, .inl (u_11.2.1 7))), ((a2 9), .inl (q 0, 40, .inl (u_11.2.1 8))), ((a2 10), .inl (q 0, 40, .inl (u_11.2.1 9))), ((a2 11), .inl (q 1, 40, .inr (.inl u_11.2.2.1))), ((a2 12), .inl (q 0, u_11.2.2.2.1, .inl u_11.2.2.2.2)), (p8, .inr (2, [.ref p9, .int (s_6.1 0), .int (s_6.1 1)])), (p9, .inl (q 4, 10, .inr (.inr (.inr (.inr (pf_f A_7 s_6.2))))))]) [0, 16, 17, 3, 4, 5, 6, 7, 8, 9, 10, 11, 12, 13, 14, 15, 1, 2] (by decide) rfl
    exact mt_iret (A_7, ((va_up s1.1 0 0), s1.2), u_11, s_6) hx hb hr hk h hP hD hS dX6_row_51

def wp_X6_scroll (post : Int32 → Tp → Bd → Pa → Prop) (s1 : Tp) (s2 : Bd) (s6 : Pa) : Prop := wp_X6_whyNotRow (fun r_1 => ((¬ r_1 = 0 → post r_1 ((va_up s1.1 0 0), s1.2) s2 s6) ∧ (r_1 = 0 → wp_X3_push (fun s_6 => wp_X0_scrollUp (fun r_10 u_11 => post r_10 ((va_up s1.1 0 0), s1.2) u_11 s_6) s2 s1 (0 : Int32) (s1.1 0)) s6 s2))) s1 s2 ((s2.1 0) - 1)
set_option maxHeartbeats 4000000 in
set_option maxRecDepth 100000 in
theorem c2_X6_scroll {l : Launch} {D : va_G} {q : Nat → ClassId} {sz : Nat} {a0 a1 a2 a3 a4 a5 : Nat → Nat} {p8 s8 p9 : Nat} {AA : Nat → Nat → Nat} {s1 : Tp} {s2 : Bd} {s6 : Pa} {post : Int32 → Tp → Bd → Pa → Prop} (h : wp_X6_scroll post s1 s2 s6) : Met l yX6_scroll (Cond.code yX6_scroll cX6_scroll 2 (some .int) :: w_all) ({ frames := 4, cells := 14, slots := 6906, locals := 146 } : Room) (mt_P D q [.ref (a0 0)] ((fo_w (a0 0) (a1 0) (a2 0) (a3 0) (a4 0) (a5 0) p8 s8 ++ tp_w a1 q s1 ++ bd_w a2 q s2 ++ pa_o p8 p9 s6 ++ pa_r p9 q 10 AA s6.2) ++ ps_w q 10 AA s6.2) sz) (va_Qi (fun r (u : (Nat → Nat → Nat) × Tp × Bd × Pa) => post r u.2.1 u.2.2.1 u.2.2.2) (mt_B D ((fo_w (a0 0) (a1 0) (a2 0) (a3 0) (a4 0) (a5 0) p8 s8 ++ tp_w a1 q s1 ++ bd_w a2 q s2 ++ pa_o p8 p9 s6 ++ pa_r p9 q 10 AA s6.2) ++ ps_w q 10 AA s6.2) sz (fun u : (Nat → Nat → Nat) × Tp × Bd × Pa => ((fo_w (a0 0) (a1 0) (a2 0) (a3 0) (a4 0) (a5 0) p8 s8 ++ tp_w a1 q u.2.1 ++ bd_w a2 q u.2.2.1 ++ pa_o p8 p9 u.2.2.2 ++ pa_r p9 q 10 u.1 u.2.2.2.2) ++ ps_w q 10 u.1 u.2.2.2.2))) (va_A ((fo_w (a0 0) (a1 0) (a2 0) (a3 0) (a4 0) (a5 0) p8 s8 ++ tp_w a1 q s1 ++ bd_w a2 q s2 ++ pa_o p8 p9 s6 ++ pa_r p9 q 10 AA s6.2) ++ ps_w q 10 AA s6.2) sz)) 14 6906 (va_A ((fo_w (a0 0) (a1 0) (a2 0) (a3 0) (a4 0) (a5 0) p8 s8 ++ tp_w a1 q s1 ++ bd_w a2 q s2 ++ pa_o p8 p9 s6 ++ pa_r p9 q 10 AA s6.2) ++ ps_w q 10 AA s6.2) sz) := by
  refine mt_start (by decide) (Nat.le_of_ble_eq_true rfl) ?_
  intro p e s m below meth c ls hx hb hr hml hown ht hk hin hP hQ hD hA hS hV hl
  have hK := hQ.1
  have hown : s.vm.findClass RX6 = some m.cls := hown
  have hl : lv_has ls 2 [(0, .ref (a0 0))] := hl
  have hP : va_P D vwCl (([((a0 0), .inr (5, [.ref (a1 0), .ref (a2 0), .ref (a3 0), .ref (a4 0), .ref (a5 0), .ref p8, .ref s8])), ((a1 0), .inr (4, [.ref (a1 1), .int (s1.1 0), .int (s1.1 1), .int (s1.1 2), .int (s1.1 3), .int (s1.1 4), .int (s1.1 5)])), ((a1 1), .inl (q 0, 400, .inl s1.2)), ((a2 0), .inr (0, [.int (s2.1 0), .int (s2.1 1), .int (s2.1 2), .int (s2.1 3), .int (s2.1 4), .int (s2.1 5), .ref (a2 1), .ref (a2 2), .ref (a2 3), .ref (a2 4), .ref (a2 5), .ref (a2 6), .ref (a2 7), .ref (a2 8), .ref (a2 9), .ref (a2 10), .ref (a2 11), .ref (a2 12)])), ((a2 1), .inl (q 0, 4, .inl (s2.2.1 0))), ((a2 2), .inl (q 0, 4, .inl (s2.2.1 1))), ((a2 3), .inl (q 0, 160, .inl (s2.2.1 2))), ((a2 4), .inl (q 0, 40, .inl (s2.2.1 3))), ((a2 5), .inl (q 0, 40, .inl (s2.2.1 4))), ((a2 6), .inl (q 0, 40, .inl (s2.2.1 5))), ((a2 7), .inl (q 0, 40, .inl (s2.2.1 6))), ((a2 8), .inl (q 0, 40, .inl (s2.2.1 7))), ((a2 9), .inl (q 0, 40, .inl (s2.2.1 8))), ((a2 10), .inl (q 0, 40, .inl (s2.2.1 9))), ((a2 11), .inl (q 1, 40, .inr (.inl s2.2.2.1))), ((a2 12), .inl (q 0, s2.2.2.2.1, .inl s2.2.2.2.2)), (p8, .inr (2, [.ref p9, .int (s6.1 0), .int (s6.1 1)])), (p9, .inl (q 4, 10, .inr (.inr (.inr (.inr (pf_f AA s6.2))))))] : va_W) ++ ps_w q 10 AA s6.2) s.heap := hP
  have hD : va_D _ (([((a0 0), .inr (5, [.ref (a1 0), .ref (a2 0), .ref (a3 0), .ref (a4 0), .ref (a5 0), .ref p8, .ref s8])), ((a1 0), .inr (4, [.ref (a1 1), .int (s1.1 0), .int (s1.1 1), .int (s1.1 2), .int (s1.1 3), .int (s1.1 4), .int (s1.1 5)])), ((a1 1), .inl (q 0, 400, .inl s1.2)), ((a2 0), .inr (0, [.int (s2.1 0), .int (s2.1 1), .int (s2.1 2), .int (s2.1 3), .int (s2.1 4), .int (s2.1 5), .ref (a2 1), .ref (a2 2), .ref (a2 3), .ref (a2 4), .ref (a2 5), .ref (a2 6), .ref (a2 7), .ref (a2 8), .ref (a2 9), .ref (a2 10), .ref (a2 11), .ref (a2 12)])), ((a2 1), .inl (q 0, 4, .inl (s2.2.1 0))), ((a2 2), .inl (q 0, 4, .inl (s2.2.1 1))), ((a2 3), .inl (q 0, 160, .inl (s2.2.1 2))), ((a2 4), .inl (q 0, 40, .inl (s2.2.1 3))), ((a2 5), .inl (q 0, 40, .inl (s2.2.1 4))), ((a2 6), .inl (q 0, 40, .inl (s2.2.1 5))), ((a2 7), .inl (q 0, 40, .inl (s2.2.1 6))), ((a2 8), .inl (q 0, 40, .inl (s2.2.1 7))), ((a2 9), .inl (q 0, 40, .inl (s2.2.1 8))), ((a2 10), .inl (q 0, 40, .inl (s2.2.1 9))), ((a2 11), .inl (q 1, 40, .inr (.inl s2.2.2.1))), ((a2 12), .inl (q 0, s2.2.2.2.1, .inl s2.2.2.2.2)), (p8, .inr (2, [.ref p9, .int (s6.1 0), .int (s6.1 1)])), (p9, .inl (q 4, 10, .inr (.inr (.inr (.inr (pf_f AA s6.2))))))] : va_W) ++ ps_w q 10 AA s6.2) := hD
  unfold wp_X6_scroll at h
  refine lv_aload_n hx hb dX6_scroll_0 rfl (lv_at hl 0 rfl) ?_
  refine lv_aload_n hx hb dX6_scroll_1 rfl (lv_at hl 0 rfl) ?_
  refine fl_get (C := RX6) (T := TX6) (N := 7) (ci := 5) (v := .ref (a2 0)) hx hb ht in_X6 hown hK hP 0 rfl rfl 1 (by decide) mw_356 rfl dX6_scroll_2 ?_
  refine fl_get (C := RX0) (T := TX0) (N := 18) (ci := 0) (v := .int (s2.1 0)) hx hb ht in_X0 hown hK hP 3 rfl rfl 0 (by decide) mw_169 rfl dX6_scroll_5 ?_
  refine lv_iconst (v := 1) hx hb dX6_scroll_8 (by decide) ?_
  refine lv_isub hx hb dX6_scroll_9 ?_
  refine vp_callSi (rd_wV (wc := fo_w (a0 0) (a1 0) (a2 0) (a3 0) (a4 0) (a5 0) p8 s8 ++ tp_w a1 q s1 ++ bd_w a2 q s2) (As := [.int ((s2.1 0) - 1)]) (rest := []) hx hb hml hown ht (c2_X6_whyNotRow h) wd_X6_whyNotRow mw_617 hQ hV hS (hP.sub [0, 1, 2, 3, 4, 5, 6, 7, 8, 9, 10, 11, 12, 13, 14, 15] rfl) rfl rfl rfl hl.1 rfl (Nat.le_of_ble_eq_true rfl) dX6_scroll_10 ⟨Nat.le_of_ble_eq_true rfl, Nat.le_of_ble_eq_true rfl, rfl, rfl⟩ ⟨Nat.le_of_ble_eq_true rfl, Nat.le_of_ble_eq_true rfl⟩) (fun r_1 h => ?_)
  try dsimp only at h
  refine lv_istore_n (lv' := [(1, .int r_1), (0, .ref (a0 0))]) hx hb dX6_scroll_13 rfl hl (by decide) rfl (fun ls hl => ?_)
  refine lv_iload_n hx hb dX6_scroll_14 rfl (lv_at hl 0 rfl) ?_
  refine lv_if_ne (tgt := 49) hx hb dX6_scroll_15 (by decide) (fun c_3 => ?_) (fun c_3 => ?_)
  · replace h := h.1 c_3
    refine lv_aload_n hx hb dX6_scroll_49 rfl (lv_at hl 1 rfl) ?_
    refine fl_get (C := RX6) (T := TX6) (N := 7) (ci := 5) (v := .ref (a1 0)) hx hb ht in_X6 hown hK hP 0 rfl rfl 0 (by decide) mw_355 rfl dX6_scroll_50 ?_
    refine lv_iconst (v := 0) hx hb dX6_scroll_53 (by decide) ?_
    refine fl_put (C := RX5) (T := TX5) (N := 7) (ci := 4) (v := .int 0) (ws2 := [((a0 0), .inr (5, [.ref (a1 0), .ref (a2 0), .ref (a3 0), .ref (a4 0), .ref (a5 0), .ref p8, .ref s8])), ((a1 0), .inr (4, [.ref (a1 1), .int 0, .int (s1.1 1), .int (s1.1 2), .int (s1.1 3), .int (s1.1 4), .int (s1.1 5)])), ((a1 1), .inl (q 0, 400, .inl s1.2)), ((a2 0), .inr (0, [.int (s2.1 0), .int (s2.1 1), .int (s2.1 2), .int (s2.1 3), .int (s2.1 4), .int (s2.1 5), .ref (a2 1), .ref (a2 2), .ref (a2 3), .ref (a2 4), .ref (a2 5), .ref (a2 6), .ref (a2 7), .ref (a2 8), .ref (a2 9), .ref (a2 10), .ref (a2 11), .ref (a2 12)])), ((a2 1), .inl (q 0, 4, .inl (s2.2.1 0))), ((a2 2), .inl (q 0, 4, .inl (s2.2.1 1))), ((a2 3), .inl (q 0, 160, .inl (s2.2.1 2))), ((a2 4), .inl (q 0, 40, .inl (s2.2.1 3))), ((a2 5), .inl (q 0, 40, .inl (s2.2.1 4))), ((a2 6), .inl (q 0, 40, .inl (s2.2.1 5))), ((a2 7), .inl (q 0, 40, .inl (s2.2.1 6))), ((a2 8), .inl (q 0, 40, .inl (s2.2.1 7))), ((a2 9), .inl (q 0, 40, .inl (s2.2.1 8))), ((a2 10), .inl (q 0, 40, .inl (s2.2.1 9))), ((a2 11), .inl (q 1, 40, .inr (.inl s2.2.2.1))), ((a2 12), .inl (q 0, s2.2.2.2.1, .inl s2.2.2.2.2)), (p8, .inr (2, [.ref p9, .int (s6.1 0), .int (s6.1 1)])), (p9, .inl (q 4, 10, .inr (.inr (.inr (.inr (pf_f AA s6.2))))))] ++ ps_w q 10 AA s6.2) hx hb ht in_X5 tyX5_ok nmX5 hown hK hP hD hS 1 rfl rfl 1 (by decide) mw_129 rfl rfl rfl (Nat.le_of_ble_eq_true rfl) dX6_scroll_54 rfl (fun H locs hP hD hS => ?_)
    refine lv_iload_n hx hb dX6_scroll_57 rfl (lv_at hl 0 rfl) ?_
    have hP := hP.part (cx := [((a0 0), .inr (5, [.ref (a1 0), .ref (a2 0), .ref (a3 0), .ref (a4 0), .ref (a5 0), .ref p8, .ref s8])), ((a1 0), .inr (4, [.ref (a1 1), .int 0, .int (s1.1 1), .int (s1.1 2), .int (s1.1 3), .int (s1.1 4), .int (s1.1 5)])), ((a1 1), .inl (q 0, 400, .inl s1.2)), ((a2 0), .inr (0, [.int (s2.1 0), .int (s2.1 1), .int (s2.1 2), .int (s2.1 3), .int (s2.1 4), .int (s2.1 5), .ref (a2 1), .ref (a2 2), .ref (a2 3), .ref (a2 4), .ref (a2 5), .ref (a2 6), .ref (a2 7), .ref (a2 8), .ref (a2 9), .ref (a2 10), .ref (a2 11), .ref (a2 12)])), ((a2 1), .inl (q 0, 4, .inl (s2.2.1 0))), ((a2 2), .inl (q 0, 4, .inl (s2.2.1 1))), ((a2 3), .inl (q 0, 160, .inl (s2.2.1 2))), ((a2 4), .inl (q 0, 40, .inl (s2.2.1 3))), ((a2 5), .inl (q 0, 40, .inl (s2.2.1 4))), ((a2 6), .inl (q 0, 40, .inl (s2.2.1 5))), ((a2 7), .inl (q 0, 40, .inl (s2.2.1 6))), ((a2 8), .inl (q 0, 40, .inl (s2.2.1 7))), ((a2 9), .inl (q 0, 40, .inl (s2.2.1 8))), ((a2 10), .inl (q 0, 40, .inl (s2.2.1 9))), ((a2 11), .inl (q 1, 40, .inr (.inl s2.2.2.1))), ((a2 12), .inl (q 0, s2.2.2.2.1, .inl s2.2.2.2.2)), (p8, .inr (2, [.ref p9, .int (s6.1 0), .int (s6.1 1)])), (p9, .inl (q 4, 10, .inr (.inr (.inr (.inr (pf_f AA s6.2))))))]) [0, 1, 2, 3, 4, 5, 6, 7, 8, 9, 10, 11, 12, 13, 14, 15, 16, 17] rfl
    have hD := hD.part (cx := [((a0 0), .inr (5, [.ref (a1 0), .ref (a2 0), .ref (a3 0), .ref (a4 0), .ref (a5 0), .ref p8, .ref s8])), ((a1 0), .inr (4, [.ref (a1 1), .int 0, .int (s1.1 1), .int (s1.1 2), .int (s1.1 3), .int (s1.1 4), .int (s1.1 5)])), ((a1 1), .inl (q 0, 400, .inl s1.2)), ((a2 0), .inr (0, [.int (s2.1 0), .int (s2.1 1), .int (s2.1 2), .int (s2.1 3), .int (s2.1 4), .int (s2.1 5), .ref (a2 1), .ref (a2 2), .ref (a2 3), .ref (a2 4), .ref (a2 5), .ref (a2 6), .ref (a2 7), .ref (a2 8), .ref (a2 9), .ref (a2 10), .ref (a2 11), .ref (a2 12)])), ((a2 1), .inl (q 0, 4, .inl (s2.2.1 0))), ((a2 2), .inl (q 0, 4, .inl (s2.2.1 1))), ((a2 3), .inl (q 0, 160, .inl (s2.2.1 2))), ((a2 4), .inl (q 0, 40, .inl (s2.2.1 3))), ((a2 5), .inl (q 0, 40, .inl (s2.2.1 4))), ((a2 6), .inl (q 0, 40, .inl (s2.2.1 5))), ((a2 7), .inl (q 0, 40, .inl (s2.2.1 6))), ((a2 8), .inl (q 0, 40, .inl (s2.2.1 7))), ((a2 9), .inl (q 0, 40, .inl (s2.2.1 8))), ((a2 10), .inl (q 0, 40, .inl (s2.2.1 9))), ((a2 11), .inl (q 1, 40, .inr (.inl s2.2.2.1))), ((a2 12), .inl (q 0, s2.2.2.2.1, .inl s2.2.2.2.2)), (p8, .inr (2, [.ref p9, .int (s6.1 0), .int (s6.1 1)])), (p9, .inl (q 4, 10, .inr (.inr (.inr (.inr (pf_f AA s6.2))))))]) [0, 1, 2, 3, 4, 5, 6, 7, 8, 9, 10, 11, 12, 13, 14, 15, 16, 17] (by decide) rfl
    refine W.widen (k := 14) (n := 6906) (Nat.le_of_ble_eq_true rfl) (Nat.le_of_ble_eq_true rfl) ?_
    exact mt_iret (AA, ((va_up s1.1 0 0), s1.2), s2, s6) hx hb hr hk h hP hD hS dX6_scroll_58
  · replace h := h.2 c_3
    refine lv_aload_n hx hb dX6_scroll_18 rfl (lv_at hl 1 rfl) ?_
    refine fl_get (C := RX6) (T := TX6) (N := 7) (ci := 5) (v := .ref p8) hx hb ht in_X6 hown hK hP 0 rfl rfl 5 (by decide) mw_360 rfl dX6_scroll_19 ?_
    refine lv_aload_n hx hb dX6_scroll_22 rfl (lv_at hl 1 rfl) ?_
    refine fl_get (C := RX6) (T := TX6) (N := 7) (ci := 5) (v := .ref (a2 0)) hx hb ht in_X6 hown hK hP 0 rfl rfl 1 (by decide) mw_356 rfl dX6_scroll_23 ?_
    refine mt_govP (X := [((a0 0), .inr (5, [.ref (a1 0), .ref (a2 0), .ref (a3 0), .ref (a4 0), .ref (a5 0), .ref p8, .ref s8])), ((a1 0), .inr (4, [.ref (a1 1), .int (s1.1 0), .int (s1.1 1), .int (s1.1 2), .int (s1.1 3), .int (s1.1 4), .int (s1.1 5)])), ((a1 1), .inl (q 0, 400, .inl s1.2)), ((a2 0), .inr (0, [.int (s2.1 0), .int (s2.1 1), .int (s2.1 2), .int (s2.1 3), .int (s2.1 4), .int (s2.1 5), .ref (a2 1), .ref (a2 2), .ref (a2 3), .ref (a2 4), .ref (a2 5), .ref (a2 6), .ref (a2 7), .ref (a2 8), .ref (a2 9), .ref (a2 10), .ref (a2 11), .ref (a2 12)])), ((a2 1), .inl (q 0, 4, .inl (s2.2.1 0))), ((a2 2), .inl (q 0, 4, .inl (s2.2.1 1))), ((a2 3), .inl (q 0, 160, .inl (s2.2.1 2))), ((a2 4), .inl (q 0, 40, .inl (s2.2.1 3))), ((a2 5), .inl (q 0, 40, .inl (s2.2.1 4))), ((a2 6), .inl (q 0, 40, .inl (s2.2.1 5))), ((a2 7), .inl (q 0, 40, .inl (s2.2.1 6))), ((a2 8), .inl (q 0, 40, .inl (s2.2.1 7))), ((a2 9), .inl (q 0, 40, .inl (s2.2.1 8))), ((a2 10), .inl (q 0, 40, .inl (s2.2.1 9))), ((a2 11), .inl (q 1, 40, .inr (.inl s2.2.2.1))), ((a2 12), .inl (q 0, s2.2.2.2.1, .inl s2.2.2.2.2)), (p8, .inr (2, [.ref p9, .int (s6.1 0), .int (s6.1 1)])), (p9, .inl (q 4, 10, .inr (.inr (.inr (.inr (pf_f AA s6.2))))))]) (pl := ps_w q 10 AA s6.2) (mt_wV (wc := (pa_o p8 p9 s6 ++ pa_r p9 q 10 AA s6.2 ++ bd_w a2 q s2) ++ ps_w q 10 AA s6.2) (As := [.ref (a2 0)]) (rest := []) hx hb hml hown ht (c2_X3_push (a0 := va_up (fun _ => p9) 0 p8) h) wd_X3_push mw_631 hQ hV hS hA (hP.part (cx := (pa_o p8 p9 s6 ++ pa_r p9 q 10 AA s6.2 ++ bd_w a2 q s2)) [16, 17, 3, 4, 5, 6, 7, 8, 9, 10, 11, 12, 13, 14, 15] rfl) (hD.part (cx := (pa_o p8 p9 s6 ++ pa_r p9 q 10 AA s6.2 ++ bd_w a2 q s2)) [16, 17, 3, 4, 5, 6, 7, 8, 9, 10, 11, 12, 13, 14, 15] (by decide) rfl) rfl rfl rfl hl.1 rfl (Nat.le_of_ble_eq_true rfl) dX6_scroll_26 ⟨Nat.le_of_ble_eq_true rfl, Nat.le_of_ble_eq_true rfl, rfl, rfl⟩ ⟨Nat.le_of_ble_eq_true rfl, Nat.le_of_ble_eq_true rfl⟩) (wr := [((a0 0), .inr (5, [.ref (a1 0), .ref (a2 0), .ref (a3 0), .ref (a4 0), .ref (a5 0), .ref p8, .ref s8])), ((a1 0), .inr (4, [.ref (a1 1), .int (s1.1 0), .int (s1.1 1), .int (s1.1 2), .int (s1.1 3), .int (s1.1 4), .int (s1.1 5)])), ((a1 1), .inl (q 0, 400, .inl s1.2))]) hP hD hS hA [16, 17, 3, 4, 5, 6, 7, 8, 9, 10, 11, 12, 13, 14, 15] [0, 1, 2] rfl rfl (by decide) (by decide) (fun u_4 H locs h hP hD hS => ?_)
    obtain ⟨A_7, s_6⟩ := u_4
    try dsimp only at h
    have hP : va_P D vwCl (([((a0 0), .inr (5, [.ref (a1 0), .ref (a2 0), .ref (a3 0), .ref (a4 0), .ref (a5 0), .ref p8, .ref s8])), ((a1 0), .inr (4, [.ref (a1 1), .int (s1.1 0), .int (s1.1 1), .int (s1.1 2), .int (s1.1 3), .int (s1.1 4), .int (s1.1 5)])), ((a1 1), .inl (q 0, 400, .inl s1.2)), (p8, .inr (2, [.ref p9, .int (s_6.1 0), .int (s_6.1 1)])), (p9, .inl (q 4, 10, .inr (.inr (.inr (.inr (pf_f A_7 s_6.2)))))), ((a2 0), .inr (0, [.int (s2.1 0), .int (s2.1 1), .int (s2.1 2), .int (s2.1 3), .int (s2.1 4), .int (s2.1 5), .ref (a2 1), .ref (a2 2), .ref (a2 3), .ref (a2 4), .ref (a2 5), .ref (a2 6), .ref (a2 7), .ref (a2 8), .ref (a2 9), .ref (a2 10), .ref (a2 11), .ref (a2 12)])), ((a2 1), .inl (q 0, 4, .inl (s2.2.1 0))), ((a2 2), .inl (q 0, 4, .inl (s2.2.1 1))), ((a2 3), .inl (q 0, 160, .inl (s2.2.1 2))), ((a2 4), .inl (q 0, 40, .inl (s2.2.1 3))), ((a2 5), .inl (q 0, 40, .inl (s2.2.1 4))), ((a2 6), .inl (q 0, 40, .inl (s2.2.1 5))), ((a2 7), .inl (q 0, 40, .inl (s2.2.1 6))), ((a2 8), .inl (q 0, 40, .inl (s2.2.1 7))), ((a2 9), .inl (q 0, 40, .inl (s2.2.1 8))), ((a2 10), .inl (q 0, 40, .inl (s2.2.1 9))), ((a2 11), .inl (q 1, 40, .inr (.inl s2.2.2.1))), ((a2 12), .inl (q 0, s2.2.2.2.1, .inl s2.2.2.2.2))] : va_W) ++ ps_w q 10 A_7 s_6.2) H := hP
    have hD : va_D _ (([((a0 0), .inr (5, [.ref (a1 0), .ref (a2 0), .ref (a3 0), .ref (a4 0), .ref (a5 0), .ref p8, .ref s8])), ((a1 0), .inr (4, [.ref (a1 1), .int (s1.1 0), .int (s1.1 1), .int (s1.1 2), .int (s1.1 3), .int (s1.1 4), .int (s1.1 5)])), ((a1 1), .inl (q 0, 400, .inl s1.2)), (p8, .inr (2, [.ref p9, .int (s_6.1 0), .int (s_6.1 1)])), (p9, .inl (q 4, 10, .inr (.inr (.inr (.inr (pf_f A_7 s_6.2)))))), ((a2 0), .inr (0, [.int (s2.1 0), .int (s2.1 1), .int (s2.1 2), .int (s2.1 3), .int (s2.1 4), .int (s2.1 5), .ref (a2 1), .ref (a2 2), .ref (a2 3), .ref (a2 4), .ref (a2 5), .ref (a2 6), .ref (a2 7), .ref (a2 8), .ref (a2 9), .ref (a2 10), .ref (a2 11), .ref (a2 12)])), ((a2 1), .inl (q 0, 4, .inl (s2.2.1 0))), ((a2 2), .inl (q 0, 4, .inl (s2.2.1 1))), ((a2 3), .inl (q 0, 160, .inl (s2.2.1 2))), ((a2 4), .inl (q 0, 40, .inl (s2.2.1 3))), ((a2 5), .inl (q 0, 40, .inl (s2.2.1 4))), ((a2 6), .inl (q 0, 40, .inl (s2.2.1 5))), ((a2 7), .inl (q 0, 40, .inl (s2.2.1 6))), ((a2 8), .inl (q 0, 40, .inl (s2.2.1 7))), ((a2 9), .inl (q 0, 40, .inl (s2.2.1 8))), ((a2 10), .inl (q 0, 40, .inl (s2.2.1 9))), ((a2 11), .inl (q 1, 40, .inr (.inl s2.2.2.1))), ((a2 12), .inl (q 0, s2.2.2.2.1, .inl s2.2.2.2.2))] : va_W) ++ ps_w q 10 A_7 s_6.2) := hD
    refine W.widen (k := 14) (n := 6906) (Nat.le_of_ble_eq_true rfl) (Nat.le_of_ble_eq_true rfl) ?_
    refine lv_aload_n hx hb dX6_scroll_29 rfl (lv_at hl 1 rfl) ?_
    refine fl_get (C := RX6) (T := TX6) (N := 7) (ci := 5) (v := .ref (a2 0)) hx hb ht in_X6 hown hK hP 0 rfl rfl 1 (by decide) mw_356 rfl dX6_scroll_30 ?_
    refine lv_aload_n hx hb dX6_scroll_33 rfl (lv_at hl 1 rfl) ?_
    refine fl_get (C := RX6) (T := TX6) (N := 7) (ci := 5) (v := .ref (a1 0)) hx hb ht in_X6 hown hK hP 0 rfl rfl 0 (by decide) mw_355 rfl dX6_scroll_34 ?_
    refine lv_iconst (v := 0) hx hb dX6_scroll_37 (by decide) ?_
    refine lv_aload_n hx hb dX6_scroll_38 rfl (lv_at hl 1 rfl) ?_
    refine fl_get (C := RX6) (T := TX6) (N := 7) (ci := 5) (v := .ref (a1 0)) hx hb ht in_X6 hown hK hP 0 rfl rfl 0 (by decide) mw_355 rfl dX6_scroll_39 ?_
    refine fl_get (C := RX5) (T := TX5) (N := 7) (ci := 4) (v := .int (s1.1 0)) hx hb ht in_X5 hown hK hP 1 rfl rfl 1 (by decide) mw_129 rfl dX6_scroll_42 ?_
    refine mt_goiQ (X := [((a0 0), .inr (5, [.ref (a1 0), .ref (a2 0), .ref (a3 0), .ref (a4 0), .ref (a5 0), .ref p8, .ref s8])), ((a1 0), .inr (4, [.ref (a1 1), .int (s1.1 0), .int (s1.1 1), .int (s1.1 2), .int (s1.1 3), .int (s1.1 4), .int (s1.1 5)])), ((a1 1), .inl (q 0, 400, .inl s1.2)), (p8, .inr (2, [.ref p9, .int (s_6.1 0), .int (s_6.1 1)])), (p9, .inl (q 4, 10, .inr (.inr (.inr (.inr (pf_f A_7 s_6.2)))))), ((a2 0), .inr (0, [.int (s2.1 0), .int (s2.1 1), .int (s2.1 2), .int (s2.1 3), .int (s2.1 4), .int (s2.1 5), .ref (a2 1), .ref (a2 2), .ref (a2 3), .ref (a2 4), .ref (a2 5), .ref (a2 6), .ref (a2 7), .ref (a2 8), .ref (a2 9), .ref (a2 10), .ref (a2 11), .ref (a2 12)])), ((a2 1), .inl (q 0, 4, .inl (s2.2.1 0))), ((a2 2), .inl (q 0, 4, .inl (s2.2.1 1))), ((a2 3), .inl (q 0, 160, .inl (s2.2.1 2))), ((a2 4), .inl (q 0, 40, .inl (s2.2.1 3))), ((a2 5), .inl (q 0, 40, .inl (s2.2.1 4))), ((a2 6), .inl (q 0, 40, .inl (s2.2.1 5))), ((a2 7), .inl (q 0, 40, .inl (s2.2.1 6))), ((a2 8), .inl (q 0, 40, .inl (s2.2.1 7))), ((a2 9), .inl (q 0, 40, .inl (s2.2.1 8))), ((a2 10), .inl (q 0, 40, .inl (s2.2.1 9))), ((a2 11), .inl (q 1, 40, .inr (.inl s2.2.2.1))), ((a2 12), .inl (q 0, s2.2.2.2.1, .inl s2.2.2.2.2))]) (pl := ps_w q 10 A_7 s_6.2) (mt_wV (wc := bd_w a2 q s2 ++ tp_w a1 q s1) (As := [.ref (a1 0), .int 0, .int (s1.1 0)]) (rest := []) hx hb hml hown ht (c2_X0_scrollUp h) wd_X0_scrollUp mw_656 hQ hV hS hA (hP.sub [5, 6, 7, 8, 9, 10, 11, 12, 13, 14, 15, 16, 17, 1, 2] rfl) (hD.sub [5, 6, 7, 8, 9, 10, 11, 12, 13, 14, 15, 16, 17, 1, 2] (by decide) rfl) rfl rfl rfl hl.1 rfl (Nat.le_of_ble_eq_true rfl) dX6_scroll_45 ⟨Nat.le_of_ble_eq_true rfl, Nat.le_of_ble_eq_true rfl, rfl, rfl⟩ ⟨Nat.le_of_ble_eq_true rfl, Nat.le_of_ble_eq_true rfl⟩) (wr := [((a0 0), .inr (5, [.ref (a1 0), .ref (a2 0), .ref (a3 0), .ref (a4 0), .ref (a5 0), .ref p8, .ref s8])), (p8, .inr (2, [.ref p9, .int (s_6.1 0), .int (s_6.1 1)])), (p9, .inl (q 4, 10, .inr (.inr (.inr (.inr (pf_f A_7 s_6.2))))))]) hP hD hS hA [5, 6, 7, 8, 9, 10, 11, 12, 13, 14, 15, 16, 17, 1, 2] [0, 3, 4] rfl rfl (by decide) (by decide) (fun r_10 u_11 H locs h hP hD hS => ?_)
    try dsimp only at h
    have hP : va_P D vwCl (([((a0 0), .inr (5, [.ref (a1 0), .ref (a2 0), .ref (a3 0), .ref (a4 0), .ref (a5 0), .ref p8, .ref s8])), (p8, .inr (2, [.ref p9, .int (s_6.1 0), .int (s_6.1 1)])), (p9, .inl (q 4, 10, .inr (.inr (.inr (.inr (pf_f A_7 s_6.2)))))), ((a2 0), .inr (0, [.int (u_11.1 0), .int (u_11.1 1), .int (u_11.1 2), .int (u_11.1 3), .int (u_11.1 4), .int (u_11.1 5), .ref (a2 1), .ref (a2 2), .ref (a2 3), .ref (a2 4), .ref (a2 5), .ref (a2 6), .ref (a2 7), .ref (a2 8), .ref (a2 9), .ref (a2 10), .ref (a2 11), .ref (a2 12)])), ((a2 1), .inl (q 0, 4, .inl (u_11.2.1 0))), ((a2 2), .inl (q 0, 4, .inl (u_11.2.1 1))), ((a2 3), .inl (q 0, 160, .inl (u_11.2.1 2))), ((a2 4), .inl (q 0, 40, .inl (u_11.2.1 3))), ((a2 5), .inl (q 0, 40, .inl (u_11.2.1 4))), ((a2 6), .inl (q 0, 40, .inl (u_11.2.1 5))), ((a2 7), .inl (q 0, 40, .inl (u_11.2.1 6))), ((a2 8), .inl (q 0, 40, .inl (u_11.2.1 7))), ((a2 9), .inl (q 0, 40, .inl (u_11.2.1 8))), ((a2 10), .inl (q 0, 40, .inl (u_11.2.1 9))), ((a2 11), .inl (q 1, 40, .inr (.inl u_11.2.2.1))), ((a2 12), .inl (q 0, u_11.2.2.2.1, .inl u_11.2.2.2.2)), ((a1 0), .inr (4, [.ref (a1 1), .int (s1.1 0), .int (s1.1 1), .int (s1.1 2), .int (s1.1 3), .int (s1.1 4), .int (s1.1 5)])), ((a1 1), .inl (q 0, 400, .inl s1.2))] : va_W) ++ ps_w q 10 A_7 s_6.2) H := hP
    have hD : va_D _ (([((a0 0), .inr (5, [.ref (a1 0), .ref (a2 0), .ref (a3 0), .ref (a4 0), .ref (a5 0), .ref p8, .ref s8])), (p8, .inr (2, [.ref p9, .int (s_6.1 0), .int (s_6.1 1)])), (p9, .inl (q 4, 10, .inr (.inr (.inr (.inr (pf_f A_7 s_6.2)))))), ((a2 0), .inr (0, [.int (u_11.1 0), .int (u_11.1 1), .int (u_11.1 2), .int (u_11.1 3), .int (u_11.1 4), .int (u_11.1 5), .ref (a2 1), .ref (a2 2), .ref (a2 3), .ref (a2 4), .ref (a2 5), .ref (a2 6), .ref (a2 7), .ref (a2 8), .ref (a2 9), .ref (a2 10), .ref (a2 11), .ref (a2 12)])), ((a2 1), .inl (q 0, 4, .inl (u_11.2.1 0))), ((a2 2), .inl (q 0, 4, .inl (u_11.2.1 1))), ((a2 3), .inl (q 0, 160, .inl (u_11.2.1 2))), ((a2 4), .inl (q 0, 40, .inl (u_11.2.1 3))), ((a2 5), .inl (q 0, 40, .inl (u_11.2.1 4))), ((a2 6), .inl (q 0, 40, .inl (u_11.2.1 5))), ((a2 7), .inl (q 0, 40, .inl (u_11.2.1 6))), ((a2 8), .inl (q 0, 40, .inl (u_11.2.1 7))), ((a2 9), .inl (q 0, 40, .inl (u_11.2.1 8))), ((a2 10), .inl (q 0, 40, .inl (u_11.2.1 9))), ((a2 11), .inl (q 1, 40, .inr (.inl u_11.2.2.1))), ((a2 12), .inl (q 0, u_11.2.2.2.1, .inl u_11.2.2.2.2)), ((a1 0), .inr (4, [.ref (a1 1), .int (s1.1 0), .int (s1.1 1), .int (s1.1 2), .int (s1.1 3), .int (s1.1 4), .int (s1.1 5)])), ((a1 1), .inl (q 0, 400, .inl s1.2))] : va_W) ++ ps_w q 10 A_7 s_6.2) := hD
    refine lv_istore_n (lv' := [(1, .int r_10), (0, .ref (a0 0))]) hx hb dX6_scroll_48 rfl hl (by decide) rfl (fun ls hl => ?_)
    refine lv_aload_n hx hb dX6_scroll_49 rfl (lv_at hl 1 rfl) ?_
    refine fl_get (C := RX6) (T := TX6) (N := 7) (ci := 5) (v := .ref (a1 0)) hx hb ht in_X6 hown hK hP 0 rfl rfl 0 (by decide) mw_355 rfl dX6_scroll_50 ?_
    refine lv_iconst (v := 0) hx hb dX6_scroll_53 (by decide) ?_
    refine fl_put (C := RX5) (T := TX5) (N := 7) (ci := 4) (v := .int 0) (ws2 := [((a0 0), .inr (5, [.ref (a1 0), .ref (a2 0), .ref (a3 0), .ref (a4 0), .ref (a5 0), .ref p8, .ref s8])), (p8, .inr (2, [.ref p9, .int (s_6.1 0), .int (s_6.1 1)])), (p9, .inl (q 4, 10, .inr (.inr (.inr (.inr (pf_f A_7 s_6.2)))))), ((a2 0), .inr (0, [.int (u_11.1 0), .int (u_11.1 1), .int (u_11.1 2), .int (u_11.1 3), .int (u_11.1 4), .int (u_11.1 5), .ref (a2 1), .ref (a2 2), .ref (a2 3), .ref (a2 4), .ref (a2 5), .ref (a2 6), .ref (a2 7), .ref (a2 8), .ref (a2 9), .ref (a2 10), .ref (a2 11), .ref (a2 12)])), ((a2 1), .inl (q 0, 4, .inl (u_11.2.1 0))), ((a2 2), .inl (q 0, 4, .inl (u_11.2.1 1))), ((a2 3), .inl (q 0, 160, .inl (u_11.2.1 2))), ((a2 4), .inl (q 0, 40, .inl (u_11.2.1 3))), ((a2 5), .inl (q 0, 40, .inl (u_11.2.1 4))), ((a2 6), .inl (q 0, 40, .inl (u_11.2.1 5))), ((a2 7), .inl (q 0, 40, .inl (u_11.2.1 6))), ((a2 8), .inl (q 0, 40, .inl (u_11.2.1 7))), ((a2 9), .inl (q 0, 40, .inl (u_11.2.1 8))), ((a2 10), .inl (q 0, 40, .inl (u_11.2.1 9))), ((a2 11), .inl (q 1, 40, .inr (.inl u_11.2.2.1))), ((a2 12), .inl (q 0, u_11.2.2.2.1, .inl u_11.2.2.2.2)), ((a1 0), .inr (4, [.ref (a1 1), .int 0, .int (s1.1 1), .int (s1.1 2), .int (s1.1 3), .int (s1.1 4), .int (s1.1 5)])), ((a1 1), .inl (q 0, 400, .inl s1.2))] ++ ps_w q 10 A_7 s_6.2) hx hb ht in_X5 tyX5_ok nmX5 hown hK hP hD hS 16 rfl rfl 1 (by decide) mw_129 rfl rfl rfl (Nat.le_of_ble_eq_true rfl) dX6_scroll_54 rfl (fun H locs hP hD hS => ?_)
    refine lv_iload_n hx hb dX6_scroll_57 rfl (lv_at hl 0 rfl) ?_
    have hP := hP.part (cx := [((a0 0), .inr (5, [.ref (a1 0), .ref (a2 0), .ref (a3 0), .ref (a4 0), .ref (a5 0), .ref p8, .ref s8])), ((a1 0), .inr (4, [.ref (a1 1), .int 0, .int (s1.1 1), .int (s1.1 2), .int (s1.1 3), .int (s1.1 4), .int (s1.1 5)])), ((a1 1), .inl (q 0, 400, .inl s1.2)), ((a2 0), .inr (0, [.int (u_11.1 0), .int (u_11.1 1), .int (u_11.1 2), .int (u_11.1 3), .int (u_11.1 4), .int (u_11.1 5), .ref (a2 1), .ref (a2 2), .ref (a2 3), .ref (a2 4), .ref (a2 5), .ref (a2 6), .ref (a2 7), .ref (a2 8), .ref (a2 9), .ref (a2 10), .ref (a2 11), .ref (a2 12)])), ((a2 1), .inl (q 0, 4, .inl (u_11.2.1 0))), ((a2 2), .inl (q 0, 4, .inl (u_11.2.1 1))), ((a2 3), .inl (q 0, 160, .inl (u_11.2.1 2))), ((a2 4), .inl (q 0, 40, .inl (u_11.2.1 3))), ((a2 5), .inl (q 0, 40, .inl (u_11.2.1 4))), ((a2 6), .inl (q 0, 40, .inl (u_11.2.1 5))), ((a2 7), .inl (q 0, 40, .inl (u_11.2.1 6))), ((a2 8), .inl (q 0, 40, .inl (u_11.2.1 7))), ((a2 9), .inl (q 0, 40, .inl (u_11.2.1 8))), ((a2 10), .inl (q 0, 40, .inl (u_11.2.1 9))), ((a2 11), .inl (q 1, 40, .inr (.inl u_11.2.2.1))), ((a2 12), .inl (q 0, u_11.2.2.2.1, .inl u_11.2.2.2.2)), (p8, .inr (2, [.ref p9, .int (s_6.1 0), .int (s_6.1 1)])), (p9, .inl (q 4, 10, .inr (.inr (.inr (.inr (pf_f A_7 s_6.2))))))]) [0, 16, 17, 3, 4, 5, 6, 7, 8, 9, 10, 11, 12, 13, 14, 15, 1, 2] rfl
    have hD := hD.part (cx := [((a0 0), .inr (5, [.ref (a1 0), .ref (a2 0), .ref (a3 0), .ref (a4 0), .ref (a5 0), .ref p8, .ref s8])), ((a1 0), .inr (4, [.ref (a1 1), .int 0, .int (s1.1 1), .int (s1.1 2), .int (s1.1 3), .int (s1.1 4), .int (s1.1 5)])), ((a1 1), .inl (q 0, 400, .inl s1.2)), ((a2 0), .inr (0, [.int (u_11.1 0), .int (u_11.1 1), .int (u_11.1 2), .int (u_11.1 3), .int (u_11.1 4), .int (u_11.1 5), .ref (a2 1), .ref (a2 2), .ref (a2 3), .ref (a2 4), .ref (a2 5), .ref (a2 6), .ref (a2 7), .ref (a2 8), .ref (a2 9), .ref (a2 10), .ref (a2 11), .ref (a2 12)])), ((a2 1), .inl (q 0, 4, .inl (u_11.2.1 0))), ((a2 2), .inl (q 0, 4, .inl (u_11.2.1 1))), ((a2 3), .inl (q 0, 160, .inl (u_11.2.1 2))), ((a2 4), .inl (q 0, 40, .inl (u_11.2.1 3))), ((a2 5), .inl (q 0, 40, .inl (u_11.2.1 4))), ((a2 6), .inl (q 0, 40, .inl (u_11.2.1 5))), ((a2 7), .inl (q 0, 40, .inl (u_11.2.1 6))), ((a2 8), .inl (q 0, 40, .inl (u_11.2.1 7))), ((a2 9), .inl (q 0, 40, .inl (u_11.2.1 8))), ((a2 10), .inl (q 0, 40, .inl (u_11.2.1 9))), ((a2 11), .inl (q 1, 40, .inr (.inl u_11.2.2.1))), ((a2 12), .inl (q 0, u_11.2.2.2.1, .inl u_11.2.2.2.2)), (p8, .inr (2, [.ref p9, .int (s_6.1 0), .int (s_6.1 1)])), (p9, .inl (q 4, 10, .inr (.inr (.inr (.inr (pf_f A_7 s_6.2))))))]) [0, 16, 17, 3, 4, 5, 6, 7, 8, 9, 10, 11, 12, 13, 14, 15, 1, 2] (by decide) rfl
    exact mt_iret (A_7, ((va_up s1.1 0 0), s1.2), u_11, s_6) hx hb hr hk h hP hD hS dX6_scroll_58

def wp_X6_tick (post : Int32 → Bd → Mo → Pa → Prop) (s2 : Bd) (s4 : Mo) (s6 : Pa) (x1 : Int32) : Prop := wp_X0_isThere (fun r_1 => ((r_1 = 0 → post (-1) s2 s4 s6) ∧ (¬ r_1 = 0 → ((x1 < 1 → post (-1) s2 s4 s6) ∧ (¬ x1 < 1 → ((x1 ≤ 99 → wp_X3_push (fun s_8 => wp_X2_turn (fun u_13a u_13b => post (u_13a.1 3) u_13b u_13a s_8) s4 s2 x1) s6 s2) ∧ (¬ x1 ≤ 99 → post (-1) s2 s4 s6))))))) s2
set_option maxHeartbeats 4000000 in
set_option maxRecDepth 100000 in
theorem c2_X6_tick {l : Launch} {D : va_G} {q : Nat → ClassId} {sz : Nat} {a0 a1 a2 a3 a4 a5 : Nat → Nat} {p8 s8 p9 : Nat} {AA : Nat → Nat → Nat} {s2 : Bd} {s4 : Mo} {s6 : Pa} {x1 : Int32} {post : Int32 → Bd → Mo → Pa → Prop} (h : wp_X6_tick post s2 s4 s6 x1) : Met l yX6_tick (Cond.code yX6_tick cX6_tick 2 (some .int) :: w_all) ({ frames := 4, cells := 14, slots := 6906, locals := 146 } : Room) (mt_P D q [.ref (a0 0), .int x1] ((fo_w (a0 0) (a1 0) (a2 0) (a3 0) (a4 0) (a5 0) p8 s8 ++ bd_w a2 q s2 ++ mo_w a4 q s4 ++ pa_o p8 p9 s6 ++ pa_r p9 q 10 AA s6.2) ++ ps_w q 10 AA s6.2) sz) (va_Qi (fun r (u : (Nat → Nat → Nat) × Bd × Mo × Pa) => post r u.2.1 u.2.2.1 u.2.2.2) (mt_B D ((fo_w (a0 0) (a1 0) (a2 0) (a3 0) (a4 0) (a5 0) p8 s8 ++ bd_w a2 q s2 ++ mo_w a4 q s4 ++ pa_o p8 p9 s6 ++ pa_r p9 q 10 AA s6.2) ++ ps_w q 10 AA s6.2) sz (fun u : (Nat → Nat → Nat) × Bd × Mo × Pa => ((fo_w (a0 0) (a1 0) (a2 0) (a3 0) (a4 0) (a5 0) p8 s8 ++ bd_w a2 q u.2.1 ++ mo_w a4 q u.2.2.1 ++ pa_o p8 p9 u.2.2.2 ++ pa_r p9 q 10 u.1 u.2.2.2.2) ++ ps_w q 10 u.1 u.2.2.2.2))) (va_A ((fo_w (a0 0) (a1 0) (a2 0) (a3 0) (a4 0) (a5 0) p8 s8 ++ bd_w a2 q s2 ++ mo_w a4 q s4 ++ pa_o p8 p9 s6 ++ pa_r p9 q 10 AA s6.2) ++ ps_w q 10 AA s6.2) sz)) 14 6906 (va_A ((fo_w (a0 0) (a1 0) (a2 0) (a3 0) (a4 0) (a5 0) p8 s8 ++ bd_w a2 q s2 ++ mo_w a4 q s4 ++ pa_o p8 p9 s6 ++ pa_r p9 q 10 AA s6.2) ++ ps_w q 10 AA s6.2) sz) := by
  refine mt_start (by decide) (Nat.le_of_ble_eq_true rfl) ?_
  intro p e s m below meth c ls hx hb hr hml hown ht hk hin hP hQ hD hA hS hV hl
  have hK := hQ.1
  have hown : s.vm.findClass RX6 = some m.cls := hown
  have hl : lv_has ls 2 [(0, .ref (a0 0)), (1, .int x1)] := hl
  have hP : va_P D vwCl (([((a0 0), .inr (5, [.ref (a1 0), .ref (a2 0), .ref (a3 0), .ref (a4 0), .ref (a5 0), .ref p8, .ref s8])), ((a2 0), .inr (0, [.int (s2.1 0), .int (s2.1 1), .int (s2.1 2), .int (s2.1 3), .int (s2.1 4), .int (s2.1 5), .ref (a2 1), .ref (a2 2), .ref (a2 3), .ref (a2 4), .ref (a2 5), .ref (a2 6), .ref (a2 7), .ref (a2 8), .ref (a2 9), .ref (a2 10), .ref (a2 11), .ref (a2 12)])), ((a2 1), .inl (q 0, 4, .inl (s2.2.1 0))), ((a2 2), .inl (q 0, 4, .inl (s2.2.1 1))), ((a2 3), .inl (q 0, 160, .inl (s2.2.1 2))), ((a2 4), .inl (q 0, 40, .inl (s2.2.1 3))), ((a2 5), .inl (q 0, 40, .inl (s2.2.1 4))), ((a2 6), .inl (q 0, 40, .inl (s2.2.1 5))), ((a2 7), .inl (q 0, 40, .inl (s2.2.1 6))), ((a2 8), .inl (q 0, 40, .inl (s2.2.1 7))), ((a2 9), .inl (q 0, 40, .inl (s2.2.1 8))), ((a2 10), .inl (q 0, 40, .inl (s2.2.1 9))), ((a2 11), .inl (q 1, 40, .inr (.inl s2.2.2.1))), ((a2 12), .inl (q 0, s2.2.2.2.1, .inl s2.2.2.2.2)), ((a4 0), .inr (1, [.ref (a4 1), .ref (a4 2), .ref (a4 3), .int (s4.1 0), .int (s4.1 1), .int (s4.1 2), .int (s4.1 3), .int (s4.1 4), .int (s4.1 5), .int (s4.1 6), .int (s4.1 7), .int (s4.1 8)])), ((a4 1), .inl (q 0, 40, .inl (s4.2 0))), ((a4 2), .inl (q 0, 40, .inl (s4.2 1))), ((a4 3), .inl (q 0, 40, .inl (s4.2 2))), (p8, .inr (2, [.ref p9, .int (s6.1 0), .int (s6.1 1)])), (p9, .inl (q 4, 10, .inr (.inr (.inr (.inr (pf_f AA s6.2))))))] : va_W) ++ ps_w q 10 AA s6.2) s.heap := hP
  have hD : va_D _ (([((a0 0), .inr (5, [.ref (a1 0), .ref (a2 0), .ref (a3 0), .ref (a4 0), .ref (a5 0), .ref p8, .ref s8])), ((a2 0), .inr (0, [.int (s2.1 0), .int (s2.1 1), .int (s2.1 2), .int (s2.1 3), .int (s2.1 4), .int (s2.1 5), .ref (a2 1), .ref (a2 2), .ref (a2 3), .ref (a2 4), .ref (a2 5), .ref (a2 6), .ref (a2 7), .ref (a2 8), .ref (a2 9), .ref (a2 10), .ref (a2 11), .ref (a2 12)])), ((a2 1), .inl (q 0, 4, .inl (s2.2.1 0))), ((a2 2), .inl (q 0, 4, .inl (s2.2.1 1))), ((a2 3), .inl (q 0, 160, .inl (s2.2.1 2))), ((a2 4), .inl (q 0, 40, .inl (s2.2.1 3))), ((a2 5), .inl (q 0, 40, .inl (s2.2.1 4))), ((a2 6), .inl (q 0, 40, .inl (s2.2.1 5))), ((a2 7), .inl (q 0, 40, .inl (s2.2.1 6))), ((a2 8), .inl (q 0, 40, .inl (s2.2.1 7))), ((a2 9), .inl (q 0, 40, .inl (s2.2.1 8))), ((a2 10), .inl (q 0, 40, .inl (s2.2.1 9))), ((a2 11), .inl (q 1, 40, .inr (.inl s2.2.2.1))), ((a2 12), .inl (q 0, s2.2.2.2.1, .inl s2.2.2.2.2)), ((a4 0), .inr (1, [.ref (a4 1), .ref (a4 2), .ref (a4 3), .int (s4.1 0), .int (s4.1 1), .int (s4.1 2), .int (s4.1 3), .int (s4.1 4), .int (s4.1 5), .int (s4.1 6), .int (s4.1 7), .int (s4.1 8)])), ((a4 1), .inl (q 0, 40, .inl (s4.2 0))), ((a4 2), .inl (q 0, 40, .inl (s4.2 1))), ((a4 3), .inl (q 0, 40, .inl (s4.2 2))), (p8, .inr (2, [.ref p9, .int (s6.1 0), .int (s6.1 1)])), (p9, .inl (q 4, 10, .inr (.inr (.inr (.inr (pf_f AA s6.2))))))] : va_W) ++ ps_w q 10 AA s6.2) := hD
  unfold wp_X6_tick at h
  refine lv_aload_n hx hb dX6_tick_0 rfl (lv_at hl 0 rfl) ?_
  refine fl_get (C := RX6) (T := TX6) (N := 7) (ci := 5) (v := .ref (a2 0)) hx hb ht in_X6 hown hK hP 0 rfl rfl 1 (by decide) mw_356 rfl dX6_tick_1 ?_
  refine vp_callSi (rd_wV (wc := bd_w a2 q s2) (As := []) (rest := []) hx hb hml hown ht (c2_X0_isThere h) wd_X0_isThere mw_677 hQ hV hS (hP.sub [1, 2, 3, 4, 5, 6, 7, 8, 9, 10, 11, 12, 13] rfl) rfl rfl rfl hl.1 rfl (Nat.le_of_ble_eq_true rfl) dX6_tick_4 ⟨Nat.le_of_ble_eq_true rfl, Nat.le_of_ble_eq_true rfl, rfl, rfl⟩ ⟨Nat.le_of_ble_eq_true rfl, Nat.le_of_ble_eq_true rfl⟩) (fun r_1 h => ?_)
  try dsimp only at h
  refine lv_if_eq (tgt := 21) hx hb dX6_tick_7 (by decide) (fun c_3 => ?_) (fun c_3 => ?_)
  · replace h := h.1 c_3
    refine lv_iconst (v := (-1)) hx hb dX6_tick_21 (by decide) ?_
    have hP := hP.part (cx := [((a0 0), .inr (5, [.ref (a1 0), .ref (a2 0), .ref (a3 0), .ref (a4 0), .ref (a5 0), .ref p8, .ref s8])), ((a2 0), .inr (0, [.int (s2.1 0), .int (s2.1 1), .int (s2.1 2), .int (s2.1 3), .int (s2.1 4), .int (s2.1 5), .ref (a2 1), .ref (a2 2), .ref (a2 3), .ref (a2 4), .ref (a2 5), .ref (a2 6), .ref (a2 7), .ref (a2 8), .ref (a2 9), .ref (a2 10), .ref (a2 11), .ref (a2 12)])), ((a2 1), .inl (q 0, 4, .inl (s2.2.1 0))), ((a2 2), .inl (q 0, 4, .inl (s2.2.1 1))), ((a2 3), .inl (q 0, 160, .inl (s2.2.1 2))), ((a2 4), .inl (q 0, 40, .inl (s2.2.1 3))), ((a2 5), .inl (q 0, 40, .inl (s2.2.1 4))), ((a2 6), .inl (q 0, 40, .inl (s2.2.1 5))), ((a2 7), .inl (q 0, 40, .inl (s2.2.1 6))), ((a2 8), .inl (q 0, 40, .inl (s2.2.1 7))), ((a2 9), .inl (q 0, 40, .inl (s2.2.1 8))), ((a2 10), .inl (q 0, 40, .inl (s2.2.1 9))), ((a2 11), .inl (q 1, 40, .inr (.inl s2.2.2.1))), ((a2 12), .inl (q 0, s2.2.2.2.1, .inl s2.2.2.2.2)), ((a4 0), .inr (1, [.ref (a4 1), .ref (a4 2), .ref (a4 3), .int (s4.1 0), .int (s4.1 1), .int (s4.1 2), .int (s4.1 3), .int (s4.1 4), .int (s4.1 5), .int (s4.1 6), .int (s4.1 7), .int (s4.1 8)])), ((a4 1), .inl (q 0, 40, .inl (s4.2 0))), ((a4 2), .inl (q 0, 40, .inl (s4.2 1))), ((a4 3), .inl (q 0, 40, .inl (s4.2 2))), (p8, .inr (2, [.ref p9, .int (s6.1 0), .int (s6.1 1)])), (p9, .inl (q 4, 10, .inr (.inr (.inr (.inr (pf_f AA s6.2))))))]) [0, 1, 2, 3, 4, 5, 6, 7, 8, 9, 10, 11, 12, 13, 14, 15, 16, 17, 18, 19] rfl
    have hD := hD.part (cx := [((a0 0), .inr (5, [.ref (a1 0), .ref (a2 0), .ref (a3 0), .ref (a4 0), .ref (a5 0), .ref p8, .ref s8])), ((a2 0), .inr (0, [.int (s2.1 0), .int (s2.1 1), .int (s2.1 2), .int (s2.1 3), .int (s2.1 4), .int (s2.1 5), .ref (a2 1), .ref (a2 2), .ref (a2 3), .ref (a2 4), .ref (a2 5), .ref (a2 6), .ref (a2 7), .ref (a2 8), .ref (a2 9), .ref (a2 10), .ref (a2 11), .ref (a2 12)])), ((a2 1), .inl (q 0, 4, .inl (s2.2.1 0))), ((a2 2), .inl (q 0, 4, .inl (s2.2.1 1))), ((a2 3), .inl (q 0, 160, .inl (s2.2.1 2))), ((a2 4), .inl (q 0, 40, .inl (s2.2.1 3))), ((a2 5), .inl (q 0, 40, .inl (s2.2.1 4))), ((a2 6), .inl (q 0, 40, .inl (s2.2.1 5))), ((a2 7), .inl (q 0, 40, .inl (s2.2.1 6))), ((a2 8), .inl (q 0, 40, .inl (s2.2.1 7))), ((a2 9), .inl (q 0, 40, .inl (s2.2.1 8))), ((a2 10), .inl (q 0, 40, .inl (s2.2.1 9))), ((a2 11), .inl (q 1, 40, .inr (.inl s2.2.2.1))), ((a2 12), .inl (q 0, s2.2.2.2.1, .inl s2.2.2.2.2)), ((a4 0), .inr (1, [.ref (a4 1), .ref (a4 2), .ref (a4 3), .int (s4.1 0), .int (s4.1 1), .int (s4.1 2), .int (s4.1 3), .int (s4.1 4), .int (s4.1 5), .int (s4.1 6), .int (s4.1 7), .int (s4.1 8)])), ((a4 1), .inl (q 0, 40, .inl (s4.2 0))), ((a4 2), .inl (q 0, 40, .inl (s4.2 1))), ((a4 3), .inl (q 0, 40, .inl (s4.2 2))), (p8, .inr (2, [.ref p9, .int (s6.1 0), .int (s6.1 1)])), (p9, .inl (q 4, 10, .inr (.inr (.inr (.inr (pf_f AA s6.2))))))]) [0, 1, 2, 3, 4, 5, 6, 7, 8, 9, 10, 11, 12, 13, 14, 15, 16, 17, 18, 19] (by decide) rfl
    refine W.widen (k := 14) (n := 6906) (Nat.le_of_ble_eq_true rfl) (Nat.le_of_ble_eq_true rfl) ?_
    exact mt_iret (AA, s2, s4, s6) hx hb hr hk h hP hD hS dX6_tick_22
  · replace h := h.2 c_3
    refine lv_iload_n hx hb dX6_tick_10 rfl (lv_at hl 1 rfl) ?_
    refine lv_iconst (v := 1) hx hb dX6_tick_11 (by decide) ?_
    refine lv_icmp_lt (tgt := 21) hx hb dX6_tick_12 (by decide) (fun c_4 => ?_) (fun c_4 => ?_)
    · replace h := h.1 c_4
      refine lv_iconst (v := (-1)) hx hb dX6_tick_21 (by decide) ?_
      have hP := hP.part (cx := [((a0 0), .inr (5, [.ref (a1 0), .ref (a2 0), .ref (a3 0), .ref (a4 0), .ref (a5 0), .ref p8, .ref s8])), ((a2 0), .inr (0, [.int (s2.1 0), .int (s2.1 1), .int (s2.1 2), .int (s2.1 3), .int (s2.1 4), .int (s2.1 5), .ref (a2 1), .ref (a2 2), .ref (a2 3), .ref (a2 4), .ref (a2 5), .ref (a2 6), .ref (a2 7), .ref (a2 8), .ref (a2 9), .ref (a2 10), .ref (a2 11), .ref (a2 12)])), ((a2 1), .inl (q 0, 4, .inl (s2.2.1 0))), ((a2 2), .inl (q 0, 4, .inl (s2.2.1 1))), ((a2 3), .inl (q 0, 160, .inl (s2.2.1 2))), ((a2 4), .inl (q 0, 40, .inl (s2.2.1 3))), ((a2 5), .inl (q 0, 40, .inl (s2.2.1 4))), ((a2 6), .inl (q 0, 40, .inl (s2.2.1 5))), ((a2 7), .inl (q 0, 40, .inl (s2.2.1 6))), ((a2 8), .inl (q 0, 40, .inl (s2.2.1 7))), ((a2 9), .inl (q 0, 40, .inl (s2.2.1 8))), ((a2 10), .inl (q 0, 40, .inl (s2.2.1 9))), ((a2 11), .inl (q 1, 40, .inr (.inl s2.2.2.1))), ((a2 12), .inl (q 0, s2.2.2.2.1, .inl s2.2.2.2.2)), ((a4 0), .inr (1, [.ref (a4 1), .ref (a4 2), .ref (a4 3), .int (s4.1 0), .int (s4.1 1), .int (s4.1 2), .int (s4.1 3), .int (s4.1 4), .int (s4.1 5), .int (s4.1 6), .int (s4.1 7), .int (s4.1 8)])), ((a4 1), .inl (q 0, 40, .inl (s4.2 0))), ((a4 2), .inl (q 0, 40, .inl (s4.2 1))), ((a4 3), .inl (q 0, 40, .inl (s4.2 2))), (p8, .inr (2, [.ref p9, .int (s6.1 0), .int (s6.1 1)])), (p9, .inl (q 4, 10, .inr (.inr (.inr (.inr (pf_f AA s6.2))))))]) [0, 1, 2, 3, 4, 5, 6, 7, 8, 9, 10, 11, 12, 13, 14, 15, 16, 17, 18, 19] rfl
      have hD := hD.part (cx := [((a0 0), .inr (5, [.ref (a1 0), .ref (a2 0), .ref (a3 0), .ref (a4 0), .ref (a5 0), .ref p8, .ref s8])), ((a2 0), .inr (0, [.int (s2.1 0), .int (s2.1 1), .int (s2.1 2), .int (s2.1 3), .int (s2.1 4), .int (s2.1 5), .ref (a2 1), .ref (a2 2), .ref (a2 3), .ref (a2 4), .ref (a2 5), .ref (a2 6), .ref (a2 7), .ref (a2 8), .ref (a2 9), .ref (a2 10), .ref (a2 11), .ref (a2 12)])), ((a2 1), .inl (q 0, 4, .inl (s2.2.1 0))), ((a2 2), .inl (q 0, 4, .inl (s2.2.1 1))), ((a2 3), .inl (q 0, 160, .inl (s2.2.1 2))), ((a2 4), .inl (q 0, 40, .inl (s2.2.1 3))), ((a2 5), .inl (q 0, 40, .inl (s2.2.1 4))), ((a2 6), .inl (q 0, 40, .inl (s2.2.1 5))), ((a2 7), .inl (q 0, 40, .inl (s2.2.1 6))), ((a2 8), .inl (q 0, 40, .inl (s2.2.1 7))), ((a2 9), .inl (q 0, 40, .inl (s2.2.1 8))), ((a2 10), .inl (q 0, 40, .inl (s2.2.1 9))), ((a2 11), .inl (q 1, 40, .inr (.inl s2.2.2.1))), ((a2 12), .inl (q 0, s2.2.2.2.1, .inl s2.2.2.2.2)), ((a4 0), .inr (1, [.ref (a4 1), .ref (a4 2), .ref (a4 3), .int (s4.1 0), .int (s4.1 1), .int (s4.1 2), .int (s4.1 3), .int (s4.1 4), .int (s4.1 5), .int (s4.1 6), .int (s4.1 7), .int (s4.1 8)])), ((a4 1), .inl (q 0, 40, .inl (s4.2 0))), ((a4 2), .inl (q 0, 40, .inl (s4.2 1))), ((a4 3), .inl (q 0, 40, .inl (s4.2 2))), (p8, .inr (2, [.ref p9, .int (s6.1 0), .int (s6.1 1)])), (p9, .inl (q 4, 10, .inr (.inr (.inr (.inr (pf_f AA s6.2))))))]) [0, 1, 2, 3, 4, 5, 6, 7, 8, 9, 10, 11, 12, 13, 14, 15, 16, 17, 18, 19] (by decide) rfl
      refine W.widen (k := 14) (n := 6906) (Nat.le_of_ble_eq_true rfl) (Nat.le_of_ble_eq_true rfl) ?_
      exact mt_iret (AA, s2, s4, s6) hx hb hr hk h hP hD hS dX6_tick_22
    · replace h := h.2 c_4
      refine lv_iload_n hx hb dX6_tick_15 rfl (lv_at hl 1 rfl) ?_
      refine lv_bipush (v := 99) hx hb dX6_tick_16 (by decide) ?_
      refine lv_icmp_le (tgt := 23) hx hb dX6_tick_18 (by decide) (fun c_5 => ?_) (fun c_5 => ?_)
      · replace h := h.1 c_5
        refine lv_aload_n hx hb dX6_tick_23 rfl (lv_at hl 0 rfl) ?_
        refine fl_get (C := RX6) (T := TX6) (N := 7) (ci := 5) (v := .ref p8) hx hb ht in_X6 hown hK hP 0 rfl rfl 5 (by decide) mw_360 rfl dX6_tick_24 ?_
        refine lv_aload_n hx hb dX6_tick_27 rfl (lv_at hl 0 rfl) ?_
        refine fl_get (C := RX6) (T := TX6) (N := 7) (ci := 5) (v := .ref (a2 0)) hx hb ht in_X6 hown hK hP 0 rfl rfl 1 (by decide) mw_356 rfl dX6_tick_28 ?_
        refine mt_govP (X := [((a0 0), .inr (5, [.ref (a1 0), .ref (a2 0), .ref (a3 0), .ref (a4 0), .ref (a5 0), .ref p8, .ref s8])), ((a2 0), .inr (0, [.int (s2.1 0), .int (s2.1 1), .int (s2.1 2), .int (s2.1 3), .int (s2.1 4), .int (s2.1 5), .ref (a2 1), .ref (a2 2), .ref (a2 3), .ref (a2 4), .ref (a2 5), .ref (a2 6), .ref (a2 7), .ref (a2 8), .ref (a2 9), .ref (a2 10), .ref (a2 11), .ref (a2 12)])), ((a2 1), .inl (q 0, 4, .inl (s2.2.1 0))), ((a2 2), .inl (q 0, 4, .inl (s2.2.1 1))), ((a2 3), .inl (q 0, 160, .inl (s2.2.1 2))), ((a2 4), .inl (q 0, 40, .inl (s2.2.1 3))), ((a2 5), .inl (q 0, 40, .inl (s2.2.1 4))), ((a2 6), .inl (q 0, 40, .inl (s2.2.1 5))), ((a2 7), .inl (q 0, 40, .inl (s2.2.1 6))), ((a2 8), .inl (q 0, 40, .inl (s2.2.1 7))), ((a2 9), .inl (q 0, 40, .inl (s2.2.1 8))), ((a2 10), .inl (q 0, 40, .inl (s2.2.1 9))), ((a2 11), .inl (q 1, 40, .inr (.inl s2.2.2.1))), ((a2 12), .inl (q 0, s2.2.2.2.1, .inl s2.2.2.2.2)), ((a4 0), .inr (1, [.ref (a4 1), .ref (a4 2), .ref (a4 3), .int (s4.1 0), .int (s4.1 1), .int (s4.1 2), .int (s4.1 3), .int (s4.1 4), .int (s4.1 5), .int (s4.1 6), .int (s4.1 7), .int (s4.1 8)])), ((a4 1), .inl (q 0, 40, .inl (s4.2 0))), ((a4 2), .inl (q 0, 40, .inl (s4.2 1))), ((a4 3), .inl (q 0, 40, .inl (s4.2 2))), (p8, .inr (2, [.ref p9, .int (s6.1 0), .int (s6.1 1)])), (p9, .inl (q 4, 10, .inr (.inr (.inr (.inr (pf_f AA s6.2))))))]) (pl := ps_w q 10 AA s6.2) (mt_wV (wc := (pa_o p8 p9 s6 ++ pa_r p9 q 10 AA s6.2 ++ bd_w a2 q s2) ++ ps_w q 10 AA s6.2) (As := [.ref (a2 0)]) (rest := []) hx hb hml hown ht (c2_X3_push (a0 := va_up (fun _ => p9) 0 p8) h) wd_X3_push mw_631 hQ hV hS hA (hP.part (cx := (pa_o p8 p9 s6 ++ pa_r p9 q 10 AA s6.2 ++ bd_w a2 q s2)) [18, 19, 1, 2, 3, 4, 5, 6, 7, 8, 9, 10, 11, 12, 13] rfl) (hD.part (cx := (pa_o p8 p9 s6 ++ pa_r p9 q 10 AA s6.2 ++ bd_w a2 q s2)) [18, 19, 1, 2, 3, 4, 5, 6, 7, 8, 9, 10, 11, 12, 13] (by decide) rfl) rfl rfl rfl hl.1 rfl (Nat.le_of_ble_eq_true rfl) dX6_tick_31 ⟨Nat.le_of_ble_eq_true rfl, Nat.le_of_ble_eq_true rfl, rfl, rfl⟩ ⟨Nat.le_of_ble_eq_true rfl, Nat.le_of_ble_eq_true rfl⟩) (wr := [((a0 0), .inr (5, [.ref (a1 0), .ref (a2 0), .ref (a3 0), .ref (a4 0), .ref (a5 0), .ref p8, .ref s8])), ((a4 0), .inr (1, [.ref (a4 1), .ref (a4 2), .ref (a4 3), .int (s4.1 0), .int (s4.1 1), .int (s4.1 2), .int (s4.1 3), .int (s4.1 4), .int (s4.1 5), .int (s4.1 6), .int (s4.1 7), .int (s4.1 8)])), ((a4 1), .inl (q 0, 40, .inl (s4.2 0))), ((a4 2), .inl (q 0, 40, .inl (s4.2 1))), ((a4 3), .inl (q 0, 40, .inl (s4.2 2)))]) hP hD hS hA [18, 19, 1, 2, 3, 4, 5, 6, 7, 8, 9, 10, 11, 12, 13] [0, 14, 15, 16, 17] rfl rfl (by decide) (by decide) (fun u_6 H locs h hP hD hS => ?_)
        obtain ⟨A_9, s_8⟩ := u_6
        try dsimp only at h
        have hP : va_P D vwCl (([((a0 0), .inr (5, [.ref (a1 0), .ref (a2 0), .ref (a3 0), .ref (a4 0), .ref (a5 0), .ref p8, .ref s8])), ((a4 0), .inr (1, [.ref (a4 1), .ref (a4 2), .ref (a4 3), .int (s4.1 0), .int (s4.1 1), .int (s4.1 2), .int (s4.1 3), .int (s4.1 4), .int (s4.1 5), .int (s4.1 6), .int (s4.1 7), .int (s4.1 8)])), ((a4 1), .inl (q 0, 40, .inl (s4.2 0))), ((a4 2), .inl (q 0, 40, .inl (s4.2 1))), ((a4 3), .inl (q 0, 40, .inl (s4.2 2))), (p8, .inr (2, [.ref p9, .int (s_8.1 0), .int (s_8.1 1)])), (p9, .inl (q 4, 10, .inr (.inr (.inr (.inr (pf_f A_9 s_8.2)))))), ((a2 0), .inr (0, [.int (s2.1 0), .int (s2.1 1), .int (s2.1 2), .int (s2.1 3), .int (s2.1 4), .int (s2.1 5), .ref (a2 1), .ref (a2 2), .ref (a2 3), .ref (a2 4), .ref (a2 5), .ref (a2 6), .ref (a2 7), .ref (a2 8), .ref (a2 9), .ref (a2 10), .ref (a2 11), .ref (a2 12)])), ((a2 1), .inl (q 0, 4, .inl (s2.2.1 0))), ((a2 2), .inl (q 0, 4, .inl (s2.2.1 1))), ((a2 3), .inl (q 0, 160, .inl (s2.2.1 2))), ((a2 4), .inl (q 0, 40, .inl (s2.2.1 3))), ((a2 5), .inl (q 0, 40, .inl (s2.2.1 4))), ((a2 6), .inl (q 0, 40, .inl (s2.2.1 5))), ((a2 7), .inl (q 0, 40, .inl (s2.2.1 6))), ((a2 8), .inl (q 0, 40, .inl (s2.2.1 7))), ((a2 9), .inl (q 0, 40, .inl (s2.2.1 8))), ((a2 10), .inl (q 0, 40, .inl (s2.2.1 9))), ((a2 11), .inl (q 1, 40, .inr (.inl s2.2.2.1))), ((a2 12), .inl (q 0, s2.2.2.2.1, .inl s2.2.2.2.2))] : va_W) ++ ps_w q 10 A_9 s_8.2) H := hP
        have hD : va_D _ (([((a0 0), .inr (5, [.ref (a1 0), .ref (a2 0), .ref (a3 0), .ref (a4 0), .ref (a5 0), .ref p8, .ref s8])), ((a4 0), .inr (1, [.ref (a4 1), .ref (a4 2), .ref (a4 3), .int (s4.1 0), .int (s4.1 1), .int (s4.1 2), .int (s4.1 3), .int (s4.1 4), .int (s4.1 5), .int (s4.1 6), .int (s4.1 7), .int (s4.1 8)])), ((a4 1), .inl (q 0, 40, .inl (s4.2 0))), ((a4 2), .inl (q 0, 40, .inl (s4.2 1))), ((a4 3), .inl (q 0, 40, .inl (s4.2 2))), (p8, .inr (2, [.ref p9, .int (s_8.1 0), .int (s_8.1 1)])), (p9, .inl (q 4, 10, .inr (.inr (.inr (.inr (pf_f A_9 s_8.2)))))), ((a2 0), .inr (0, [.int (s2.1 0), .int (s2.1 1), .int (s2.1 2), .int (s2.1 3), .int (s2.1 4), .int (s2.1 5), .ref (a2 1), .ref (a2 2), .ref (a2 3), .ref (a2 4), .ref (a2 5), .ref (a2 6), .ref (a2 7), .ref (a2 8), .ref (a2 9), .ref (a2 10), .ref (a2 11), .ref (a2 12)])), ((a2 1), .inl (q 0, 4, .inl (s2.2.1 0))), ((a2 2), .inl (q 0, 4, .inl (s2.2.1 1))), ((a2 3), .inl (q 0, 160, .inl (s2.2.1 2))), ((a2 4), .inl (q 0, 40, .inl (s2.2.1 3))), ((a2 5), .inl (q 0, 40, .inl (s2.2.1 4))), ((a2 6), .inl (q 0, 40, .inl (s2.2.1 5))), ((a2 7), .inl (q 0, 40, .inl (s2.2.1 6))), ((a2 8), .inl (q 0, 40, .inl (s2.2.1 7))), ((a2 9), .inl (q 0, 40, .inl (s2.2.1 8))), ((a2 10), .inl (q 0, 40, .inl (s2.2.1 9))), ((a2 11), .inl (q 1, 40, .inr (.inl s2.2.2.1))), ((a2 12), .inl (q 0, s2.2.2.2.1, .inl s2.2.2.2.2))] : va_W) ++ ps_w q 10 A_9 s_8.2) := hD
        refine W.widen (k := 14) (n := 6906) (Nat.le_of_ble_eq_true rfl) (Nat.le_of_ble_eq_true rfl) ?_
        refine lv_aload_n hx hb dX6_tick_34 rfl (lv_at hl 0 rfl) ?_
        refine fl_get (C := RX6) (T := TX6) (N := 7) (ci := 5) (v := .ref (a4 0)) hx hb ht in_X6 hown hK hP 0 rfl rfl 3 (by decide) mw_358 rfl dX6_tick_35 ?_
        refine lv_aload_n hx hb dX6_tick_38 rfl (lv_at hl 0 rfl) ?_
        refine fl_get (C := RX6) (T := TX6) (N := 7) (ci := 5) (v := .ref (a2 0)) hx hb ht in_X6 hown hK hP 0 rfl rfl 1 (by decide) mw_356 rfl dX6_tick_39 ?_
        refine lv_iload_n hx hb dX6_tick_42 rfl (lv_at hl 1 rfl) ?_
        refine mt_govQ (X := [((a0 0), .inr (5, [.ref (a1 0), .ref (a2 0), .ref (a3 0), .ref (a4 0), .ref (a5 0), .ref p8, .ref s8])), ((a4 0), .inr (1, [.ref (a4 1), .ref (a4 2), .ref (a4 3), .int (s4.1 0), .int (s4.1 1), .int (s4.1 2), .int (s4.1 3), .int (s4.1 4), .int (s4.1 5), .int (s4.1 6), .int (s4.1 7), .int (s4.1 8)])), ((a4 1), .inl (q 0, 40, .inl (s4.2 0))), ((a4 2), .inl (q 0, 40, .inl (s4.2 1))), ((a4 3), .inl (q 0, 40, .inl (s4.2 2))), (p8, .inr (2, [.ref p9, .int (s_8.1 0), .int (s_8.1 1)])), (p9, .inl (q 4, 10, .inr (.inr (.inr (.inr (pf_f A_9 s_8.2)))))), ((a2 0), .inr (0, [.int (s2.1 0), .int (s2.1 1), .int (s2.1 2), .int (s2.1 3), .int (s2.1 4), .int (s2.1 5), .ref (a2 1), .ref (a2 2), .ref (a2 3), .ref (a2 4), .ref (a2 5), .ref (a2 6), .ref (a2 7), .ref (a2 8), .ref (a2 9), .ref (a2 10), .ref (a2 11), .ref (a2 12)])), ((a2 1), .inl (q 0, 4, .inl (s2.2.1 0))), ((a2 2), .inl (q 0, 4, .inl (s2.2.1 1))), ((a2 3), .inl (q 0, 160, .inl (s2.2.1 2))), ((a2 4), .inl (q 0, 40, .inl (s2.2.1 3))), ((a2 5), .inl (q 0, 40, .inl (s2.2.1 4))), ((a2 6), .inl (q 0, 40, .inl (s2.2.1 5))), ((a2 7), .inl (q 0, 40, .inl (s2.2.1 6))), ((a2 8), .inl (q 0, 40, .inl (s2.2.1 7))), ((a2 9), .inl (q 0, 40, .inl (s2.2.1 8))), ((a2 10), .inl (q 0, 40, .inl (s2.2.1 9))), ((a2 11), .inl (q 1, 40, .inr (.inl s2.2.2.1))), ((a2 12), .inl (q 0, s2.2.2.2.1, .inl s2.2.2.2.2))]) (pl := ps_w q 10 A_9 s_8.2) (mt_wV (wc := mo_w a4 q s4 ++ bd_w a2 q s2) (As := [.ref (a2 0), .int x1]) (rest := []) hx hb hml hown ht (c2_X2_turn h) wd_X2_turn mw_681 hQ hV hS hA (hP.sub [1, 2, 3, 4, 7, 8, 9, 10, 11, 12, 13, 14, 15, 16, 17, 18, 19] rfl) (hD.sub [1, 2, 3, 4, 7, 8, 9, 10, 11, 12, 13, 14, 15, 16, 17, 18, 19] (by decide) rfl) rfl rfl rfl hl.1 rfl (Nat.le_of_ble_eq_true rfl) dX6_tick_43 ⟨Nat.le_of_ble_eq_true rfl, Nat.le_of_ble_eq_true rfl, rfl, rfl⟩ ⟨Nat.le_of_ble_eq_true rfl, Nat.le_of_ble_eq_true rfl⟩) (wr := [((a0 0), .inr (5, [.ref (a1 0), .ref (a2 0), .ref (a3 0), .ref (a4 0), .ref (a5 0), .ref p8, .ref s8])), (p8, .inr (2, [.ref p9, .int (s_8.1 0), .int (s_8.1 1)])), (p9, .inl (q 4, 10, .inr (.inr (.inr (.inr (pf_f A_9 s_8.2))))))]) hP hD hS hA [1, 2, 3, 4, 7, 8, 9, 10, 11, 12, 13, 14, 15, 16, 17, 18, 19] [0, 5, 6] rfl rfl (by decide) (by decide) (fun u_13 H locs h hP hD hS => ?_)
        obtain ⟨u_13a, u_13b⟩ := u_13
        try dsimp only at h
        have hP : va_P D vwCl (([((a0 0), .inr (5, [.ref (a1 0), .ref (a2 0), .ref (a3 0), .ref (a4 0), .ref (a5 0), .ref p8, .ref s8])), (p8, .inr (2, [.ref p9, .int (s_8.1 0), .int (s_8.1 1)])), (p9, .inl (q 4, 10, .inr (.inr (.inr (.inr (pf_f A_9 s_8.2)))))), ((a4 0), .inr (1, [.ref (a4 1), .ref (a4 2), .ref (a4 3), .int (u_13a.1 0), .int (u_13a.1 1), .int (u_13a.1 2), .int (u_13a.1 3), .int (u_13a.1 4), .int (u_13a.1 5), .int (u_13a.1 6), .int (u_13a.1 7), .int (u_13a.1 8)])), ((a4 1), .inl (q 0, 40, .inl (u_13a.2 0))), ((a4 2), .inl (q 0, 40, .inl (u_13a.2 1))), ((a4 3), .inl (q 0, 40, .inl (u_13a.2 2))), ((a2 0), .inr (0, [.int (u_13b.1 0), .int (u_13b.1 1), .int (u_13b.1 2), .int (u_13b.1 3), .int (u_13b.1 4), .int (u_13b.1 5), .ref (a2 1), .ref (a2 2), .ref (a2 3), .ref (a2 4), .ref (a2 5), .ref (a2 6), .ref (a2 7), .ref (a2 8), .ref (a2 9), .ref (a2 10), .ref (a2 11), .ref (a2 12)])), ((a2 1), .inl (q 0, 4, .inl (u_13b.2.1 0))), ((a2 2), .inl (q 0, 4, .inl (u_13b.2.1 1))), ((a2 3), .inl (q 0, 160, .inl (u_13b.2.1 2))), ((a2 4), .inl (q 0, 40, .inl (u_13b.2.1 3))), ((a2 5), .inl (q 0, 40, .inl (u_13b.2.1 4))), ((a2 6), .inl (q 0, 40, .inl (u_13b.2.1 5))), ((a2 7), .inl (q 0, 40, .inl (u_13b.2.1 6))), ((a2 8), .inl (q 0, 40, .inl (u_13b.2.1 7))), ((a2 9), .inl (q 0, 40, .inl (u_13b.2.1 8))), ((a2 10), .inl (q 0, 40, .inl (u_13b.2.1 9))), ((a2 11), .inl (q 1, 40, .inr (.inl u_13b.2.2.1))), ((a2 12), .inl (q 0, u_13b.2.2.2.1, .inl u_13b.2.2.2.2))] : va_W) ++ ps_w q 10 A_9 s_8.2) H := hP
        have hD : va_D _ (([((a0 0), .inr (5, [.ref (a1 0), .ref (a2 0), .ref (a3 0), .ref (a4 0), .ref (a5 0), .ref p8, .ref s8])), (p8, .inr (2, [.ref p9, .int (s_8.1 0), .int (s_8.1 1)])), (p9, .inl (q 4, 10, .inr (.inr (.inr (.inr (pf_f A_9 s_8.2)))))), ((a4 0), .inr (1, [.ref (a4 1), .ref (a4 2), .ref (a4 3), .int (u_13a.1 0), .int (u_13a.1 1), .int (u_13a.1 2), .int (u_13a.1 3), .int (u_13a.1 4), .int (u_13a.1 5), .int (u_13a.1 6), .int (u_13a.1 7), .int (u_13a.1 8)])), ((a4 1), .inl (q 0, 40, .inl (u_13a.2 0))), ((a4 2), .inl (q 0, 40, .inl (u_13a.2 1))), ((a4 3), .inl (q 0, 40, .inl (u_13a.2 2))), ((a2 0), .inr (0, [.int (u_13b.1 0), .int (u_13b.1 1), .int (u_13b.1 2), .int (u_13b.1 3), .int (u_13b.1 4), .int (u_13b.1 5), .ref (a2 1), .ref (a2 2), .ref (a2 3), .ref (a2 4), .ref (a2 5), .ref (a2 6), .ref (a2 7), .ref (a2 8), .ref (a2 9), .ref (a2 10), .ref (a2 11), .ref (a2 12)])), ((a2 1), .inl (q 0, 4, .inl (u_13b.2.1 0))), ((a2 2), .inl (q 0, 4, .inl (u_13b.2.1 1))), ((a2 3), .inl (q 0, 160, .inl (u_13b.2.1 2))), ((a2 4), .inl (q 0, 40, .inl (u_13b.2.1 3))), ((a2 5), .inl (q 0, 40, .inl (u_13b.2.1 4))), ((a2 6), .inl (q 0, 40, .inl (u_13b.2.1 5))), ((a2 7), .inl (q 0, 40, .inl (u_13b.2.1 6))), ((a2 8), .inl (q 0, 40, .inl (u_13b.2.1 7))), ((a2 9), .inl (q 0, 40, .inl (u_13b.2.1 8))), ((a2 10), .inl (q 0, 40, .inl (u_13b.2.1 9))), ((a2 11), .inl (q 1, 40, .inr (.inl u_13b.2.2.1))), ((a2 12), .inl (q 0, u_13b.2.2.2.1, .inl u_13b.2.2.2.2))] : va_W) ++ ps_w q 10 A_9 s_8.2) := hD
        refine lv_aload_n hx hb dX6_tick_46 rfl (lv_at hl 0 rfl) ?_
        refine fl_get (C := RX6) (T := TX6) (N := 7) (ci := 5) (v := .ref (a4 0)) hx hb ht in_X6 hown hK hP 0 rfl rfl 3 (by decide) mw_358 rfl dX6_tick_47 ?_
        refine fl_get (C := RX2) (T := TX2) (N := 12) (ci := 1) (v := .int (u_13a.1 3)) hx hb ht in_X2 hown hK hP 3 rfl rfl 6 (by decide) mw_262 rfl dX6_tick_50 ?_
        have hP := hP.part (cx := [((a0 0), .inr (5, [.ref (a1 0), .ref (a2 0), .ref (a3 0), .ref (a4 0), .ref (a5 0), .ref p8, .ref s8])), ((a2 0), .inr (0, [.int (u_13b.1 0), .int (u_13b.1 1), .int (u_13b.1 2), .int (u_13b.1 3), .int (u_13b.1 4), .int (u_13b.1 5), .ref (a2 1), .ref (a2 2), .ref (a2 3), .ref (a2 4), .ref (a2 5), .ref (a2 6), .ref (a2 7), .ref (a2 8), .ref (a2 9), .ref (a2 10), .ref (a2 11), .ref (a2 12)])), ((a2 1), .inl (q 0, 4, .inl (u_13b.2.1 0))), ((a2 2), .inl (q 0, 4, .inl (u_13b.2.1 1))), ((a2 3), .inl (q 0, 160, .inl (u_13b.2.1 2))), ((a2 4), .inl (q 0, 40, .inl (u_13b.2.1 3))), ((a2 5), .inl (q 0, 40, .inl (u_13b.2.1 4))), ((a2 6), .inl (q 0, 40, .inl (u_13b.2.1 5))), ((a2 7), .inl (q 0, 40, .inl (u_13b.2.1 6))), ((a2 8), .inl (q 0, 40, .inl (u_13b.2.1 7))), ((a2 9), .inl (q 0, 40, .inl (u_13b.2.1 8))), ((a2 10), .inl (q 0, 40, .inl (u_13b.2.1 9))), ((a2 11), .inl (q 1, 40, .inr (.inl u_13b.2.2.1))), ((a2 12), .inl (q 0, u_13b.2.2.2.1, .inl u_13b.2.2.2.2)), ((a4 0), .inr (1, [.ref (a4 1), .ref (a4 2), .ref (a4 3), .int (u_13a.1 0), .int (u_13a.1 1), .int (u_13a.1 2), .int (u_13a.1 3), .int (u_13a.1 4), .int (u_13a.1 5), .int (u_13a.1 6), .int (u_13a.1 7), .int (u_13a.1 8)])), ((a4 1), .inl (q 0, 40, .inl (u_13a.2 0))), ((a4 2), .inl (q 0, 40, .inl (u_13a.2 1))), ((a4 3), .inl (q 0, 40, .inl (u_13a.2 2))), (p8, .inr (2, [.ref p9, .int (s_8.1 0), .int (s_8.1 1)])), (p9, .inl (q 4, 10, .inr (.inr (.inr (.inr (pf_f A_9 s_8.2))))))]) [0, 7, 8, 9, 10, 11, 12, 13, 14, 15, 16, 17, 18, 19, 3, 4, 5, 6, 1, 2] rfl
        have hD := hD.part (cx := [((a0 0), .inr (5, [.ref (a1 0), .ref (a2 0), .ref (a3 0), .ref (a4 0), .ref (a5 0), .ref p8, .ref s8])), ((a2 0), .inr (0, [.int (u_13b.1 0), .int (u_13b.1 1), .int (u_13b.1 2), .int (u_13b.1 3), .int (u_13b.1 4), .int (u_13b.1 5), .ref (a2 1), .ref (a2 2), .ref (a2 3), .ref (a2 4), .ref (a2 5), .ref (a2 6), .ref (a2 7), .ref (a2 8), .ref (a2 9), .ref (a2 10), .ref (a2 11), .ref (a2 12)])), ((a2 1), .inl (q 0, 4, .inl (u_13b.2.1 0))), ((a2 2), .inl (q 0, 4, .inl (u_13b.2.1 1))), ((a2 3), .inl (q 0, 160, .inl (u_13b.2.1 2))), ((a2 4), .inl (q 0, 40, .inl (u_13b.2.1 3))), ((a2 5), .inl (q 0, 40, .inl (u_13b.2.1 4))), ((a2 6), .inl (q 0, 40, .inl (u_13b.2.1 5))), ((a2 7), .inl (q 0, 40, .inl (u_13b.2.1 6))), ((a2 8), .inl (q 0, 40, .inl (u_13b.2.1 7))), ((a2 9), .inl (q 0, 40, .inl (u_13b.2.1 8))), ((a2 10), .inl (q 0, 40, .inl (u_13b.2.1 9))), ((a2 11), .inl (q 1, 40, .inr (.inl u_13b.2.2.1))), ((a2 12), .inl (q 0, u_13b.2.2.2.1, .inl u_13b.2.2.2.2)), ((a4 0), .inr (1, [.ref (a4 1), .ref (a4 2), .ref (a4 3), .int (u_13a.1 0), .int (u_13a.1 1), .int (u_13a.1 2), .int (u_13a.1 3), .int (u_13a.1 4), .int (u_13a.1 5), .int (u_13a.1 6), .int (u_13a.1 7), .int (u_13a.1 8)])), ((a4 1), .inl (q 0, 40, .inl (u_13a.2 0))), ((a4 2), .inl (q 0, 40, .inl (u_13a.2 1))), ((a4 3), .inl (q 0, 40, .inl (u_13a.2 2))), (p8, .inr (2, [.ref p9, .int (s_8.1 0), .int (s_8.1 1)])), (p9, .inl (q 4, 10, .inr (.inr (.inr (.inr (pf_f A_9 s_8.2))))))]) [0, 7, 8, 9, 10, 11, 12, 13, 14, 15, 16, 17, 18, 19, 3, 4, 5, 6, 1, 2] (by decide) rfl
        exact mt_iret (A_9, u_13b, u_13a, s_8) hx hb hr hk h hP hD hS dX6_tick_53
      · replace h := h.2 c_5
        refine lv_iconst (v := (-1)) hx hb dX6_tick_21 (by decide) ?_
        have hP := hP.part (cx := [((a0 0), .inr (5, [.ref (a1 0), .ref (a2 0), .ref (a3 0), .ref (a4 0), .ref (a5 0), .ref p8, .ref s8])), ((a2 0), .inr (0, [.int (s2.1 0), .int (s2.1 1), .int (s2.1 2), .int (s2.1 3), .int (s2.1 4), .int (s2.1 5), .ref (a2 1), .ref (a2 2), .ref (a2 3), .ref (a2 4), .ref (a2 5), .ref (a2 6), .ref (a2 7), .ref (a2 8), .ref (a2 9), .ref (a2 10), .ref (a2 11), .ref (a2 12)])), ((a2 1), .inl (q 0, 4, .inl (s2.2.1 0))), ((a2 2), .inl (q 0, 4, .inl (s2.2.1 1))), ((a2 3), .inl (q 0, 160, .inl (s2.2.1 2))), ((a2 4), .inl (q 0, 40, .inl (s2.2.1 3))), ((a2 5), .inl (q 0, 40, .inl (s2.2.1 4))), ((a2 6), .inl (q 0, 40, .inl (s2.2.1 5))), ((a2 7), .inl (q 0, 40, .inl (s2.2.1 6))), ((a2 8), .inl (q 0, 40, .inl (s2.2.1 7))), ((a2 9), .inl (q 0, 40, .inl (s2.2.1 8))), ((a2 10), .inl (q 0, 40, .inl (s2.2.1 9))), ((a2 11), .inl (q 1, 40, .inr (.inl s2.2.2.1))), ((a2 12), .inl (q 0, s2.2.2.2.1, .inl s2.2.2.2.2)), ((a4 0), .inr (1, [.ref (a4 1), .ref (a4 2), .ref (a4 3), .int (s4.1 0), .int (s4.1 1), .int (s4.1 2), .int (s4.1 3), .int (s4.1 4), .int (s4.1 5), .int (s4.1 6), .int (s4.1 7), .int (s4.1 8)])), ((a4 1), .inl (q 0, 40, .inl (s4.2 0))), ((a4 2), .inl (q 0, 40, .inl (s4.2 1))), ((a4 3), .inl (q 0, 40, .inl (s4.2 2))), (p8, .inr (2, [.ref p9, .int (s6.1 0), .int (s6.1 1)])), (p9, .inl (q 4, 10, .inr (.inr (.inr (.inr (pf_f AA s6.2))))))]) [0, 1, 2, 3, 4, 5, 6, 7, 8, 9, 10, 11, 12, 13, 14, 15, 16, 17, 18, 19] rfl
        have hD := hD.part (cx := [((a0 0), .inr (5, [.ref (a1 0), .ref (a2 0), .ref (a3 0), .ref (a4 0), .ref (a5 0), .ref p8, .ref s8])), ((a2 0), .inr (0, [.int (s2.1 0), .int (s2.1 1), .int (s2.1 2), .int (s2.1 3), .int (s2.1 4), .int (s2.1 5), .ref (a2 1), .ref (a2 2), .ref (a2 3), .ref (a2 4), .ref (a2 5), .ref (a2 6), .ref (a2 7), .ref (a2 8), .ref (a2 9), .ref (a2 10), .ref (a2 11), .ref (a2 12)])), ((a2 1), .inl (q 0, 4, .inl (s2.2.1 0))), ((a2 2), .inl (q 0, 4, .inl (s2.2.1 1))), ((a2 3), .inl (q 0, 160, .inl (s2.2.1 2))), ((a2 4), .inl (q 0, 40, .inl (s2.2.1 3))), ((a2 5), .inl (q 0, 40, .inl (s2.2.1 4))), ((a2 6), .inl (q 0, 40, .inl (s2.2.1 5))), ((a2 7), .inl (q 0, 40, .inl (s2.2.1 6))), ((a2 8), .inl (q 0, 40, .inl (s2.2.1 7))), ((a2 9), .inl (q 0, 40, .inl (s2.2.1 8))), ((a2 10), .inl (q 0, 40, .inl (s2.2.1 9))), ((a2 11), .inl (q 1, 40, .inr (.inl s2.2.2.1))), ((a2 12), .inl (q 0, s2.2.2.2.1, .inl s2.2.2.2.2)), ((a4 0), .inr (1, [.ref (a4 1), .ref (a4 2), .ref (a4 3), .int (s4.1 0), .int (s4.1 1), .int (s4.1 2), .int (s4.1 3), .int (s4.1 4), .int (s4.1 5), .int (s4.1 6), .int (s4.1 7), .int (s4.1 8)])), ((a4 1), .inl (q 0, 40, .inl (s4.2 0))), ((a4 2), .inl (q 0, 40, .inl (s4.2 1))), ((a4 3), .inl (q 0, 40, .inl (s4.2 2))), (p8, .inr (2, [.ref p9, .int (s6.1 0), .int (s6.1 1)])), (p9, .inl (q 4, 10, .inr (.inr (.inr (.inr (pf_f AA s6.2))))))]) [0, 1, 2, 3, 4, 5, 6, 7, 8, 9, 10, 11, 12, 13, 14, 15, 16, 17, 18, 19] (by decide) rfl
        refine W.widen (k := 14) (n := 6906) (Nat.le_of_ble_eq_true rfl) (Nat.le_of_ble_eq_true rfl) ?_
        exact mt_iret (AA, s2, s4, s6) hx hb hr hk h hP hD hS dX6_tick_22

def wp_X6_settle (post : Int32 → Bd → Mo → Pa → Prop) (s2 : Bd) (s4 : Mo) (s6 : Pa) : Prop := wp_X0_isThere (fun r_1 => ((¬ r_1 = 0 → wp_X2_choose (fun u_5 => ((¬ (u_5.1 0) = 0 → wp_X3_push (fun s_9 => wp_X2_turn (fun u_14a u_14b => post (u_14a.1 2) u_14b u_14a s_9) u_5 s2 (9999 : Int32)) s6 s2) ∧ ((u_5.1 0) = 0 → post (-2) s2 u_5 s6))) s4 s2) ∧ (r_1 = 0 → post (-1) s2 s4 s6))) s2
set_option maxHeartbeats 4000000 in
set_option maxRecDepth 100000 in
theorem c2_X6_settle {l : Launch} {D : va_G} {q : Nat → ClassId} {sz : Nat} {a0 a1 a2 a3 a4 a5 : Nat → Nat} {p8 s8 p9 : Nat} {AA : Nat → Nat → Nat} {s2 : Bd} {s4 : Mo} {s6 : Pa} {post : Int32 → Bd → Mo → Pa → Prop} (h : wp_X6_settle post s2 s4 s6) : Met l yX6_settle (Cond.code yX6_settle cX6_settle 1 (some .int) :: w_all) ({ frames := 4, cells := 14, slots := 6906, locals := 146 } : Room) (mt_P D q [.ref (a0 0)] ((fo_w (a0 0) (a1 0) (a2 0) (a3 0) (a4 0) (a5 0) p8 s8 ++ bd_w a2 q s2 ++ mo_w a4 q s4 ++ pa_o p8 p9 s6 ++ pa_r p9 q 10 AA s6.2) ++ ps_w q 10 AA s6.2) sz) (va_Qi (fun r (u : (Nat → Nat → Nat) × Bd × Mo × Pa) => post r u.2.1 u.2.2.1 u.2.2.2) (mt_B D ((fo_w (a0 0) (a1 0) (a2 0) (a3 0) (a4 0) (a5 0) p8 s8 ++ bd_w a2 q s2 ++ mo_w a4 q s4 ++ pa_o p8 p9 s6 ++ pa_r p9 q 10 AA s6.2) ++ ps_w q 10 AA s6.2) sz (fun u : (Nat → Nat → Nat) × Bd × Mo × Pa => ((fo_w (a0 0) (a1 0) (a2 0) (a3 0) (a4 0) (a5 0) p8 s8 ++ bd_w a2 q u.2.1 ++ mo_w a4 q u.2.2.1 ++ pa_o p8 p9 u.2.2.2 ++ pa_r p9 q 10 u.1 u.2.2.2.2) ++ ps_w q 10 u.1 u.2.2.2.2))) (va_A ((fo_w (a0 0) (a1 0) (a2 0) (a3 0) (a4 0) (a5 0) p8 s8 ++ bd_w a2 q s2 ++ mo_w a4 q s4 ++ pa_o p8 p9 s6 ++ pa_r p9 q 10 AA s6.2) ++ ps_w q 10 AA s6.2) sz)) 14 6906 (va_A ((fo_w (a0 0) (a1 0) (a2 0) (a3 0) (a4 0) (a5 0) p8 s8 ++ bd_w a2 q s2 ++ mo_w a4 q s4 ++ pa_o p8 p9 s6 ++ pa_r p9 q 10 AA s6.2) ++ ps_w q 10 AA s6.2) sz) := by
  refine mt_start (by decide) (Nat.le_of_ble_eq_true rfl) ?_
  intro p e s m below meth c ls hx hb hr hml hown ht hk hin hP hQ hD hA hS hV hl
  have hK := hQ.1
  have hown : s.vm.findClass RX6 = some m.cls := hown
  have hl : lv_has ls 1 [(0, .ref (a0 0))] := hl
  have hP : va_P D vwCl (([((a0 0), .inr (5, [.ref (a1 0), .ref (a2 0), .ref (a3 0), .ref (a4 0), .ref (a5 0), .ref p8, .ref s8])), ((a2 0), .inr (0, [.int (s2.1 0), .int (s2.1 1), .int (s2.1 2), .int (s2.1 3), .int (s2.1 4), .int (s2.1 5), .ref (a2 1), .ref (a2 2), .ref (a2 3), .ref (a2 4), .ref (a2 5), .ref (a2 6), .ref (a2 7), .ref (a2 8), .ref (a2 9), .ref (a2 10), .ref (a2 11), .ref (a2 12)])), ((a2 1), .inl (q 0, 4, .inl (s2.2.1 0))), ((a2 2), .inl (q 0, 4, .inl (s2.2.1 1))), ((a2 3), .inl (q 0, 160, .inl (s2.2.1 2))), ((a2 4), .inl (q 0, 40, .inl (s2.2.1 3))), ((a2 5), .inl (q 0, 40, .inl (s2.2.1 4))), ((a2 6), .inl (q 0, 40, .inl (s2.2.1 5))), ((a2 7), .inl (q 0, 40, .inl (s2.2.1 6))), ((a2 8), .inl (q 0, 40, .inl (s2.2.1 7))), ((a2 9), .inl (q 0, 40, .inl (s2.2.1 8))), ((a2 10), .inl (q 0, 40, .inl (s2.2.1 9))), ((a2 11), .inl (q 1, 40, .inr (.inl s2.2.2.1))), ((a2 12), .inl (q 0, s2.2.2.2.1, .inl s2.2.2.2.2)), ((a4 0), .inr (1, [.ref (a4 1), .ref (a4 2), .ref (a4 3), .int (s4.1 0), .int (s4.1 1), .int (s4.1 2), .int (s4.1 3), .int (s4.1 4), .int (s4.1 5), .int (s4.1 6), .int (s4.1 7), .int (s4.1 8)])), ((a4 1), .inl (q 0, 40, .inl (s4.2 0))), ((a4 2), .inl (q 0, 40, .inl (s4.2 1))), ((a4 3), .inl (q 0, 40, .inl (s4.2 2))), (p8, .inr (2, [.ref p9, .int (s6.1 0), .int (s6.1 1)])), (p9, .inl (q 4, 10, .inr (.inr (.inr (.inr (pf_f AA s6.2))))))] : va_W) ++ ps_w q 10 AA s6.2) s.heap := hP
  have hD : va_D _ (([((a0 0), .inr (5, [.ref (a1 0), .ref (a2 0), .ref (a3 0), .ref (a4 0), .ref (a5 0), .ref p8, .ref s8])), ((a2 0), .inr (0, [.int (s2.1 0), .int (s2.1 1), .int (s2.1 2), .int (s2.1 3), .int (s2.1 4), .int (s2.1 5), .ref (a2 1), .ref (a2 2), .ref (a2 3), .ref (a2 4), .ref (a2 5), .ref (a2 6), .ref (a2 7), .ref (a2 8), .ref (a2 9), .ref (a2 10), .ref (a2 11), .ref (a2 12)])), ((a2 1), .inl (q 0, 4, .inl (s2.2.1 0))), ((a2 2), .inl (q 0, 4, .inl (s2.2.1 1))), ((a2 3), .inl (q 0, 160, .inl (s2.2.1 2))), ((a2 4), .inl (q 0, 40, .inl (s2.2.1 3))), ((a2 5), .inl (q 0, 40, .inl (s2.2.1 4))), ((a2 6), .inl (q 0, 40, .inl (s2.2.1 5))), ((a2 7), .inl (q 0, 40, .inl (s2.2.1 6))), ((a2 8), .inl (q 0, 40, .inl (s2.2.1 7))), ((a2 9), .inl (q 0, 40, .inl (s2.2.1 8))), ((a2 10), .inl (q 0, 40, .inl (s2.2.1 9))), ((a2 11), .inl (q 1, 40, .inr (.inl s2.2.2.1))), ((a2 12), .inl (q 0, s2.2.2.2.1, .inl s2.2.2.2.2)), ((a4 0), .inr (1, [.ref (a4 1), .ref (a4 2), .ref (a4 3), .int (s4.1 0), .int (s4.1 1), .int (s4.1 2), .int (s4.1 3), .int (s4.1 4), .int (s4.1 5), .int (s4.1 6), .int (s4.1 7), .int (s4.1 8)])), ((a4 1), .inl (q 0, 40, .inl (s4.2 0))), ((a4 2), .inl (q 0, 40, .inl (s4.2 1))), ((a4 3), .inl (q 0, 40, .inl (s4.2 2))), (p8, .inr (2, [.ref p9, .int (s6.1 0), .int (s6.1 1)])), (p9, .inl (q 4, 10, .inr (.inr (.inr (.inr (pf_f AA s6.2))))))] : va_W) ++ ps_w q 10 AA s6.2) := hD
  unfold wp_X6_settle at h
  refine lv_aload_n hx hb dX6_settle_0 rfl (lv_at hl 0 rfl) ?_
  refine fl_get (C := RX6) (T := TX6) (N := 7) (ci := 5) (v := .ref (a2 0)) hx hb ht in_X6 hown hK hP 0 rfl rfl 1 (by decide) mw_356 rfl dX6_settle_1 ?_
  refine vp_callSi (rd_wV (wc := bd_w a2 q s2) (As := []) (rest := []) hx hb hml hown ht (c2_X0_isThere h) wd_X0_isThere mw_677 hQ hV hS (hP.sub [1, 2, 3, 4, 5, 6, 7, 8, 9, 10, 11, 12, 13] rfl) rfl rfl rfl hl.1 rfl (Nat.le_of_ble_eq_true rfl) dX6_settle_4 ⟨Nat.le_of_ble_eq_true rfl, Nat.le_of_ble_eq_true rfl, rfl, rfl⟩ ⟨Nat.le_of_ble_eq_true rfl, Nat.le_of_ble_eq_true rfl⟩) (fun r_1 h => ?_)
  try dsimp only at h
  refine lv_if_ne (tgt := 12) hx hb dX6_settle_7 (by decide) (fun c_3 => ?_) (fun c_3 => ?_)
  · replace h := h.1 c_3
    refine lv_aload_n hx hb dX6_settle_12 rfl (lv_at hl 0 rfl) ?_
    refine fl_get (C := RX6) (T := TX6) (N := 7) (ci := 5) (v := .ref (a4 0)) hx hb ht in_X6 hown hK hP 0 rfl rfl 3 (by decide) mw_358 rfl dX6_settle_13 ?_
    refine lv_aload_n hx hb dX6_settle_16 rfl (lv_at hl 0 rfl) ?_
    refine fl_get (C := RX6) (T := TX6) (N := 7) (ci := 5) (v := .ref (a2 0)) hx hb ht in_X6 hown hK hP 0 rfl rfl 1 (by decide) mw_356 rfl dX6_settle_17 ?_
    refine mt_govQ (X := [((a0 0), .inr (5, [.ref (a1 0), .ref (a2 0), .ref (a3 0), .ref (a4 0), .ref (a5 0), .ref p8, .ref s8])), ((a2 0), .inr (0, [.int (s2.1 0), .int (s2.1 1), .int (s2.1 2), .int (s2.1 3), .int (s2.1 4), .int (s2.1 5), .ref (a2 1), .ref (a2 2), .ref (a2 3), .ref (a2 4), .ref (a2 5), .ref (a2 6), .ref (a2 7), .ref (a2 8), .ref (a2 9), .ref (a2 10), .ref (a2 11), .ref (a2 12)])), ((a2 1), .inl (q 0, 4, .inl (s2.2.1 0))), ((a2 2), .inl (q 0, 4, .inl (s2.2.1 1))), ((a2 3), .inl (q 0, 160, .inl (s2.2.1 2))), ((a2 4), .inl (q 0, 40, .inl (s2.2.1 3))), ((a2 5), .inl (q 0, 40, .inl (s2.2.1 4))), ((a2 6), .inl (q 0, 40, .inl (s2.2.1 5))), ((a2 7), .inl (q 0, 40, .inl (s2.2.1 6))), ((a2 8), .inl (q 0, 40, .inl (s2.2.1 7))), ((a2 9), .inl (q 0, 40, .inl (s2.2.1 8))), ((a2 10), .inl (q 0, 40, .inl (s2.2.1 9))), ((a2 11), .inl (q 1, 40, .inr (.inl s2.2.2.1))), ((a2 12), .inl (q 0, s2.2.2.2.1, .inl s2.2.2.2.2)), ((a4 0), .inr (1, [.ref (a4 1), .ref (a4 2), .ref (a4 3), .int (s4.1 0), .int (s4.1 1), .int (s4.1 2), .int (s4.1 3), .int (s4.1 4), .int (s4.1 5), .int (s4.1 6), .int (s4.1 7), .int (s4.1 8)])), ((a4 1), .inl (q 0, 40, .inl (s4.2 0))), ((a4 2), .inl (q 0, 40, .inl (s4.2 1))), ((a4 3), .inl (q 0, 40, .inl (s4.2 2))), (p8, .inr (2, [.ref p9, .int (s6.1 0), .int (s6.1 1)])), (p9, .inl (q 4, 10, .inr (.inr (.inr (.inr (pf_f AA s6.2))))))]) (pl := ps_w q 10 AA s6.2) (mt_wV (wc := mo_w a4 q s4 ++ bd_w a2 q s2) (As := [.ref (a2 0)]) (rest := []) hx hb hml hown ht (c2_X2_choose h) wd_X2_choose mw_725 hQ hV hS hA (hP.sub [14, 15, 16, 17, 1, 2, 3, 4, 5, 6, 7, 8, 9, 10, 11, 12, 13] rfl) (hD.sub [14, 15, 16, 17, 1, 2, 3, 4, 5, 6, 7, 8, 9, 10, 11, 12, 13] (by decide) rfl) rfl rfl rfl hl.1 rfl (Nat.le_of_ble_eq_true rfl) dX6_settle_20 ⟨Nat.le_of_ble_eq_true rfl, Nat.le_of_ble_eq_true rfl, rfl, rfl⟩ ⟨Nat.le_of_ble_eq_true rfl, Nat.le_of_ble_eq_true rfl⟩) (wr := [((a0 0), .inr (5, [.ref (a1 0), .ref (a2 0), .ref (a3 0), .ref (a4 0), .ref (a5 0), .ref p8, .ref s8])), (p8, .inr (2, [.ref p9, .int (s6.1 0), .int (s6.1 1)])), (p9, .inl (q 4, 10, .inr (.inr (.inr (.inr (pf_f AA s6.2))))))]) hP hD hS hA [14, 15, 16, 17, 1, 2, 3, 4, 5, 6, 7, 8, 9, 10, 11, 12, 13] [0, 18, 19] rfl rfl (by decide) (by decide) (fun u_5 H locs h hP hD hS => ?_)
    try dsimp only at h
    have hP : va_P D vwCl (([((a0 0), .inr (5, [.ref (a1 0), .ref (a2 0), .ref (a3 0), .ref (a4 0), .ref (a5 0), .ref p8, .ref s8])), (p8, .inr (2, [.ref p9, .int (s6.1 0), .int (s6.1 1)])), (p9, .inl (q 4, 10, .inr (.inr (.inr (.inr (pf_f AA s6.2)))))), ((a4 0), .inr (1, [.ref (a4 1), .ref (a4 2), .ref (a4 3), .int (u_5.1 0), .int (u_5.1 1), .int (u_5.1 2), .int (u_5.1 3), .int (u_5.1 4), .int (u_5.1 5), .int (u_5.1 6), .int (u_5.1 7), .int (u_5.1 8)])), ((a4 1), .inl (q 0, 40, .inl (u_5.2 0))), ((a4 2), .inl (q 0, 40, .inl (u_5.2 1))), ((a4 3), .inl (q 0, 40, .inl (u_5.2 2))), ((a2 0), .inr (0, [.int (s2.1 0), .int (s2.1 1), .int (s2.1 2), .int (s2.1 3), .int (s2.1 4), .int (s2.1 5), .ref (a2 1), .ref (a2 2), .ref (a2 3), .ref (a2 4), .ref (a2 5), .ref (a2 6), .ref (a2 7), .ref (a2 8), .ref (a2 9), .ref (a2 10), .ref (a2 11), .ref (a2 12)])), ((a2 1), .inl (q 0, 4, .inl (s2.2.1 0))), ((a2 2), .inl (q 0, 4, .inl (s2.2.1 1))), ((a2 3), .inl (q 0, 160, .inl (s2.2.1 2))), ((a2 4), .inl (q 0, 40, .inl (s2.2.1 3))), ((a2 5), .inl (q 0, 40, .inl (s2.2.1 4))), ((a2 6), .inl (q 0, 40, .inl (s2.2.1 5))), ((a2 7), .inl (q 0, 40, .inl (s2.2.1 6))), ((a2 8), .inl (q 0, 40, .inl (s2.2.1 7))), ((a2 9), .inl (q 0, 40, .inl (s2.2.1 8))), ((a2 10), .inl (q 0, 40, .inl (s2.2.1 9))), ((a2 11), .inl (q 1, 40, .inr (.inl s2.2.2.1))), ((a2 12), .inl (q 0, s2.2.2.2.1, .inl s2.2.2.2.2))] : va_W) ++ ps_w q 10 AA s6.2) H := hP
    have hD : va_D _ (([((a0 0), .inr (5, [.ref (a1 0), .ref (a2 0), .ref (a3 0), .ref (a4 0), .ref (a5 0), .ref p8, .ref s8])), (p8, .inr (2, [.ref p9, .int (s6.1 0), .int (s6.1 1)])), (p9, .inl (q 4, 10, .inr (.inr (.inr (.inr (pf_f AA s6.2)))))), ((a4 0), .inr (1, [.ref (a4 1), .ref (a4 2), .ref (a4 3), .int (u_5.1 0), .int (u_5.1 1), .int (u_5.1 2), .int (u_5.1 3), .int (u_5.1 4), .int (u_5.1 5), .int (u_5.1 6), .int (u_5.1 7), .int (u_5.1 8)])), ((a4 1), .inl (q 0, 40, .inl (u_5.2 0))), ((a4 2), .inl (q 0, 40, .inl (u_5.2 1))), ((a4 3), .inl (q 0, 40, .inl (u_5.2 2))), ((a2 0), .inr (0, [.int (s2.1 0), .int (s2.1 1), .int (s2.1 2), .int (s2.1 3), .int (s2.1 4), .int (s2.1 5), .ref (a2 1), .ref (a2 2), .ref (a2 3), .ref (a2 4), .ref (a2 5), .ref (a2 6), .ref (a2 7), .ref (a2 8), .ref (a2 9), .ref (a2 10), .ref (a2 11), .ref (a2 12)])), ((a2 1), .inl (q 0, 4, .inl (s2.2.1 0))), ((a2 2), .inl (q 0, 4, .inl (s2.2.1 1))), ((a2 3), .inl (q 0, 160, .inl (s2.2.1 2))), ((a2 4), .inl (q 0, 40, .inl (s2.2.1 3))), ((a2 5), .inl (q 0, 40, .inl (s2.2.1 4))), ((a2 6), .inl (q 0, 40, .inl (s2.2.1 5))), ((a2 7), .inl (q 0, 40, .inl (s2.2.1 6))), ((a2 8), .inl (q 0, 40, .inl (s2.2.1 7))), ((a2 9), .inl (q 0, 40, .inl (s2.2.1 8))), ((a2 10), .inl (q 0, 40, .inl (s2.2.1 9))), ((a2 11), .inl (q 1, 40, .inr (.inl s2.2.2.1))), ((a2 12), .inl (q 0, s2.2.2.2.1, .inl s2.2.2.2.2))] : va_W) ++ ps_w q 10 AA s6.2) := hD
    refine lv_aload_n hx hb dX6_settle_23 rfl (lv_at hl 0 rfl) ?_
    refine fl_get (C := RX6) (T := TX6) (N := 7) (ci := 5) (v := .ref (a4 0)) hx hb ht in_X6 hown hK hP 0 rfl rfl 3 (by decide) mw_358 rfl dX6_settle_24 ?_
    refine fl_get (C := RX2) (T := TX2) (N := 12) (ci := 1) (v := .int (u_5.1 0)) hx hb ht in_X2 hown hK hP 3 rfl rfl 3 (by decide) mw_257 rfl dX6_settle_27 ?_
    refine lv_if_ne (tgt := 36) hx hb dX6_settle_30 (by decide) (fun c_6 => ?_) (fun c_6 => ?_)
    · replace h := h.1 c_6
      refine lv_aload_n hx hb dX6_settle_36 rfl (lv_at hl 0 rfl) ?_
      refine fl_get (C := RX6) (T := TX6) (N := 7) (ci := 5) (v := .ref p8) hx hb ht in_X6 hown hK hP 0 rfl rfl 5 (by decide) mw_360 rfl dX6_settle_37 ?_
      refine lv_aload_n hx hb dX6_settle_40 rfl (lv_at hl 0 rfl) ?_
      refine fl_get (C := RX6) (T := TX6) (N := 7) (ci := 5) (v := .ref (a2 0)) hx hb ht in_X6 hown hK hP 0 rfl rfl 1 (by decide) mw_356 rfl dX6_settle_41 ?_
      refine mt_govP (X := [((a0 0), .inr (5, [.ref (a1 0), .ref (a2 0), .ref (a3 0), .ref (a4 0), .ref (a5 0), .ref p8, .ref s8])), (p8, .inr (2, [.ref p9, .int (s6.1 0), .int (s6.1 1)])), (p9, .inl (q 4, 10, .inr (.inr (.inr (.inr (pf_f AA s6.2)))))), ((a4 0), .inr (1, [.ref (a4 1), .ref (a4 2), .ref (a4 3), .int (u_5.1 0), .int (u_5.1 1), .int (u_5.1 2), .int (u_5.1 3), .int (u_5.1 4), .int (u_5.1 5), .int (u_5.1 6), .int (u_5.1 7), .int (u_5.1 8)])), ((a4 1), .inl (q 0, 40, .inl (u_5.2 0))), ((a4 2), .inl (q 0, 40, .inl (u_5.2 1))), ((a4 3), .inl (q 0, 40, .inl (u_5.2 2))), ((a2 0), .inr (0, [.int (s2.1 0), .int (s2.1 1), .int (s2.1 2), .int (s2.1 3), .int (s2.1 4), .int (s2.1 5), .ref (a2 1), .ref (a2 2), .ref (a2 3), .ref (a2 4), .ref (a2 5), .ref (a2 6), .ref (a2 7), .ref (a2 8), .ref (a2 9), .ref (a2 10), .ref (a2 11), .ref (a2 12)])), ((a2 1), .inl (q 0, 4, .inl (s2.2.1 0))), ((a2 2), .inl (q 0, 4, .inl (s2.2.1 1))), ((a2 3), .inl (q 0, 160, .inl (s2.2.1 2))), ((a2 4), .inl (q 0, 40, .inl (s2.2.1 3))), ((a2 5), .inl (q 0, 40, .inl (s2.2.1 4))), ((a2 6), .inl (q 0, 40, .inl (s2.2.1 5))), ((a2 7), .inl (q 0, 40, .inl (s2.2.1 6))), ((a2 8), .inl (q 0, 40, .inl (s2.2.1 7))), ((a2 9), .inl (q 0, 40, .inl (s2.2.1 8))), ((a2 10), .inl (q 0, 40, .inl (s2.2.1 9))), ((a2 11), .inl (q 1, 40, .inr (.inl s2.2.2.1))), ((a2 12), .inl (q 0, s2.2.2.2.1, .inl s2.2.2.2.2))]) (pl := ps_w q 10 AA s6.2) (mt_wV (wc := (pa_o p8 p9 s6 ++ pa_r p9 q 10 AA s6.2 ++ bd_w a2 q s2) ++ ps_w q 10 AA s6.2) (As := [.ref (a2 0)]) (rest := []) hx hb hml hown ht (c2_X3_push (a0 := va_up (fun _ => p9) 0 p8) h) wd_X3_push mw_631 hQ hV hS hA (hP.part (cx := (pa_o p8 p9 s6 ++ pa_r p9 q 10 AA s6.2 ++ bd_w a2 q s2)) [1, 2, 7, 8, 9, 10, 11, 12, 13, 14, 15, 16, 17, 18, 19] rfl) (hD.part (cx := (pa_o p8 p9 s6 ++ pa_r p9 q 10 AA s6.2 ++ bd_w a2 q s2)) [1, 2, 7, 8, 9, 10, 11, 12, 13, 14, 15, 16, 17, 18, 19] (by decide) rfl) rfl rfl rfl hl.1 rfl (Nat.le_of_ble_eq_true rfl) dX6_settle_44 ⟨Nat.le_of_ble_eq_true rfl, Nat.le_of_ble_eq_true rfl, rfl, rfl⟩ ⟨Nat.le_of_ble_eq_true rfl, Nat.le_of_ble_eq_true rfl⟩) (wr := [((a0 0), .inr (5, [.ref (a1 0), .ref (a2 0), .ref (a3 0), .ref (a4 0), .ref (a5 0), .ref p8, .ref s8])), ((a4 0), .inr (1, [.ref (a4 1), .ref (a4 2), .ref (a4 3), .int (u_5.1 0), .int (u_5.1 1), .int (u_5.1 2), .int (u_5.1 3), .int (u_5.1 4), .int (u_5.1 5), .int (u_5.1 6), .int (u_5.1 7), .int (u_5.1 8)])), ((a4 1), .inl (q 0, 40, .inl (u_5.2 0))), ((a4 2), .inl (q 0, 40, .inl (u_5.2 1))), ((a4 3), .inl (q 0, 40, .inl (u_5.2 2)))]) hP hD hS hA [1, 2, 7, 8, 9, 10, 11, 12, 13, 14, 15, 16, 17, 18, 19] [0, 3, 4, 5, 6] rfl rfl (by decide) (by decide) (fun u_7 H locs h hP hD hS => ?_)
      obtain ⟨A_10, s_9⟩ := u_7
      try dsimp only at h
      have hP : va_P D vwCl (([((a0 0), .inr (5, [.ref (a1 0), .ref (a2 0), .ref (a3 0), .ref (a4 0), .ref (a5 0), .ref p8, .ref s8])), ((a4 0), .inr (1, [.ref (a4 1), .ref (a4 2), .ref (a4 3), .int (u_5.1 0), .int (u_5.1 1), .int (u_5.1 2), .int (u_5.1 3), .int (u_5.1 4), .int (u_5.1 5), .int (u_5.1 6), .int (u_5.1 7), .int (u_5.1 8)])), ((a4 1), .inl (q 0, 40, .inl (u_5.2 0))), ((a4 2), .inl (q 0, 40, .inl (u_5.2 1))), ((a4 3), .inl (q 0, 40, .inl (u_5.2 2))), (p8, .inr (2, [.ref p9, .int (s_9.1 0), .int (s_9.1 1)])), (p9, .inl (q 4, 10, .inr (.inr (.inr (.inr (pf_f A_10 s_9.2)))))), ((a2 0), .inr (0, [.int (s2.1 0), .int (s2.1 1), .int (s2.1 2), .int (s2.1 3), .int (s2.1 4), .int (s2.1 5), .ref (a2 1), .ref (a2 2), .ref (a2 3), .ref (a2 4), .ref (a2 5), .ref (a2 6), .ref (a2 7), .ref (a2 8), .ref (a2 9), .ref (a2 10), .ref (a2 11), .ref (a2 12)])), ((a2 1), .inl (q 0, 4, .inl (s2.2.1 0))), ((a2 2), .inl (q 0, 4, .inl (s2.2.1 1))), ((a2 3), .inl (q 0, 160, .inl (s2.2.1 2))), ((a2 4), .inl (q 0, 40, .inl (s2.2.1 3))), ((a2 5), .inl (q 0, 40, .inl (s2.2.1 4))), ((a2 6), .inl (q 0, 40, .inl (s2.2.1 5))), ((a2 7), .inl (q 0, 40, .inl (s2.2.1 6))), ((a2 8), .inl (q 0, 40, .inl (s2.2.1 7))), ((a2 9), .inl (q 0, 40, .inl (s2.2.1 8))), ((a2 10), .inl (q 0, 40, .inl (s2.2.1 9))), ((a2 11), .inl (q 1, 40, .inr (.inl s2.2.2.1))), ((a2 12), .inl (q 0, s2.2.2.2.1, .inl s2.2.2.2.2))] : va_W) ++ ps_w q 10 A_10 s_9.2) H := hP
      have hD : va_D _ (([((a0 0), .inr (5, [.ref (a1 0), .ref (a2 0), .ref (a3 0), .ref (a4 0), .ref (a5 0), .ref p8, .ref s8])), ((a4 0), .inr (1, [.ref (a4 1), .ref (a4 2), .ref (a4 3), .int (u_5.1 0), .int (u_5.1 1), .int (u_5.1 2), .int (u_5.1 3), .int (u_5.1 4), .int (u_5.1 5), .int (u_5.1 6), .int (u_5.1 7), .int (u_5.1 8)])), ((a4 1), .inl (q 0, 40, .inl (u_5.2 0))), ((a4 2), .inl (q 0, 40, .inl (u_5.2 1))), ((a4 3), .inl (q 0, 40, .inl (u_5.2 2))), (p8, .inr (2, [.ref p9, .int (s_9.1 0), .int (s_9.1 1)])), (p9, .inl (q 4, 10, .inr (.inr (.inr (.inr (pf_f A_10 s_9.2)))))), ((a2 0), .inr (0, [.int (s2.1 0), .int (s2.1 1), .int (s2.1 2), .int (s2.1 3), .int (s2.1 4), .int (s2.1 5), .ref (a2 1), .ref (a2 2), .ref (a2 3), .ref (a2 4), .ref (a2 5), .ref (a2 6), .ref (a2 7), .ref (a2 8), .ref (a2 9), .ref (a2 10), .ref (a2 11), .ref (a2 12)])), ((a2 1), .inl (q 0, 4, .inl (s2.2.1 0))), ((a2 2), .inl (q 0, 4, .inl (s2.2.1 1))), ((a2 3), .inl (q 0, 160, .inl (s2.2.1 2))), ((a2 4), .inl (q 0, 40, .inl (s2.2.1 3))), ((a2 5), .inl (q 0, 40, .inl (s2.2.1 4))), ((a2 6), .inl (q 0, 40, .inl (s2.2.1 5))), ((a2 7), .inl (q 0, 40, .inl (s2.2.1 6))), ((a2 8), .inl (q 0, 40, .inl (s2.2.1 7))), ((a2 9), .inl (q 0, 40, .inl (s2.2.1 8))), ((a2 10), .inl (q 0, 40, .inl (s2.2.1 9))), ((a2 11), .inl (q 1, 40, .inr (.inl s2.2.2.1))), ((a2 12), .inl (q 0, s2.2.2.2.1, .inl s2.2.2.2.2))] : va_W) ++ ps_w q 10 A_10 s_9.2) := hD
      refine W.widen (k := 14) (n := 6906) (Nat.le_of_ble_eq_true rfl) (Nat.le_of_ble_eq_true rfl) ?_
      refine lv_aload_n hx hb dX6_settle_47 rfl (lv_at hl 0 rfl) ?_
      refine fl_get (C := RX6) (T := TX6) (N := 7) (ci := 5) (v := .ref (a4 0)) hx hb ht in_X6 hown hK hP 0 rfl rfl 3 (by decide) mw_358 rfl dX6_settle_48 ?_
      refine lv_aload_n hx hb dX6_settle_51 rfl (lv_at hl 0 rfl) ?_
      refine fl_get (C := RX6) (T := TX6) (N := 7) (ci := 5) (v := .ref (a2 0)) hx hb ht in_X6 hown hK hP 0 rfl rfl 1 (by decide) mw_356 rfl dX6_settle_52 ?_
      refine lv_sipush (v := 9999) hx hb dX6_settle_55 (by decide) ?_
      refine mt_govQ (X := [((a0 0), .inr (5, [.ref (a1 0), .ref (a2 0), .ref (a3 0), .ref (a4 0), .ref (a5 0), .ref p8, .ref s8])), ((a4 0), .inr (1, [.ref (a4 1), .ref (a4 2), .ref (a4 3), .int (u_5.1 0), .int (u_5.1 1), .int (u_5.1 2), .int (u_5.1 3), .int (u_5.1 4), .int (u_5.1 5), .int (u_5.1 6), .int (u_5.1 7), .int (u_5.1 8)])), ((a4 1), .inl (q 0, 40, .inl (u_5.2 0))), ((a4 2), .inl (q 0, 40, .inl (u_5.2 1))), ((a4 3), .inl (q 0, 40, .inl (u_5.2 2))), (p8, .inr (2, [.ref p9, .int (s_9.1 0), .int (s_9.1 1)])), (p9, .inl (q 4, 10, .inr (.inr (.inr (.inr (pf_f A_10 s_9.2)))))), ((a2 0), .inr (0, [.int (s2.1 0), .int (s2.1 1), .int (s2.1 2), .int (s2.1 3), .int (s2.1 4), .int (s2.1 5), .ref (a2 1), .ref (a2 2), .ref (a2 3), .ref (a2 4), .ref (a2 5), .ref (a2 6), .ref (a2 7), .ref (a2 8), .ref (a2 9), .ref (a2 10), .ref (a2 11), .ref (a2 12)])), ((a2 1), .inl (q 0, 4, .inl (s2.2.1 0))), ((a2 2), .inl (q 0, 4, .inl (s2.2.1 1))), ((a2 3), .inl (q 0, 160, .inl (s2.2.1 2))), ((a2 4), .inl (q 0, 40, .inl (s2.2.1 3))), ((a2 5), .inl (q 0, 40, .inl (s2.2.1 4))), ((a2 6), .inl (q 0, 40, .inl (s2.2.1 5))), ((a2 7), .inl (q 0, 40, .inl (s2.2.1 6))), ((a2 8), .inl (q 0, 40, .inl (s2.2.1 7))), ((a2 9), .inl (q 0, 40, .inl (s2.2.1 8))), ((a2 10), .inl (q 0, 40, .inl (s2.2.1 9))), ((a2 11), .inl (q 1, 40, .inr (.inl s2.2.2.1))), ((a2 12), .inl (q 0, s2.2.2.2.1, .inl s2.2.2.2.2))]) (pl := ps_w q 10 A_10 s_9.2) (mt_wV (wc := mo_w a4 q u_5 ++ bd_w a2 q s2) (As := [.ref (a2 0), .int 9999]) (rest := []) hx hb hml hown ht (c2_X2_turn h) wd_X2_turn mw_681 hQ hV hS hA (hP.sub [1, 2, 3, 4, 7, 8, 9, 10, 11, 12, 13, 14, 15, 16, 17, 18, 19] rfl) (hD.sub [1, 2, 3, 4, 7, 8, 9, 10, 11, 12, 13, 14, 15, 16, 17, 18, 19] (by decide) rfl) rfl rfl rfl hl.1 rfl (Nat.le_of_ble_eq_true rfl) dX6_settle_58 ⟨Nat.le_of_ble_eq_true rfl, Nat.le_of_ble_eq_true rfl, rfl, rfl⟩ ⟨Nat.le_of_ble_eq_true rfl, Nat.le_of_ble_eq_true rfl⟩) (wr := [((a0 0), .inr (5, [.ref (a1 0), .ref (a2 0), .ref (a3 0), .ref (a4 0), .ref (a5 0), .ref p8, .ref s8])), (p8, .inr (2, [.ref p9, .int (s_9.1 0), .int (s_9.1 1)])), (p9, .inl (q 4, 10, .inr (.inr (.inr (.inr (pf_f A_10 s_9.2))))))]) hP hD hS hA [1, 2, 3, 4, 7, 8, 9, 10, 11, 12, 13, 14, 15, 16, 17, 18, 19] [0, 5, 6] rfl rfl (by decide) (by decide) (fun u_14 H locs h hP hD hS => ?_)
      obtain ⟨u_14a, u_14b⟩ := u_14
      try dsimp only at h
      have hP : va_P D vwCl (([((a0 0), .inr (5, [.ref (a1 0), .ref (a2 0), .ref (a3 0), .ref (a4 0), .ref (a5 0), .ref p8, .ref s8])), (p8, .inr (2, [.ref p9, .int (s_9.1 0), .int (s_9.1 1)])), (p9, .inl (q 4, 10, .inr (.inr (.inr (.inr (pf_f A_10 s_9.2)))))), ((a4 0), .inr (1, [.ref (a4 1), .ref (a4 2), .ref (a4 3), .int (u_14a.1 0), .int (u_14a.1 1), .int (u_14a.1 2), .int (u_14a.1 3), .int (u_14a.1 4), .int (u_14a.1 5), .int (u_14a.1 6), .int (u_14a.1 7), .int (u_14a.1 8)])), ((a4 1), .inl (q 0, 40, .inl (u_14a.2 0))), ((a4 2), .inl (q 0, 40, .inl (u_14a.2 1))), ((a4 3), .inl (q 0, 40, .inl (u_14a.2 2))), ((a2 0), .inr (0, [.int (u_14b.1 0), .int (u_14b.1 1), .int (u_14b.1 2), .int (u_14b.1 3), .int (u_14b.1 4), .int (u_14b.1 5), .ref (a2 1), .ref (a2 2), .ref (a2 3), .ref (a2 4), .ref (a2 5), .ref (a2 6), .ref (a2 7), .ref (a2 8), .ref (a2 9), .ref (a2 10), .ref (a2 11), .ref (a2 12)])), ((a2 1), .inl (q 0, 4, .inl (u_14b.2.1 0))), ((a2 2), .inl (q 0, 4, .inl (u_14b.2.1 1))), ((a2 3), .inl (q 0, 160, .inl (u_14b.2.1 2))), ((a2 4), .inl (q 0, 40, .inl (u_14b.2.1 3))), ((a2 5), .inl (q 0, 40, .inl (u_14b.2.1 4))), ((a2 6), .inl (q 0, 40, .inl (u_14b.2.1 5))), ((a2 7), .inl (q 0, 40, .inl (u_14b.2.1 6))), ((a2 8), .inl (q 0, 40, .inl (u_14b.2.1 7))), ((a2 9), .inl (q 0, 40, .inl (u_14b.2.1 8))), ((a2 10), .inl (q 0, 40, .inl (u_14b.2.1 9))), ((a2 11), .inl (q 1, 40, .inr (.inl u_14b.2.2.1))), ((a2 12), .inl (q 0, u_14b.2.2.2.1, .inl u_14b.2.2.2.2))] : va_W) ++ ps_w q 10 A_10 s_9.2) H := hP
      have hD : va_D _ (([((a0 0), .inr (5, [.ref (a1 0), .ref (a2 0), .ref (a3 0), .ref (a4 0), .ref (a5 0), .ref p8, .ref s8])), (p8, .inr (2, [.ref p9, .int (s_9.1 0), .int (s_9.1 1)])), (p9, .inl (q 4, 10, .inr (.inr (.inr (.inr (pf_f A_10 s_9.2)))))), ((a4 0), .inr (1, [.ref (a4 1), .ref (a4 2), .ref (a4 3), .int (u_14a.1 0), .int (u_14a.1 1), .int (u_14a.1 2), .int (u_14a.1 3), .int (u_14a.1 4), .int (u_14a.1 5), .int (u_14a.1 6), .int (u_14a.1 7), .int (u_14a.1 8)])), ((a4 1), .inl (q 0, 40, .inl (u_14a.2 0))), ((a4 2), .inl (q 0, 40, .inl (u_14a.2 1))), ((a4 3), .inl (q 0, 40, .inl (u_14a.2 2))), ((a2 0), .inr (0, [.int (u_14b.1 0), .int (u_14b.1 1), .int (u_14b.1 2), .int (u_14b.1 3), .int (u_14b.1 4), .int (u_14b.1 5), .ref (a2 1), .ref (a2 2), .ref (a2 3), .ref (a2 4), .ref (a2 5), .ref (a2 6), .ref (a2 7), .ref (a2 8), .ref (a2 9), .ref (a2 10), .ref (a2 11), .ref (a2 12)])), ((a2 1), .inl (q 0, 4, .inl (u_14b.2.1 0))), ((a2 2), .inl (q 0, 4, .inl (u_14b.2.1 1))), ((a2 3), .inl (q 0, 160, .inl (u_14b.2.1 2))), ((a2 4), .inl (q 0, 40, .inl (u_14b.2.1 3))), ((a2 5), .inl (q 0, 40, .inl (u_14b.2.1 4))), ((a2 6), .inl (q 0, 40, .inl (u_14b.2.1 5))), ((a2 7), .inl (q 0, 40, .inl (u_14b.2.1 6))), ((a2 8), .inl (q 0, 40, .inl (u_14b.2.1 7))), ((a2 9), .inl (q 0, 40, .inl (u_14b.2.1 8))), ((a2 10), .inl (q 0, 40, .inl (u_14b.2.1 9))), ((a2 11), .inl (q 1, 40, .inr (.inl u_14b.2.2.1))), ((a2 12), .inl (q 0, u_14b.2.2.2.1, .inl u_14b.2.2.2.2))] : va_W) ++ ps_w q 10 A_10 s_9.2) := hD
      refine lv_aload_n hx hb dX6_settle_61 rfl (lv_at hl 0 rfl) ?_
      refine fl_get (C := RX6) (T := TX6) (N := 7) (ci := 5) (v := .ref (a4 0)) hx hb ht in_X6 hown hK hP 0 rfl rfl 3 (by decide) mw_358 rfl dX6_settle_62 ?_
      refine fl_get (C := RX2) (T := TX2) (N := 12) (ci := 1) (v := .int (u_14a.1 2)) hx hb ht in_X2 hown hK hP 3 rfl rfl 5 (by decide) mw_260 rfl dX6_settle_65 ?_
      have hP := hP.part (cx := [((a0 0), .inr (5, [.ref (a1 0), .ref (a2 0), .ref (a3 0), .ref (a4 0), .ref (a5 0), .ref p8, .ref s8])), ((a2 0), .inr (0, [.int (u_14b.1 0), .int (u_14b.1 1), .int (u_14b.1 2), .int (u_14b.1 3), .int (u_14b.1 4), .int (u_14b.1 5), .ref (a2 1), .ref (a2 2), .ref (a2 3), .ref (a2 4), .ref (a2 5), .ref (a2 6), .ref (a2 7), .ref (a2 8), .ref (a2 9), .ref (a2 10), .ref (a2 11), .ref (a2 12)])), ((a2 1), .inl (q 0, 4, .inl (u_14b.2.1 0))), ((a2 2), .inl (q 0, 4, .inl (u_14b.2.1 1))), ((a2 3), .inl (q 0, 160, .inl (u_14b.2.1 2))), ((a2 4), .inl (q 0, 40, .inl (u_14b.2.1 3))), ((a2 5), .inl (q 0, 40, .inl (u_14b.2.1 4))), ((a2 6), .inl (q 0, 40, .inl (u_14b.2.1 5))), ((a2 7), .inl (q 0, 40, .inl (u_14b.2.1 6))), ((a2 8), .inl (q 0, 40, .inl (u_14b.2.1 7))), ((a2 9), .inl (q 0, 40, .inl (u_14b.2.1 8))), ((a2 10), .inl (q 0, 40, .inl (u_14b.2.1 9))), ((a2 11), .inl (q 1, 40, .inr (.inl u_14b.2.2.1))), ((a2 12), .inl (q 0, u_14b.2.2.2.1, .inl u_14b.2.2.2.2)), ((a4 0), .inr (1, [.ref (a4 1), .ref (a4 2), .ref (a4 3), .int (u_14a.1 0), .int (u_14a.1 1), .int (u_14a.1 2), .int (u_14a.1 3), .int (u_14a.1 4), .int (u_14a.1 5), .int (u_14a.1 6), .int (u_14a.1 7), .int (u_14a.1 8)])), ((a4 1), .inl (q 0, 40, .inl (u_14a.2 0))), ((a4 2), .inl (q 0, 40, .inl (u_14a.2 1))), ((a4 3), .inl (q 0, 40, .inl (u_14a.2 2))), (p8, .inr (2, [.ref p9, .int (s_9.1 0), .int (s_9.1 1)])), (p9, .inl (q 4, 10, .inr (.inr (.inr (.inr (pf_f A_10 s_9.2))))))]) [0, 7, 8, 9, 10, 11, 12, 13, 14, 15, 16, 17, 18, 19, 3, 4, 5, 6, 1, 2] rfl
      have hD := hD.part (cx := [((a0 0), .inr (5, [.ref (a1 0), .ref (a2 0), .ref (a3 0), .ref (a4 0), .ref (a5 0), .ref p8, .ref s8])), ((a2 0), .inr (0, [.int (u_14b.1 0), .int (u_14b.1 1), .int (u_14b.1 2), .int (u_14b.1 3), .int (u_14b.1 4), .int (u_14b.1 5), .ref (a2 1), .ref (a2 2), .ref (a2 3), .ref (a2 4), .ref (a2 5), .ref (a2 6), .ref (a2 7), .ref (a2 8), .ref (a2 9), .ref (a2 10), .ref (a2 11), .ref (a2 12)])), ((a2 1), .inl (q 0, 4, .inl (u_14b.2.1 0))), ((a2 2), .inl (q 0, 4, .inl (u_14b.2.1 1))), ((a2 3), .inl (q 0, 160, .inl (u_14b.2.1 2))), ((a2 4), .inl (q 0, 40, .inl (u_14b.2.1 3))), ((a2 5), .inl (q 0, 40, .inl (u_14b.2.1 4))), ((a2 6), .inl (q 0, 40, .inl (u_14b.2.1 5))), ((a2 7), .inl (q 0, 40, .inl (u_14b.2.1 6))), ((a2 8), .inl (q 0, 40, .inl (u_14b.2.1 7))), ((a2 9), .inl (q 0, 40, .inl (u_14b.2.1 8))), ((a2 10), .inl (q 0, 40, .inl (u_14b.2.1 9))), ((a2 11), .inl (q 1, 40, .inr (.inl u_14b.2.2.1))), ((a2 12), .inl (q 0, u_14b.2.2.2.1, .inl u_14b.2.2.2.2)), ((a4 0), .inr (1, [.ref (a4 1), .ref (a4 2), .ref (a4 3), .int (u_14a.1 0), .int (u_14a.1 1), .int (u_14a.1 2), .int (u_14a.1 3), .int (u_14a.1 4), .int (u_14a.1 5), .int (u_14a.1 6), .int (u_14a.1 7), .int (u_14a.1 8)])), ((a4 1), .inl (q 0, 40, .inl (u_14a.2 0))), ((a4 2), .inl (q 0, 40, .inl (u_14a.2 1))), ((a4 3), .inl (q 0, 40, .inl (u_14a.2 2))), (p8, .inr (2, [.ref p9, .int (s_9.1 0), .int (s_9.1 1)])), (p9, .inl (q 4, 10, .inr (.inr (.inr (.inr (pf_f A_10 s_9.2))))))]) [0, 7, 8, 9, 10, 11, 12, 13, 14, 15, 16, 17, 18, 19, 3, 4, 5, 6, 1, 2] (by decide) rfl
      exact mt_iret (A_10, u_14b, u_14a, s_9) hx hb hr hk h hP hD hS dX6_settle_68
    · replace h := h.2 c_6
      refine lv_bipush (v := (-2)) hx hb dX6_settle_33 (by decide) ?_
      have hP := hP.part (cx := [((a0 0), .inr (5, [.ref (a1 0), .ref (a2 0), .ref (a3 0), .ref (a4 0), .ref (a5 0), .ref p8, .ref s8])), ((a2 0), .inr (0, [.int (s2.1 0), .int (s2.1 1), .int (s2.1 2), .int (s2.1 3), .int (s2.1 4), .int (s2.1 5), .ref (a2 1), .ref (a2 2), .ref (a2 3), .ref (a2 4), .ref (a2 5), .ref (a2 6), .ref (a2 7), .ref (a2 8), .ref (a2 9), .ref (a2 10), .ref (a2 11), .ref (a2 12)])), ((a2 1), .inl (q 0, 4, .inl (s2.2.1 0))), ((a2 2), .inl (q 0, 4, .inl (s2.2.1 1))), ((a2 3), .inl (q 0, 160, .inl (s2.2.1 2))), ((a2 4), .inl (q 0, 40, .inl (s2.2.1 3))), ((a2 5), .inl (q 0, 40, .inl (s2.2.1 4))), ((a2 6), .inl (q 0, 40, .inl (s2.2.1 5))), ((a2 7), .inl (q 0, 40, .inl (s2.2.1 6))), ((a2 8), .inl (q 0, 40, .inl (s2.2.1 7))), ((a2 9), .inl (q 0, 40, .inl (s2.2.1 8))), ((a2 10), .inl (q 0, 40, .inl (s2.2.1 9))), ((a2 11), .inl (q 1, 40, .inr (.inl s2.2.2.1))), ((a2 12), .inl (q 0, s2.2.2.2.1, .inl s2.2.2.2.2)), ((a4 0), .inr (1, [.ref (a4 1), .ref (a4 2), .ref (a4 3), .int (u_5.1 0), .int (u_5.1 1), .int (u_5.1 2), .int (u_5.1 3), .int (u_5.1 4), .int (u_5.1 5), .int (u_5.1 6), .int (u_5.1 7), .int (u_5.1 8)])), ((a4 1), .inl (q 0, 40, .inl (u_5.2 0))), ((a4 2), .inl (q 0, 40, .inl (u_5.2 1))), ((a4 3), .inl (q 0, 40, .inl (u_5.2 2))), (p8, .inr (2, [.ref p9, .int (s6.1 0), .int (s6.1 1)])), (p9, .inl (q 4, 10, .inr (.inr (.inr (.inr (pf_f AA s6.2))))))]) [0, 7, 8, 9, 10, 11, 12, 13, 14, 15, 16, 17, 18, 19, 3, 4, 5, 6, 1, 2] rfl
      have hD := hD.part (cx := [((a0 0), .inr (5, [.ref (a1 0), .ref (a2 0), .ref (a3 0), .ref (a4 0), .ref (a5 0), .ref p8, .ref s8])), ((a2 0), .inr (0, [.int (s2.1 0), .int (s2.1 1), .int (s2.1 2), .int (s2.1 3), .int (s2.1 4), .int (s2.1 5), .ref (a2 1), .ref (a2 2), .ref (a2 3), .ref (a2 4), .ref (a2 5), .ref (a2 6), .ref (a2 7), .ref (a2 8), .ref (a2 9), .ref (a2 10), .ref (a2 11), .ref (a2 12)])), ((a2 1), .inl (q 0, 4, .inl (s2.2.1 0))), ((a2 2), .inl (q 0, 4, .inl (s2.2.1 1))), ((a2 3), .inl (q 0, 160, .inl (s2.2.1 2))), ((a2 4), .inl (q 0, 40, .inl (s2.2.1 3))), ((a2 5), .inl (q 0, 40, .inl (s2.2.1 4))), ((a2 6), .inl (q 0, 40, .inl (s2.2.1 5))), ((a2 7), .inl (q 0, 40, .inl (s2.2.1 6))), ((a2 8), .inl (q 0, 40, .inl (s2.2.1 7))), ((a2 9), .inl (q 0, 40, .inl (s2.2.1 8))), ((a2 10), .inl (q 0, 40, .inl (s2.2.1 9))), ((a2 11), .inl (q 1, 40, .inr (.inl s2.2.2.1))), ((a2 12), .inl (q 0, s2.2.2.2.1, .inl s2.2.2.2.2)), ((a4 0), .inr (1, [.ref (a4 1), .ref (a4 2), .ref (a4 3), .int (u_5.1 0), .int (u_5.1 1), .int (u_5.1 2), .int (u_5.1 3), .int (u_5.1 4), .int (u_5.1 5), .int (u_5.1 6), .int (u_5.1 7), .int (u_5.1 8)])), ((a4 1), .inl (q 0, 40, .inl (u_5.2 0))), ((a4 2), .inl (q 0, 40, .inl (u_5.2 1))), ((a4 3), .inl (q 0, 40, .inl (u_5.2 2))), (p8, .inr (2, [.ref p9, .int (s6.1 0), .int (s6.1 1)])), (p9, .inl (q 4, 10, .inr (.inr (.inr (.inr (pf_f AA s6.2))))))]) [0, 7, 8, 9, 10, 11, 12, 13, 14, 15, 16, 17, 18, 19, 3, 4, 5, 6, 1, 2] (by decide) rfl
      refine W.widen (k := 14) (n := 6906) (Nat.le_of_ble_eq_true rfl) (Nat.le_of_ble_eq_true rfl) ?_
      exact mt_iret (AA, s2, u_5, s6) hx hb hr hk h hP hD hS dX6_settle_35
  · replace h := h.2 c_3
    refine lv_iconst (v := (-1)) hx hb dX6_settle_10 (by decide) ?_
    have hP := hP.part (cx := [((a0 0), .inr (5, [.ref (a1 0), .ref (a2 0), .ref (a3 0), .ref (a4 0), .ref (a5 0), .ref p8, .ref s8])), ((a2 0), .inr (0, [.int (s2.1 0), .int (s2.1 1), .int (s2.1 2), .int (s2.1 3), .int (s2.1 4), .int (s2.1 5), .ref (a2 1), .ref (a2 2), .ref (a2 3), .ref (a2 4), .ref (a2 5), .ref (a2 6), .ref (a2 7), .ref (a2 8), .ref (a2 9), .ref (a2 10), .ref (a2 11), .ref (a2 12)])), ((a2 1), .inl (q 0, 4, .inl (s2.2.1 0))), ((a2 2), .inl (q 0, 4, .inl (s2.2.1 1))), ((a2 3), .inl (q 0, 160, .inl (s2.2.1 2))), ((a2 4), .inl (q 0, 40, .inl (s2.2.1 3))), ((a2 5), .inl (q 0, 40, .inl (s2.2.1 4))), ((a2 6), .inl (q 0, 40, .inl (s2.2.1 5))), ((a2 7), .inl (q 0, 40, .inl (s2.2.1 6))), ((a2 8), .inl (q 0, 40, .inl (s2.2.1 7))), ((a2 9), .inl (q 0, 40, .inl (s2.2.1 8))), ((a2 10), .inl (q 0, 40, .inl (s2.2.1 9))), ((a2 11), .inl (q 1, 40, .inr (.inl s2.2.2.1))), ((a2 12), .inl (q 0, s2.2.2.2.1, .inl s2.2.2.2.2)), ((a4 0), .inr (1, [.ref (a4 1), .ref (a4 2), .ref (a4 3), .int (s4.1 0), .int (s4.1 1), .int (s4.1 2), .int (s4.1 3), .int (s4.1 4), .int (s4.1 5), .int (s4.1 6), .int (s4.1 7), .int (s4.1 8)])), ((a4 1), .inl (q 0, 40, .inl (s4.2 0))), ((a4 2), .inl (q 0, 40, .inl (s4.2 1))), ((a4 3), .inl (q 0, 40, .inl (s4.2 2))), (p8, .inr (2, [.ref p9, .int (s6.1 0), .int (s6.1 1)])), (p9, .inl (q 4, 10, .inr (.inr (.inr (.inr (pf_f AA s6.2))))))]) [0, 1, 2, 3, 4, 5, 6, 7, 8, 9, 10, 11, 12, 13, 14, 15, 16, 17, 18, 19] rfl
    have hD := hD.part (cx := [((a0 0), .inr (5, [.ref (a1 0), .ref (a2 0), .ref (a3 0), .ref (a4 0), .ref (a5 0), .ref p8, .ref s8])), ((a2 0), .inr (0, [.int (s2.1 0), .int (s2.1 1), .int (s2.1 2), .int (s2.1 3), .int (s2.1 4), .int (s2.1 5), .ref (a2 1), .ref (a2 2), .ref (a2 3), .ref (a2 4), .ref (a2 5), .ref (a2 6), .ref (a2 7), .ref (a2 8), .ref (a2 9), .ref (a2 10), .ref (a2 11), .ref (a2 12)])), ((a2 1), .inl (q 0, 4, .inl (s2.2.1 0))), ((a2 2), .inl (q 0, 4, .inl (s2.2.1 1))), ((a2 3), .inl (q 0, 160, .inl (s2.2.1 2))), ((a2 4), .inl (q 0, 40, .inl (s2.2.1 3))), ((a2 5), .inl (q 0, 40, .inl (s2.2.1 4))), ((a2 6), .inl (q 0, 40, .inl (s2.2.1 5))), ((a2 7), .inl (q 0, 40, .inl (s2.2.1 6))), ((a2 8), .inl (q 0, 40, .inl (s2.2.1 7))), ((a2 9), .inl (q 0, 40, .inl (s2.2.1 8))), ((a2 10), .inl (q 0, 40, .inl (s2.2.1 9))), ((a2 11), .inl (q 1, 40, .inr (.inl s2.2.2.1))), ((a2 12), .inl (q 0, s2.2.2.2.1, .inl s2.2.2.2.2)), ((a4 0), .inr (1, [.ref (a4 1), .ref (a4 2), .ref (a4 3), .int (s4.1 0), .int (s4.1 1), .int (s4.1 2), .int (s4.1 3), .int (s4.1 4), .int (s4.1 5), .int (s4.1 6), .int (s4.1 7), .int (s4.1 8)])), ((a4 1), .inl (q 0, 40, .inl (s4.2 0))), ((a4 2), .inl (q 0, 40, .inl (s4.2 1))), ((a4 3), .inl (q 0, 40, .inl (s4.2 2))), (p8, .inr (2, [.ref p9, .int (s6.1 0), .int (s6.1 1)])), (p9, .inl (q 4, 10, .inr (.inr (.inr (.inr (pf_f AA s6.2))))))]) [0, 1, 2, 3, 4, 5, 6, 7, 8, 9, 10, 11, 12, 13, 14, 15, 16, 17, 18, 19] (by decide) rfl
    refine W.widen (k := 14) (n := 6906) (Nat.le_of_ble_eq_true rfl) (Nat.le_of_ble_eq_true rfl) ?_
    exact mt_iret (AA, s2, s4, s6) hx hb hr hk h hP hD hS dX6_settle_11

def wp_X6_lose (post : Int32 → Bd → Pa → Prop) (s2 : Bd) (s6 : Pa) (x1 : Int32) (x2 : Int32) : Prop := wp_X0_hasCell (fun r_1 => ((r_1 = 0 → post (-1) s2 s6) ∧ (¬ r_1 = 0 → ((x2 < 0 → post (-1) s2 s6) ∧ (¬ x2 < 0 → ((x2 ≤ 9 → vp_in x1 40 ∧ ((¬ ((s2.2.1 7) (Int32.toNatClampNeg x1)) = x2 → wp_X3_push (fun s_10 => wp_X0_setLost (fun u_15 => post ((s2.2.1 7) (Int32.toNatClampNeg x1)) u_15 s_10) s2 x1 x2) s6 s2) ∧ (((s2.2.1 7) (Int32.toNatClampNeg x1)) = x2 → post (-2) s2 s6))) ∧ (¬ x2 ≤ 9 → post (-1) s2 s6))))))) s2 x1
set_option maxHeartbeats 4000000 in
set_option maxRecDepth 100000 in
theorem c2_X6_lose {l : Launch} {D : va_G} {q : Nat → ClassId} {sz : Nat} {a0 a1 a2 a3 a4 a5 : Nat → Nat} {p8 s8 p9 : Nat} {AA : Nat → Nat → Nat} {s2 : Bd} {s6 : Pa} {x1 : Int32} {x2 : Int32} {post : Int32 → Bd → Pa → Prop} (h : wp_X6_lose post s2 s6 x1 x2) : Met l yX6_lose (Cond.code yX6_lose cX6_lose 4 (some .int) :: w_all) ({ frames := 4, cells := 14, slots := 6906, locals := 146 } : Room) (mt_P D q [.ref (a0 0), .int x1, .int x2] ((fo_w (a0 0) (a1 0) (a2 0) (a3 0) (a4 0) (a5 0) p8 s8 ++ bd_w a2 q s2 ++ pa_o p8 p9 s6 ++ pa_r p9 q 10 AA s6.2) ++ ps_w q 10 AA s6.2) sz) (va_Qi (fun r (u : (Nat → Nat → Nat) × Bd × Pa) => post r u.2.1 u.2.2) (mt_B D ((fo_w (a0 0) (a1 0) (a2 0) (a3 0) (a4 0) (a5 0) p8 s8 ++ bd_w a2 q s2 ++ pa_o p8 p9 s6 ++ pa_r p9 q 10 AA s6.2) ++ ps_w q 10 AA s6.2) sz (fun u : (Nat → Nat → Nat) × Bd × Pa => ((fo_w (a0 0) (a1 0) (a2 0) (a3 0) (a4 0) (a5 0) p8 s8 ++ bd_w a2 q u.2.1 ++ pa_o p8 p9 u.2.2 ++ pa_r p9 q 10 u.1 u.2.2.2) ++ ps_w q 10 u.1 u.2.2.2))) (va_A ((fo_w (a0 0) (a1 0) (a2 0) (a3 0) (a4 0) (a5 0) p8 s8 ++ bd_w a2 q s2 ++ pa_o p8 p9 s6 ++ pa_r p9 q 10 AA s6.2) ++ ps_w q 10 AA s6.2) sz)) 14 6906 (va_A ((fo_w (a0 0) (a1 0) (a2 0) (a3 0) (a4 0) (a5 0) p8 s8 ++ bd_w a2 q s2 ++ pa_o p8 p9 s6 ++ pa_r p9 q 10 AA s6.2) ++ ps_w q 10 AA s6.2) sz) := by
  refine mt_start (by decide) (Nat.le_of_ble_eq_true rfl) ?_
  intro p e s m below meth c ls hx hb hr hml hown ht hk hin hP hQ hD hA hS hV hl
  have hK := hQ.1
  have hown : s.vm.findClass RX6 = some m.cls := hown
  have hl : lv_has ls 4 [(0, .ref (a0 0)), (1, .int x1), (2, .int x2)] := hl
  have hP : va_P D vwCl (([((a0 0), .inr (5, [.ref (a1 0), .ref (a2 0), .ref (a3 0), .ref (a4 0), .ref (a5 0), .ref p8, .ref s8])), ((a2 0), .inr (0, [.int (s2.1 0), .int (s2.1 1), .int (s2.1 2), .int (s2.1 3), .int (s2.1 4), .int (s2.1 5), .ref (a2 1), .ref (a2 2), .ref (a2 3), .ref (a2 4), .ref (a2 5), .ref (a2 6), .ref (a2 7), .ref (a2 8), .ref (a2 9), .ref (a2 10), .ref (a2 11), .ref (a2 12)])), ((a2 1), .inl (q 0, 4, .inl (s2.2.1 0))), ((a2 2), .inl (q 0, 4, .inl (s2.2.1 1))), ((a2 3), .inl (q 0, 160, .inl (s2.2.1 2))), ((a2 4), .inl (q 0, 40, .inl (s2.2.1 3))), ((a2 5), .inl (q 0, 40, .inl (s2.2.1 4))), ((a2 6), .inl (q 0, 40, .inl (s2.2.1 5))), ((a2 7), .inl (q 0, 40, .inl (s2.2.1 6))), ((a2 8), .inl (q 0, 40, .inl (s2.2.1 7))), ((a2 9), .inl (q 0, 40, .inl (s2.2.1 8))), ((a2 10), .inl (q 0, 40, .inl (s2.2.1 9))), ((a2 11), .inl (q 1, 40, .inr (.inl s2.2.2.1))), ((a2 12), .inl (q 0, s2.2.2.2.1, .inl s2.2.2.2.2)), (p8, .inr (2, [.ref p9, .int (s6.1 0), .int (s6.1 1)])), (p9, .inl (q 4, 10, .inr (.inr (.inr (.inr (pf_f AA s6.2))))))] : va_W) ++ ps_w q 10 AA s6.2) s.heap := hP
  have hD : va_D _ (([((a0 0), .inr (5, [.ref (a1 0), .ref (a2 0), .ref (a3 0), .ref (a4 0), .ref (a5 0), .ref p8, .ref s8])), ((a2 0), .inr (0, [.int (s2.1 0), .int (s2.1 1), .int (s2.1 2), .int (s2.1 3), .int (s2.1 4), .int (s2.1 5), .ref (a2 1), .ref (a2 2), .ref (a2 3), .ref (a2 4), .ref (a2 5), .ref (a2 6), .ref (a2 7), .ref (a2 8), .ref (a2 9), .ref (a2 10), .ref (a2 11), .ref (a2 12)])), ((a2 1), .inl (q 0, 4, .inl (s2.2.1 0))), ((a2 2), .inl (q 0, 4, .inl (s2.2.1 1))), ((a2 3), .inl (q 0, 160, .inl (s2.2.1 2))), ((a2 4), .inl (q 0, 40, .inl (s2.2.1 3))), ((a2 5), .inl (q 0, 40, .inl (s2.2.1 4))), ((a2 6), .inl (q 0, 40, .inl (s2.2.1 5))), ((a2 7), .inl (q 0, 40, .inl (s2.2.1 6))), ((a2 8), .inl (q 0, 40, .inl (s2.2.1 7))), ((a2 9), .inl (q 0, 40, .inl (s2.2.1 8))), ((a2 10), .inl (q 0, 40, .inl (s2.2.1 9))), ((a2 11), .inl (q 1, 40, .inr (.inl s2.2.2.1))), ((a2 12), .inl (q 0, s2.2.2.2.1, .inl s2.2.2.2.2)), (p8, .inr (2, [.ref p9, .int (s6.1 0), .int (s6.1 1)])), (p9, .inl (q 4, 10, .inr (.inr (.inr (.inr (pf_f AA s6.2))))))] : va_W) ++ ps_w q 10 AA s6.2) := hD
  unfold wp_X6_lose at h
  refine lv_aload_n hx hb dX6_lose_0 rfl (lv_at hl 0 rfl) ?_
  refine fl_get (C := RX6) (T := TX6) (N := 7) (ci := 5) (v := .ref (a2 0)) hx hb ht in_X6 hown hK hP 0 rfl rfl 1 (by decide) mw_356 rfl dX6_lose_1 ?_
  refine lv_iload_n hx hb dX6_lose_4 rfl (lv_at hl 1 rfl) ?_
  refine vp_callSi (rd_wV (wc := bd_w a2 q s2) (As := [.int x1]) (rest := []) hx hb hml hown ht (c2_X0_hasCell h) wd_X0_hasCell mw_730 hQ hV hS (hP.sub [1, 2, 3, 4, 5, 6, 7, 8, 9, 10, 11, 12, 13] rfl) rfl rfl rfl hl.1 rfl (Nat.le_of_ble_eq_true rfl) dX6_lose_5 ⟨Nat.le_of_ble_eq_true rfl, Nat.le_of_ble_eq_true rfl, rfl, rfl⟩ ⟨Nat.le_of_ble_eq_true rfl, Nat.le_of_ble_eq_true rfl⟩) (fun r_1 h => ?_)
  try dsimp only at h
  refine lv_if_eq (tgt := 21) hx hb dX6_lose_8 (by decide) (fun c_3 => ?_) (fun c_3 => ?_)
  · replace h := h.1 c_3
    refine lv_iconst (v := (-1)) hx hb dX6_lose_21 (by decide) ?_
    have hP := hP.part (cx := [((a0 0), .inr (5, [.ref (a1 0), .ref (a2 0), .ref (a3 0), .ref (a4 0), .ref (a5 0), .ref p8, .ref s8])), ((a2 0), .inr (0, [.int (s2.1 0), .int (s2.1 1), .int (s2.1 2), .int (s2.1 3), .int (s2.1 4), .int (s2.1 5), .ref (a2 1), .ref (a2 2), .ref (a2 3), .ref (a2 4), .ref (a2 5), .ref (a2 6), .ref (a2 7), .ref (a2 8), .ref (a2 9), .ref (a2 10), .ref (a2 11), .ref (a2 12)])), ((a2 1), .inl (q 0, 4, .inl (s2.2.1 0))), ((a2 2), .inl (q 0, 4, .inl (s2.2.1 1))), ((a2 3), .inl (q 0, 160, .inl (s2.2.1 2))), ((a2 4), .inl (q 0, 40, .inl (s2.2.1 3))), ((a2 5), .inl (q 0, 40, .inl (s2.2.1 4))), ((a2 6), .inl (q 0, 40, .inl (s2.2.1 5))), ((a2 7), .inl (q 0, 40, .inl (s2.2.1 6))), ((a2 8), .inl (q 0, 40, .inl (s2.2.1 7))), ((a2 9), .inl (q 0, 40, .inl (s2.2.1 8))), ((a2 10), .inl (q 0, 40, .inl (s2.2.1 9))), ((a2 11), .inl (q 1, 40, .inr (.inl s2.2.2.1))), ((a2 12), .inl (q 0, s2.2.2.2.1, .inl s2.2.2.2.2)), (p8, .inr (2, [.ref p9, .int (s6.1 0), .int (s6.1 1)])), (p9, .inl (q 4, 10, .inr (.inr (.inr (.inr (pf_f AA s6.2))))))]) [0, 1, 2, 3, 4, 5, 6, 7, 8, 9, 10, 11, 12, 13, 14, 15] rfl
    have hD := hD.part (cx := [((a0 0), .inr (5, [.ref (a1 0), .ref (a2 0), .ref (a3 0), .ref (a4 0), .ref (a5 0), .ref p8, .ref s8])), ((a2 0), .inr (0, [.int (s2.1 0), .int (s2.1 1), .int (s2.1 2), .int (s2.1 3), .int (s2.1 4), .int (s2.1 5), .ref (a2 1), .ref (a2 2), .ref (a2 3), .ref (a2 4), .ref (a2 5), .ref (a2 6), .ref (a2 7), .ref (a2 8), .ref (a2 9), .ref (a2 10), .ref (a2 11), .ref (a2 12)])), ((a2 1), .inl (q 0, 4, .inl (s2.2.1 0))), ((a2 2), .inl (q 0, 4, .inl (s2.2.1 1))), ((a2 3), .inl (q 0, 160, .inl (s2.2.1 2))), ((a2 4), .inl (q 0, 40, .inl (s2.2.1 3))), ((a2 5), .inl (q 0, 40, .inl (s2.2.1 4))), ((a2 6), .inl (q 0, 40, .inl (s2.2.1 5))), ((a2 7), .inl (q 0, 40, .inl (s2.2.1 6))), ((a2 8), .inl (q 0, 40, .inl (s2.2.1 7))), ((a2 9), .inl (q 0, 40, .inl (s2.2.1 8))), ((a2 10), .inl (q 0, 40, .inl (s2.2.1 9))), ((a2 11), .inl (q 1, 40, .inr (.inl s2.2.2.1))), ((a2 12), .inl (q 0, s2.2.2.2.1, .inl s2.2.2.2.2)), (p8, .inr (2, [.ref p9, .int (s6.1 0), .int (s6.1 1)])), (p9, .inl (q 4, 10, .inr (.inr (.inr (.inr (pf_f AA s6.2))))))]) [0, 1, 2, 3, 4, 5, 6, 7, 8, 9, 10, 11, 12, 13, 14, 15] (by decide) rfl
    refine W.widen (k := 14) (n := 6906) (Nat.le_of_ble_eq_true rfl) (Nat.le_of_ble_eq_true rfl) ?_
    exact mt_iret (AA, s2, s6) hx hb hr hk h hP hD hS dX6_lose_22
  · replace h := h.2 c_3
    refine lv_iload_n hx hb dX6_lose_11 rfl (lv_at hl 2 rfl) ?_
    refine lv_if_lt (tgt := 21) hx hb dX6_lose_12 (by decide) (fun c_4 => ?_) (fun c_4 => ?_)
    · replace h := h.1 c_4
      refine lv_iconst (v := (-1)) hx hb dX6_lose_21 (by decide) ?_
      have hP := hP.part (cx := [((a0 0), .inr (5, [.ref (a1 0), .ref (a2 0), .ref (a3 0), .ref (a4 0), .ref (a5 0), .ref p8, .ref s8])), ((a2 0), .inr (0, [.int (s2.1 0), .int (s2.1 1), .int (s2.1 2), .int (s2.1 3), .int (s2.1 4), .int (s2.1 5), .ref (a2 1), .ref (a2 2), .ref (a2 3), .ref (a2 4), .ref (a2 5), .ref (a2 6), .ref (a2 7), .ref (a2 8), .ref (a2 9), .ref (a2 10), .ref (a2 11), .ref (a2 12)])), ((a2 1), .inl (q 0, 4, .inl (s2.2.1 0))), ((a2 2), .inl (q 0, 4, .inl (s2.2.1 1))), ((a2 3), .inl (q 0, 160, .inl (s2.2.1 2))), ((a2 4), .inl (q 0, 40, .inl (s2.2.1 3))), ((a2 5), .inl (q 0, 40, .inl (s2.2.1 4))), ((a2 6), .inl (q 0, 40, .inl (s2.2.1 5))), ((a2 7), .inl (q 0, 40, .inl (s2.2.1 6))), ((a2 8), .inl (q 0, 40, .inl (s2.2.1 7))), ((a2 9), .inl (q 0, 40, .inl (s2.2.1 8))), ((a2 10), .inl (q 0, 40, .inl (s2.2.1 9))), ((a2 11), .inl (q 1, 40, .inr (.inl s2.2.2.1))), ((a2 12), .inl (q 0, s2.2.2.2.1, .inl s2.2.2.2.2)), (p8, .inr (2, [.ref p9, .int (s6.1 0), .int (s6.1 1)])), (p9, .inl (q 4, 10, .inr (.inr (.inr (.inr (pf_f AA s6.2))))))]) [0, 1, 2, 3, 4, 5, 6, 7, 8, 9, 10, 11, 12, 13, 14, 15] rfl
      have hD := hD.part (cx := [((a0 0), .inr (5, [.ref (a1 0), .ref (a2 0), .ref (a3 0), .ref (a4 0), .ref (a5 0), .ref p8, .ref s8])), ((a2 0), .inr (0, [.int (s2.1 0), .int (s2.1 1), .int (s2.1 2), .int (s2.1 3), .int (s2.1 4), .int (s2.1 5), .ref (a2 1), .ref (a2 2), .ref (a2 3), .ref (a2 4), .ref (a2 5), .ref (a2 6), .ref (a2 7), .ref (a2 8), .ref (a2 9), .ref (a2 10), .ref (a2 11), .ref (a2 12)])), ((a2 1), .inl (q 0, 4, .inl (s2.2.1 0))), ((a2 2), .inl (q 0, 4, .inl (s2.2.1 1))), ((a2 3), .inl (q 0, 160, .inl (s2.2.1 2))), ((a2 4), .inl (q 0, 40, .inl (s2.2.1 3))), ((a2 5), .inl (q 0, 40, .inl (s2.2.1 4))), ((a2 6), .inl (q 0, 40, .inl (s2.2.1 5))), ((a2 7), .inl (q 0, 40, .inl (s2.2.1 6))), ((a2 8), .inl (q 0, 40, .inl (s2.2.1 7))), ((a2 9), .inl (q 0, 40, .inl (s2.2.1 8))), ((a2 10), .inl (q 0, 40, .inl (s2.2.1 9))), ((a2 11), .inl (q 1, 40, .inr (.inl s2.2.2.1))), ((a2 12), .inl (q 0, s2.2.2.2.1, .inl s2.2.2.2.2)), (p8, .inr (2, [.ref p9, .int (s6.1 0), .int (s6.1 1)])), (p9, .inl (q 4, 10, .inr (.inr (.inr (.inr (pf_f AA s6.2))))))]) [0, 1, 2, 3, 4, 5, 6, 7, 8, 9, 10, 11, 12, 13, 14, 15] (by decide) rfl
      refine W.widen (k := 14) (n := 6906) (Nat.le_of_ble_eq_true rfl) (Nat.le_of_ble_eq_true rfl) ?_
      exact mt_iret (AA, s2, s6) hx hb hr hk h hP hD hS dX6_lose_22
    · replace h := h.2 c_4
      refine lv_iload_n hx hb dX6_lose_15 rfl (lv_at hl 2 rfl) ?_
      refine lv_bipush (v := 9) hx hb dX6_lose_16 (by decide) ?_
      refine lv_icmp_le (tgt := 23) hx hb dX6_lose_18 (by decide) (fun c_5 => ?_) (fun c_5 => ?_)
      · replace h := h.1 c_5
        refine lv_aload_n hx hb dX6_lose_23 rfl (lv_at hl 0 rfl) ?_
        refine fl_get (C := RX6) (T := TX6) (N := 7) (ci := 5) (v := .ref (a2 0)) hx hb ht in_X6 hown hK hP 0 rfl rfl 1 (by decide) mw_356 rfl dX6_lose_24 ?_
        refine fl_get (C := RX0) (T := TX0) (N := 18) (ci := 0) (v := .ref (a2 8)) hx hb ht in_X0 hown hK hP 1 rfl rfl 13 (by decide) mw_201 rfl dX6_lose_27 ?_
        refine lv_iload_n hx hb dX6_lose_30 rfl (lv_at hl 1 rfl) ?_
        obtain ⟨g_6, h⟩ := h
        refine va_iald hx hb hK hP 9 0 rfl rfl g_6 dX6_lose_31 ?_
        refine lv_istore_n (lv' := [(3, .int ((s2.2.1 7) (Int32.toNatClampNeg x1))), (0, .ref (a0 0)), (1, .int x1), (2, .int x2)]) hx hb dX6_lose_32 rfl hl (by decide) rfl (fun ls hl => ?_)
        refine lv_iload_n hx hb dX6_lose_33 rfl (lv_at hl 0 rfl) ?_
        refine lv_iload_n hx hb dX6_lose_34 rfl (lv_at hl 3 rfl) ?_
        refine lv_icmp_ne (tgt := 41) hx hb dX6_lose_35 (by decide) (fun c_7 => ?_) (fun c_7 => ?_)
        · replace h := h.1 c_7
          refine lv_aload_n hx hb dX6_lose_41 rfl (lv_at hl 1 rfl) ?_
          refine fl_get (C := RX6) (T := TX6) (N := 7) (ci := 5) (v := .ref p8) hx hb ht in_X6 hown hK hP 0 rfl rfl 5 (by decide) mw_360 rfl dX6_lose_42 ?_
          refine lv_aload_n hx hb dX6_lose_45 rfl (lv_at hl 1 rfl) ?_
          refine fl_get (C := RX6) (T := TX6) (N := 7) (ci := 5) (v := .ref (a2 0)) hx hb ht in_X6 hown hK hP 0 rfl rfl 1 (by decide) mw_356 rfl dX6_lose_46 ?_
          refine mt_govP (X := [((a0 0), .inr (5, [.ref (a1 0), .ref (a2 0), .ref (a3 0), .ref (a4 0), .ref (a5 0), .ref p8, .ref s8])), ((a2 0), .inr (0, [.int (s2.1 0), .int (s2.1 1), .int (s2.1 2), .int (s2.1 3), .int (s2.1 4), .int (s2.1 5), .ref (a2 1), .ref (a2 2), .ref (a2 3), .ref (a2 4), .ref (a2 5), .ref (a2 6), .ref (a2 7), .ref (a2 8), .ref (a2 9), .ref (a2 10), .ref (a2 11), .ref (a2 12)])), ((a2 1), .inl (q 0, 4, .inl (s2.2.1 0))), ((a2 2), .inl (q 0, 4, .inl (s2.2.1 1))), ((a2 3), .inl (q 0, 160, .inl (s2.2.1 2))), ((a2 4), .inl (q 0, 40, .inl (s2.2.1 3))), ((a2 5), .inl (q 0, 40, .inl (s2.2.1 4))), ((a2 6), .inl (q 0, 40, .inl (s2.2.1 5))), ((a2 7), .inl (q 0, 40, .inl (s2.2.1 6))), ((a2 8), .inl (q 0, 40, .inl (s2.2.1 7))), ((a2 9), .inl (q 0, 40, .inl (s2.2.1 8))), ((a2 10), .inl (q 0, 40, .inl (s2.2.1 9))), ((a2 11), .inl (q 1, 40, .inr (.inl s2.2.2.1))), ((a2 12), .inl (q 0, s2.2.2.2.1, .inl s2.2.2.2.2)), (p8, .inr (2, [.ref p9, .int (s6.1 0), .int (s6.1 1)])), (p9, .inl (q 4, 10, .inr (.inr (.inr (.inr (pf_f AA s6.2))))))]) (pl := ps_w q 10 AA s6.2) (mt_wV (wc := (pa_o p8 p9 s6 ++ pa_r p9 q 10 AA s6.2 ++ bd_w a2 q s2) ++ ps_w q 10 AA s6.2) (As := [.ref (a2 0)]) (rest := []) hx hb hml hown ht (c2_X3_push (a0 := va_up (fun _ => p9) 0 p8) h) wd_X3_push mw_631 hQ hV hS hA (hP.part (cx := (pa_o p8 p9 s6 ++ pa_r p9 q 10 AA s6.2 ++ bd_w a2 q s2)) [14, 15, 1, 2, 3, 4, 5, 6, 7, 8, 9, 10, 11, 12, 13] rfl) (hD.part (cx := (pa_o p8 p9 s6 ++ pa_r p9 q 10 AA s6.2 ++ bd_w a2 q s2)) [14, 15, 1, 2, 3, 4, 5, 6, 7, 8, 9, 10, 11, 12, 13] (by decide) rfl) rfl rfl rfl hl.1 rfl (Nat.le_of_ble_eq_true rfl) dX6_lose_49 ⟨Nat.le_of_ble_eq_true rfl, Nat.le_of_ble_eq_true rfl, rfl, rfl⟩ ⟨Nat.le_of_ble_eq_true rfl, Nat.le_of_ble_eq_true rfl⟩) (wr := [((a0 0), .inr (5, [.ref (a1 0), .ref (a2 0), .ref (a3 0), .ref (a4 0), .ref (a5 0), .ref p8, .ref s8]))]) hP hD hS hA [14, 15, 1, 2, 3, 4, 5, 6, 7, 8, 9, 10, 11, 12, 13] [0] rfl rfl (by decide) (by decide) (fun u_8 H locs h hP hD hS => ?_)
          obtain ⟨A_11, s_10⟩ := u_8
          try dsimp only at h
          have hP : va_P D vwCl (([((a0 0), .inr (5, [.ref (a1 0), .ref (a2 0), .ref (a3 0), .ref (a4 0), .ref (a5 0), .ref p8, .ref s8])), (p8, .inr (2, [.ref p9, .int (s_10.1 0), .int (s_10.1 1)])), (p9, .inl (q 4, 10, .inr (.inr (.inr (.inr (pf_f A_11 s_10.2)))))), ((a2 0), .inr (0, [.int (s2.1 0), .int (s2.1 1), .int (s2.1 2), .int (s2.1 3), .int (s2.1 4), .int (s2.1 5), .ref (a2 1), .ref (a2 2), .ref (a2 3), .ref (a2 4), .ref (a2 5), .ref (a2 6), .ref (a2 7), .ref (a2 8), .ref (a2 9), .ref (a2 10), .ref (a2 11), .ref (a2 12)])), ((a2 1), .inl (q 0, 4, .inl (s2.2.1 0))), ((a2 2), .inl (q 0, 4, .inl (s2.2.1 1))), ((a2 3), .inl (q 0, 160, .inl (s2.2.1 2))), ((a2 4), .inl (q 0, 40, .inl (s2.2.1 3))), ((a2 5), .inl (q 0, 40, .inl (s2.2.1 4))), ((a2 6), .inl (q 0, 40, .inl (s2.2.1 5))), ((a2 7), .inl (q 0, 40, .inl (s2.2.1 6))), ((a2 8), .inl (q 0, 40, .inl (s2.2.1 7))), ((a2 9), .inl (q 0, 40, .inl (s2.2.1 8))), ((a2 10), .inl (q 0, 40, .inl (s2.2.1 9))), ((a2 11), .inl (q 1, 40, .inr (.inl s2.2.2.1))), ((a2 12), .inl (q 0, s2.2.2.2.1, .inl s2.2.2.2.2))] : va_W) ++ ps_w q 10 A_11 s_10.2) H := hP
          have hD : va_D _ (([((a0 0), .inr (5, [.ref (a1 0), .ref (a2 0), .ref (a3 0), .ref (a4 0), .ref (a5 0), .ref p8, .ref s8])), (p8, .inr (2, [.ref p9, .int (s_10.1 0), .int (s_10.1 1)])), (p9, .inl (q 4, 10, .inr (.inr (.inr (.inr (pf_f A_11 s_10.2)))))), ((a2 0), .inr (0, [.int (s2.1 0), .int (s2.1 1), .int (s2.1 2), .int (s2.1 3), .int (s2.1 4), .int (s2.1 5), .ref (a2 1), .ref (a2 2), .ref (a2 3), .ref (a2 4), .ref (a2 5), .ref (a2 6), .ref (a2 7), .ref (a2 8), .ref (a2 9), .ref (a2 10), .ref (a2 11), .ref (a2 12)])), ((a2 1), .inl (q 0, 4, .inl (s2.2.1 0))), ((a2 2), .inl (q 0, 4, .inl (s2.2.1 1))), ((a2 3), .inl (q 0, 160, .inl (s2.2.1 2))), ((a2 4), .inl (q 0, 40, .inl (s2.2.1 3))), ((a2 5), .inl (q 0, 40, .inl (s2.2.1 4))), ((a2 6), .inl (q 0, 40, .inl (s2.2.1 5))), ((a2 7), .inl (q 0, 40, .inl (s2.2.1 6))), ((a2 8), .inl (q 0, 40, .inl (s2.2.1 7))), ((a2 9), .inl (q 0, 40, .inl (s2.2.1 8))), ((a2 10), .inl (q 0, 40, .inl (s2.2.1 9))), ((a2 11), .inl (q 1, 40, .inr (.inl s2.2.2.1))), ((a2 12), .inl (q 0, s2.2.2.2.1, .inl s2.2.2.2.2))] : va_W) ++ ps_w q 10 A_11 s_10.2) := hD
          refine W.widen (k := 14) (n := 6906) (Nat.le_of_ble_eq_true rfl) (Nat.le_of_ble_eq_true rfl) ?_
          refine lv_aload_n hx hb dX6_lose_52 rfl (lv_at hl 1 rfl) ?_
          refine fl_get (C := RX6) (T := TX6) (N := 7) (ci := 5) (v := .ref (a2 0)) hx hb ht in_X6 hown hK hP 0 rfl rfl 1 (by decide) mw_356 rfl dX6_lose_53 ?_
          refine lv_iload_n hx hb dX6_lose_56 rfl (lv_at hl 2 rfl) ?_
          refine lv_iload_n hx hb dX6_lose_57 rfl (lv_at hl 3 rfl) ?_
          refine mt_govQ (X := [((a0 0), .inr (5, [.ref (a1 0), .ref (a2 0), .ref (a3 0), .ref (a4 0), .ref (a5 0), .ref p8, .ref s8])), (p8, .inr (2, [.ref p9, .int (s_10.1 0), .int (s_10.1 1)])), (p9, .inl (q 4, 10, .inr (.inr (.inr (.inr (pf_f A_11 s_10.2)))))), ((a2 0), .inr (0, [.int (s2.1 0), .int (s2.1 1), .int (s2.1 2), .int (s2.1 3), .int (s2.1 4), .int (s2.1 5), .ref (a2 1), .ref (a2 2), .ref (a2 3), .ref (a2 4), .ref (a2 5), .ref (a2 6), .ref (a2 7), .ref (a2 8), .ref (a2 9), .ref (a2 10), .ref (a2 11), .ref (a2 12)])), ((a2 1), .inl (q 0, 4, .inl (s2.2.1 0))), ((a2 2), .inl (q 0, 4, .inl (s2.2.1 1))), ((a2 3), .inl (q 0, 160, .inl (s2.2.1 2))), ((a2 4), .inl (q 0, 40, .inl (s2.2.1 3))), ((a2 5), .inl (q 0, 40, .inl (s2.2.1 4))), ((a2 6), .inl (q 0, 40, .inl (s2.2.1 5))), ((a2 7), .inl (q 0, 40, .inl (s2.2.1 6))), ((a2 8), .inl (q 0, 40, .inl (s2.2.1 7))), ((a2 9), .inl (q 0, 40, .inl (s2.2.1 8))), ((a2 10), .inl (q 0, 40, .inl (s2.2.1 9))), ((a2 11), .inl (q 1, 40, .inr (.inl s2.2.2.1))), ((a2 12), .inl (q 0, s2.2.2.2.1, .inl s2.2.2.2.2))]) (pl := ps_w q 10 A_11 s_10.2) (mt_wV (wc := bd_w a2 q s2) (As := [.int x1, .int x2]) (rest := []) hx hb hml hown ht (c2_X0_setLost h) wd_X0_setLost mw_731 hQ hV hS hA (hP.sub [3, 4, 5, 6, 7, 8, 9, 10, 11, 12, 13, 14, 15] rfl) (hD.sub [3, 4, 5, 6, 7, 8, 9, 10, 11, 12, 13, 14, 15] (by decide) rfl) rfl rfl rfl hl.1 rfl (Nat.le_of_ble_eq_true rfl) dX6_lose_58 ⟨Nat.le_of_ble_eq_true rfl, Nat.le_of_ble_eq_true rfl, rfl, rfl⟩ ⟨Nat.le_of_ble_eq_true rfl, Nat.le_of_ble_eq_true rfl⟩) (wr := [((a0 0), .inr (5, [.ref (a1 0), .ref (a2 0), .ref (a3 0), .ref (a4 0), .ref (a5 0), .ref p8, .ref s8])), (p8, .inr (2, [.ref p9, .int (s_10.1 0), .int (s_10.1 1)])), (p9, .inl (q 4, 10, .inr (.inr (.inr (.inr (pf_f A_11 s_10.2))))))]) hP hD hS hA [3, 4, 5, 6, 7, 8, 9, 10, 11, 12, 13, 14, 15] [0, 1, 2] rfl rfl (by decide) (by decide) (fun u_15 H locs h hP hD hS => ?_)
          try dsimp only at h
          have hP : va_P D vwCl (([((a0 0), .inr (5, [.ref (a1 0), .ref (a2 0), .ref (a3 0), .ref (a4 0), .ref (a5 0), .ref p8, .ref s8])), (p8, .inr (2, [.ref p9, .int (s_10.1 0), .int (s_10.1 1)])), (p9, .inl (q 4, 10, .inr (.inr (.inr (.inr (pf_f A_11 s_10.2)))))), ((a2 0), .inr (0, [.int (u_15.1 0), .int (u_15.1 1), .int (u_15.1 2), .int (u_15.1 3), .int (u_15.1 4), .int (u_15.1 5), .ref (a2 1), .ref (a2 2), .ref (a2 3), .ref (a2 4), .ref (a2 5), .ref (a2 6), .ref (a2 7), .ref (a2 8), .ref (a2 9), .ref (a2 10), .ref (a2 11), .ref (a2 12)])), ((a2 1), .inl (q 0, 4, .inl (u_15.2.1 0))), ((a2 2), .inl (q 0, 4, .inl (u_15.2.1 1))), ((a2 3), .inl (q 0, 160, .inl (u_15.2.1 2))), ((a2 4), .inl (q 0, 40, .inl (u_15.2.1 3))), ((a2 5), .inl (q 0, 40, .inl (u_15.2.1 4))), ((a2 6), .inl (q 0, 40, .inl (u_15.2.1 5))), ((a2 7), .inl (q 0, 40, .inl (u_15.2.1 6))), ((a2 8), .inl (q 0, 40, .inl (u_15.2.1 7))), ((a2 9), .inl (q 0, 40, .inl (u_15.2.1 8))), ((a2 10), .inl (q 0, 40, .inl (u_15.2.1 9))), ((a2 11), .inl (q 1, 40, .inr (.inl u_15.2.2.1))), ((a2 12), .inl (q 0, u_15.2.2.2.1, .inl u_15.2.2.2.2))] : va_W) ++ ps_w q 10 A_11 s_10.2) H := hP
          have hD : va_D _ (([((a0 0), .inr (5, [.ref (a1 0), .ref (a2 0), .ref (a3 0), .ref (a4 0), .ref (a5 0), .ref p8, .ref s8])), (p8, .inr (2, [.ref p9, .int (s_10.1 0), .int (s_10.1 1)])), (p9, .inl (q 4, 10, .inr (.inr (.inr (.inr (pf_f A_11 s_10.2)))))), ((a2 0), .inr (0, [.int (u_15.1 0), .int (u_15.1 1), .int (u_15.1 2), .int (u_15.1 3), .int (u_15.1 4), .int (u_15.1 5), .ref (a2 1), .ref (a2 2), .ref (a2 3), .ref (a2 4), .ref (a2 5), .ref (a2 6), .ref (a2 7), .ref (a2 8), .ref (a2 9), .ref (a2 10), .ref (a2 11), .ref (a2 12)])), ((a2 1), .inl (q 0, 4, .inl (u_15.2.1 0))), ((a2 2), .inl (q 0, 4, .inl (u_15.2.1 1))), ((a2 3), .inl (q 0, 160, .inl (u_15.2.1 2))), ((a2 4), .inl (q 0, 40, .inl (u_15.2.1 3))), ((a2 5), .inl (q 0, 40, .inl (u_15.2.1 4))), ((a2 6), .inl (q 0, 40, .inl (u_15.2.1 5))), ((a2 7), .inl (q 0, 40, .inl (u_15.2.1 6))), ((a2 8), .inl (q 0, 40, .inl (u_15.2.1 7))), ((a2 9), .inl (q 0, 40, .inl (u_15.2.1 8))), ((a2 10), .inl (q 0, 40, .inl (u_15.2.1 9))), ((a2 11), .inl (q 1, 40, .inr (.inl u_15.2.2.1))), ((a2 12), .inl (q 0, u_15.2.2.2.1, .inl u_15.2.2.2.2))] : va_W) ++ ps_w q 10 A_11 s_10.2) := hD
          refine lv_iload_n hx hb dX6_lose_61 rfl (lv_at hl 0 rfl) ?_
          have hP := hP.part (cx := [((a0 0), .inr (5, [.ref (a1 0), .ref (a2 0), .ref (a3 0), .ref (a4 0), .ref (a5 0), .ref p8, .ref s8])), ((a2 0), .inr (0, [.int (u_15.1 0), .int (u_15.1 1), .int (u_15.1 2), .int (u_15.1 3), .int (u_15.1 4), .int (u_15.1 5), .ref (a2 1), .ref (a2 2), .ref (a2 3), .ref (a2 4), .ref (a2 5), .ref (a2 6), .ref (a2 7), .ref (a2 8), .ref (a2 9), .ref (a2 10), .ref (a2 11), .ref (a2 12)])), ((a2 1), .inl (q 0, 4, .inl (u_15.2.1 0))), ((a2 2), .inl (q 0, 4, .inl (u_15.2.1 1))), ((a2 3), .inl (q 0, 160, .inl (u_15.2.1 2))), ((a2 4), .inl (q 0, 40, .inl (u_15.2.1 3))), ((a2 5), .inl (q 0, 40, .inl (u_15.2.1 4))), ((a2 6), .inl (q 0, 40, .inl (u_15.2.1 5))), ((a2 7), .inl (q 0, 40, .inl (u_15.2.1 6))), ((a2 8), .inl (q 0, 40, .inl (u_15.2.1 7))), ((a2 9), .inl (q 0, 40, .inl (u_15.2.1 8))), ((a2 10), .inl (q 0, 40, .inl (u_15.2.1 9))), ((a2 11), .inl (q 1, 40, .inr (.inl u_15.2.2.1))), ((a2 12), .inl (q 0, u_15.2.2.2.1, .inl u_15.2.2.2.2)), (p8, .inr (2, [.ref p9, .int (s_10.1 0), .int (s_10.1 1)])), (p9, .inl (q 4, 10, .inr (.inr (.inr (.inr (pf_f A_11 s_10.2))))))]) [0, 3, 4, 5, 6, 7, 8, 9, 10, 11, 12, 13, 14, 15, 1, 2] rfl
          have hD := hD.part (cx := [((a0 0), .inr (5, [.ref (a1 0), .ref (a2 0), .ref (a3 0), .ref (a4 0), .ref (a5 0), .ref p8, .ref s8])), ((a2 0), .inr (0, [.int (u_15.1 0), .int (u_15.1 1), .int (u_15.1 2), .int (u_15.1 3), .int (u_15.1 4), .int (u_15.1 5), .ref (a2 1), .ref (a2 2), .ref (a2 3), .ref (a2 4), .ref (a2 5), .ref (a2 6), .ref (a2 7), .ref (a2 8), .ref (a2 9), .ref (a2 10), .ref (a2 11), .ref (a2 12)])), ((a2 1), .inl (q 0, 4, .inl (u_15.2.1 0))), ((a2 2), .inl (q 0, 4, .inl (u_15.2.1 1))), ((a2 3), .inl (q 0, 160, .inl (u_15.2.1 2))), ((a2 4), .inl (q 0, 40, .inl (u_15.2.1 3))), ((a2 5), .inl (q 0, 40, .inl (u_15.2.1 4))), ((a2 6), .inl (q 0, 40, .inl (u_15.2.1 5))), ((a2 7), .inl (q 0, 40, .inl (u_15.2.1 6))), ((a2 8), .inl (q 0, 40, .inl (u_15.2.1 7))), ((a2 9), .inl (q 0, 40, .inl (u_15.2.1 8))), ((a2 10), .inl (q 0, 40, .inl (u_15.2.1 9))), ((a2 11), .inl (q 1, 40, .inr (.inl u_15.2.2.1))), ((a2 12), .inl (q 0, u_15.2.2.2.1, .inl u_15.2.2.2.2)), (p8, .inr (2, [.ref p9, .int (s_10.1 0), .int (s_10.1 1)])), (p9, .inl (q 4, 10, .inr (.inr (.inr (.inr (pf_f A_11 s_10.2))))))]) [0, 3, 4, 5, 6, 7, 8, 9, 10, 11, 12, 13, 14, 15, 1, 2] (by decide) rfl
          exact mt_iret (A_11, u_15, s_10) hx hb hr hk h hP hD hS dX6_lose_62
        · replace h := h.2 c_7
          refine lv_bipush (v := (-2)) hx hb dX6_lose_38 (by decide) ?_
          have hP := hP.part (cx := [((a0 0), .inr (5, [.ref (a1 0), .ref (a2 0), .ref (a3 0), .ref (a4 0), .ref (a5 0), .ref p8, .ref s8])), ((a2 0), .inr (0, [.int (s2.1 0), .int (s2.1 1), .int (s2.1 2), .int (s2.1 3), .int (s2.1 4), .int (s2.1 5), .ref (a2 1), .ref (a2 2), .ref (a2 3), .ref (a2 4), .ref (a2 5), .ref (a2 6), .ref (a2 7), .ref (a2 8), .ref (a2 9), .ref (a2 10), .ref (a2 11), .ref (a2 12)])), ((a2 1), .inl (q 0, 4, .inl (s2.2.1 0))), ((a2 2), .inl (q 0, 4, .inl (s2.2.1 1))), ((a2 3), .inl (q 0, 160, .inl (s2.2.1 2))), ((a2 4), .inl (q 0, 40, .inl (s2.2.1 3))), ((a2 5), .inl (q 0, 40, .inl (s2.2.1 4))), ((a2 6), .inl (q 0, 40, .inl (s2.2.1 5))), ((a2 7), .inl (q 0, 40, .inl (s2.2.1 6))), ((a2 8), .inl (q 0, 40, .inl (s2.2.1 7))), ((a2 9), .inl (q 0, 40, .inl (s2.2.1 8))), ((a2 10), .inl (q 0, 40, .inl (s2.2.1 9))), ((a2 11), .inl (q 1, 40, .inr (.inl s2.2.2.1))), ((a2 12), .inl (q 0, s2.2.2.2.1, .inl s2.2.2.2.2)), (p8, .inr (2, [.ref p9, .int (s6.1 0), .int (s6.1 1)])), (p9, .inl (q 4, 10, .inr (.inr (.inr (.inr (pf_f AA s6.2))))))]) [0, 1, 2, 3, 4, 5, 6, 7, 8, 9, 10, 11, 12, 13, 14, 15] rfl
          have hD := hD.part (cx := [((a0 0), .inr (5, [.ref (a1 0), .ref (a2 0), .ref (a3 0), .ref (a4 0), .ref (a5 0), .ref p8, .ref s8])), ((a2 0), .inr (0, [.int (s2.1 0), .int (s2.1 1), .int (s2.1 2), .int (s2.1 3), .int (s2.1 4), .int (s2.1 5), .ref (a2 1), .ref (a2 2), .ref (a2 3), .ref (a2 4), .ref (a2 5), .ref (a2 6), .ref (a2 7), .ref (a2 8), .ref (a2 9), .ref (a2 10), .ref (a2 11), .ref (a2 12)])), ((a2 1), .inl (q 0, 4, .inl (s2.2.1 0))), ((a2 2), .inl (q 0, 4, .inl (s2.2.1 1))), ((a2 3), .inl (q 0, 160, .inl (s2.2.1 2))), ((a2 4), .inl (q 0, 40, .inl (s2.2.1 3))), ((a2 5), .inl (q 0, 40, .inl (s2.2.1 4))), ((a2 6), .inl (q 0, 40, .inl (s2.2.1 5))), ((a2 7), .inl (q 0, 40, .inl (s2.2.1 6))), ((a2 8), .inl (q 0, 40, .inl (s2.2.1 7))), ((a2 9), .inl (q 0, 40, .inl (s2.2.1 8))), ((a2 10), .inl (q 0, 40, .inl (s2.2.1 9))), ((a2 11), .inl (q 1, 40, .inr (.inl s2.2.2.1))), ((a2 12), .inl (q 0, s2.2.2.2.1, .inl s2.2.2.2.2)), (p8, .inr (2, [.ref p9, .int (s6.1 0), .int (s6.1 1)])), (p9, .inl (q 4, 10, .inr (.inr (.inr (.inr (pf_f AA s6.2))))))]) [0, 1, 2, 3, 4, 5, 6, 7, 8, 9, 10, 11, 12, 13, 14, 15] (by decide) rfl
          refine W.widen (k := 14) (n := 6906) (Nat.le_of_ble_eq_true rfl) (Nat.le_of_ble_eq_true rfl) ?_
          exact mt_iret (AA, s2, s6) hx hb hr hk h hP hD hS dX6_lose_40
      · replace h := h.2 c_5
        refine lv_iconst (v := (-1)) hx hb dX6_lose_21 (by decide) ?_
        have hP := hP.part (cx := [((a0 0), .inr (5, [.ref (a1 0), .ref (a2 0), .ref (a3 0), .ref (a4 0), .ref (a5 0), .ref p8, .ref s8])), ((a2 0), .inr (0, [.int (s2.1 0), .int (s2.1 1), .int (s2.1 2), .int (s2.1 3), .int (s2.1 4), .int (s2.1 5), .ref (a2 1), .ref (a2 2), .ref (a2 3), .ref (a2 4), .ref (a2 5), .ref (a2 6), .ref (a2 7), .ref (a2 8), .ref (a2 9), .ref (a2 10), .ref (a2 11), .ref (a2 12)])), ((a2 1), .inl (q 0, 4, .inl (s2.2.1 0))), ((a2 2), .inl (q 0, 4, .inl (s2.2.1 1))), ((a2 3), .inl (q 0, 160, .inl (s2.2.1 2))), ((a2 4), .inl (q 0, 40, .inl (s2.2.1 3))), ((a2 5), .inl (q 0, 40, .inl (s2.2.1 4))), ((a2 6), .inl (q 0, 40, .inl (s2.2.1 5))), ((a2 7), .inl (q 0, 40, .inl (s2.2.1 6))), ((a2 8), .inl (q 0, 40, .inl (s2.2.1 7))), ((a2 9), .inl (q 0, 40, .inl (s2.2.1 8))), ((a2 10), .inl (q 0, 40, .inl (s2.2.1 9))), ((a2 11), .inl (q 1, 40, .inr (.inl s2.2.2.1))), ((a2 12), .inl (q 0, s2.2.2.2.1, .inl s2.2.2.2.2)), (p8, .inr (2, [.ref p9, .int (s6.1 0), .int (s6.1 1)])), (p9, .inl (q 4, 10, .inr (.inr (.inr (.inr (pf_f AA s6.2))))))]) [0, 1, 2, 3, 4, 5, 6, 7, 8, 9, 10, 11, 12, 13, 14, 15] rfl
        have hD := hD.part (cx := [((a0 0), .inr (5, [.ref (a1 0), .ref (a2 0), .ref (a3 0), .ref (a4 0), .ref (a5 0), .ref p8, .ref s8])), ((a2 0), .inr (0, [.int (s2.1 0), .int (s2.1 1), .int (s2.1 2), .int (s2.1 3), .int (s2.1 4), .int (s2.1 5), .ref (a2 1), .ref (a2 2), .ref (a2 3), .ref (a2 4), .ref (a2 5), .ref (a2 6), .ref (a2 7), .ref (a2 8), .ref (a2 9), .ref (a2 10), .ref (a2 11), .ref (a2 12)])), ((a2 1), .inl (q 0, 4, .inl (s2.2.1 0))), ((a2 2), .inl (q 0, 4, .inl (s2.2.1 1))), ((a2 3), .inl (q 0, 160, .inl (s2.2.1 2))), ((a2 4), .inl (q 0, 40, .inl (s2.2.1 3))), ((a2 5), .inl (q 0, 40, .inl (s2.2.1 4))), ((a2 6), .inl (q 0, 40, .inl (s2.2.1 5))), ((a2 7), .inl (q 0, 40, .inl (s2.2.1 6))), ((a2 8), .inl (q 0, 40, .inl (s2.2.1 7))), ((a2 9), .inl (q 0, 40, .inl (s2.2.1 8))), ((a2 10), .inl (q 0, 40, .inl (s2.2.1 9))), ((a2 11), .inl (q 1, 40, .inr (.inl s2.2.2.1))), ((a2 12), .inl (q 0, s2.2.2.2.1, .inl s2.2.2.2.2)), (p8, .inr (2, [.ref p9, .int (s6.1 0), .int (s6.1 1)])), (p9, .inl (q 4, 10, .inr (.inr (.inr (.inr (pf_f AA s6.2))))))]) [0, 1, 2, 3, 4, 5, 6, 7, 8, 9, 10, 11, 12, 13, 14, 15] (by decide) rfl
        refine W.widen (k := 14) (n := 6906) (Nat.le_of_ble_eq_true rfl) (Nat.le_of_ble_eq_true rfl) ?_
        exact mt_iret (AA, s2, s6) hx hb hr hk h hP hD hS dX6_lose_22

def wp_X6_wear (post : Int32 → Bd → Pa → Prop) (s2 : Bd) (s6 : Pa) (x1 : Int32) (x2 : Int32) : Prop := wp_X0_hasFlap (fun r_1 => ((r_1 = 0 → post (-1) s2 s6) ∧ (¬ r_1 = 0 → ((¬ x2 = 0 → wp_X0_isWorn (fun r_5 => ((r_5 = 0 → wp_X3_push (fun s_10 => wp_X0_wearFlap (fun u_15 => wp_X0_wornCount (fun r_16 => post r_16 u_15 s_10) u_15 x1) s2 x1 x2) s6 s2) ∧ (¬ r_5 = 0 → post (-2) s2 s6))) s2 x1 x2) ∧ (x2 = 0 → post (-1) s2 s6))))) s2 x1 x2
set_option maxHeartbeats 4000000 in
set_option maxRecDepth 100000 in
theorem c2_X6_wear {l : Launch} {D : va_G} {q : Nat → ClassId} {sz : Nat} {a0 a1 a2 a3 a4 a5 : Nat → Nat} {p8 s8 p9 : Nat} {AA : Nat → Nat → Nat} {s2 : Bd} {s6 : Pa} {x1 : Int32} {x2 : Int32} {post : Int32 → Bd → Pa → Prop} (h : wp_X6_wear post s2 s6 x1 x2) : Met l yX6_wear (Cond.code yX6_wear cX6_wear 3 (some .int) :: w_all) ({ frames := 4, cells := 14, slots := 6906, locals := 146 } : Room) (mt_P D q [.ref (a0 0), .int x1, .int x2] ((fo_w (a0 0) (a1 0) (a2 0) (a3 0) (a4 0) (a5 0) p8 s8 ++ bd_w a2 q s2 ++ pa_o p8 p9 s6 ++ pa_r p9 q 10 AA s6.2) ++ ps_w q 10 AA s6.2) sz) (va_Qi (fun r (u : (Nat → Nat → Nat) × Bd × Pa) => post r u.2.1 u.2.2) (mt_B D ((fo_w (a0 0) (a1 0) (a2 0) (a3 0) (a4 0) (a5 0) p8 s8 ++ bd_w a2 q s2 ++ pa_o p8 p9 s6 ++ pa_r p9 q 10 AA s6.2) ++ ps_w q 10 AA s6.2) sz (fun u : (Nat → Nat → Nat) × Bd × Pa => ((fo_w (a0 0) (a1 0) (a2 0) (a3 0) (a4 0) (a5 0) p8 s8 ++ bd_w a2 q u.2.1 ++ pa_o p8 p9 u.2.2 ++ pa_r p9 q 10 u.1 u.2.2.2) ++ ps_w q 10 u.1 u.2.2.2))) (va_A ((fo_w (a0 0) (a1 0) (a2 0) (a3 0) (a4 0) (a5 0) p8 s8 ++ bd_w a2 q s2 ++ pa_o p8 p9 s6 ++ pa_r p9 q 10 AA s6.2) ++ ps_w q 10 AA s6.2) sz)) 14 6906 (va_A ((fo_w (a0 0) (a1 0) (a2 0) (a3 0) (a4 0) (a5 0) p8 s8 ++ bd_w a2 q s2 ++ pa_o p8 p9 s6 ++ pa_r p9 q 10 AA s6.2) ++ ps_w q 10 AA s6.2) sz) := by
  refine mt_start (by decide) (Nat.le_of_ble_eq_true rfl) ?_
  intro p e s m below meth c ls hx hb hr hml hown ht hk hin hP hQ hD hA hS hV hl
  have hK := hQ.1
  have hown : s.vm.findClass RX6 = some m.cls := hown
  have hl : lv_has ls 3 [(0, .ref (a0 0)), (1, .int x1), (2, .int x2)] := hl
  have hP : va_P D vwCl (([((a0 0), .inr (5, [.ref (a1 0), .ref (a2 0), .ref (a3 0), .ref (a4 0), .ref (a5 0), .ref p8, .ref s8])), ((a2 0), .inr (0, [.int (s2.1 0), .int (s2.1 1), .int (s2.1 2), .int (s2.1 3), .int (s2.1 4), .int (s2.1 5), .ref (a2 1), .ref (a2 2), .ref (a2 3), .ref (a2 4), .ref (a2 5), .ref (a2 6), .ref (a2 7), .ref (a2 8), .ref (a2 9), .ref (a2 10), .ref (a2 11), .ref (a2 12)])), ((a2 1), .inl (q 0, 4, .inl (s2.2.1 0))), ((a2 2), .inl (q 0, 4, .inl (s2.2.1 1))), ((a2 3), .inl (q 0, 160, .inl (s2.2.1 2))), ((a2 4), .inl (q 0, 40, .inl (s2.2.1 3))), ((a2 5), .inl (q 0, 40, .inl (s2.2.1 4))), ((a2 6), .inl (q 0, 40, .inl (s2.2.1 5))), ((a2 7), .inl (q 0, 40, .inl (s2.2.1 6))), ((a2 8), .inl (q 0, 40, .inl (s2.2.1 7))), ((a2 9), .inl (q 0, 40, .inl (s2.2.1 8))), ((a2 10), .inl (q 0, 40, .inl (s2.2.1 9))), ((a2 11), .inl (q 1, 40, .inr (.inl s2.2.2.1))), ((a2 12), .inl (q 0, s2.2.2.2.1, .inl s2.2.2.2.2)), (p8, .inr (2, [.ref p9, .int (s6.1 0), .int (s6.1 1)])), (p9, .inl (q 4, 10, .inr (.inr (.inr (.inr (pf_f AA s6.2))))))] : va_W) ++ ps_w q 10 AA s6.2) s.heap := hP
  have hD : va_D _ (([((a0 0), .inr (5, [.ref (a1 0), .ref (a2 0), .ref (a3 0), .ref (a4 0), .ref (a5 0), .ref p8, .ref s8])), ((a2 0), .inr (0, [.int (s2.1 0), .int (s2.1 1), .int (s2.1 2), .int (s2.1 3), .int (s2.1 4), .int (s2.1 5), .ref (a2 1), .ref (a2 2), .ref (a2 3), .ref (a2 4), .ref (a2 5), .ref (a2 6), .ref (a2 7), .ref (a2 8), .ref (a2 9), .ref (a2 10), .ref (a2 11), .ref (a2 12)])), ((a2 1), .inl (q 0, 4, .inl (s2.2.1 0))), ((a2 2), .inl (q 0, 4, .inl (s2.2.1 1))), ((a2 3), .inl (q 0, 160, .inl (s2.2.1 2))), ((a2 4), .inl (q 0, 40, .inl (s2.2.1 3))), ((a2 5), .inl (q 0, 40, .inl (s2.2.1 4))), ((a2 6), .inl (q 0, 40, .inl (s2.2.1 5))), ((a2 7), .inl (q 0, 40, .inl (s2.2.1 6))), ((a2 8), .inl (q 0, 40, .inl (s2.2.1 7))), ((a2 9), .inl (q 0, 40, .inl (s2.2.1 8))), ((a2 10), .inl (q 0, 40, .inl (s2.2.1 9))), ((a2 11), .inl (q 1, 40, .inr (.inl s2.2.2.1))), ((a2 12), .inl (q 0, s2.2.2.2.1, .inl s2.2.2.2.2)), (p8, .inr (2, [.ref p9, .int (s6.1 0), .int (s6.1 1)])), (p9, .inl (q 4, 10, .inr (.inr (.inr (.inr (pf_f AA s6.2))))))] : va_W) ++ ps_w q 10 AA s6.2) := hD
  unfold wp_X6_wear at h
  refine lv_aload_n hx hb dX6_wear_0 rfl (lv_at hl 0 rfl) ?_
  refine fl_get (C := RX6) (T := TX6) (N := 7) (ci := 5) (v := .ref (a2 0)) hx hb ht in_X6 hown hK hP 0 rfl rfl 1 (by decide) mw_356 rfl dX6_wear_1 ?_
  refine lv_iload_n hx hb dX6_wear_4 rfl (lv_at hl 1 rfl) ?_
  refine lv_iload_n hx hb dX6_wear_5 rfl (lv_at hl 2 rfl) ?_
  refine vp_callSi (rd_wV (wc := bd_w a2 q s2) (As := [.int x1, .int x2]) (rest := []) hx hb hml hown ht (c2_X0_hasFlap h) wd_X0_hasFlap mw_736 hQ hV hS (hP.sub [1, 2, 3, 4, 5, 6, 7, 8, 9, 10, 11, 12, 13] rfl) rfl rfl rfl hl.1 rfl (Nat.le_of_ble_eq_true rfl) dX6_wear_6 ⟨Nat.le_of_ble_eq_true rfl, Nat.le_of_ble_eq_true rfl, rfl, rfl⟩ ⟨Nat.le_of_ble_eq_true rfl, Nat.le_of_ble_eq_true rfl⟩) (fun r_1 h => ?_)
  try dsimp only at h
  refine lv_if_eq (tgt := 16) hx hb dX6_wear_9 (by decide) (fun c_3 => ?_) (fun c_3 => ?_)
  · replace h := h.1 c_3
    refine lv_iconst (v := (-1)) hx hb dX6_wear_16 (by decide) ?_
    have hP := hP.part (cx := [((a0 0), .inr (5, [.ref (a1 0), .ref (a2 0), .ref (a3 0), .ref (a4 0), .ref (a5 0), .ref p8, .ref s8])), ((a2 0), .inr (0, [.int (s2.1 0), .int (s2.1 1), .int (s2.1 2), .int (s2.1 3), .int (s2.1 4), .int (s2.1 5), .ref (a2 1), .ref (a2 2), .ref (a2 3), .ref (a2 4), .ref (a2 5), .ref (a2 6), .ref (a2 7), .ref (a2 8), .ref (a2 9), .ref (a2 10), .ref (a2 11), .ref (a2 12)])), ((a2 1), .inl (q 0, 4, .inl (s2.2.1 0))), ((a2 2), .inl (q 0, 4, .inl (s2.2.1 1))), ((a2 3), .inl (q 0, 160, .inl (s2.2.1 2))), ((a2 4), .inl (q 0, 40, .inl (s2.2.1 3))), ((a2 5), .inl (q 0, 40, .inl (s2.2.1 4))), ((a2 6), .inl (q 0, 40, .inl (s2.2.1 5))), ((a2 7), .inl (q 0, 40, .inl (s2.2.1 6))), ((a2 8), .inl (q 0, 40, .inl (s2.2.1 7))), ((a2 9), .inl (q 0, 40, .inl (s2.2.1 8))), ((a2 10), .inl (q 0, 40, .inl (s2.2.1 9))), ((a2 11), .inl (q 1, 40, .inr (.inl s2.2.2.1))), ((a2 12), .inl (q 0, s2.2.2.2.1, .inl s2.2.2.2.2)), (p8, .inr (2, [.ref p9, .int (s6.1 0), .int (s6.1 1)])), (p9, .inl (q 4, 10, .inr (.inr (.inr (.inr (pf_f AA s6.2))))))]) [0, 1, 2, 3, 4, 5, 6, 7, 8, 9, 10, 11, 12, 13, 14, 15] rfl
    have hD := hD.part (cx := [((a0 0), .inr (5, [.ref (a1 0), .ref (a2 0), .ref (a3 0), .ref (a4 0), .ref (a5 0), .ref p8, .ref s8])), ((a2 0), .inr (0, [.int (s2.1 0), .int (s2.1 1), .int (s2.1 2), .int (s2.1 3), .int (s2.1 4), .int (s2.1 5), .ref (a2 1), .ref (a2 2), .ref (a2 3), .ref (a2 4), .ref (a2 5), .ref (a2 6), .ref (a2 7), .ref (a2 8), .ref (a2 9), .ref (a2 10), .ref (a2 11), .ref (a2 12)])), ((a2 1), .inl (q 0, 4, .inl (s2.2.1 0))), ((a2 2), .inl (q 0, 4, .inl (s2.2.1 1))), ((a2 3), .inl (q 0, 160, .inl (s2.2.1 2))), ((a2 4), .inl (q 0, 40, .inl (s2.2.1 3))), ((a2 5), .inl (q 0, 40, .inl (s2.2.1 4))), ((a2 6), .inl (q 0, 40, .inl (s2.2.1 5))), ((a2 7), .inl (q 0, 40, .inl (s2.2.1 6))), ((a2 8), .inl (q 0, 40, .inl (s2.2.1 7))), ((a2 9), .inl (q 0, 40, .inl (s2.2.1 8))), ((a2 10), .inl (q 0, 40, .inl (s2.2.1 9))), ((a2 11), .inl (q 1, 40, .inr (.inl s2.2.2.1))), ((a2 12), .inl (q 0, s2.2.2.2.1, .inl s2.2.2.2.2)), (p8, .inr (2, [.ref p9, .int (s6.1 0), .int (s6.1 1)])), (p9, .inl (q 4, 10, .inr (.inr (.inr (.inr (pf_f AA s6.2))))))]) [0, 1, 2, 3, 4, 5, 6, 7, 8, 9, 10, 11, 12, 13, 14, 15] (by decide) rfl
    refine W.widen (k := 14) (n := 6906) (Nat.le_of_ble_eq_true rfl) (Nat.le_of_ble_eq_true rfl) ?_
    exact mt_iret (AA, s2, s6) hx hb hr hk h hP hD hS dX6_wear_17
  · replace h := h.2 c_3
    refine lv_iload_n hx hb dX6_wear_12 rfl (lv_at hl 2 rfl) ?_
    refine lv_if_ne (tgt := 18) hx hb dX6_wear_13 (by decide) (fun c_4 => ?_) (fun c_4 => ?_)
    · replace h := h.1 c_4
      refine lv_aload_n hx hb dX6_wear_18 rfl (lv_at hl 0 rfl) ?_
      refine fl_get (C := RX6) (T := TX6) (N := 7) (ci := 5) (v := .ref (a2 0)) hx hb ht in_X6 hown hK hP 0 rfl rfl 1 (by decide) mw_356 rfl dX6_wear_19 ?_
      refine lv_iload_n hx hb dX6_wear_22 rfl (lv_at hl 1 rfl) ?_
      refine lv_iload_n hx hb dX6_wear_23 rfl (lv_at hl 2 rfl) ?_
      refine vp_callSi (rd_wV (wc := bd_w a2 q s2) (As := [.int x1, .int x2]) (rest := []) hx hb hml hown ht (c2_X0_isWorn h) wd_X0_isWorn mw_740 hQ hV hS (hP.sub [1, 2, 3, 4, 5, 6, 7, 8, 9, 10, 11, 12, 13] rfl) rfl rfl rfl hl.1 rfl (Nat.le_of_ble_eq_true rfl) dX6_wear_24 ⟨Nat.le_of_ble_eq_true rfl, Nat.le_of_ble_eq_true rfl, rfl, rfl⟩ ⟨Nat.le_of_ble_eq_true rfl, Nat.le_of_ble_eq_true rfl⟩) (fun r_5 h => ?_)
      try dsimp only at h
      refine lv_if_eq (tgt := 33) hx hb dX6_wear_27 (by decide) (fun c_7 => ?_) (fun c_7 => ?_)
      · replace h := h.1 c_7
        refine lv_aload_n hx hb dX6_wear_33 rfl (lv_at hl 0 rfl) ?_
        refine fl_get (C := RX6) (T := TX6) (N := 7) (ci := 5) (v := .ref p8) hx hb ht in_X6 hown hK hP 0 rfl rfl 5 (by decide) mw_360 rfl dX6_wear_34 ?_
        refine lv_aload_n hx hb dX6_wear_37 rfl (lv_at hl 0 rfl) ?_
        refine fl_get (C := RX6) (T := TX6) (N := 7) (ci := 5) (v := .ref (a2 0)) hx hb ht in_X6 hown hK hP 0 rfl rfl 1 (by decide) mw_356 rfl dX6_wear_38 ?_
        refine mt_govP (X := [((a0 0), .inr (5, [.ref (a1 0), .ref (a2 0), .ref (a3 0), .ref (a4 0), .ref (a5 0), .ref p8, .ref s8])), ((a2 0), .inr (0, [.int (s2.1 0), .int (s2.1 1), .int (s2.1 2), .int (s2.1 3), .int (s2.1 4), .int (s2.1 5), .ref (a2 1), .ref (a2 2), .ref (a2 3), .ref (a2 4), .ref (a2 5), .ref (a2 6), .ref (a2 7), .ref (a2 8), .ref (a2 9), .ref (a2 10), .ref (a2 11), .ref (a2 12)])), ((a2 1), .inl (q 0, 4, .inl (s2.2.1 0))), ((a2 2), .inl (q 0, 4, .inl (s2.2.1 1))), ((a2 3), .inl (q 0, 160, .inl (s2.2.1 2))), ((a2 4), .inl (q 0, 40, .inl (s2.2.1 3))), ((a2 5), .inl (q 0, 40, .inl (s2.2.1 4))), ((a2 6), .inl (q 0, 40, .inl (s2.2.1 5))), ((a2 7), .inl (q 0, 40, .inl (s2.2.1 6))), ((a2 8), .inl (q 0, 40, .inl (s2.2.1 7))), ((a2 9), .inl (q 0, 40, .inl (s2.2.1 8))), ((a2 10), .inl (q 0, 40, .inl (s2.2.1 9))), ((a2 11), .inl (q 1, 40, .inr (.inl s2.2.2.1))), ((a2 12), .inl (q 0, s2.2.2.2.1, .inl s2.2.2.2.2)), (p8, .inr (2, [.ref p9, .int (s6.1 0), .int (s6.1 1)])), (p9, .inl (q 4, 10, .inr (.inr (.inr (.inr (pf_f AA s6.2))))))]) (pl := ps_w q 10 AA s6.2) (mt_wV (wc := (pa_o p8 p9 s6 ++ pa_r p9 q 10 AA s6.2 ++ bd_w a2 q s2) ++ ps_w q 10 AA s6.2) (As := [.ref (a2 0)]) (rest := []) hx hb hml hown ht (c2_X3_push (a0 := va_up (fun _ => p9) 0 p8) h) wd_X3_push mw_631 hQ hV hS hA (hP.part (cx := (pa_o p8 p9 s6 ++ pa_r p9 q 10 AA s6.2 ++ bd_w a2 q s2)) [14, 15, 1, 2, 3, 4, 5, 6, 7, 8, 9, 10, 11, 12, 13] rfl) (hD.part (cx := (pa_o p8 p9 s6 ++ pa_r p9 q 10 AA s6.2 ++ bd_w a2 q s2)) [14, 15, 1, 2, 3, 4, 5, 6, 7, 8, 9, 10, 11, 12, 13] (by decide) rfl) rfl rfl rfl hl.1 rfl (Nat.le_of_ble_eq_true rfl) dX6_wear_41 ⟨Nat.le_of_ble_eq_true rfl, Nat.le_of_ble_eq_true rfl, rfl, rfl⟩ ⟨Nat.le_of_ble_eq_true rfl, Nat.le_of_ble_eq_true rfl⟩) (wr := [((a0 0), .inr (5, [.ref (a1 0), .ref (a2 0), .ref (a3 0), .ref (a4 0), .ref (a5 0), .ref p8, .ref s8]))]) hP hD hS hA [14, 15, 1, 2, 3, 4, 5, 6, 7, 8, 9, 10, 11, 12, 13] [0] rfl rfl (by decide) (by decide) (fun u_8 H locs h hP hD hS => ?_)
        obtain ⟨A_11, s_10⟩ := u_8
        try dsimp only at h
        have hP : va_P D vwCl (([((a0 0), .inr (5, [.ref (a1 0), .ref (a2 0), .ref (a3 0), .ref (a4 0), .ref (a5 0), .ref p8, .ref s8])), (p8, .inr (2, [.ref p9, .int (s_10.1 0), .int (s_10.1 1)])), (p9, .inl (q 4, 10, .inr (.inr (.inr (.inr (pf_f A_11 s_10.2)))))), ((a2 0), .inr (0, [.int (s2.1 0), .int (s2.1 1), .int (s2.1 2), .int (s2.1 3), .int (s2.1 4), .int (s2.1 5), .ref (a2 1), .ref (a2 2), .ref (a2 3), .ref (a2 4), .ref (a2 5), .ref (a2 6), .ref (a2 7), .ref (a2 8), .ref (a2 9), .ref (a2 10), .ref (a2 11), .ref (a2 12)])), ((a2 1), .inl (q 0, 4, .inl (s2.2.1 0))), ((a2 2), .inl (q 0, 4, .inl (s2.2.1 1))), ((a2 3), .inl (q 0, 160, .inl (s2.2.1 2))), ((a2 4), .inl (q 0, 40, .inl (s2.2.1 3))), ((a2 5), .inl (q 0, 40, .inl (s2.2.1 4))), ((a2 6), .inl (q 0, 40, .inl (s2.2.1 5))), ((a2 7), .inl (q 0, 40, .inl (s2.2.1 6))), ((a2 8), .inl (q 0, 40, .inl (s2.2.1 7))), ((a2 9), .inl (q 0, 40, .inl (s2.2.1 8))), ((a2 10), .inl (q 0, 40, .inl (s2.2.1 9))), ((a2 11), .inl (q 1, 40, .inr (.inl s2.2.2.1))), ((a2 12), .inl (q 0, s2.2.2.2.1, .inl s2.2.2.2.2))] : va_W) ++ ps_w q 10 A_11 s_10.2) H := hP
        have hD : va_D _ (([((a0 0), .inr (5, [.ref (a1 0), .ref (a2 0), .ref (a3 0), .ref (a4 0), .ref (a5 0), .ref p8, .ref s8])), (p8, .inr (2, [.ref p9, .int (s_10.1 0), .int (s_10.1 1)])), (p9, .inl (q 4, 10, .inr (.inr (.inr (.inr (pf_f A_11 s_10.2)))))), ((a2 0), .inr (0, [.int (s2.1 0), .int (s2.1 1), .int (s2.1 2), .int (s2.1 3), .int (s2.1 4), .int (s2.1 5), .ref (a2 1), .ref (a2 2), .ref (a2 3), .ref (a2 4), .ref (a2 5), .ref (a2 6), .ref (a2 7), .ref (a2 8), .ref (a2 9), .ref (a2 10), .ref (a2 11), .ref (a2 12)])), ((a2 1), .inl (q 0, 4, .inl (s2.2.1 0))), ((a2 2), .inl (q 0, 4, .inl (s2.2.1 1))), ((a2 3), .inl (q 0, 160, .inl (s2.2.1 2))), ((a2 4), .inl (q 0, 40, .inl (s2.2.1 3))), ((a2 5), .inl (q 0, 40, .inl (s2.2.1 4))), ((a2 6), .inl (q 0, 40, .inl (s2.2.1 5))), ((a2 7), .inl (q 0, 40, .inl (s2.2.1 6))), ((a2 8), .inl (q 0, 40, .inl (s2.2.1 7))), ((a2 9), .inl (q 0, 40, .inl (s2.2.1 8))), ((a2 10), .inl (q 0, 40, .inl (s2.2.1 9))), ((a2 11), .inl (q 1, 40, .inr (.inl s2.2.2.1))), ((a2 12), .inl (q 0, s2.2.2.2.1, .inl s2.2.2.2.2))] : va_W) ++ ps_w q 10 A_11 s_10.2) := hD
        refine W.widen (k := 14) (n := 6906) (Nat.le_of_ble_eq_true rfl) (Nat.le_of_ble_eq_true rfl) ?_
        refine lv_aload_n hx hb dX6_wear_44 rfl (lv_at hl 0 rfl) ?_
        refine fl_get (C := RX6) (T := TX6) (N := 7) (ci := 5) (v := .ref (a2 0)) hx hb ht in_X6 hown hK hP 0 rfl rfl 1 (by decide) mw_356 rfl dX6_wear_45 ?_
        refine lv_iload_n hx hb dX6_wear_48 rfl (lv_at hl 1 rfl) ?_
        refine lv_iload_n hx hb dX6_wear_49 rfl (lv_at hl 2 rfl) ?_
        refine mt_govQ (X := [((a0 0), .inr (5, [.ref (a1 0), .ref (a2 0), .ref (a3 0), .ref (a4 0), .ref (a5 0), .ref p8, .ref s8])), (p8, .inr (2, [.ref p9, .int (s_10.1 0), .int (s_10.1 1)])), (p9, .inl (q 4, 10, .inr (.inr (.inr (.inr (pf_f A_11 s_10.2)))))), ((a2 0), .inr (0, [.int (s2.1 0), .int (s2.1 1), .int (s2.1 2), .int (s2.1 3), .int (s2.1 4), .int (s2.1 5), .ref (a2 1), .ref (a2 2), .ref (a2 3), .ref (a2 4), .ref (a2 5), .ref (a2 6), .ref (a2 7), .ref (a2 8), .ref (a2 9), .ref (a2 10), .ref (a2 11), .ref (a2 12)])), ((a2 1), .inl (q 0, 4, .inl (s2.2.1 0))), ((a2 2), .inl (q 0, 4, .inl (s2.2.1 1))), ((a2 3), .inl (q 0, 160, .inl (s2.2.1 2))), ((a2 4), .inl (q 0, 40, .inl (s2.2.1 3))), ((a2 5), .inl (q 0, 40, .inl (s2.2.1 4))), ((a2 6), .inl (q 0, 40, .inl (s2.2.1 5))), ((a2 7), .inl (q 0, 40, .inl (s2.2.1 6))), ((a2 8), .inl (q 0, 40, .inl (s2.2.1 7))), ((a2 9), .inl (q 0, 40, .inl (s2.2.1 8))), ((a2 10), .inl (q 0, 40, .inl (s2.2.1 9))), ((a2 11), .inl (q 1, 40, .inr (.inl s2.2.2.1))), ((a2 12), .inl (q 0, s2.2.2.2.1, .inl s2.2.2.2.2))]) (pl := ps_w q 10 A_11 s_10.2) (mt_wV (wc := bd_w a2 q s2) (As := [.int x1, .int x2]) (rest := []) hx hb hml hown ht (c2_X0_wearFlap h) wd_X0_wearFlap mw_741 hQ hV hS hA (hP.sub [3, 4, 5, 6, 7, 8, 9, 10, 11, 12, 13, 14, 15] rfl) (hD.sub [3, 4, 5, 6, 7, 8, 9, 10, 11, 12, 13, 14, 15] (by decide) rfl) rfl rfl rfl hl.1 rfl (Nat.le_of_ble_eq_true rfl) dX6_wear_50 ⟨Nat.le_of_ble_eq_true rfl, Nat.le_of_ble_eq_true rfl, rfl, rfl⟩ ⟨Nat.le_of_ble_eq_true rfl, Nat.le_of_ble_eq_true rfl⟩) (wr := [((a0 0), .inr (5, [.ref (a1 0), .ref (a2 0), .ref (a3 0), .ref (a4 0), .ref (a5 0), .ref p8, .ref s8])), (p8, .inr (2, [.ref p9, .int (s_10.1 0), .int (s_10.1 1)])), (p9, .inl (q 4, 10, .inr (.inr (.inr (.inr (pf_f A_11 s_10.2))))))]) hP hD hS hA [3, 4, 5, 6, 7, 8, 9, 10, 11, 12, 13, 14, 15] [0, 1, 2] rfl rfl (by decide) (by decide) (fun u_15 H locs h hP hD hS => ?_)
        try dsimp only at h
        have hP : va_P D vwCl (([((a0 0), .inr (5, [.ref (a1 0), .ref (a2 0), .ref (a3 0), .ref (a4 0), .ref (a5 0), .ref p8, .ref s8])), (p8, .inr (2, [.ref p9, .int (s_10.1 0), .int (s_10.1 1)])), (p9, .inl (q 4, 10, .inr (.inr (.inr (.inr (pf_f A_11 s_10.2)))))), ((a2 0), .inr (0, [.int (u_15.1 0), .int (u_15.1 1), .int (u_15.1 2), .int (u_15.1 3), .int (u_15.1 4), .int (u_15.1 5), .ref (a2 1), .ref (a2 2), .ref (a2 3), .ref (a2 4), .ref (a2 5), .ref (a2 6), .ref (a2 7), .ref (a2 8), .ref (a2 9), .ref (a2 10), .ref (a2 11), .ref (a2 12)])), ((a2 1), .inl (q 0, 4, .inl (u_15.2.1 0))), ((a2 2), .inl (q 0, 4, .inl (u_15.2.1 1))), ((a2 3), .inl (q 0, 160, .inl (u_15.2.1 2))), ((a2 4), .inl (q 0, 40, .inl (u_15.2.1 3))), ((a2 5), .inl (q 0, 40, .inl (u_15.2.1 4))), ((a2 6), .inl (q 0, 40, .inl (u_15.2.1 5))), ((a2 7), .inl (q 0, 40, .inl (u_15.2.1 6))), ((a2 8), .inl (q 0, 40, .inl (u_15.2.1 7))), ((a2 9), .inl (q 0, 40, .inl (u_15.2.1 8))), ((a2 10), .inl (q 0, 40, .inl (u_15.2.1 9))), ((a2 11), .inl (q 1, 40, .inr (.inl u_15.2.2.1))), ((a2 12), .inl (q 0, u_15.2.2.2.1, .inl u_15.2.2.2.2))] : va_W) ++ ps_w q 10 A_11 s_10.2) H := hP
        have hD : va_D _ (([((a0 0), .inr (5, [.ref (a1 0), .ref (a2 0), .ref (a3 0), .ref (a4 0), .ref (a5 0), .ref p8, .ref s8])), (p8, .inr (2, [.ref p9, .int (s_10.1 0), .int (s_10.1 1)])), (p9, .inl (q 4, 10, .inr (.inr (.inr (.inr (pf_f A_11 s_10.2)))))), ((a2 0), .inr (0, [.int (u_15.1 0), .int (u_15.1 1), .int (u_15.1 2), .int (u_15.1 3), .int (u_15.1 4), .int (u_15.1 5), .ref (a2 1), .ref (a2 2), .ref (a2 3), .ref (a2 4), .ref (a2 5), .ref (a2 6), .ref (a2 7), .ref (a2 8), .ref (a2 9), .ref (a2 10), .ref (a2 11), .ref (a2 12)])), ((a2 1), .inl (q 0, 4, .inl (u_15.2.1 0))), ((a2 2), .inl (q 0, 4, .inl (u_15.2.1 1))), ((a2 3), .inl (q 0, 160, .inl (u_15.2.1 2))), ((a2 4), .inl (q 0, 40, .inl (u_15.2.1 3))), ((a2 5), .inl (q 0, 40, .inl (u_15.2.1 4))), ((a2 6), .inl (q 0, 40, .inl (u_15.2.1 5))), ((a2 7), .inl (q 0, 40, .inl (u_15.2.1 6))), ((a2 8), .inl (q 0, 40, .inl (u_15.2.1 7))), ((a2 9), .inl (q 0, 40, .inl (u_15.2.1 8))), ((a2 10), .inl (q 0, 40, .inl (u_15.2.1 9))), ((a2 11), .inl (q 1, 40, .inr (.inl u_15.2.2.1))), ((a2 12), .inl (q 0, u_15.2.2.2.1, .inl u_15.2.2.2.2))] : va_W) ++ ps_w q 10 A_11 s_10.2) := hD
        refine lv_aload_n hx hb dX6_wear_53 rfl (lv_at hl 0 rfl) ?_
        refine fl_get (C := RX6) (T := TX6) (N := 7) (ci := 5) (v := .ref (a2 0)) hx hb ht in_X6 hown hK hP 0 rfl rfl 1 (by decide) mw_356 rfl dX6_wear_54 ?_
        refine lv_iload_n hx hb dX6_wear_57 rfl (lv_at hl 1 rfl) ?_
        refine vp_callSi (rd_wV (wc := bd_w a2 q u_15) (As := [.int x1]) (rest := []) hx hb hml hown ht (c2_X0_wornCount h) wd_X0_wornCount mw_742 hQ hV hS (hP.sub [3, 4, 5, 6, 7, 8, 9, 10, 11, 12, 13, 14, 15] rfl) rfl rfl rfl hl.1 rfl (Nat.le_of_ble_eq_true rfl) dX6_wear_58 ⟨Nat.le_of_ble_eq_true rfl, Nat.le_of_ble_eq_true rfl, rfl, rfl⟩ ⟨Nat.le_of_ble_eq_true rfl, Nat.le_of_ble_eq_true rfl⟩) (fun r_16 h => ?_)
        try dsimp only at h
        have hP := hP.part (cx := [((a0 0), .inr (5, [.ref (a1 0), .ref (a2 0), .ref (a3 0), .ref (a4 0), .ref (a5 0), .ref p8, .ref s8])), ((a2 0), .inr (0, [.int (u_15.1 0), .int (u_15.1 1), .int (u_15.1 2), .int (u_15.1 3), .int (u_15.1 4), .int (u_15.1 5), .ref (a2 1), .ref (a2 2), .ref (a2 3), .ref (a2 4), .ref (a2 5), .ref (a2 6), .ref (a2 7), .ref (a2 8), .ref (a2 9), .ref (a2 10), .ref (a2 11), .ref (a2 12)])), ((a2 1), .inl (q 0, 4, .inl (u_15.2.1 0))), ((a2 2), .inl (q 0, 4, .inl (u_15.2.1 1))), ((a2 3), .inl (q 0, 160, .inl (u_15.2.1 2))), ((a2 4), .inl (q 0, 40, .inl (u_15.2.1 3))), ((a2 5), .inl (q 0, 40, .inl (u_15.2.1 4))), ((a2 6), .inl (q 0, 40, .inl (u_15.2.1 5))), ((a2 7), .inl (q 0, 40, .inl (u_15.2.1 6))), ((a2 8), .inl (q 0, 40, .inl (u_15.2.1 7))), ((a2 9), .inl (q 0, 40, .inl (u_15.2.1 8))), ((a2 10), .inl (q 0, 40, .inl (u_15.2.1 9))), ((a2 11), .inl (q 1, 40, .inr (.inl u_15.2.2.1))), ((a2 12), .inl (q 0, u_15.2.2.2.1, .inl u_15.2.2.2.2)), (p8, .inr (2, [.ref p9, .int (s_10.1 0), .int (s_10.1 1)])), (p9, .inl (q 4, 10, .inr (.inr (.inr (.inr (pf_f A_11 s_10.2))))))]) [0, 3, 4, 5, 6, 7, 8, 9, 10, 11, 12, 13, 14, 15, 1, 2] rfl
        have hD := hD.part (cx := [((a0 0), .inr (5, [.ref (a1 0), .ref (a2 0), .ref (a3 0), .ref (a4 0), .ref (a5 0), .ref p8, .ref s8])), ((a2 0), .inr (0, [.int (u_15.1 0), .int (u_15.1 1), .int (u_15.1 2), .int (u_15.1 3), .int (u_15.1 4), .int (u_15.1 5), .ref (a2 1), .ref (a2 2), .ref (a2 3), .ref (a2 4), .ref (a2 5), .ref (a2 6), .ref (a2 7), .ref (a2 8), .ref (a2 9), .ref (a2 10), .ref (a2 11), .ref (a2 12)])), ((a2 1), .inl (q 0, 4, .inl (u_15.2.1 0))), ((a2 2), .inl (q 0, 4, .inl (u_15.2.1 1))), ((a2 3), .inl (q 0, 160, .inl (u_15.2.1 2))), ((a2 4), .inl (q 0, 40, .inl (u_15.2.1 3))), ((a2 5), .inl (q 0, 40, .inl (u_15.2.1 4))), ((a2 6), .inl (q 0, 40, .inl (u_15.2.1 5))), ((a2 7), .inl (q 0, 40, .inl (u_15.2.1 6))), ((a2 8), .inl (q 0, 40, .inl (u_15.2.1 7))), ((a2 9), .inl (q 0, 40, .inl (u_15.2.1 8))), ((a2 10), .inl (q 0, 40, .inl (u_15.2.1 9))), ((a2 11), .inl (q 1, 40, .inr (.inl u_15.2.2.1))), ((a2 12), .inl (q 0, u_15.2.2.2.1, .inl u_15.2.2.2.2)), (p8, .inr (2, [.ref p9, .int (s_10.1 0), .int (s_10.1 1)])), (p9, .inl (q 4, 10, .inr (.inr (.inr (.inr (pf_f A_11 s_10.2))))))]) [0, 3, 4, 5, 6, 7, 8, 9, 10, 11, 12, 13, 14, 15, 1, 2] (by decide) rfl
        exact mt_iret (A_11, u_15, s_10) hx hb hr hk h hP hD hS dX6_wear_61
      · replace h := h.2 c_7
        refine lv_bipush (v := (-2)) hx hb dX6_wear_30 (by decide) ?_
        have hP := hP.part (cx := [((a0 0), .inr (5, [.ref (a1 0), .ref (a2 0), .ref (a3 0), .ref (a4 0), .ref (a5 0), .ref p8, .ref s8])), ((a2 0), .inr (0, [.int (s2.1 0), .int (s2.1 1), .int (s2.1 2), .int (s2.1 3), .int (s2.1 4), .int (s2.1 5), .ref (a2 1), .ref (a2 2), .ref (a2 3), .ref (a2 4), .ref (a2 5), .ref (a2 6), .ref (a2 7), .ref (a2 8), .ref (a2 9), .ref (a2 10), .ref (a2 11), .ref (a2 12)])), ((a2 1), .inl (q 0, 4, .inl (s2.2.1 0))), ((a2 2), .inl (q 0, 4, .inl (s2.2.1 1))), ((a2 3), .inl (q 0, 160, .inl (s2.2.1 2))), ((a2 4), .inl (q 0, 40, .inl (s2.2.1 3))), ((a2 5), .inl (q 0, 40, .inl (s2.2.1 4))), ((a2 6), .inl (q 0, 40, .inl (s2.2.1 5))), ((a2 7), .inl (q 0, 40, .inl (s2.2.1 6))), ((a2 8), .inl (q 0, 40, .inl (s2.2.1 7))), ((a2 9), .inl (q 0, 40, .inl (s2.2.1 8))), ((a2 10), .inl (q 0, 40, .inl (s2.2.1 9))), ((a2 11), .inl (q 1, 40, .inr (.inl s2.2.2.1))), ((a2 12), .inl (q 0, s2.2.2.2.1, .inl s2.2.2.2.2)), (p8, .inr (2, [.ref p9, .int (s6.1 0), .int (s6.1 1)])), (p9, .inl (q 4, 10, .inr (.inr (.inr (.inr (pf_f AA s6.2))))))]) [0, 1, 2, 3, 4, 5, 6, 7, 8, 9, 10, 11, 12, 13, 14, 15] rfl
        have hD := hD.part (cx := [((a0 0), .inr (5, [.ref (a1 0), .ref (a2 0), .ref (a3 0), .ref (a4 0), .ref (a5 0), .ref p8, .ref s8])), ((a2 0), .inr (0, [.int (s2.1 0), .int (s2.1 1), .int (s2.1 2), .int (s2.1 3), .int (s2.1 4), .int (s2.1 5), .ref (a2 1), .ref (a2 2), .ref (a2 3), .ref (a2 4), .ref (a2 5), .ref (a2 6), .ref (a2 7), .ref (a2 8), .ref (a2 9), .ref (a2 10), .ref (a2 11), .ref (a2 12)])), ((a2 1), .inl (q 0, 4, .inl (s2.2.1 0))), ((a2 2), .inl (q 0, 4, .inl (s2.2.1 1))), ((a2 3), .inl (q 0, 160, .inl (s2.2.1 2))), ((a2 4), .inl (q 0, 40, .inl (s2.2.1 3))), ((a2 5), .inl (q 0, 40, .inl (s2.2.1 4))), ((a2 6), .inl (q 0, 40, .inl (s2.2.1 5))), ((a2 7), .inl (q 0, 40, .inl (s2.2.1 6))), ((a2 8), .inl (q 0, 40, .inl (s2.2.1 7))), ((a2 9), .inl (q 0, 40, .inl (s2.2.1 8))), ((a2 10), .inl (q 0, 40, .inl (s2.2.1 9))), ((a2 11), .inl (q 1, 40, .inr (.inl s2.2.2.1))), ((a2 12), .inl (q 0, s2.2.2.2.1, .inl s2.2.2.2.2)), (p8, .inr (2, [.ref p9, .int (s6.1 0), .int (s6.1 1)])), (p9, .inl (q 4, 10, .inr (.inr (.inr (.inr (pf_f AA s6.2))))))]) [0, 1, 2, 3, 4, 5, 6, 7, 8, 9, 10, 11, 12, 13, 14, 15] (by decide) rfl
        refine W.widen (k := 14) (n := 6906) (Nat.le_of_ble_eq_true rfl) (Nat.le_of_ble_eq_true rfl) ?_
        exact mt_iret (AA, s2, s6) hx hb hr hk h hP hD hS dX6_wear_32
    · replace h := h.2 c_4
      refine lv_iconst (v := (-1)) hx hb dX6_wear_16 (by decide) ?_
      have hP := hP.part (cx := [((a0 0), .inr (5, [.ref (a1 0), .ref (a2 0), .ref (a3 0), .ref (a4 0), .ref (a5 0), .ref p8, .ref s8])), ((a2 0), .inr (0, [.int (s2.1 0), .int (s2.1 1), .int (s2.1 2), .int (s2.1 3), .int (s2.1 4), .int (s2.1 5), .ref (a2 1), .ref (a2 2), .ref (a2 3), .ref (a2 4), .ref (a2 5), .ref (a2 6), .ref (a2 7), .ref (a2 8), .ref (a2 9), .ref (a2 10), .ref (a2 11), .ref (a2 12)])), ((a2 1), .inl (q 0, 4, .inl (s2.2.1 0))), ((a2 2), .inl (q 0, 4, .inl (s2.2.1 1))), ((a2 3), .inl (q 0, 160, .inl (s2.2.1 2))), ((a2 4), .inl (q 0, 40, .inl (s2.2.1 3))), ((a2 5), .inl (q 0, 40, .inl (s2.2.1 4))), ((a2 6), .inl (q 0, 40, .inl (s2.2.1 5))), ((a2 7), .inl (q 0, 40, .inl (s2.2.1 6))), ((a2 8), .inl (q 0, 40, .inl (s2.2.1 7))), ((a2 9), .inl (q 0, 40, .inl (s2.2.1 8))), ((a2 10), .inl (q 0, 40, .inl (s2.2.1 9))), ((a2 11), .inl (q 1, 40, .inr (.inl s2.2.2.1))), ((a2 12), .inl (q 0, s2.2.2.2.1, .inl s2.2.2.2.2)), (p8, .inr (2, [.ref p9, .int (s6.1 0), .int (s6.1 1)])), (p9, .inl (q 4, 10, .inr (.inr (.inr (.inr (pf_f AA s6.2))))))]) [0, 1, 2, 3, 4, 5, 6, 7, 8, 9, 10, 11, 12, 13, 14, 15] rfl
      have hD := hD.part (cx := [((a0 0), .inr (5, [.ref (a1 0), .ref (a2 0), .ref (a3 0), .ref (a4 0), .ref (a5 0), .ref p8, .ref s8])), ((a2 0), .inr (0, [.int (s2.1 0), .int (s2.1 1), .int (s2.1 2), .int (s2.1 3), .int (s2.1 4), .int (s2.1 5), .ref (a2 1), .ref (a2 2), .ref (a2 3), .ref (a2 4), .ref (a2 5), .ref (a2 6), .ref (a2 7), .ref (a2 8), .ref (a2 9), .ref (a2 10), .ref (a2 11), .ref (a2 12)])), ((a2 1), .inl (q 0, 4, .inl (s2.2.1 0))), ((a2 2), .inl (q 0, 4, .inl (s2.2.1 1))), ((a2 3), .inl (q 0, 160, .inl (s2.2.1 2))), ((a2 4), .inl (q 0, 40, .inl (s2.2.1 3))), ((a2 5), .inl (q 0, 40, .inl (s2.2.1 4))), ((a2 6), .inl (q 0, 40, .inl (s2.2.1 5))), ((a2 7), .inl (q 0, 40, .inl (s2.2.1 6))), ((a2 8), .inl (q 0, 40, .inl (s2.2.1 7))), ((a2 9), .inl (q 0, 40, .inl (s2.2.1 8))), ((a2 10), .inl (q 0, 40, .inl (s2.2.1 9))), ((a2 11), .inl (q 1, 40, .inr (.inl s2.2.2.1))), ((a2 12), .inl (q 0, s2.2.2.2.1, .inl s2.2.2.2.2)), (p8, .inr (2, [.ref p9, .int (s6.1 0), .int (s6.1 1)])), (p9, .inl (q 4, 10, .inr (.inr (.inr (.inr (pf_f AA s6.2))))))]) [0, 1, 2, 3, 4, 5, 6, 7, 8, 9, 10, 11, 12, 13, 14, 15] (by decide) rfl
      refine W.widen (k := 14) (n := 6906) (Nat.le_of_ble_eq_true rfl) (Nat.le_of_ble_eq_true rfl) ?_
      exact mt_iret (AA, s2, s6) hx hb hr hk h hP hD hS dX6_wear_17

def wp_X6_mend (post : Int32 → Bd → Pa → Prop) (s2 : Bd) (s6 : Pa) (x1 : Int32) (x2 : Int32) : Prop := wp_X0_hasFlap (fun r_1 => ((¬ r_1 = 0 → wp_X0_isWorn (fun r_4 => ((¬ r_4 = 0 → wp_X3_push (fun s_9 => wp_X0_mendFlap (fun u_14 => wp_X0_wornCount (fun r_15 => post r_15 u_14 s_9) u_14 x1) s2 x1 x2) s6 s2) ∧ (r_4 = 0 → post (-2) s2 s6))) s2 x1 x2) ∧ (r_1 = 0 → post (-1) s2 s6))) s2 x1 x2
set_option maxHeartbeats 4000000 in
set_option maxRecDepth 100000 in
theorem c2_X6_mend {l : Launch} {D : va_G} {q : Nat → ClassId} {sz : Nat} {a0 a1 a2 a3 a4 a5 : Nat → Nat} {p8 s8 p9 : Nat} {AA : Nat → Nat → Nat} {s2 : Bd} {s6 : Pa} {x1 : Int32} {x2 : Int32} {post : Int32 → Bd → Pa → Prop} (h : wp_X6_mend post s2 s6 x1 x2) : Met l yX6_mend (Cond.code yX6_mend cX6_mend 3 (some .int) :: w_all) ({ frames := 4, cells := 14, slots := 6906, locals := 146 } : Room) (mt_P D q [.ref (a0 0), .int x1, .int x2] ((fo_w (a0 0) (a1 0) (a2 0) (a3 0) (a4 0) (a5 0) p8 s8 ++ bd_w a2 q s2 ++ pa_o p8 p9 s6 ++ pa_r p9 q 10 AA s6.2) ++ ps_w q 10 AA s6.2) sz) (va_Qi (fun r (u : (Nat → Nat → Nat) × Bd × Pa) => post r u.2.1 u.2.2) (mt_B D ((fo_w (a0 0) (a1 0) (a2 0) (a3 0) (a4 0) (a5 0) p8 s8 ++ bd_w a2 q s2 ++ pa_o p8 p9 s6 ++ pa_r p9 q 10 AA s6.2) ++ ps_w q 10 AA s6.2) sz (fun u : (Nat → Nat → Nat) × Bd × Pa => ((fo_w (a0 0) (a1 0) (a2 0) (a3 0) (a4 0) (a5 0) p8 s8 ++ bd_w a2 q u.2.1 ++ pa_o p8 p9 u.2.2 ++ pa_r p9 q 10 u.1 u.2.2.2) ++ ps_w q 10 u.1 u.2.2.2))) (va_A ((fo_w (a0 0) (a1 0) (a2 0) (a3 0) (a4 0) (a5 0) p8 s8 ++ bd_w a2 q s2 ++ pa_o p8 p9 s6 ++ pa_r p9 q 10 AA s6.2) ++ ps_w q 10 AA s6.2) sz)) 14 6906 (va_A ((fo_w (a0 0) (a1 0) (a2 0) (a3 0) (a4 0) (a5 0) p8 s8 ++ bd_w a2 q s2 ++ pa_o p8 p9 s6 ++ pa_r p9 q 10 AA s6.2) ++ ps_w q 10 AA s6.2) sz) := by
  refine mt_start (by decide) (Nat.le_of_ble_eq_true rfl) ?_
  intro p e s m below meth c ls hx hb hr hml hown ht hk hin hP hQ hD hA hS hV hl
  have hK := hQ.1
  have hown : s.vm.findClass RX6 = some m.cls := hown
  have hl : lv_has ls 3 [(0, .ref (a0 0)), (1, .int x1), (2, .int x2)] := hl
  have hP : va_P D vwCl (([((a0 0), .inr (5, [.ref (a1 0), .ref (a2 0), .ref (a3 0), .ref (a4 0), .ref (a5 0), .ref p8, .ref s8])), ((a2 0), .inr (0, [.int (s2.1 0), .int (s2.1 1), .int (s2.1 2), .int (s2.1 3), .int (s2.1 4), .int (s2.1 5), .ref (a2 1), .ref (a2 2), .ref (a2 3), .ref (a2 4), .ref (a2 5), .ref (a2 6), .ref (a2 7), .ref (a2 8), .ref (a2 9), .ref (a2 10), .ref (a2 11), .ref (a2 12)])), ((a2 1), .inl (q 0, 4, .inl (s2.2.1 0))), ((a2 2), .inl (q 0, 4, .inl (s2.2.1 1))), ((a2 3), .inl (q 0, 160, .inl (s2.2.1 2))), ((a2 4), .inl (q 0, 40, .inl (s2.2.1 3))), ((a2 5), .inl (q 0, 40, .inl (s2.2.1 4))), ((a2 6), .inl (q 0, 40, .inl (s2.2.1 5))), ((a2 7), .inl (q 0, 40, .inl (s2.2.1 6))), ((a2 8), .inl (q 0, 40, .inl (s2.2.1 7))), ((a2 9), .inl (q 0, 40, .inl (s2.2.1 8))), ((a2 10), .inl (q 0, 40, .inl (s2.2.1 9))), ((a2 11), .inl (q 1, 40, .inr (.inl s2.2.2.1))), ((a2 12), .inl (q 0, s2.2.2.2.1, .inl s2.2.2.2.2)), (p8, .inr (2, [.ref p9, .int (s6.1 0), .int (s6.1 1)])), (p9, .inl (q 4, 10, .inr (.inr (.inr (.inr (pf_f AA s6.2))))))] : va_W) ++ ps_w q 10 AA s6.2) s.heap := hP
  have hD : va_D _ (([((a0 0), .inr (5, [.ref (a1 0), .ref (a2 0), .ref (a3 0), .ref (a4 0), .ref (a5 0), .ref p8, .ref s8])), ((a2 0), .inr (0, [.int (s2.1 0), .int (s2.1 1), .int (s2.1 2), .int (s2.1 3), .int (s2.1 4), .int (s2.1 5), .ref (a2 1), .ref (a2 2), .ref (a2 3), .ref (a2 4), .ref (a2 5), .ref (a2 6), .ref (a2 7), .ref (a2 8), .ref (a2 9), .ref (a2 10), .ref (a2 11), .ref (a2 12)])), ((a2 1), .inl (q 0, 4, .inl (s2.2.1 0))), ((a2 2), .inl (q 0, 4, .inl (s2.2.1 1))), ((a2 3), .inl (q 0, 160, .inl (s2.2.1 2))), ((a2 4), .inl (q 0, 40, .inl (s2.2.1 3))), ((a2 5), .inl (q 0, 40, .inl (s2.2.1 4))), ((a2 6), .inl (q 0, 40, .inl (s2.2.1 5))), ((a2 7), .inl (q 0, 40, .inl (s2.2.1 6))), ((a2 8), .inl (q 0, 40, .inl (s2.2.1 7))), ((a2 9), .inl (q 0, 40, .inl (s2.2.1 8))), ((a2 10), .inl (q 0, 40, .inl (s2.2.1 9))), ((a2 11), .inl (q 1, 40, .inr (.inl s2.2.2.1))), ((a2 12), .inl (q 0, s2.2.2.2.1, .inl s2.2.2.2.2)), (p8, .inr (2, [.ref p9, .int (s6.1 0), .int (s6.1 1)])), (p9, .inl (q 4, 10, .inr (.inr (.inr (.inr (pf_f AA s6.2))))))] : va_W) ++ ps_w q 10 AA s6.2) := hD
  unfold wp_X6_mend at h
  refine lv_aload_n hx hb dX6_mend_0 rfl (lv_at hl 0 rfl) ?_
  refine fl_get (C := RX6) (T := TX6) (N := 7) (ci := 5) (v := .ref (a2 0)) hx hb ht in_X6 hown hK hP 0 rfl rfl 1 (by decide) mw_356 rfl dX6_mend_1 ?_
  refine lv_iload_n hx hb dX6_mend_4 rfl (lv_at hl 1 rfl) ?_
  refine lv_iload_n hx hb dX6_mend_5 rfl (lv_at hl 2 rfl) ?_
  refine vp_callSi (rd_wV (wc := bd_w a2 q s2) (As := [.int x1, .int x2]) (rest := []) hx hb hml hown ht (c2_X0_hasFlap h) wd_X0_hasFlap mw_736 hQ hV hS (hP.sub [1, 2, 3, 4, 5, 6, 7, 8, 9, 10, 11, 12, 13] rfl) rfl rfl rfl hl.1 rfl (Nat.le_of_ble_eq_true rfl) dX6_mend_6 ⟨Nat.le_of_ble_eq_true rfl, Nat.le_of_ble_eq_true rfl, rfl, rfl⟩ ⟨Nat.le_of_ble_eq_true rfl, Nat.le_of_ble_eq_true rfl⟩) (fun r_1 h => ?_)
  try dsimp only at h
  refine lv_if_ne (tgt := 14) hx hb dX6_mend_9 (by decide) (fun c_3 => ?_) (fun c_3 => ?_)
  · replace h := h.1 c_3
    refine lv_aload_n hx hb dX6_mend_14 rfl (lv_at hl 0 rfl) ?_
    refine fl_get (C := RX6) (T := TX6) (N := 7) (ci := 5) (v := .ref (a2 0)) hx hb ht in_X6 hown hK hP 0 rfl rfl 1 (by decide) mw_356 rfl dX6_mend_15 ?_
    refine lv_iload_n hx hb dX6_mend_18 rfl (lv_at hl 1 rfl) ?_
    refine lv_iload_n hx hb dX6_mend_19 rfl (lv_at hl 2 rfl) ?_
    refine vp_callSi (rd_wV (wc := bd_w a2 q s2) (As := [.int x1, .int x2]) (rest := []) hx hb hml hown ht (c2_X0_isWorn h) wd_X0_isWorn mw_740 hQ hV hS (hP.sub [1, 2, 3, 4, 5, 6, 7, 8, 9, 10, 11, 12, 13] rfl) rfl rfl rfl hl.1 rfl (Nat.le_of_ble_eq_true rfl) dX6_mend_20 ⟨Nat.le_of_ble_eq_true rfl, Nat.le_of_ble_eq_true rfl, rfl, rfl⟩ ⟨Nat.le_of_ble_eq_true rfl, Nat.le_of_ble_eq_true rfl⟩) (fun r_4 h => ?_)
    try dsimp only at h
    refine lv_if_ne (tgt := 29) hx hb dX6_mend_23 (by decide) (fun c_6 => ?_) (fun c_6 => ?_)
    · replace h := h.1 c_6
      refine lv_aload_n hx hb dX6_mend_29 rfl (lv_at hl 0 rfl) ?_
      refine fl_get (C := RX6) (T := TX6) (N := 7) (ci := 5) (v := .ref p8) hx hb ht in_X6 hown hK hP 0 rfl rfl 5 (by decide) mw_360 rfl dX6_mend_30 ?_
      refine lv_aload_n hx hb dX6_mend_33 rfl (lv_at hl 0 rfl) ?_
      refine fl_get (C := RX6) (T := TX6) (N := 7) (ci := 5) (v := .ref (a2 0)) hx hb ht in_X6 hown hK hP 0 rfl rfl 1 (by decide) mw_356 rfl dX6_mend_34 ?_
      refine mt_govP (X := [((a0 0), .inr (5, [.ref (a1 0), .ref (a2 0), .ref (a3 0), .ref (a4 0), .ref (a5 0), .ref p8, .ref s8])), ((a2 0), .inr (0, [.int (s2.1 0), .int (s2.1 1), .int (s2.1 2), .int (s2.1 3), .int (s2.1 4), .int (s2.1 5), .ref (a2 1), .ref (a2 2), .ref (a2 3), .ref (a2 4), .ref (a2 5), .ref (a2 6), .ref (a2 7), .ref (a2 8), .ref (a2 9), .ref (a2 10), .ref (a2 11), .ref (a2 12)])), ((a2 1), .inl (q 0, 4, .inl (s2.2.1 0))), ((a2 2), .inl (q 0, 4, .inl (s2.2.1 1))), ((a2 3), .inl (q 0, 160, .inl (s2.2.1 2))), ((a2 4), .inl (q 0, 40, .inl (s2.2.1 3))), ((a2 5), .inl (q 0, 40, .inl (s2.2.1 4))), ((a2 6), .inl (q 0, 40, .inl (s2.2.1 5))), ((a2 7), .inl (q 0, 40, .inl (s2.2.1 6))), ((a2 8), .inl (q 0, 40, .inl (s2.2.1 7))), ((a2 9), .inl (q 0, 40, .inl (s2.2.1 8))), ((a2 10), .inl (q 0, 40, .inl (s2.2.1 9))), ((a2 11), .inl (q 1, 40, .inr (.inl s2.2.2.1))), ((a2 12), .inl (q 0, s2.2.2.2.1, .inl s2.2.2.2.2)), (p8, .inr (2, [.ref p9, .int (s6.1 0), .int (s6.1 1)])), (p9, .inl (q 4, 10, .inr (.inr (.inr (.inr (pf_f AA s6.2))))))]) (pl := ps_w q 10 AA s6.2) (mt_wV (wc := (pa_o p8 p9 s6 ++ pa_r p9 q 10 AA s6.2 ++ bd_w a2 q s2) ++ ps_w q 10 AA s6.2) (As := [.ref (a2 0)]) (rest := []) hx hb hml hown ht (c2_X3_push (a0 := va_up (fun _ => p9) 0 p8) h) wd_X3_push mw_631 hQ hV hS hA (hP.part (cx := (pa_o p8 p9 s6 ++ pa_r p9 q 10 AA s6.2 ++ bd_w a2 q s2)) [14, 15, 1, 2, 3, 4, 5, 6, 7, 8, 9, 10, 11, 12, 13] rfl) (hD.part (cx := (pa_o p8 p9 s6 ++ pa_r p9 q 10 AA s6.2 ++ bd_w a2 q s2)) [14, 15, 1, 2, 3, 4, 5, 6, 7, 8, 9, 10, 11, 12, 13] (by decide) rfl) rfl rfl rfl hl.1 rfl (Nat.le_of_ble_eq_true rfl) dX6_mend_37 ⟨Nat.le_of_ble_eq_true rfl, Nat.le_of_ble_eq_true rfl, rfl, rfl⟩ ⟨Nat.le_of_ble_eq_true rfl, Nat.le_of_ble_eq_true rfl⟩) (wr := [((a0 0), .inr (5, [.ref (a1 0), .ref (a2 0), .ref (a3 0), .ref (a4 0), .ref (a5 0), .ref p8, .ref s8]))]) hP hD hS hA [14, 15, 1, 2, 3, 4, 5, 6, 7, 8, 9, 10, 11, 12, 13] [0] rfl rfl (by decide) (by decide) (fun u_7 H locs h hP hD hS => ?_)
      obtain ⟨A_10, s_9⟩ := u_7
      try dsimp only at h
      have hP : va_P D vwCl (([((a0 0), .inr (5, [.ref (a1 0), .ref (a2 0), .ref (a3 0), .ref (a4 0), .ref (a5 0), .ref p8, .ref s8])), (p8, .inr (2, [.ref p9, .int (s_9.1 0), .int (s_9.1 1)])), (p9, .inl (q 4, 10, .inr (.inr (.inr (.inr (pf_f A_10 s_9.2)))))), ((a2 0), .inr (0, [.int (s2.1 0), .int (s2.1 1), .int (s2.1 2), .int (s2.1 3), .int (s2.1 4), .int (s2.1 5), .ref (a2 1), .ref (a2 2), .ref (a2 3), .ref (a2 4), .ref (a2 5), .ref (a2 6), .ref (a2 7), .ref (a2 8), .ref (a2 9), .ref (a2 10), .ref (a2 11), .ref (a2 12)])), ((a2 1), .inl (q 0, 4, .inl (s2.2.1 0))), ((a2 2), .inl (q 0, 4, .inl (s2.2.1 1))), ((a2 3), .inl (q 0, 160, .inl (s2.2.1 2))), ((a2 4), .inl (q 0, 40, .inl (s2.2.1 3))), ((a2 5), .inl (q 0, 40, .inl (s2.2.1 4))), ((a2 6), .inl (q 0, 40, .inl (s2.2.1 5))), ((a2 7), .inl (q 0, 40, .inl (s2.2.1 6))), ((a2 8), .inl (q 0, 40, .inl (s2.2.1 7))), ((a2 9), .inl (q 0, 40, .inl (s2.2.1 8))), ((a2 10), .inl (q 0, 40, .inl (s2.2.1 9))), ((a2 11), .inl (q 1, 40, .inr (.inl s2.2.2.1))), ((a2 12), .inl (q 0, s2.2.2.2.1, .inl s2.2.2.2.2))] : va_W) ++ ps_w q 10 A_10 s_9.2) H := hP
      have hD : va_D _ (([((a0 0), .inr (5, [.ref (a1 0), .ref (a2 0), .ref (a3 0), .ref (a4 0), .ref (a5 0), .ref p8, .ref s8])), (p8, .inr (2, [.ref p9, .int (s_9.1 0), .int (s_9.1 1)])), (p9, .inl (q 4, 10, .inr (.inr (.inr (.inr (pf_f A_10 s_9.2)))))), ((a2 0), .inr (0, [.int (s2.1 0), .int (s2.1 1), .int (s2.1 2), .int (s2.1 3), .int (s2.1 4), .int (s2.1 5), .ref (a2 1), .ref (a2 2), .ref (a2 3), .ref (a2 4), .ref (a2 5), .ref (a2 6), .ref (a2 7), .ref (a2 8), .ref (a2 9), .ref (a2 10), .ref (a2 11), .ref (a2 12)])), ((a2 1), .inl (q 0, 4, .inl (s2.2.1 0))), ((a2 2), .inl (q 0, 4, .inl (s2.2.1 1))), ((a2 3), .inl (q 0, 160, .inl (s2.2.1 2))), ((a2 4), .inl (q 0, 40, .inl (s2.2.1 3))), ((a2 5), .inl (q 0, 40, .inl (s2.2.1 4))), ((a2 6), .inl (q 0, 40, .inl (s2.2.1 5))), ((a2 7), .inl (q 0, 40, .inl (s2.2.1 6))), ((a2 8), .inl (q 0, 40, .inl (s2.2.1 7))), ((a2 9), .inl (q 0, 40, .inl (s2.2.1 8))), ((a2 10), .inl (q 0, 40, .inl (s2.2.1 9))), ((a2 11), .inl (q 1, 40, .inr (.inl s2.2.2.1))), ((a2 12), .inl (q 0, s2.2.2.2.1, .inl s2.2.2.2.2))] : va_W) ++ ps_w q 10 A_10 s_9.2) := hD
      refine W.widen (k := 14) (n := 6906) (Nat.le_of_ble_eq_true rfl) (Nat.le_of_ble_eq_true rfl) ?_
      refine lv_aload_n hx hb dX6_mend_40 rfl (lv_at hl 0 rfl) ?_
      refine fl_get (C := RX6) (T := TX6) (N := 7) (ci := 5) (v := .ref (a2 0)) hx hb ht in_X6 hown hK hP 0 rfl rfl 1 (by decide) mw_356 rfl dX6_mend_41 ?_
      refine lv_iload_n hx hb dX6_mend_44 rfl (lv_at hl 1 rfl) ?_
      refine lv_iload_n hx hb dX6_mend_45 rfl (lv_at hl 2 rfl) ?_
      refine mt_govQ (X := [((a0 0), .inr (5, [.ref (a1 0), .ref (a2 0), .ref (a3 0), .ref (a4 0), .ref (a5 0), .ref p8, .ref s8])), (p8, .inr (2, [.ref p9, .int (s_9.1 0), .int (s_9.1 1)])), (p9, .inl (q 4, 10, .inr (.inr (.inr (.inr (pf_f A_10 s_9.2)))))), ((a2 0), .inr (0, [.int (s2.1 0), .int (s2.1 1), .int (s2.1 2), .int (s2.1 3), .int (s2.1 4), .int (s2.1 5), .ref (a2 1), .ref (a2 2), .ref (a2 3), .ref (a2 4), .ref (a2 5), .ref (a2 6), .ref (a2 7), .ref (a2 8), .ref (a2 9), .ref (a2 10), .ref (a2 11), .ref (a2 12)])), ((a2 1), .inl (q 0, 4, .inl (s2.2.1 0))), ((a2 2), .inl (q 0, 4, .inl (s2.2.1 1))), ((a2 3), .inl (q 0, 160, .inl (s2.2.1 2))), ((a2 4), .inl (q 0, 40, .inl (s2.2.1 3))), ((a2 5), .inl (q 0, 40, .inl (s2.2.1 4))), ((a2 6), .inl (q 0, 40, .inl (s2.2.1 5))), ((a2 7), .inl (q 0, 40, .inl (s2.2.1 6))), ((a2 8), .inl (q 0, 40, .inl (s2.2.1 7))), ((a2 9), .inl (q 0, 40, .inl (s2.2.1 8))), ((a2 10), .inl (q 0, 40, .inl (s2.2.1 9))), ((a2 11), .inl (q 1, 40, .inr (.inl s2.2.2.1))), ((a2 12), .inl (q 0, s2.2.2.2.1, .inl s2.2.2.2.2))]) (pl := ps_w q 10 A_10 s_9.2) (mt_wV (wc := bd_w a2 q s2) (As := [.int x1, .int x2]) (rest := []) hx hb hml hown ht (c2_X0_mendFlap h) wd_X0_mendFlap mw_756 hQ hV hS hA (hP.sub [3, 4, 5, 6, 7, 8, 9, 10, 11, 12, 13, 14, 15] rfl) (hD.sub [3, 4, 5, 6, 7, 8, 9, 10, 11, 12, 13, 14, 15] (by decide) rfl) rfl rfl rfl hl.1 rfl (Nat.le_of_ble_eq_true rfl) dX6_mend_46 ⟨Nat.le_of_ble_eq_true rfl, Nat.le_of_ble_eq_true rfl, rfl, rfl⟩ ⟨Nat.le_of_ble_eq_true rfl, Nat.le_of_ble_eq_true rfl⟩) (wr := [((a0 0), .inr (5, [.ref (a1 0), .ref (a2 0), .ref (a3 0), .ref (a4 0), .ref (a5 0), .ref p8, .ref s8])), (p8, .inr (2, [.ref p9, .int (s_9.1 0), .int (s_9.1 1)])), (p9, .inl (q 4, 10, .inr (.inr (.inr (.inr (pf_f A_10 s_9.2))))))]) hP hD hS hA [3, 4, 5, 6, 7, 8, 9, 10, 11, 12, 13, 14, 15] [0, 1, 2] rfl rfl (by decide) (by decide) (fun u_14 H locs h hP hD hS => ?_)
      try dsimp only at h
      have hP : va_P D vwCl (([((a0 0), .inr (5, [.ref (a1 0), .ref (a2 0), .ref (a3 0), .ref (a4 0), .ref (a5 0), .ref p8, .ref s8])), (p8, .inr (2, [.ref p9, .int (s_9.1 0), .int (s_9.1 1)])), (p9, .inl (q 4, 10, .inr (.inr (.inr (.inr (pf_f A_10 s_9.2)))))), ((a2 0), .inr (0, [.int (u_14.1 0), .int (u_14.1 1), .int (u_14.1 2), .int (u_14.1 3), .int (u_14.1 4), .int (u_14.1 5), .ref (a2 1), .ref (a2 2), .ref (a2 3), .ref (a2 4), .ref (a2 5), .ref (a2 6), .ref (a2 7), .ref (a2 8), .ref (a2 9), .ref (a2 10), .ref (a2 11), .ref (a2 12)])), ((a2 1), .inl (q 0, 4, .inl (u_14.2.1 0))), ((a2 2), .inl (q 0, 4, .inl (u_14.2.1 1))), ((a2 3), .inl (q 0, 160, .inl (u_14.2.1 2))), ((a2 4), .inl (q 0, 40, .inl (u_14.2.1 3))), ((a2 5), .inl (q 0, 40, .inl (u_14.2.1 4))), ((a2 6), .inl (q 0, 40, .inl (u_14.2.1 5))), ((a2 7), .inl (q 0, 40, .inl (u_14.2.1 6))), ((a2 8), .inl (q 0, 40, .inl (u_14.2.1 7))), ((a2 9), .inl (q 0, 40, .inl (u_14.2.1 8))), ((a2 10), .inl (q 0, 40, .inl (u_14.2.1 9))), ((a2 11), .inl (q 1, 40, .inr (.inl u_14.2.2.1))), ((a2 12), .inl (q 0, u_14.2.2.2.1, .inl u_14.2.2.2.2))] : va_W) ++ ps_w q 10 A_10 s_9.2) H := hP
      have hD : va_D _ (([((a0 0), .inr (5, [.ref (a1 0), .ref (a2 0), .ref (a3 0), .ref (a4 0), .ref (a5 0), .ref p8, .ref s8])), (p8, .inr (2, [.ref p9, .int (s_9.1 0), .int (s_9.1 1)])), (p9, .inl (q 4, 10, .inr (.inr (.inr (.inr (pf_f A_10 s_9.2)))))), ((a2 0), .inr (0, [.int (u_14.1 0), .int (u_14.1 1), .int (u_14.1 2), .int (u_14.1 3), .int (u_14.1 4), .int (u_14.1 5), .ref (a2 1), .ref (a2 2), .ref (a2 3), .ref (a2 4), .ref (a2 5), .ref (a2 6), .ref (a2 7), .ref (a2 8), .ref (a2 9), .ref (a2 10), .ref (a2 11), .ref (a2 12)])), ((a2 1), .inl (q 0, 4, .inl (u_14.2.1 0))), ((a2 2), .inl (q 0, 4, .inl (u_14.2.1 1))), ((a2 3), .inl (q 0, 160, .inl (u_14.2.1 2))), ((a2 4), .inl (q 0, 40, .inl (u_14.2.1 3))), ((a2 5), .inl (q 0, 40, .inl (u_14.2.1 4))), ((a2 6), .inl (q 0, 40, .inl (u_14.2.1 5))), ((a2 7), .inl (q 0, 40, .inl (u_14.2.1 6))), ((a2 8), .inl (q 0, 40, .inl (u_14.2.1 7))), ((a2 9), .inl (q 0, 40, .inl (u_14.2.1 8))), ((a2 10), .inl (q 0, 40, .inl (u_14.2.1 9))), ((a2 11), .inl (q 1, 40, .inr (.inl u_14.2.2.1))), ((a2 12), .inl (q 0, u_14.2.2.2.1, .inl u_14.2.2.2.2))] : va_W) ++ ps_w q 10 A_10 s_9.2) := hD
      refine lv_aload_n hx hb dX6_mend_49 rfl (lv_at hl 0 rfl) ?_
      refine fl_get (C := RX6) (T := TX6) (N := 7) (ci := 5) (v := .ref (a2 0)) hx hb ht in_X6 hown hK hP 0 rfl rfl 1 (by decide) mw_356 rfl dX6_mend_50 ?_
      refine lv_iload_n hx hb dX6_mend_53 rfl (lv_at hl 1 rfl) ?_
      refine vp_callSi (rd_wV (wc := bd_w a2 q u_14) (As := [.int x1]) (rest := []) hx hb hml hown ht (c2_X0_wornCount h) wd_X0_wornCount mw_742 hQ hV hS (hP.sub [3, 4, 5, 6, 7, 8, 9, 10, 11, 12, 13, 14, 15] rfl) rfl rfl rfl hl.1 rfl (Nat.le_of_ble_eq_true rfl) dX6_mend_54 ⟨Nat.le_of_ble_eq_true rfl, Nat.le_of_ble_eq_true rfl, rfl, rfl⟩ ⟨Nat.le_of_ble_eq_true rfl, Nat.le_of_ble_eq_true rfl⟩) (fun r_15 h => ?_)
      try dsimp only at h
      have hP := hP.part (cx := [((a0 0), .inr (5, [.ref (a1 0), .ref (a2 0), .ref (a3 0), .ref (a4 0), .ref (a5 0), .ref p8, .ref s8])), ((a2 0), .inr (0, [.int (u_14.1 0), .int (u_14.1 1), .int (u_14.1 2), .int (u_14.1 3), .int (u_14.1 4), .int (u_14.1 5), .ref (a2 1), .ref (a2 2), .ref (a2 3), .ref (a2 4), .ref (a2 5), .ref (a2 6), .ref (a2 7), .ref (a2 8), .ref (a2 9), .ref (a2 10), .ref (a2 11), .ref (a2 12)])), ((a2 1), .inl (q 0, 4, .inl (u_14.2.1 0))), ((a2 2), .inl (q 0, 4, .inl (u_14.2.1 1))), ((a2 3), .inl (q 0, 160, .inl (u_14.2.1 2))), ((a2 4), .inl (q 0, 40, .inl (u_14.2.1 3))), ((a2 5), .inl (q 0, 40, .inl (u_14.2.1 4))), ((a2 6), .inl (q 0, 40, .inl (u_14.2.1 5))), ((a2 7), .inl (q 0, 40, .inl (u_14.2.1 6))), ((a2 8), .inl (q 0, 40, .inl (u_14.2.1 7))), ((a2 9), .inl (q 0, 40, .inl (u_14.2.1 8))), ((a2 10), .inl (q 0, 40, .inl (u_14.2.1 9))), ((a2 11), .inl (q 1, 40, .inr (.inl u_14.2.2.1))), ((a2 12), .inl (q 0, u_14.2.2.2.1, .inl u_14.2.2.2.2)), (p8, .inr (2, [.ref p9, .int (s_9.1 0), .int (s_9.1 1)])), (p9, .inl (q 4, 10, .inr (.inr (.inr (.inr (pf_f A_10 s_9.2))))))]) [0, 3, 4, 5, 6, 7, 8, 9, 10, 11, 12, 13, 14, 15, 1, 2] rfl
      have hD := hD.part (cx := [((a0 0), .inr (5, [.ref (a1 0), .ref (a2 0), .ref (a3 0), .ref (a4 0), .ref (a5 0), .ref p8, .ref s8])), ((a2 0), .inr (0, [.int (u_14.1 0), .int (u_14.1 1), .int (u_14.1 2), .int (u_14.1 3), .int (u_14.1 4), .int (u_14.1 5), .ref (a2 1), .ref (a2 2), .ref (a2 3), .ref (a2 4), .ref (a2 5), .ref (a2 6), .ref (a2 7), .ref (a2 8), .ref (a2 9), .ref (a2 10), .ref (a2 11), .ref (a2 12)])), ((a2 1), .inl (q 0, 4, .inl (u_14.2.1 0))), ((a2 2), .inl (q 0, 4, .inl (u_14.2.1 1))), ((a2 3), .inl (q 0, 160, .inl (u_14.2.1 2))), ((a2 4), .inl (q 0, 40, .inl (u_14.2.1 3))), ((a2 5), .inl (q 0, 40, .inl (u_14.2.1 4))), ((a2 6), .inl (q 0, 40, .inl (u_14.2.1 5))), ((a2 7), .inl (q 0, 40, .inl (u_14.2.1 6))), ((a2 8), .inl (q 0, 40, .inl (u_14.2.1 7))), ((a2 9), .inl (q 0, 40, .inl (u_14.2.1 8))), ((a2 10), .inl (q 0, 40, .inl (u_14.2.1 9))), ((a2 11), .inl (q 1, 40, .inr (.inl u_14.2.2.1))), ((a2 12), .inl (q 0, u_14.2.2.2.1, .inl u_14.2.2.2.2)), (p8, .inr (2, [.ref p9, .int (s_9.1 0), .int (s_9.1 1)])), (p9, .inl (q 4, 10, .inr (.inr (.inr (.inr (pf_f A_10 s_9.2))))))]) [0, 3, 4, 5, 6, 7, 8, 9, 10, 11, 12, 13, 14, 15, 1, 2] (by decide) rfl
      exact mt_iret (A_10, u_14, s_9) hx hb hr hk h hP hD hS dX6_mend_57
    · replace h := h.2 c_6
      refine lv_bipush (v := (-2)) hx hb dX6_mend_26 (by decide) ?_
      have hP := hP.part (cx := [((a0 0), .inr (5, [.ref (a1 0), .ref (a2 0), .ref (a3 0), .ref (a4 0), .ref (a5 0), .ref p8, .ref s8])), ((a2 0), .inr (0, [.int (s2.1 0), .int (s2.1 1), .int (s2.1 2), .int (s2.1 3), .int (s2.1 4), .int (s2.1 5), .ref (a2 1), .ref (a2 2), .ref (a2 3), .ref (a2 4), .ref (a2 5), .ref (a2 6), .ref (a2 7), .ref (a2 8), .ref (a2 9), .ref (a2 10), .ref (a2 11), .ref (a2 12)])), ((a2 1), .inl (q 0, 4, .inl (s2.2.1 0))), ((a2 2), .inl (q 0, 4, .inl (s2.2.1 1))), ((a2 3), .inl (q 0, 160, .inl (s2.2.1 2))), ((a2 4), .inl (q 0, 40, .inl (s2.2.1 3))), ((a2 5), .inl (q 0, 40, .inl (s2.2.1 4))), ((a2 6), .inl (q 0, 40, .inl (s2.2.1 5))), ((a2 7), .inl (q 0, 40, .inl (s2.2.1 6))), ((a2 8), .inl (q 0, 40, .inl (s2.2.1 7))), ((a2 9), .inl (q 0, 40, .inl (s2.2.1 8))), ((a2 10), .inl (q 0, 40, .inl (s2.2.1 9))), ((a2 11), .inl (q 1, 40, .inr (.inl s2.2.2.1))), ((a2 12), .inl (q 0, s2.2.2.2.1, .inl s2.2.2.2.2)), (p8, .inr (2, [.ref p9, .int (s6.1 0), .int (s6.1 1)])), (p9, .inl (q 4, 10, .inr (.inr (.inr (.inr (pf_f AA s6.2))))))]) [0, 1, 2, 3, 4, 5, 6, 7, 8, 9, 10, 11, 12, 13, 14, 15] rfl
      have hD := hD.part (cx := [((a0 0), .inr (5, [.ref (a1 0), .ref (a2 0), .ref (a3 0), .ref (a4 0), .ref (a5 0), .ref p8, .ref s8])), ((a2 0), .inr (0, [.int (s2.1 0), .int (s2.1 1), .int (s2.1 2), .int (s2.1 3), .int (s2.1 4), .int (s2.1 5), .ref (a2 1), .ref (a2 2), .ref (a2 3), .ref (a2 4), .ref (a2 5), .ref (a2 6), .ref (a2 7), .ref (a2 8), .ref (a2 9), .ref (a2 10), .ref (a2 11), .ref (a2 12)])), ((a2 1), .inl (q 0, 4, .inl (s2.2.1 0))), ((a2 2), .inl (q 0, 4, .inl (s2.2.1 1))), ((a2 3), .inl (q 0, 160, .inl (s2.2.1 2))), ((a2 4), .inl (q 0, 40, .inl (s2.2.1 3))), ((a2 5), .inl (q 0, 40, .inl (s2.2.1 4))), ((a2 6), .inl (q 0, 40, .inl (s2.2.1 5))), ((a2 7), .inl (q 0, 40, .inl (s2.2.1 6))), ((a2 8), .inl (q 0, 40, .inl (s2.2.1 7))), ((a2 9), .inl (q 0, 40, .inl (s2.2.1 8))), ((a2 10), .inl (q 0, 40, .inl (s2.2.1 9))), ((a2 11), .inl (q 1, 40, .inr (.inl s2.2.2.1))), ((a2 12), .inl (q 0, s2.2.2.2.1, .inl s2.2.2.2.2)), (p8, .inr (2, [.ref p9, .int (s6.1 0), .int (s6.1 1)])), (p9, .inl (q 4, 10, .inr (.inr (.inr (.inr (pf_f AA s6.2))))))]) [0, 1, 2, 3, 4, 5, 6, 7, 8, 9, 10, 11, 12, 13, 14, 15] (by decide) rfl
      refine W.widen (k := 14) (n := 6906) (Nat.le_of_ble_eq_true rfl) (Nat.le_of_ble_eq_true rfl) ?_
      exact mt_iret (AA, s2, s6) hx hb hr hk h hP hD hS dX6_mend_28
  · replace h := h.2 c_3
    refine lv_iconst (v := (-1)) hx hb dX6_mend_12 (by decide) ?_
    have hP := hP.part (cx := [((a0 0), .inr (5, [.ref (a1 0), .ref (a2 0), .ref (a3 0), .ref (a4 0), .ref (a5 0), .ref p8, .ref s8])), ((a2 0), .inr (0, [.int (s2.1 0), .int (s2.1 1), .int (s2.1 2), .int (s2.1 3), .int (s2.1 4), .int (s2.1 5), .ref (a2 1), .ref (a2 2), .ref (a2 3), .ref (a2 4), .ref (a2 5), .ref (a2 6), .ref (a2 7), .ref (a2 8), .ref (a2 9), .ref (a2 10), .ref (a2 11), .ref (a2 12)])), ((a2 1), .inl (q 0, 4, .inl (s2.2.1 0))), ((a2 2), .inl (q 0, 4, .inl (s2.2.1 1))), ((a2 3), .inl (q 0, 160, .inl (s2.2.1 2))), ((a2 4), .inl (q 0, 40, .inl (s2.2.1 3))), ((a2 5), .inl (q 0, 40, .inl (s2.2.1 4))), ((a2 6), .inl (q 0, 40, .inl (s2.2.1 5))), ((a2 7), .inl (q 0, 40, .inl (s2.2.1 6))), ((a2 8), .inl (q 0, 40, .inl (s2.2.1 7))), ((a2 9), .inl (q 0, 40, .inl (s2.2.1 8))), ((a2 10), .inl (q 0, 40, .inl (s2.2.1 9))), ((a2 11), .inl (q 1, 40, .inr (.inl s2.2.2.1))), ((a2 12), .inl (q 0, s2.2.2.2.1, .inl s2.2.2.2.2)), (p8, .inr (2, [.ref p9, .int (s6.1 0), .int (s6.1 1)])), (p9, .inl (q 4, 10, .inr (.inr (.inr (.inr (pf_f AA s6.2))))))]) [0, 1, 2, 3, 4, 5, 6, 7, 8, 9, 10, 11, 12, 13, 14, 15] rfl
    have hD := hD.part (cx := [((a0 0), .inr (5, [.ref (a1 0), .ref (a2 0), .ref (a3 0), .ref (a4 0), .ref (a5 0), .ref p8, .ref s8])), ((a2 0), .inr (0, [.int (s2.1 0), .int (s2.1 1), .int (s2.1 2), .int (s2.1 3), .int (s2.1 4), .int (s2.1 5), .ref (a2 1), .ref (a2 2), .ref (a2 3), .ref (a2 4), .ref (a2 5), .ref (a2 6), .ref (a2 7), .ref (a2 8), .ref (a2 9), .ref (a2 10), .ref (a2 11), .ref (a2 12)])), ((a2 1), .inl (q 0, 4, .inl (s2.2.1 0))), ((a2 2), .inl (q 0, 4, .inl (s2.2.1 1))), ((a2 3), .inl (q 0, 160, .inl (s2.2.1 2))), ((a2 4), .inl (q 0, 40, .inl (s2.2.1 3))), ((a2 5), .inl (q 0, 40, .inl (s2.2.1 4))), ((a2 6), .inl (q 0, 40, .inl (s2.2.1 5))), ((a2 7), .inl (q 0, 40, .inl (s2.2.1 6))), ((a2 8), .inl (q 0, 40, .inl (s2.2.1 7))), ((a2 9), .inl (q 0, 40, .inl (s2.2.1 8))), ((a2 10), .inl (q 0, 40, .inl (s2.2.1 9))), ((a2 11), .inl (q 1, 40, .inr (.inl s2.2.2.1))), ((a2 12), .inl (q 0, s2.2.2.2.1, .inl s2.2.2.2.2)), (p8, .inr (2, [.ref p9, .int (s6.1 0), .int (s6.1 1)])), (p9, .inl (q 4, 10, .inr (.inr (.inr (.inr (pf_f AA s6.2))))))]) [0, 1, 2, 3, 4, 5, 6, 7, 8, 9, 10, 11, 12, 13, 14, 15] (by decide) rfl
    refine W.widen (k := 14) (n := 6906) (Nat.le_of_ble_eq_true rfl) (Nat.le_of_ble_eq_true rfl) ?_
    exact mt_iret (AA, s2, s6) hx hb hr hk h hP hD hS dX6_mend_13

def wp_X6_limit (post : Int32 → Bd → Pa → Prop) (s2 : Bd) (s6 : Pa) (x1 : Int32) : Prop := wp_X0_isThere (fun r_1 => ((r_1 = 0 → post (-1) s2 s6) ∧ (¬ r_1 = 0 → ((x1 < 1 → post (-1) s2 s6) ∧ (¬ x1 < 1 → ((x1 ≤ 99 → ((¬ (s2.1 2) = x1 → wp_X3_push (fun s_9 => post (s2.1 2) ((va_up s2.1 2 x1), s2.2.1, s2.2.2.1, s2.2.2.2.1, s2.2.2.2.2) s_9) s6 s2) ∧ ((s2.1 2) = x1 → post (-2) s2 s6))) ∧ (¬ x1 ≤ 99 → post (-1) s2 s6))))))) s2
set_option maxHeartbeats 4000000 in
set_option maxRecDepth 100000 in
theorem c2_X6_limit {l : Launch} {D : va_G} {q : Nat → ClassId} {sz : Nat} {a0 a1 a2 a3 a4 a5 : Nat → Nat} {p8 s8 p9 : Nat} {AA : Nat → Nat → Nat} {s2 : Bd} {s6 : Pa} {x1 : Int32} {post : Int32 → Bd → Pa → Prop} (h : wp_X6_limit post s2 s6 x1) : Met l yX6_limit (Cond.code yX6_limit cX6_limit 3 (some .int) :: w_all) ({ frames := 4, cells := 14, slots := 6906, locals := 146 } : Room) (mt_P D q [.ref (a0 0), .int x1] ((fo_w (a0 0) (a1 0) (a2 0) (a3 0) (a4 0) (a5 0) p8 s8 ++ bd_w a2 q s2 ++ pa_o p8 p9 s6 ++ pa_r p9 q 10 AA s6.2) ++ ps_w q 10 AA s6.2) sz) (va_Qi (fun r (u : (Nat → Nat → Nat) × Bd × Pa) => post r u.2.1 u.2.2) (mt_B D ((fo_w (a0 0) (a1 0) (a2 0) (a3 0) (a4 0) (a5 0) p8 s8 ++ bd_w a2 q s2 ++ pa_o p8 p9 s6 ++ pa_r p9 q 10 AA s6.2) ++ ps_w q 10 AA s6.2) sz (fun u : (Nat → Nat → Nat) × Bd × Pa => ((fo_w (a0 0) (a1 0) (a2 0) (a3 0) (a4 0) (a5 0) p8 s8 ++ bd_w a2 q u.2.1 ++ pa_o p8 p9 u.2.2 ++ pa_r p9 q 10 u.1 u.2.2.2) ++ ps_w q 10 u.1 u.2.2.2))) (va_A ((fo_w (a0 0) (a1 0) (a2 0) (a3 0) (a4 0) (a5 0) p8 s8 ++ bd_w a2 q s2 ++ pa_o p8 p9 s6 ++ pa_r p9 q 10 AA s6.2) ++ ps_w q 10 AA s6.2) sz)) 14 6906 (va_A ((fo_w (a0 0) (a1 0) (a2 0) (a3 0) (a4 0) (a5 0) p8 s8 ++ bd_w a2 q s2 ++ pa_o p8 p9 s6 ++ pa_r p9 q 10 AA s6.2) ++ ps_w q 10 AA s6.2) sz) := by
  refine mt_start (by decide) (Nat.le_of_ble_eq_true rfl) ?_
  intro p e s m below meth c ls hx hb hr hml hown ht hk hin hP hQ hD hA hS hV hl
  have hK := hQ.1
  have hown : s.vm.findClass RX6 = some m.cls := hown
  have hl : lv_has ls 3 [(0, .ref (a0 0)), (1, .int x1)] := hl
  have hP : va_P D vwCl (([((a0 0), .inr (5, [.ref (a1 0), .ref (a2 0), .ref (a3 0), .ref (a4 0), .ref (a5 0), .ref p8, .ref s8])), ((a2 0), .inr (0, [.int (s2.1 0), .int (s2.1 1), .int (s2.1 2), .int (s2.1 3), .int (s2.1 4), .int (s2.1 5), .ref (a2 1), .ref (a2 2), .ref (a2 3), .ref (a2 4), .ref (a2 5), .ref (a2 6), .ref (a2 7), .ref (a2 8), .ref (a2 9), .ref (a2 10), .ref (a2 11), .ref (a2 12)])), ((a2 1), .inl (q 0, 4, .inl (s2.2.1 0))), ((a2 2), .inl (q 0, 4, .inl (s2.2.1 1))), ((a2 3), .inl (q 0, 160, .inl (s2.2.1 2))), ((a2 4), .inl (q 0, 40, .inl (s2.2.1 3))), ((a2 5), .inl (q 0, 40, .inl (s2.2.1 4))), ((a2 6), .inl (q 0, 40, .inl (s2.2.1 5))), ((a2 7), .inl (q 0, 40, .inl (s2.2.1 6))), ((a2 8), .inl (q 0, 40, .inl (s2.2.1 7))), ((a2 9), .inl (q 0, 40, .inl (s2.2.1 8))), ((a2 10), .inl (q 0, 40, .inl (s2.2.1 9))), ((a2 11), .inl (q 1, 40, .inr (.inl s2.2.2.1))), ((a2 12), .inl (q 0, s2.2.2.2.1, .inl s2.2.2.2.2)), (p8, .inr (2, [.ref p9, .int (s6.1 0), .int (s6.1 1)])), (p9, .inl (q 4, 10, .inr (.inr (.inr (.inr (pf_f AA s6.2))))))] : va_W) ++ ps_w q 10 AA s6.2) s.heap := hP
  have hD : va_D _ (([((a0 0), .inr (5, [.ref (a1 0), .ref (a2 0), .ref (a3 0), .ref (a4 0), .ref (a5 0), .ref p8, .ref s8])), ((a2 0), .inr (0, [.int (s2.1 0), .int (s2.1 1), .int (s2.1 2), .int (s2.1 3), .int (s2.1 4), .int (s2.1 5), .ref (a2 1), .ref (a2 2), .ref (a2 3), .ref (a2 4), .ref (a2 5), .ref (a2 6), .ref (a2 7), .ref (a2 8), .ref (a2 9), .ref (a2 10), .ref (a2 11), .ref (a2 12)])), ((a2 1), .inl (q 0, 4, .inl (s2.2.1 0))), ((a2 2), .inl (q 0, 4, .inl (s2.2.1 1))), ((a2 3), .inl (q 0, 160, .inl (s2.2.1 2))), ((a2 4), .inl (q 0, 40, .inl (s2.2.1 3))), ((a2 5), .inl (q 0, 40, .inl (s2.2.1 4))), ((a2 6), .inl (q 0, 40, .inl (s2.2.1 5))), ((a2 7), .inl (q 0, 40, .inl (s2.2.1 6))), ((a2 8), .inl (q 0, 40, .inl (s2.2.1 7))), ((a2 9), .inl (q 0, 40, .inl (s2.2.1 8))), ((a2 10), .inl (q 0, 40, .inl (s2.2.1 9))), ((a2 11), .inl (q 1, 40, .inr (.inl s2.2.2.1))), ((a2 12), .inl (q 0, s2.2.2.2.1, .inl s2.2.2.2.2)), (p8, .inr (2, [.ref p9, .int (s6.1 0), .int (s6.1 1)])), (p9, .inl (q 4, 10, .inr (.inr (.inr (.inr (pf_f AA s6.2))))))] : va_W) ++ ps_w q 10 AA s6.2) := hD
  unfold wp_X6_limit at h
  refine lv_aload_n hx hb dX6_limit_0 rfl (lv_at hl 0 rfl) ?_
  refine fl_get (C := RX6) (T := TX6) (N := 7) (ci := 5) (v := .ref (a2 0)) hx hb ht in_X6 hown hK hP 0 rfl rfl 1 (by decide) mw_356 rfl dX6_limit_1 ?_
  refine vp_callSi (rd_wV (wc := bd_w a2 q s2) (As := []) (rest := []) hx hb hml hown ht (c2_X0_isThere h) wd_X0_isThere mw_677 hQ hV hS (hP.sub [1, 2, 3, 4, 5, 6, 7, 8, 9, 10, 11, 12, 13] rfl) rfl rfl rfl hl.1 rfl (Nat.le_of_ble_eq_true rfl) dX6_limit_4 ⟨Nat.le_of_ble_eq_true rfl, Nat.le_of_ble_eq_true rfl, rfl, rfl⟩ ⟨Nat.le_of_ble_eq_true rfl, Nat.le_of_ble_eq_true rfl⟩) (fun r_1 h => ?_)
  try dsimp only at h
  refine lv_if_eq (tgt := 21) hx hb dX6_limit_7 (by decide) (fun c_3 => ?_) (fun c_3 => ?_)
  · replace h := h.1 c_3
    refine lv_iconst (v := (-1)) hx hb dX6_limit_21 (by decide) ?_
    have hP := hP.part (cx := [((a0 0), .inr (5, [.ref (a1 0), .ref (a2 0), .ref (a3 0), .ref (a4 0), .ref (a5 0), .ref p8, .ref s8])), ((a2 0), .inr (0, [.int (s2.1 0), .int (s2.1 1), .int (s2.1 2), .int (s2.1 3), .int (s2.1 4), .int (s2.1 5), .ref (a2 1), .ref (a2 2), .ref (a2 3), .ref (a2 4), .ref (a2 5), .ref (a2 6), .ref (a2 7), .ref (a2 8), .ref (a2 9), .ref (a2 10), .ref (a2 11), .ref (a2 12)])), ((a2 1), .inl (q 0, 4, .inl (s2.2.1 0))), ((a2 2), .inl (q 0, 4, .inl (s2.2.1 1))), ((a2 3), .inl (q 0, 160, .inl (s2.2.1 2))), ((a2 4), .inl (q 0, 40, .inl (s2.2.1 3))), ((a2 5), .inl (q 0, 40, .inl (s2.2.1 4))), ((a2 6), .inl (q 0, 40, .inl (s2.2.1 5))), ((a2 7), .inl (q 0, 40, .inl (s2.2.1 6))), ((a2 8), .inl (q 0, 40, .inl (s2.2.1 7))), ((a2 9), .inl (q 0, 40, .inl (s2.2.1 8))), ((a2 10), .inl (q 0, 40, .inl (s2.2.1 9))), ((a2 11), .inl (q 1, 40, .inr (.inl s2.2.2.1))), ((a2 12), .inl (q 0, s2.2.2.2.1, .inl s2.2.2.2.2)), (p8, .inr (2, [.ref p9, .int (s6.1 0), .int (s6.1 1)])), (p9, .inl (q 4, 10, .inr (.inr (.inr (.inr (pf_f AA s6.2))))))]) [0, 1, 2, 3, 4, 5, 6, 7, 8, 9, 10, 11, 12, 13, 14, 15] rfl
    have hD := hD.part (cx := [((a0 0), .inr (5, [.ref (a1 0), .ref (a2 0), .ref (a3 0), .ref (a4 0), .ref (a5 0), .ref p8, .ref s8])), ((a2 0), .inr (0, [.int (s2.1 0), .int (s2.1 1), .int (s2.1 2), .int (s2.1 3), .int (s2.1 4), .int (s2.1 5), .ref (a2 1), .ref (a2 2), .ref (a2 3), .ref (a2 4), .ref (a2 5), .ref (a2 6), .ref (a2 7), .ref (a2 8), .ref (a2 9), .ref (a2 10), .ref (a2 11), .ref (a2 12)])), ((a2 1), .inl (q 0, 4, .inl (s2.2.1 0))), ((a2 2), .inl (q 0, 4, .inl (s2.2.1 1))), ((a2 3), .inl (q 0, 160, .inl (s2.2.1 2))), ((a2 4), .inl (q 0, 40, .inl (s2.2.1 3))), ((a2 5), .inl (q 0, 40, .inl (s2.2.1 4))), ((a2 6), .inl (q 0, 40, .inl (s2.2.1 5))), ((a2 7), .inl (q 0, 40, .inl (s2.2.1 6))), ((a2 8), .inl (q 0, 40, .inl (s2.2.1 7))), ((a2 9), .inl (q 0, 40, .inl (s2.2.1 8))), ((a2 10), .inl (q 0, 40, .inl (s2.2.1 9))), ((a2 11), .inl (q 1, 40, .inr (.inl s2.2.2.1))), ((a2 12), .inl (q 0, s2.2.2.2.1, .inl s2.2.2.2.2)), (p8, .inr (2, [.ref p9, .int (s6.1 0), .int (s6.1 1)])), (p9, .inl (q 4, 10, .inr (.inr (.inr (.inr (pf_f AA s6.2))))))]) [0, 1, 2, 3, 4, 5, 6, 7, 8, 9, 10, 11, 12, 13, 14, 15] (by decide) rfl
    refine W.widen (k := 14) (n := 6906) (Nat.le_of_ble_eq_true rfl) (Nat.le_of_ble_eq_true rfl) ?_
    exact mt_iret (AA, s2, s6) hx hb hr hk h hP hD hS dX6_limit_22
  · replace h := h.2 c_3
    refine lv_iload_n hx hb dX6_limit_10 rfl (lv_at hl 1 rfl) ?_
    refine lv_iconst (v := 1) hx hb dX6_limit_11 (by decide) ?_
    refine lv_icmp_lt (tgt := 21) hx hb dX6_limit_12 (by decide) (fun c_4 => ?_) (fun c_4 => ?_)
    · replace h := h.1 c_4
      refine lv_iconst (v := (-1)) hx hb dX6_limit_21 (by decide) ?_
      have hP := hP.part (cx := [((a0 0), .inr (5, [.ref (a1 0), .ref (a2 0), .ref (a3 0), .ref (a4 0), .ref (a5 0), .ref p8, .ref s8])), ((a2 0), .inr (0, [.int (s2.1 0), .int (s2.1 1), .int (s2.1 2), .int (s2.1 3), .int (s2.1 4), .int (s2.1 5), .ref (a2 1), .ref (a2 2), .ref (a2 3), .ref (a2 4), .ref (a2 5), .ref (a2 6), .ref (a2 7), .ref (a2 8), .ref (a2 9), .ref (a2 10), .ref (a2 11), .ref (a2 12)])), ((a2 1), .inl (q 0, 4, .inl (s2.2.1 0))), ((a2 2), .inl (q 0, 4, .inl (s2.2.1 1))), ((a2 3), .inl (q 0, 160, .inl (s2.2.1 2))), ((a2 4), .inl (q 0, 40, .inl (s2.2.1 3))), ((a2 5), .inl (q 0, 40, .inl (s2.2.1 4))), ((a2 6), .inl (q 0, 40, .inl (s2.2.1 5))), ((a2 7), .inl (q 0, 40, .inl (s2.2.1 6))), ((a2 8), .inl (q 0, 40, .inl (s2.2.1 7))), ((a2 9), .inl (q 0, 40, .inl (s2.2.1 8))), ((a2 10), .inl (q 0, 40, .inl (s2.2.1 9))), ((a2 11), .inl (q 1, 40, .inr (.inl s2.2.2.1))), ((a2 12), .inl (q 0, s2.2.2.2.1, .inl s2.2.2.2.2)), (p8, .inr (2, [.ref p9, .int (s6.1 0), .int (s6.1 1)])), (p9, .inl (q 4, 10, .inr (.inr (.inr (.inr (pf_f AA s6.2))))))]) [0, 1, 2, 3, 4, 5, 6, 7, 8, 9, 10, 11, 12, 13, 14, 15] rfl
      have hD := hD.part (cx := [((a0 0), .inr (5, [.ref (a1 0), .ref (a2 0), .ref (a3 0), .ref (a4 0), .ref (a5 0), .ref p8, .ref s8])), ((a2 0), .inr (0, [.int (s2.1 0), .int (s2.1 1), .int (s2.1 2), .int (s2.1 3), .int (s2.1 4), .int (s2.1 5), .ref (a2 1), .ref (a2 2), .ref (a2 3), .ref (a2 4), .ref (a2 5), .ref (a2 6), .ref (a2 7), .ref (a2 8), .ref (a2 9), .ref (a2 10), .ref (a2 11), .ref (a2 12)])), ((a2 1), .inl (q 0, 4, .inl (s2.2.1 0))), ((a2 2), .inl (q 0, 4, .inl (s2.2.1 1))), ((a2 3), .inl (q 0, 160, .inl (s2.2.1 2))), ((a2 4), .inl (q 0, 40, .inl (s2.2.1 3))), ((a2 5), .inl (q 0, 40, .inl (s2.2.1 4))), ((a2 6), .inl (q 0, 40, .inl (s2.2.1 5))), ((a2 7), .inl (q 0, 40, .inl (s2.2.1 6))), ((a2 8), .inl (q 0, 40, .inl (s2.2.1 7))), ((a2 9), .inl (q 0, 40, .inl (s2.2.1 8))), ((a2 10), .inl (q 0, 40, .inl (s2.2.1 9))), ((a2 11), .inl (q 1, 40, .inr (.inl s2.2.2.1))), ((a2 12), .inl (q 0, s2.2.2.2.1, .inl s2.2.2.2.2)), (p8, .inr (2, [.ref p9, .int (s6.1 0), .int (s6.1 1)])), (p9, .inl (q 4, 10, .inr (.inr (.inr (.inr (pf_f AA s6.2))))))]) [0, 1, 2, 3, 4, 5, 6, 7, 8, 9, 10, 11, 12, 13, 14, 15] (by decide) rfl
      refine W.widen (k := 14) (n := 6906) (Nat.le_of_ble_eq_true rfl) (Nat.le_of_ble_eq_true rfl) ?_
      exact mt_iret (AA, s2, s6) hx hb hr hk h hP hD hS dX6_limit_22
    · replace h := h.2 c_4
      refine lv_iload_n hx hb dX6_limit_15 rfl (lv_at hl 1 rfl) ?_
      refine lv_bipush (v := 99) hx hb dX6_limit_16 (by decide) ?_
      refine lv_icmp_le (tgt := 23) hx hb dX6_limit_18 (by decide) (fun c_5 => ?_) (fun c_5 => ?_)
      · replace h := h.1 c_5
        refine lv_aload_n hx hb dX6_limit_23 rfl (lv_at hl 0 rfl) ?_
        refine fl_get (C := RX6) (T := TX6) (N := 7) (ci := 5) (v := .ref (a2 0)) hx hb ht in_X6 hown hK hP 0 rfl rfl 1 (by decide) mw_356 rfl dX6_limit_24 ?_
        refine fl_get (C := RX0) (T := TX0) (N := 18) (ci := 0) (v := .int (s2.1 2)) hx hb ht in_X0 hown hK hP 1 rfl rfl 2 (by decide) mw_178 rfl dX6_limit_27 ?_
        refine lv_istore_n (lv' := [(2, .int (s2.1 2)), (0, .ref (a0 0)), (1, .int x1)]) hx hb dX6_limit_30 rfl hl (by decide) rfl (fun ls hl => ?_)
        refine lv_iload_n hx hb dX6_limit_31 rfl (lv_at hl 0 rfl) ?_
        refine lv_iload_n hx hb dX6_limit_32 rfl (lv_at hl 2 rfl) ?_
        refine lv_icmp_ne (tgt := 39) hx hb dX6_limit_33 (by decide) (fun c_6 => ?_) (fun c_6 => ?_)
        · replace h := h.1 c_6
          refine lv_aload_n hx hb dX6_limit_39 rfl (lv_at hl 1 rfl) ?_
          refine fl_get (C := RX6) (T := TX6) (N := 7) (ci := 5) (v := .ref p8) hx hb ht in_X6 hown hK hP 0 rfl rfl 5 (by decide) mw_360 rfl dX6_limit_40 ?_
          refine lv_aload_n hx hb dX6_limit_43 rfl (lv_at hl 1 rfl) ?_
          refine fl_get (C := RX6) (T := TX6) (N := 7) (ci := 5) (v := .ref (a2 0)) hx hb ht in_X6 hown hK hP 0 rfl rfl 1 (by decide) mw_356 rfl dX6_limit_44 ?_
          refine mt_govP (X := [((a0 0), .inr (5, [.ref (a1 0), .ref (a2 0), .ref (a3 0), .ref (a4 0), .ref (a5 0), .ref p8, .ref s8])), ((a2 0), .inr (0, [.int (s2.1 0), .int (s2.1 1), .int (s2.1 2), .int (s2.1 3), .int (s2.1 4), .int (s2.1 5), .ref (a2 1), .ref (a2 2), .ref (a2 3), .ref (a2 4), .ref (a2 5), .ref (a2 6), .ref (a2 7), .ref (a2 8), .ref (a2 9), .ref (a2 10), .ref (a2 11), .ref (a2 12)])), ((a2 1), .inl (q 0, 4, .inl (s2.2.1 0))), ((a2 2), .inl (q 0, 4, .inl (s2.2.1 1))), ((a2 3), .inl (q 0, 160, .inl (s2.2.1 2))), ((a2 4), .inl (q 0, 40, .inl (s2.2.1 3))), ((a2 5), .inl (q 0, 40, .inl (s2.2.1 4))), ((a2 6), .inl (q 0, 40, .inl (s2.2.1 5))), ((a2 7), .inl (q 0, 40, .inl (s2.2.1 6))), ((a2 8), .inl (q 0, 40, .inl (s2.2.1 7))), ((a2 9), .inl (q 0, 40, .inl (s2.2.1 8))), ((a2 10), .inl (q 0, 40, .inl (s2.2.1 9))), ((a2 11), .inl (q 1, 40, .inr (.inl s2.2.2.1))), ((a2 12), .inl (q 0, s2.2.2.2.1, .inl s2.2.2.2.2)), (p8, .inr (2, [.ref p9, .int (s6.1 0), .int (s6.1 1)])), (p9, .inl (q 4, 10, .inr (.inr (.inr (.inr (pf_f AA s6.2))))))]) (pl := ps_w q 10 AA s6.2) (mt_wV (wc := (pa_o p8 p9 s6 ++ pa_r p9 q 10 AA s6.2 ++ bd_w a2 q s2) ++ ps_w q 10 AA s6.2) (As := [.ref (a2 0)]) (rest := []) hx hb hml hown ht (c2_X3_push (a0 := va_up (fun _ => p9) 0 p8) h) wd_X3_push mw_631 hQ hV hS hA (hP.part (cx := (pa_o p8 p9 s6 ++ pa_r p9 q 10 AA s6.2 ++ bd_w a2 q s2)) [14, 15, 1, 2, 3, 4, 5, 6, 7, 8, 9, 10, 11, 12, 13] rfl) (hD.part (cx := (pa_o p8 p9 s6 ++ pa_r p9 q 10 AA s6.2 ++ bd_w a2 q s2)) [14, 15, 1, 2, 3, 4, 5, 6, 7, 8, 9, 10, 11, 12, 13] (by decide) rfl) rfl rfl rfl hl.1 rfl (Nat.le_of_ble_eq_true rfl) dX6_limit_47 ⟨Nat.le_of_ble_eq_true rfl, Nat.le_of_ble_eq_true rfl, rfl, rfl⟩ ⟨Nat.le_of_ble_eq_true rfl, Nat.le_of_ble_eq_true rfl⟩) (wr := [((a0 0), .inr (5, [.ref (a1 0), .ref (a2 0), .ref (a3 0), .ref (a4 0), .ref (a5 0), .ref p8, .ref s8]))]) hP hD hS hA [14, 15, 1, 2, 3, 4, 5, 6, 7, 8, 9, 10, 11, 12, 13] [0] rfl rfl (by decide) (by decide) (fun u_7 H locs h hP hD hS => ?_)
          obtain ⟨A_10, s_9⟩ := u_7
          try dsimp only at h
          have hP : va_P D vwCl (([((a0 0), .inr (5, [.ref (a1 0), .ref (a2 0), .ref (a3 0), .ref (a4 0), .ref (a5 0), .ref p8, .ref s8])), (p8, .inr (2, [.ref p9, .int (s_9.1 0), .int (s_9.1 1)])), (p9, .inl (q 4, 10, .inr (.inr (.inr (.inr (pf_f A_10 s_9.2)))))), ((a2 0), .inr (0, [.int (s2.1 0), .int (s2.1 1), .int (s2.1 2), .int (s2.1 3), .int (s2.1 4), .int (s2.1 5), .ref (a2 1), .ref (a2 2), .ref (a2 3), .ref (a2 4), .ref (a2 5), .ref (a2 6), .ref (a2 7), .ref (a2 8), .ref (a2 9), .ref (a2 10), .ref (a2 11), .ref (a2 12)])), ((a2 1), .inl (q 0, 4, .inl (s2.2.1 0))), ((a2 2), .inl (q 0, 4, .inl (s2.2.1 1))), ((a2 3), .inl (q 0, 160, .inl (s2.2.1 2))), ((a2 4), .inl (q 0, 40, .inl (s2.2.1 3))), ((a2 5), .inl (q 0, 40, .inl (s2.2.1 4))), ((a2 6), .inl (q 0, 40, .inl (s2.2.1 5))), ((a2 7), .inl (q 0, 40, .inl (s2.2.1 6))), ((a2 8), .inl (q 0, 40, .inl (s2.2.1 7))), ((a2 9), .inl (q 0, 40, .inl (s2.2.1 8))), ((a2 10), .inl (q 0, 40, .inl (s2.2.1 9))), ((a2 11), .inl (q 1, 40, .inr (.inl s2.2.2.1))), ((a2 12), .inl (q 0, s2.2.2.2.1, .inl s2.2.2.2.2))] : va_W) ++ ps_w q 10 A_10 s_9.2) H := hP
          have hD : va_D _ (([((a0 0), .inr (5, [.ref (a1 0), .ref (a2 0), .ref (a3 0), .ref (a4 0), .ref (a5 0), .ref p8, .ref s8])), (p8, .inr (2, [.ref p9, .int (s_9.1 0), .int (s_9.1 1)])), (p9, .inl (q 4, 10, .inr (.inr (.inr (.inr (pf_f A_10 s_9.2)))))), ((a2 0), .inr (0, [.int (s2.1 0), .int (s2.1 1), .int (s2.1 2), .int (s2.1 3), .int (s2.1 4), .int (s2.1 5), .ref (a2 1), .ref (a2 2), .ref (a2 3), .ref (a2 4), .ref (a2 5), .ref (a2 6), .ref (a2 7), .ref (a2 8), .ref (a2 9), .ref (a2 10), .ref (a2 11), .ref (a2 12)])), ((a2 1), .inl (q 0, 4, .inl (s2.2.1 0))), ((a2 2), .inl (q 0, 4, .inl (s2.2.1 1))), ((a2 3), .inl (q 0, 160, .inl (s2.2.1 2))), ((a2 4), .inl (q 0, 40, .inl (s2.2.1 3))), ((a2 5), .inl (q 0, 40, .inl (s2.2.1 4))), ((a2 6), .inl (q 0, 40, .inl (s2.2.1 5))), ((a2 7), .inl (q 0, 40, .inl (s2.2.1 6))), ((a2 8), .inl (q 0, 40, .inl (s2.2.1 7))), ((a2 9), .inl (q 0, 40, .inl (s2.2.1 8))), ((a2 10), .inl (q 0, 40, .inl (s2.2.1 9))), ((a2 11), .inl (q 1, 40, .inr (.inl s2.2.2.1))), ((a2 12), .inl (q 0, s2.2.2.2.1, .inl s2.2.2.2.2))] : va_W) ++ ps_w q 10 A_10 s_9.2) := hD
          refine W.widen (k := 14) (n := 6906) (Nat.le_of_ble_eq_true rfl) (Nat.le_of_ble_eq_true rfl) ?_
          refine lv_aload_n hx hb dX6_limit_50 rfl (lv_at hl 1 rfl) ?_
          refine fl_get (C := RX6) (T := TX6) (N := 7) (ci := 5) (v := .ref (a2 0)) hx hb ht in_X6 hown hK hP 0 rfl rfl 1 (by decide) mw_356 rfl dX6_limit_51 ?_
          refine lv_iload_n hx hb dX6_limit_54 rfl (lv_at hl 2 rfl) ?_
          refine fl_put (C := RX0) (T := TX0) (N := 18) (ci := 0) (v := .int x1) (ws2 := [((a0 0), .inr (5, [.ref (a1 0), .ref (a2 0), .ref (a3 0), .ref (a4 0), .ref (a5 0), .ref p8, .ref s8])), (p8, .inr (2, [.ref p9, .int (s_9.1 0), .int (s_9.1 1)])), (p9, .inl (q 4, 10, .inr (.inr (.inr (.inr (pf_f A_10 s_9.2)))))), ((a2 0), .inr (0, [.int (s2.1 0), .int (s2.1 1), .int x1, .int (s2.1 3), .int (s2.1 4), .int (s2.1 5), .ref (a2 1), .ref (a2 2), .ref (a2 3), .ref (a2 4), .ref (a2 5), .ref (a2 6), .ref (a2 7), .ref (a2 8), .ref (a2 9), .ref (a2 10), .ref (a2 11), .ref (a2 12)])), ((a2 1), .inl (q 0, 4, .inl (s2.2.1 0))), ((a2 2), .inl (q 0, 4, .inl (s2.2.1 1))), ((a2 3), .inl (q 0, 160, .inl (s2.2.1 2))), ((a2 4), .inl (q 0, 40, .inl (s2.2.1 3))), ((a2 5), .inl (q 0, 40, .inl (s2.2.1 4))), ((a2 6), .inl (q 0, 40, .inl (s2.2.1 5))), ((a2 7), .inl (q 0, 40, .inl (s2.2.1 6))), ((a2 8), .inl (q 0, 40, .inl (s2.2.1 7))), ((a2 9), .inl (q 0, 40, .inl (s2.2.1 8))), ((a2 10), .inl (q 0, 40, .inl (s2.2.1 9))), ((a2 11), .inl (q 1, 40, .inr (.inl s2.2.2.1))), ((a2 12), .inl (q 0, s2.2.2.2.1, .inl s2.2.2.2.2))] ++ ps_w q 10 A_10 s_9.2) hx hb ht in_X0 tyX0_ok nmX0 hown hK hP hD hS 3 rfl rfl 2 (by decide) mw_178 rfl rfl rfl (Nat.le_of_ble_eq_true rfl) dX6_limit_55 rfl (fun H locs hP hD hS => ?_)
          refine lv_iload_n hx hb dX6_limit_58 rfl (lv_at hl 0 rfl) ?_
          have hP := hP.part (cx := [((a0 0), .inr (5, [.ref (a1 0), .ref (a2 0), .ref (a3 0), .ref (a4 0), .ref (a5 0), .ref p8, .ref s8])), ((a2 0), .inr (0, [.int (s2.1 0), .int (s2.1 1), .int x1, .int (s2.1 3), .int (s2.1 4), .int (s2.1 5), .ref (a2 1), .ref (a2 2), .ref (a2 3), .ref (a2 4), .ref (a2 5), .ref (a2 6), .ref (a2 7), .ref (a2 8), .ref (a2 9), .ref (a2 10), .ref (a2 11), .ref (a2 12)])), ((a2 1), .inl (q 0, 4, .inl (s2.2.1 0))), ((a2 2), .inl (q 0, 4, .inl (s2.2.1 1))), ((a2 3), .inl (q 0, 160, .inl (s2.2.1 2))), ((a2 4), .inl (q 0, 40, .inl (s2.2.1 3))), ((a2 5), .inl (q 0, 40, .inl (s2.2.1 4))), ((a2 6), .inl (q 0, 40, .inl (s2.2.1 5))), ((a2 7), .inl (q 0, 40, .inl (s2.2.1 6))), ((a2 8), .inl (q 0, 40, .inl (s2.2.1 7))), ((a2 9), .inl (q 0, 40, .inl (s2.2.1 8))), ((a2 10), .inl (q 0, 40, .inl (s2.2.1 9))), ((a2 11), .inl (q 1, 40, .inr (.inl s2.2.2.1))), ((a2 12), .inl (q 0, s2.2.2.2.1, .inl s2.2.2.2.2)), (p8, .inr (2, [.ref p9, .int (s_9.1 0), .int (s_9.1 1)])), (p9, .inl (q 4, 10, .inr (.inr (.inr (.inr (pf_f A_10 s_9.2))))))]) [0, 3, 4, 5, 6, 7, 8, 9, 10, 11, 12, 13, 14, 15, 1, 2] rfl
          have hD := hD.part (cx := [((a0 0), .inr (5, [.ref (a1 0), .ref (a2 0), .ref (a3 0), .ref (a4 0), .ref (a5 0), .ref p8, .ref s8])), ((a2 0), .inr (0, [.int (s2.1 0), .int (s2.1 1), .int x1, .int (s2.1 3), .int (s2.1 4), .int (s2.1 5), .ref (a2 1), .ref (a2 2), .ref (a2 3), .ref (a2 4), .ref (a2 5), .ref (a2 6), .ref (a2 7), .ref (a2 8), .ref (a2 9), .ref (a2 10), .ref (a2 11), .ref (a2 12)])), ((a2 1), .inl (q 0, 4, .inl (s2.2.1 0))), ((a2 2), .inl (q 0, 4, .inl (s2.2.1 1))), ((a2 3), .inl (q 0, 160, .inl (s2.2.1 2))), ((a2 4), .inl (q 0, 40, .inl (s2.2.1 3))), ((a2 5), .inl (q 0, 40, .inl (s2.2.1 4))), ((a2 6), .inl (q 0, 40, .inl (s2.2.1 5))), ((a2 7), .inl (q 0, 40, .inl (s2.2.1 6))), ((a2 8), .inl (q 0, 40, .inl (s2.2.1 7))), ((a2 9), .inl (q 0, 40, .inl (s2.2.1 8))), ((a2 10), .inl (q 0, 40, .inl (s2.2.1 9))), ((a2 11), .inl (q 1, 40, .inr (.inl s2.2.2.1))), ((a2 12), .inl (q 0, s2.2.2.2.1, .inl s2.2.2.2.2)), (p8, .inr (2, [.ref p9, .int (s_9.1 0), .int (s_9.1 1)])), (p9, .inl (q 4, 10, .inr (.inr (.inr (.inr (pf_f A_10 s_9.2))))))]) [0, 3, 4, 5, 6, 7, 8, 9, 10, 11, 12, 13, 14, 15, 1, 2] (by decide) rfl
          exact mt_iret (A_10, ((va_up s2.1 2 x1), s2.2.1, s2.2.2.1, s2.2.2.2.1, s2.2.2.2.2), s_9) hx hb hr hk h hP hD hS dX6_limit_59
        · replace h := h.2 c_6
          refine lv_bipush (v := (-2)) hx hb dX6_limit_36 (by decide) ?_
          have hP := hP.part (cx := [((a0 0), .inr (5, [.ref (a1 0), .ref (a2 0), .ref (a3 0), .ref (a4 0), .ref (a5 0), .ref p8, .ref s8])), ((a2 0), .inr (0, [.int (s2.1 0), .int (s2.1 1), .int (s2.1 2), .int (s2.1 3), .int (s2.1 4), .int (s2.1 5), .ref (a2 1), .ref (a2 2), .ref (a2 3), .ref (a2 4), .ref (a2 5), .ref (a2 6), .ref (a2 7), .ref (a2 8), .ref (a2 9), .ref (a2 10), .ref (a2 11), .ref (a2 12)])), ((a2 1), .inl (q 0, 4, .inl (s2.2.1 0))), ((a2 2), .inl (q 0, 4, .inl (s2.2.1 1))), ((a2 3), .inl (q 0, 160, .inl (s2.2.1 2))), ((a2 4), .inl (q 0, 40, .inl (s2.2.1 3))), ((a2 5), .inl (q 0, 40, .inl (s2.2.1 4))), ((a2 6), .inl (q 0, 40, .inl (s2.2.1 5))), ((a2 7), .inl (q 0, 40, .inl (s2.2.1 6))), ((a2 8), .inl (q 0, 40, .inl (s2.2.1 7))), ((a2 9), .inl (q 0, 40, .inl (s2.2.1 8))), ((a2 10), .inl (q 0, 40, .inl (s2.2.1 9))), ((a2 11), .inl (q 1, 40, .inr (.inl s2.2.2.1))), ((a2 12), .inl (q 0, s2.2.2.2.1, .inl s2.2.2.2.2)), (p8, .inr (2, [.ref p9, .int (s6.1 0), .int (s6.1 1)])), (p9, .inl (q 4, 10, .inr (.inr (.inr (.inr (pf_f AA s6.2))))))]) [0, 1, 2, 3, 4, 5, 6, 7, 8, 9, 10, 11, 12, 13, 14, 15] rfl
          have hD := hD.part (cx := [((a0 0), .inr (5, [.ref (a1 0), .ref (a2 0), .ref (a3 0), .ref (a4 0), .ref (a5 0), .ref p8, .ref s8])), ((a2 0), .inr (0, [.int (s2.1 0), .int (s2.1 1), .int (s2.1 2), .int (s2.1 3), .int (s2.1 4), .int (s2.1 5), .ref (a2 1), .ref (a2 2), .ref (a2 3), .ref (a2 4), .ref (a2 5), .ref (a2 6), .ref (a2 7), .ref (a2 8), .ref (a2 9), .ref (a2 10), .ref (a2 11), .ref (a2 12)])), ((a2 1), .inl (q 0, 4, .inl (s2.2.1 0))), ((a2 2), .inl (q 0, 4, .inl (s2.2.1 1))), ((a2 3), .inl (q 0, 160, .inl (s2.2.1 2))), ((a2 4), .inl (q 0, 40, .inl (s2.2.1 3))), ((a2 5), .inl (q 0, 40, .inl (s2.2.1 4))), ((a2 6), .inl (q 0, 40, .inl (s2.2.1 5))), ((a2 7), .inl (q 0, 40, .inl (s2.2.1 6))), ((a2 8), .inl (q 0, 40, .inl (s2.2.1 7))), ((a2 9), .inl (q 0, 40, .inl (s2.2.1 8))), ((a2 10), .inl (q 0, 40, .inl (s2.2.1 9))), ((a2 11), .inl (q 1, 40, .inr (.inl s2.2.2.1))), ((a2 12), .inl (q 0, s2.2.2.2.1, .inl s2.2.2.2.2)), (p8, .inr (2, [.ref p9, .int (s6.1 0), .int (s6.1 1)])), (p9, .inl (q 4, 10, .inr (.inr (.inr (.inr (pf_f AA s6.2))))))]) [0, 1, 2, 3, 4, 5, 6, 7, 8, 9, 10, 11, 12, 13, 14, 15] (by decide) rfl
          refine W.widen (k := 14) (n := 6906) (Nat.le_of_ble_eq_true rfl) (Nat.le_of_ble_eq_true rfl) ?_
          exact mt_iret (AA, s2, s6) hx hb hr hk h hP hD hS dX6_limit_38
      · replace h := h.2 c_5
        refine lv_iconst (v := (-1)) hx hb dX6_limit_21 (by decide) ?_
        have hP := hP.part (cx := [((a0 0), .inr (5, [.ref (a1 0), .ref (a2 0), .ref (a3 0), .ref (a4 0), .ref (a5 0), .ref p8, .ref s8])), ((a2 0), .inr (0, [.int (s2.1 0), .int (s2.1 1), .int (s2.1 2), .int (s2.1 3), .int (s2.1 4), .int (s2.1 5), .ref (a2 1), .ref (a2 2), .ref (a2 3), .ref (a2 4), .ref (a2 5), .ref (a2 6), .ref (a2 7), .ref (a2 8), .ref (a2 9), .ref (a2 10), .ref (a2 11), .ref (a2 12)])), ((a2 1), .inl (q 0, 4, .inl (s2.2.1 0))), ((a2 2), .inl (q 0, 4, .inl (s2.2.1 1))), ((a2 3), .inl (q 0, 160, .inl (s2.2.1 2))), ((a2 4), .inl (q 0, 40, .inl (s2.2.1 3))), ((a2 5), .inl (q 0, 40, .inl (s2.2.1 4))), ((a2 6), .inl (q 0, 40, .inl (s2.2.1 5))), ((a2 7), .inl (q 0, 40, .inl (s2.2.1 6))), ((a2 8), .inl (q 0, 40, .inl (s2.2.1 7))), ((a2 9), .inl (q 0, 40, .inl (s2.2.1 8))), ((a2 10), .inl (q 0, 40, .inl (s2.2.1 9))), ((a2 11), .inl (q 1, 40, .inr (.inl s2.2.2.1))), ((a2 12), .inl (q 0, s2.2.2.2.1, .inl s2.2.2.2.2)), (p8, .inr (2, [.ref p9, .int (s6.1 0), .int (s6.1 1)])), (p9, .inl (q 4, 10, .inr (.inr (.inr (.inr (pf_f AA s6.2))))))]) [0, 1, 2, 3, 4, 5, 6, 7, 8, 9, 10, 11, 12, 13, 14, 15] rfl
        have hD := hD.part (cx := [((a0 0), .inr (5, [.ref (a1 0), .ref (a2 0), .ref (a3 0), .ref (a4 0), .ref (a5 0), .ref p8, .ref s8])), ((a2 0), .inr (0, [.int (s2.1 0), .int (s2.1 1), .int (s2.1 2), .int (s2.1 3), .int (s2.1 4), .int (s2.1 5), .ref (a2 1), .ref (a2 2), .ref (a2 3), .ref (a2 4), .ref (a2 5), .ref (a2 6), .ref (a2 7), .ref (a2 8), .ref (a2 9), .ref (a2 10), .ref (a2 11), .ref (a2 12)])), ((a2 1), .inl (q 0, 4, .inl (s2.2.1 0))), ((a2 2), .inl (q 0, 4, .inl (s2.2.1 1))), ((a2 3), .inl (q 0, 160, .inl (s2.2.1 2))), ((a2 4), .inl (q 0, 40, .inl (s2.2.1 3))), ((a2 5), .inl (q 0, 40, .inl (s2.2.1 4))), ((a2 6), .inl (q 0, 40, .inl (s2.2.1 5))), ((a2 7), .inl (q 0, 40, .inl (s2.2.1 6))), ((a2 8), .inl (q 0, 40, .inl (s2.2.1 7))), ((a2 9), .inl (q 0, 40, .inl (s2.2.1 8))), ((a2 10), .inl (q 0, 40, .inl (s2.2.1 9))), ((a2 11), .inl (q 1, 40, .inr (.inl s2.2.2.1))), ((a2 12), .inl (q 0, s2.2.2.2.1, .inl s2.2.2.2.2)), (p8, .inr (2, [.ref p9, .int (s6.1 0), .int (s6.1 1)])), (p9, .inl (q 4, 10, .inr (.inr (.inr (.inr (pf_f AA s6.2))))))]) [0, 1, 2, 3, 4, 5, 6, 7, 8, 9, 10, 11, 12, 13, 14, 15] (by decide) rfl
        refine W.widen (k := 14) (n := 6906) (Nat.le_of_ble_eq_true rfl) (Nat.le_of_ble_eq_true rfl) ?_
        exact mt_iret (AA, s2, s6) hx hb hr hk h hP hD hS dX6_limit_22

def wp_X6_exchange (post : Int32 → Bd → Pa → Prop) (s2 : Bd) (s6 : Pa) (x1 : Int32) (x2 : Int32) (x3 : Int32) : Prop := wp_X0_isMovable (fun r_1 => ((r_1 = 0 → post (-1) s2 s6) ∧ (¬ r_1 = 0 → wp_X0_isMovable (fun r_4 => ((r_4 = 0 → post (-1) s2 s6) ∧ (¬ r_4 = 0 → ((¬ x2 = x3 → wp_X3_push (fun s_10 => wp_X0_swapSigns (fun u_15 => wp_X0_emptyLog (fun b_18 => post 1 b_18 s_10) u_15) s2 x1 x2 x3) s6 s2) ∧ (x2 = x3 → post (-1) s2 s6))))) s2 x1 x3))) s2 x1 x2
set_option maxHeartbeats 4000000 in
set_option maxRecDepth 100000 in
theorem c2_X6_exchange {l : Launch} {D : va_G} {q : Nat → ClassId} {sz : Nat} {a0 a1 a2 a3 a4 a5 : Nat → Nat} {p8 s8 p9 : Nat} {AA : Nat → Nat → Nat} {s2 : Bd} {s6 : Pa} {x1 : Int32} {x2 : Int32} {x3 : Int32} {post : Int32 → Bd → Pa → Prop} (h : wp_X6_exchange post s2 s6 x1 x2 x3) : Met l yX6_exchange (Cond.code yX6_exchange cX6_exchange 4 (some .int) :: w_all) ({ frames := 4, cells := 15, slots := 13306, locals := 146 } : Room) (mt_P D q [.ref (a0 0), .int x1, .int x2, .int x3] ((fo_w (a0 0) (a1 0) (a2 0) (a3 0) (a4 0) (a5 0) p8 s8 ++ bd_w a2 q s2 ++ pa_o p8 p9 s6 ++ pa_r p9 q 10 AA s6.2) ++ ps_w q 10 AA s6.2) sz) (va_Qi (fun r (u : (Nat → Nat → Nat) × Nat × Bd × Pa) => post r u.2.2.1 u.2.2.2) (mt_B D ((fo_w (a0 0) (a1 0) (a2 0) (a3 0) (a4 0) (a5 0) p8 s8 ++ bd_w a2 q s2 ++ pa_o p8 p9 s6 ++ pa_r p9 q 10 AA s6.2) ++ ps_w q 10 AA s6.2) sz (fun u : (Nat → Nat → Nat) × Nat × Bd × Pa => ((fo_w (a0 0) (a1 0) (a2 0) (a3 0) (a4 0) (a5 0) p8 s8 ++ bd_w (va_up a2 12 u.2.1) q u.2.2.1 ++ pa_o p8 p9 u.2.2.2 ++ pa_r p9 q 10 u.1 u.2.2.2.2) ++ ps_w q 10 u.1 u.2.2.2.2))) (va_A ((fo_w (a0 0) (a1 0) (a2 0) (a3 0) (a4 0) (a5 0) p8 s8 ++ bd_w a2 q s2 ++ pa_o p8 p9 s6 ++ pa_r p9 q 10 AA s6.2) ++ ps_w q 10 AA s6.2) sz)) 15 13306 (va_A ((fo_w (a0 0) (a1 0) (a2 0) (a3 0) (a4 0) (a5 0) p8 s8 ++ bd_w a2 q s2 ++ pa_o p8 p9 s6 ++ pa_r p9 q 10 AA s6.2) ++ ps_w q 10 AA s6.2) sz) := by
  refine mt_start (by decide) (Nat.le_of_ble_eq_true rfl) ?_
  intro p e s m below meth c ls hx hb hr hml hown ht hk hin hP hQ hD hA hS hV hl
  have hK := hQ.1
  have hown : s.vm.findClass RX6 = some m.cls := hown
  have hl : lv_has ls 4 [(0, .ref (a0 0)), (1, .int x1), (2, .int x2), (3, .int x3)] := hl
  have hP : va_P D vwCl (([((a0 0), .inr (5, [.ref (a1 0), .ref (a2 0), .ref (a3 0), .ref (a4 0), .ref (a5 0), .ref p8, .ref s8])), ((a2 0), .inr (0, [.int (s2.1 0), .int (s2.1 1), .int (s2.1 2), .int (s2.1 3), .int (s2.1 4), .int (s2.1 5), .ref (a2 1), .ref (a2 2), .ref (a2 3), .ref (a2 4), .ref (a2 5), .ref (a2 6), .ref (a2 7), .ref (a2 8), .ref (a2 9), .ref (a2 10), .ref (a2 11), .ref (a2 12)])), ((a2 1), .inl (q 0, 4, .inl (s2.2.1 0))), ((a2 2), .inl (q 0, 4, .inl (s2.2.1 1))), ((a2 3), .inl (q 0, 160, .inl (s2.2.1 2))), ((a2 4), .inl (q 0, 40, .inl (s2.2.1 3))), ((a2 5), .inl (q 0, 40, .inl (s2.2.1 4))), ((a2 6), .inl (q 0, 40, .inl (s2.2.1 5))), ((a2 7), .inl (q 0, 40, .inl (s2.2.1 6))), ((a2 8), .inl (q 0, 40, .inl (s2.2.1 7))), ((a2 9), .inl (q 0, 40, .inl (s2.2.1 8))), ((a2 10), .inl (q 0, 40, .inl (s2.2.1 9))), ((a2 11), .inl (q 1, 40, .inr (.inl s2.2.2.1))), ((a2 12), .inl (q 0, s2.2.2.2.1, .inl s2.2.2.2.2)), (p8, .inr (2, [.ref p9, .int (s6.1 0), .int (s6.1 1)])), (p9, .inl (q 4, 10, .inr (.inr (.inr (.inr (pf_f AA s6.2))))))] : va_W) ++ ps_w q 10 AA s6.2) s.heap := hP
  have hD : va_D _ (([((a0 0), .inr (5, [.ref (a1 0), .ref (a2 0), .ref (a3 0), .ref (a4 0), .ref (a5 0), .ref p8, .ref s8])), ((a2 0), .inr (0, [.int (s2.1 0), .int (s2.1 1), .int (s2.1 2), .int (s2.1 3), .int (s2.1 4), .int (s2.1 5), .ref (a2 1), .ref (a2 2), .ref (a2 3), .ref (a2 4), .ref (a2 5), .ref (a2 6), .ref (a2 7), .ref (a2 8), .ref (a2 9), .ref (a2 10), .ref (a2 11), .ref (a2 12)])), ((a2 1), .inl (q 0, 4, .inl (s2.2.1 0))), ((a2 2), .inl (q 0, 4, .inl (s2.2.1 1))), ((a2 3), .inl (q 0, 160, .inl (s2.2.1 2))), ((a2 4), .inl (q 0, 40, .inl (s2.2.1 3))), ((a2 5), .inl (q 0, 40, .inl (s2.2.1 4))), ((a2 6), .inl (q 0, 40, .inl (s2.2.1 5))), ((a2 7), .inl (q 0, 40, .inl (s2.2.1 6))), ((a2 8), .inl (q 0, 40, .inl (s2.2.1 7))), ((a2 9), .inl (q 0, 40, .inl (s2.2.1 8))), ((a2 10), .inl (q 0, 40, .inl (s2.2.1 9))), ((a2 11), .inl (q 1, 40, .inr (.inl s2.2.2.1))), ((a2 12), .inl (q 0, s2.2.2.2.1, .inl s2.2.2.2.2)), (p8, .inr (2, [.ref p9, .int (s6.1 0), .int (s6.1 1)])), (p9, .inl (q 4, 10, .inr (.inr (.inr (.inr (pf_f AA s6.2))))))] : va_W) ++ ps_w q 10 AA s6.2) := hD
  unfold wp_X6_exchange at h
  refine lv_aload_n hx hb dX6_exchange_0 rfl (lv_at hl 0 rfl) ?_
  refine fl_get (C := RX6) (T := TX6) (N := 7) (ci := 5) (v := .ref (a2 0)) hx hb ht in_X6 hown hK hP 0 rfl rfl 1 (by decide) mw_356 rfl dX6_exchange_1 ?_
  refine lv_iload_n hx hb dX6_exchange_4 rfl (lv_at hl 1 rfl) ?_
  refine lv_iload_n hx hb dX6_exchange_5 rfl (lv_at hl 2 rfl) ?_
  refine vp_callSi (rd_wV (wc := bd_w a2 q s2) (As := [.int x1, .int x2]) (rest := []) hx hb hml hown ht (c2_X0_isMovable h) wd_X0_isMovable mw_768 hQ hV hS (hP.sub [1, 2, 3, 4, 5, 6, 7, 8, 9, 10, 11, 12, 13] rfl) rfl rfl rfl hl.1 rfl (Nat.le_of_ble_eq_true rfl) dX6_exchange_6 ⟨Nat.le_of_ble_eq_true rfl, Nat.le_of_ble_eq_true rfl, rfl, rfl⟩ ⟨Nat.le_of_ble_eq_true rfl, Nat.le_of_ble_eq_true rfl⟩) (fun r_1 h => ?_)
  try dsimp only at h
  refine lv_if_eq (tgt := 29) hx hb dX6_exchange_9 (by decide) (fun c_3 => ?_) (fun c_3 => ?_)
  · replace h := h.1 c_3
    refine lv_iconst (v := (-1)) hx hb dX6_exchange_29 (by decide) ?_
    have hP := hP.part (cx := [((a0 0), .inr (5, [.ref (a1 0), .ref (a2 0), .ref (a3 0), .ref (a4 0), .ref (a5 0), .ref p8, .ref s8])), ((a2 0), .inr (0, [.int (s2.1 0), .int (s2.1 1), .int (s2.1 2), .int (s2.1 3), .int (s2.1 4), .int (s2.1 5), .ref (a2 1), .ref (a2 2), .ref (a2 3), .ref (a2 4), .ref (a2 5), .ref (a2 6), .ref (a2 7), .ref (a2 8), .ref (a2 9), .ref (a2 10), .ref (a2 11), .ref (a2 12)])), ((a2 1), .inl (q 0, 4, .inl (s2.2.1 0))), ((a2 2), .inl (q 0, 4, .inl (s2.2.1 1))), ((a2 3), .inl (q 0, 160, .inl (s2.2.1 2))), ((a2 4), .inl (q 0, 40, .inl (s2.2.1 3))), ((a2 5), .inl (q 0, 40, .inl (s2.2.1 4))), ((a2 6), .inl (q 0, 40, .inl (s2.2.1 5))), ((a2 7), .inl (q 0, 40, .inl (s2.2.1 6))), ((a2 8), .inl (q 0, 40, .inl (s2.2.1 7))), ((a2 9), .inl (q 0, 40, .inl (s2.2.1 8))), ((a2 10), .inl (q 0, 40, .inl (s2.2.1 9))), ((a2 11), .inl (q 1, 40, .inr (.inl s2.2.2.1))), ((a2 12), .inl (q 0, s2.2.2.2.1, .inl s2.2.2.2.2)), (p8, .inr (2, [.ref p9, .int (s6.1 0), .int (s6.1 1)])), (p9, .inl (q 4, 10, .inr (.inr (.inr (.inr (pf_f AA s6.2))))))]) [0, 1, 2, 3, 4, 5, 6, 7, 8, 9, 10, 11, 12, 13, 14, 15] rfl
    have hD := hD.part (cx := [((a0 0), .inr (5, [.ref (a1 0), .ref (a2 0), .ref (a3 0), .ref (a4 0), .ref (a5 0), .ref p8, .ref s8])), ((a2 0), .inr (0, [.int (s2.1 0), .int (s2.1 1), .int (s2.1 2), .int (s2.1 3), .int (s2.1 4), .int (s2.1 5), .ref (a2 1), .ref (a2 2), .ref (a2 3), .ref (a2 4), .ref (a2 5), .ref (a2 6), .ref (a2 7), .ref (a2 8), .ref (a2 9), .ref (a2 10), .ref (a2 11), .ref (a2 12)])), ((a2 1), .inl (q 0, 4, .inl (s2.2.1 0))), ((a2 2), .inl (q 0, 4, .inl (s2.2.1 1))), ((a2 3), .inl (q 0, 160, .inl (s2.2.1 2))), ((a2 4), .inl (q 0, 40, .inl (s2.2.1 3))), ((a2 5), .inl (q 0, 40, .inl (s2.2.1 4))), ((a2 6), .inl (q 0, 40, .inl (s2.2.1 5))), ((a2 7), .inl (q 0, 40, .inl (s2.2.1 6))), ((a2 8), .inl (q 0, 40, .inl (s2.2.1 7))), ((a2 9), .inl (q 0, 40, .inl (s2.2.1 8))), ((a2 10), .inl (q 0, 40, .inl (s2.2.1 9))), ((a2 11), .inl (q 1, 40, .inr (.inl s2.2.2.1))), ((a2 12), .inl (q 0, s2.2.2.2.1, .inl s2.2.2.2.2)), (p8, .inr (2, [.ref p9, .int (s6.1 0), .int (s6.1 1)])), (p9, .inl (q 4, 10, .inr (.inr (.inr (.inr (pf_f AA s6.2))))))]) [0, 1, 2, 3, 4, 5, 6, 7, 8, 9, 10, 11, 12, 13, 14, 15] (by decide) rfl
    refine W.widen (k := 15) (n := 13306) (Nat.le_of_ble_eq_true rfl) (Nat.le_of_ble_eq_true rfl) ?_
    exact mt_iret (AA, (a2 12), s2, s6) hx hb hr hk h hP hD hS dX6_exchange_30
  · replace h := h.2 c_3
    refine lv_aload_n hx hb dX6_exchange_12 rfl (lv_at hl 0 rfl) ?_
    refine fl_get (C := RX6) (T := TX6) (N := 7) (ci := 5) (v := .ref (a2 0)) hx hb ht in_X6 hown hK hP 0 rfl rfl 1 (by decide) mw_356 rfl dX6_exchange_13 ?_
    refine lv_iload_n hx hb dX6_exchange_16 rfl (lv_at hl 1 rfl) ?_
    refine lv_iload_n hx hb dX6_exchange_17 rfl (lv_at hl 3 rfl) ?_
    refine vp_callSi (rd_wV (wc := bd_w a2 q s2) (As := [.int x1, .int x3]) (rest := []) hx hb hml hown ht (c2_X0_isMovable h) wd_X0_isMovable mw_768 hQ hV hS (hP.sub [1, 2, 3, 4, 5, 6, 7, 8, 9, 10, 11, 12, 13] rfl) rfl rfl rfl hl.1 rfl (Nat.le_of_ble_eq_true rfl) dX6_exchange_18 ⟨Nat.le_of_ble_eq_true rfl, Nat.le_of_ble_eq_true rfl, rfl, rfl⟩ ⟨Nat.le_of_ble_eq_true rfl, Nat.le_of_ble_eq_true rfl⟩) (fun r_4 h => ?_)
    try dsimp only at h
    refine lv_if_eq (tgt := 29) hx hb dX6_exchange_21 (by decide) (fun c_6 => ?_) (fun c_6 => ?_)
    · replace h := h.1 c_6
      refine lv_iconst (v := (-1)) hx hb dX6_exchange_29 (by decide) ?_
      have hP := hP.part (cx := [((a0 0), .inr (5, [.ref (a1 0), .ref (a2 0), .ref (a3 0), .ref (a4 0), .ref (a5 0), .ref p8, .ref s8])), ((a2 0), .inr (0, [.int (s2.1 0), .int (s2.1 1), .int (s2.1 2), .int (s2.1 3), .int (s2.1 4), .int (s2.1 5), .ref (a2 1), .ref (a2 2), .ref (a2 3), .ref (a2 4), .ref (a2 5), .ref (a2 6), .ref (a2 7), .ref (a2 8), .ref (a2 9), .ref (a2 10), .ref (a2 11), .ref (a2 12)])), ((a2 1), .inl (q 0, 4, .inl (s2.2.1 0))), ((a2 2), .inl (q 0, 4, .inl (s2.2.1 1))), ((a2 3), .inl (q 0, 160, .inl (s2.2.1 2))), ((a2 4), .inl (q 0, 40, .inl (s2.2.1 3))), ((a2 5), .inl (q 0, 40, .inl (s2.2.1 4))), ((a2 6), .inl (q 0, 40, .inl (s2.2.1 5))), ((a2 7), .inl (q 0, 40, .inl (s2.2.1 6))), ((a2 8), .inl (q 0, 40, .inl (s2.2.1 7))), ((a2 9), .inl (q 0, 40, .inl (s2.2.1 8))), ((a2 10), .inl (q 0, 40, .inl (s2.2.1 9))), ((a2 11), .inl (q 1, 40, .inr (.inl s2.2.2.1))), ((a2 12), .inl (q 0, s2.2.2.2.1, .inl s2.2.2.2.2)), (p8, .inr (2, [.ref p9, .int (s6.1 0), .int (s6.1 1)])), (p9, .inl (q 4, 10, .inr (.inr (.inr (.inr (pf_f AA s6.2))))))]) [0, 1, 2, 3, 4, 5, 6, 7, 8, 9, 10, 11, 12, 13, 14, 15] rfl
      have hD := hD.part (cx := [((a0 0), .inr (5, [.ref (a1 0), .ref (a2 0), .ref (a3 0), .ref (a4 0), .ref (a5 0), .ref p8, .ref s8])), ((a2 0), .inr (0, [.int (s2.1 0), .int (s2.1 1), .int (s2.1 2), .int (s2.1 3), .int (s2.1 4), .int (s2.1 5), .ref (a2 1), .ref (a2 2), .ref (a2 3), .ref (a2 4), .ref (a2 5), .ref (a2 6), .ref (a2 7), .ref (a2 8), .ref (a2 9), .ref (a2 10), .ref (a2 11), .ref (a2 12)])), ((a2 1), .inl (q 0, 4, .inl (s2.2.1 0))), ((a2 2), .inl (q 0, 4, .inl (s2.2.1 1))), ((a2 3), .inl (q 0, 160, .inl (s2.2.1 2))), ((a2 4), .inl (q 0, 40, .inl (s2.2.1 3))), ((a2 5), .inl (q 0, 40, .inl (s2.2.1 4))), ((a2 6), .inl (q 0, 40, .inl (s2.2.1 5))), ((a2 7), .inl (q 0, 40, .inl (s2.2.1 6))), ((a2 8), .inl (q 0, 40, .inl (s2.2.1 7))), ((a2 9), .inl (q 0, 40, .inl (s2.2.1 8))), ((a2 10), .inl (q 0, 40, .inl (s2.2.1 9))), ((a2 11), .inl (q 1, 40, .inr (.inl s2.2.2.1))), ((a2 12), .inl (q 0, s2.2.2.2.1, .inl s2.2.2.2.2)), (p8, .inr (2, [.ref p9, .int (s6.1 0), .int (s6.1 1)])), (p9, .inl (q 4, 10, .inr (.inr (.inr (.inr (pf_f AA s6.2))))))]) [0, 1, 2, 3, 4, 5, 6, 7, 8, 9, 10, 11, 12, 13, 14, 15] (by decide) rfl
      refine W.widen (k := 15) (n := 13306) (Nat.le_of_ble_eq_true rfl) (Nat.le_of_ble_eq_true rfl) ?_
      exact mt_iret (AA, (a2 12), s2, s6) hx hb hr hk h hP hD hS dX6_exchange_30
    · replace h := h.2 c_6
      refine lv_iload_n hx hb dX6_exchange_24 rfl (lv_at hl 2 rfl) ?_
      refine lv_iload_n hx hb dX6_exchange_25 rfl (lv_at hl 3 rfl) ?_
      refine lv_icmp_ne (tgt := 31) hx hb dX6_exchange_26 (by decide) (fun c_7 => ?_) (fun c_7 => ?_)
      · replace h := h.1 c_7
        refine lv_aload_n hx hb dX6_exchange_31 rfl (lv_at hl 0 rfl) ?_
        refine fl_get (C := RX6) (T := TX6) (N := 7) (ci := 5) (v := .ref p8) hx hb ht in_X6 hown hK hP 0 rfl rfl 5 (by decide) mw_360 rfl dX6_exchange_32 ?_
        refine lv_aload_n hx hb dX6_exchange_35 rfl (lv_at hl 0 rfl) ?_
        refine fl_get (C := RX6) (T := TX6) (N := 7) (ci := 5) (v := .ref (a2 0)) hx hb ht in_X6 hown hK hP 0 rfl rfl 1 (by decide) mw_356 rfl dX6_exchange_36 ?_
        refine mt_govP (X := [((a0 0), .inr (5, [.ref (a1 0), .ref (a2 0), .ref (a3 0), .ref (a4 0), .ref (a5 0), .ref p8, .ref s8])), ((a2 0), .inr (0, [.int (s2.1 0), .int (s2.1 1), .int (s2.1 2), .int (s2.1 3), .int (s2.1 4), .int (s2.1 5), .ref (a2 1), .ref (a2 2), .ref (a2 3), .ref (a2 4), .ref (a2 5), .ref (a2 6), .ref (a2 7), .ref (a2 8), .ref (a2 9), .ref (a2 10), .ref (a2 11), .ref (a2 12)])), ((a2 1), .inl (q 0, 4, .inl (s2.2.1 0))), ((a2 2), .inl (q 0, 4, .inl (s2.2.1 1))), ((a2 3), .inl (q 0, 160, .inl (s2.2.1 2))), ((a2 4), .inl (q 0, 40, .inl (s2.2.1 3))), ((a2 5), .inl (q 0, 40, .inl (s2.2.1 4))), ((a2 6), .inl (q 0, 40, .inl (s2.2.1 5))), ((a2 7), .inl (q 0, 40, .inl (s2.2.1 6))), ((a2 8), .inl (q 0, 40, .inl (s2.2.1 7))), ((a2 9), .inl (q 0, 40, .inl (s2.2.1 8))), ((a2 10), .inl (q 0, 40, .inl (s2.2.1 9))), ((a2 11), .inl (q 1, 40, .inr (.inl s2.2.2.1))), ((a2 12), .inl (q 0, s2.2.2.2.1, .inl s2.2.2.2.2)), (p8, .inr (2, [.ref p9, .int (s6.1 0), .int (s6.1 1)])), (p9, .inl (q 4, 10, .inr (.inr (.inr (.inr (pf_f AA s6.2))))))]) (pl := ps_w q 10 AA s6.2) (mt_wV (wc := (pa_o p8 p9 s6 ++ pa_r p9 q 10 AA s6.2 ++ bd_w a2 q s2) ++ ps_w q 10 AA s6.2) (As := [.ref (a2 0)]) (rest := []) hx hb hml hown ht (c2_X3_push (a0 := va_up (fun _ => p9) 0 p8) h) wd_X3_push mw_631 hQ hV hS hA (hP.part (cx := (pa_o p8 p9 s6 ++ pa_r p9 q 10 AA s6.2 ++ bd_w a2 q s2)) [14, 15, 1, 2, 3, 4, 5, 6, 7, 8, 9, 10, 11, 12, 13] rfl) (hD.part (cx := (pa_o p8 p9 s6 ++ pa_r p9 q 10 AA s6.2 ++ bd_w a2 q s2)) [14, 15, 1, 2, 3, 4, 5, 6, 7, 8, 9, 10, 11, 12, 13] (by decide) rfl) rfl rfl rfl hl.1 rfl (Nat.le_of_ble_eq_true rfl) dX6_exchange_39 ⟨Nat.le_of_ble_eq_true rfl, Nat.le_of_ble_eq_true rfl, rfl, rfl⟩ ⟨Nat.le_of_ble_eq_true rfl, Nat.le_of_ble_eq_true rfl⟩) (wr := [((a0 0), .inr (5, [.ref (a1 0), .ref (a2 0), .ref (a3 0), .ref (a4 0), .ref (a5 0), .ref p8, .ref s8]))]) hP hD hS hA [14, 15, 1, 2, 3, 4, 5, 6, 7, 8, 9, 10, 11, 12, 13] [0] rfl rfl (by decide) (by decide) (fun u_8 H locs h hP hD hS => ?_)
        obtain ⟨A_11, s_10⟩ := u_8
        try dsimp only at h
        have hP : va_P D vwCl (([((a0 0), .inr (5, [.ref (a1 0), .ref (a2 0), .ref (a3 0), .ref (a4 0), .ref (a5 0), .ref p8, .ref s8])), (p8, .inr (2, [.ref p9, .int (s_10.1 0), .int (s_10.1 1)])), (p9, .inl (q 4, 10, .inr (.inr (.inr (.inr (pf_f A_11 s_10.2)))))), ((a2 0), .inr (0, [.int (s2.1 0), .int (s2.1 1), .int (s2.1 2), .int (s2.1 3), .int (s2.1 4), .int (s2.1 5), .ref (a2 1), .ref (a2 2), .ref (a2 3), .ref (a2 4), .ref (a2 5), .ref (a2 6), .ref (a2 7), .ref (a2 8), .ref (a2 9), .ref (a2 10), .ref (a2 11), .ref (a2 12)])), ((a2 1), .inl (q 0, 4, .inl (s2.2.1 0))), ((a2 2), .inl (q 0, 4, .inl (s2.2.1 1))), ((a2 3), .inl (q 0, 160, .inl (s2.2.1 2))), ((a2 4), .inl (q 0, 40, .inl (s2.2.1 3))), ((a2 5), .inl (q 0, 40, .inl (s2.2.1 4))), ((a2 6), .inl (q 0, 40, .inl (s2.2.1 5))), ((a2 7), .inl (q 0, 40, .inl (s2.2.1 6))), ((a2 8), .inl (q 0, 40, .inl (s2.2.1 7))), ((a2 9), .inl (q 0, 40, .inl (s2.2.1 8))), ((a2 10), .inl (q 0, 40, .inl (s2.2.1 9))), ((a2 11), .inl (q 1, 40, .inr (.inl s2.2.2.1))), ((a2 12), .inl (q 0, s2.2.2.2.1, .inl s2.2.2.2.2))] : va_W) ++ ps_w q 10 A_11 s_10.2) H := hP
        have hD : va_D _ (([((a0 0), .inr (5, [.ref (a1 0), .ref (a2 0), .ref (a3 0), .ref (a4 0), .ref (a5 0), .ref p8, .ref s8])), (p8, .inr (2, [.ref p9, .int (s_10.1 0), .int (s_10.1 1)])), (p9, .inl (q 4, 10, .inr (.inr (.inr (.inr (pf_f A_11 s_10.2)))))), ((a2 0), .inr (0, [.int (s2.1 0), .int (s2.1 1), .int (s2.1 2), .int (s2.1 3), .int (s2.1 4), .int (s2.1 5), .ref (a2 1), .ref (a2 2), .ref (a2 3), .ref (a2 4), .ref (a2 5), .ref (a2 6), .ref (a2 7), .ref (a2 8), .ref (a2 9), .ref (a2 10), .ref (a2 11), .ref (a2 12)])), ((a2 1), .inl (q 0, 4, .inl (s2.2.1 0))), ((a2 2), .inl (q 0, 4, .inl (s2.2.1 1))), ((a2 3), .inl (q 0, 160, .inl (s2.2.1 2))), ((a2 4), .inl (q 0, 40, .inl (s2.2.1 3))), ((a2 5), .inl (q 0, 40, .inl (s2.2.1 4))), ((a2 6), .inl (q 0, 40, .inl (s2.2.1 5))), ((a2 7), .inl (q 0, 40, .inl (s2.2.1 6))), ((a2 8), .inl (q 0, 40, .inl (s2.2.1 7))), ((a2 9), .inl (q 0, 40, .inl (s2.2.1 8))), ((a2 10), .inl (q 0, 40, .inl (s2.2.1 9))), ((a2 11), .inl (q 1, 40, .inr (.inl s2.2.2.1))), ((a2 12), .inl (q 0, s2.2.2.2.1, .inl s2.2.2.2.2))] : va_W) ++ ps_w q 10 A_11 s_10.2) := hD
        refine W.widen (k := 14) (n := 6906) (Nat.le_of_ble_eq_true rfl) (Nat.le_of_ble_eq_true rfl) ?_
        refine lv_aload_n hx hb dX6_exchange_42 rfl (lv_at hl 0 rfl) ?_
        refine fl_get (C := RX6) (T := TX6) (N := 7) (ci := 5) (v := .ref (a2 0)) hx hb ht in_X6 hown hK hP 0 rfl rfl 1 (by decide) mw_356 rfl dX6_exchange_43 ?_
        refine lv_iload_n hx hb dX6_exchange_46 rfl (lv_at hl 1 rfl) ?_
        refine lv_iload_n hx hb dX6_exchange_47 rfl (lv_at hl 2 rfl) ?_
        refine lv_iload_n hx hb dX6_exchange_48 rfl (lv_at hl 3 rfl) ?_
        refine mt_govQ (X := [((a0 0), .inr (5, [.ref (a1 0), .ref (a2 0), .ref (a3 0), .ref (a4 0), .ref (a5 0), .ref p8, .ref s8])), (p8, .inr (2, [.ref p9, .int (s_10.1 0), .int (s_10.1 1)])), (p9, .inl (q 4, 10, .inr (.inr (.inr (.inr (pf_f A_11 s_10.2)))))), ((a2 0), .inr (0, [.int (s2.1 0), .int (s2.1 1), .int (s2.1 2), .int (s2.1 3), .int (s2.1 4), .int (s2.1 5), .ref (a2 1), .ref (a2 2), .ref (a2 3), .ref (a2 4), .ref (a2 5), .ref (a2 6), .ref (a2 7), .ref (a2 8), .ref (a2 9), .ref (a2 10), .ref (a2 11), .ref (a2 12)])), ((a2 1), .inl (q 0, 4, .inl (s2.2.1 0))), ((a2 2), .inl (q 0, 4, .inl (s2.2.1 1))), ((a2 3), .inl (q 0, 160, .inl (s2.2.1 2))), ((a2 4), .inl (q 0, 40, .inl (s2.2.1 3))), ((a2 5), .inl (q 0, 40, .inl (s2.2.1 4))), ((a2 6), .inl (q 0, 40, .inl (s2.2.1 5))), ((a2 7), .inl (q 0, 40, .inl (s2.2.1 6))), ((a2 8), .inl (q 0, 40, .inl (s2.2.1 7))), ((a2 9), .inl (q 0, 40, .inl (s2.2.1 8))), ((a2 10), .inl (q 0, 40, .inl (s2.2.1 9))), ((a2 11), .inl (q 1, 40, .inr (.inl s2.2.2.1))), ((a2 12), .inl (q 0, s2.2.2.2.1, .inl s2.2.2.2.2))]) (pl := ps_w q 10 A_11 s_10.2) (mt_wV (wc := bd_w a2 q s2) (As := [.int x1, .int x2, .int x3]) (rest := []) hx hb hml hown ht (c2_X0_swapSigns h) wd_X0_swapSigns mw_776 hQ hV hS hA (hP.sub [3, 4, 5, 6, 7, 8, 9, 10, 11, 12, 13, 14, 15] rfl) (hD.sub [3, 4, 5, 6, 7, 8, 9, 10, 11, 12, 13, 14, 15] (by decide) rfl) rfl rfl rfl hl.1 rfl (Nat.le_of_ble_eq_true rfl) dX6_exchange_49 ⟨Nat.le_of_ble_eq_true rfl, Nat.le_of_ble_eq_true rfl, rfl, rfl⟩ ⟨Nat.le_of_ble_eq_true rfl, Nat.le_of_ble_eq_true rfl⟩) (wr := [((a0 0), .inr (5, [.ref (a1 0), .ref (a2 0), .ref (a3 0), .ref (a4 0), .ref (a5 0), .ref p8, .ref s8])), (p8, .inr (2, [.ref p9, .int (s_10.1 0), .int (s_10.1 1)])), (p9, .inl (q 4, 10, .inr (.inr (.inr (.inr (pf_f A_11 s_10.2))))))]) hP hD hS hA [3, 4, 5, 6, 7, 8, 9, 10, 11, 12, 13, 14, 15] [0, 1, 2] rfl rfl (by decide) (by decide) (fun u_15 H locs h hP hD hS => ?_)
        try dsimp only at h
        have hP : va_P D vwCl (([((a0 0), .inr (5, [.ref (a1 0), .ref (a2 0), .ref (a3 0), .ref (a4 0), .ref (a5 0), .ref p8, .ref s8])), (p8, .inr (2, [.ref p9, .int (s_10.1 0), .int (s_10.1 1)])), (p9, .inl (q 4, 10, .inr (.inr (.inr (.inr (pf_f A_11 s_10.2)))))), ((a2 0), .inr (0, [.int (u_15.1 0), .int (u_15.1 1), .int (u_15.1 2), .int (u_15.1 3), .int (u_15.1 4), .int (u_15.1 5), .ref (a2 1), .ref (a2 2), .ref (a2 3), .ref (a2 4), .ref (a2 5), .ref (a2 6), .ref (a2 7), .ref (a2 8), .ref (a2 9), .ref (a2 10), .ref (a2 11), .ref (a2 12)])), ((a2 1), .inl (q 0, 4, .inl (u_15.2.1 0))), ((a2 2), .inl (q 0, 4, .inl (u_15.2.1 1))), ((a2 3), .inl (q 0, 160, .inl (u_15.2.1 2))), ((a2 4), .inl (q 0, 40, .inl (u_15.2.1 3))), ((a2 5), .inl (q 0, 40, .inl (u_15.2.1 4))), ((a2 6), .inl (q 0, 40, .inl (u_15.2.1 5))), ((a2 7), .inl (q 0, 40, .inl (u_15.2.1 6))), ((a2 8), .inl (q 0, 40, .inl (u_15.2.1 7))), ((a2 9), .inl (q 0, 40, .inl (u_15.2.1 8))), ((a2 10), .inl (q 0, 40, .inl (u_15.2.1 9))), ((a2 11), .inl (q 1, 40, .inr (.inl u_15.2.2.1))), ((a2 12), .inl (q 0, u_15.2.2.2.1, .inl u_15.2.2.2.2))] : va_W) ++ ps_w q 10 A_11 s_10.2) H := hP
        have hD : va_D _ (([((a0 0), .inr (5, [.ref (a1 0), .ref (a2 0), .ref (a3 0), .ref (a4 0), .ref (a5 0), .ref p8, .ref s8])), (p8, .inr (2, [.ref p9, .int (s_10.1 0), .int (s_10.1 1)])), (p9, .inl (q 4, 10, .inr (.inr (.inr (.inr (pf_f A_11 s_10.2)))))), ((a2 0), .inr (0, [.int (u_15.1 0), .int (u_15.1 1), .int (u_15.1 2), .int (u_15.1 3), .int (u_15.1 4), .int (u_15.1 5), .ref (a2 1), .ref (a2 2), .ref (a2 3), .ref (a2 4), .ref (a2 5), .ref (a2 6), .ref (a2 7), .ref (a2 8), .ref (a2 9), .ref (a2 10), .ref (a2 11), .ref (a2 12)])), ((a2 1), .inl (q 0, 4, .inl (u_15.2.1 0))), ((a2 2), .inl (q 0, 4, .inl (u_15.2.1 1))), ((a2 3), .inl (q 0, 160, .inl (u_15.2.1 2))), ((a2 4), .inl (q 0, 40, .inl (u_15.2.1 3))), ((a2 5), .inl (q 0, 40, .inl (u_15.2.1 4))), ((a2 6), .inl (q 0, 40, .inl (u_15.2.1 5))), ((a2 7), .inl (q 0, 40, .inl (u_15.2.1 6))), ((a2 8), .inl (q 0, 40, .inl (u_15.2.1 7))), ((a2 9), .inl (q 0, 40, .inl (u_15.2.1 8))), ((a2 10), .inl (q 0, 40, .inl (u_15.2.1 9))), ((a2 11), .inl (q 1, 40, .inr (.inl u_15.2.2.1))), ((a2 12), .inl (q 0, u_15.2.2.2.1, .inl u_15.2.2.2.2))] : va_W) ++ ps_w q 10 A_11 s_10.2) := hD
        refine lv_aload_n hx hb dX6_exchange_52 rfl (lv_at hl 0 rfl) ?_
        refine fl_get (C := RX6) (T := TX6) (N := 7) (ci := 5) (v := .ref (a2 0)) hx hb ht in_X6 hown hK hP 0 rfl rfl 1 (by decide) mw_356 rfl dX6_exchange_53 ?_
        refine mt_govQ (X := [((a0 0), .inr (5, [.ref (a1 0), .ref (a2 0), .ref (a3 0), .ref (a4 0), .ref (a5 0), .ref p8, .ref s8])), (p8, .inr (2, [.ref p9, .int (s_10.1 0), .int (s_10.1 1)])), (p9, .inl (q 4, 10, .inr (.inr (.inr (.inr (pf_f A_11 s_10.2)))))), ((a2 0), .inr (0, [.int (u_15.1 0), .int (u_15.1 1), .int (u_15.1 2), .int (u_15.1 3), .int (u_15.1 4), .int (u_15.1 5), .ref (a2 1), .ref (a2 2), .ref (a2 3), .ref (a2 4), .ref (a2 5), .ref (a2 6), .ref (a2 7), .ref (a2 8), .ref (a2 9), .ref (a2 10), .ref (a2 11), .ref (a2 12)])), ((a2 1), .inl (q 0, 4, .inl (u_15.2.1 0))), ((a2 2), .inl (q 0, 4, .inl (u_15.2.1 1))), ((a2 3), .inl (q 0, 160, .inl (u_15.2.1 2))), ((a2 4), .inl (q 0, 40, .inl (u_15.2.1 3))), ((a2 5), .inl (q 0, 40, .inl (u_15.2.1 4))), ((a2 6), .inl (q 0, 40, .inl (u_15.2.1 5))), ((a2 7), .inl (q 0, 40, .inl (u_15.2.1 6))), ((a2 8), .inl (q 0, 40, .inl (u_15.2.1 7))), ((a2 9), .inl (q 0, 40, .inl (u_15.2.1 8))), ((a2 10), .inl (q 0, 40, .inl (u_15.2.1 9))), ((a2 11), .inl (q 1, 40, .inr (.inl u_15.2.2.1))), ((a2 12), .inl (q 0, u_15.2.2.2.1, .inl u_15.2.2.2.2))]) (pl := ps_w q 10 A_11 s_10.2) (mt_wV (wc := bd_w a2 q u_15) (As := []) (rest := []) hx hb hml hown ht (c2_X0_emptyLog h) wd_X0_emptyLog mw_597 hQ hV hS hA (hP.sub [3, 4, 5, 6, 7, 8, 9, 10, 11, 12, 13, 14, 15] rfl) (hD.sub [3, 4, 5, 6, 7, 8, 9, 10, 11, 12, 13, 14, 15] (by decide) rfl) rfl rfl rfl hl.1 rfl (Nat.le_of_ble_eq_true rfl) dX6_exchange_56 ⟨Nat.le_of_ble_eq_true rfl, Nat.le_of_ble_eq_true rfl, rfl, rfl⟩ ⟨Nat.le_of_ble_eq_true rfl, Nat.le_of_ble_eq_true rfl⟩) (wr := [((a0 0), .inr (5, [.ref (a1 0), .ref (a2 0), .ref (a3 0), .ref (a4 0), .ref (a5 0), .ref p8, .ref s8])), (p8, .inr (2, [.ref p9, .int (s_10.1 0), .int (s_10.1 1)])), (p9, .inl (q 4, 10, .inr (.inr (.inr (.inr (pf_f A_11 s_10.2))))))]) hP hD hS hA [3, 4, 5, 6, 7, 8, 9, 10, 11, 12, 13, 14, 15] [0, 1, 2] rfl rfl (by decide) (by decide) (fun u_16 H locs h hP hD hS => ?_)
        obtain ⟨e_17, b_18⟩ := u_16
        try dsimp only at h
        have hP : va_P D vwCl (([((a0 0), .inr (5, [.ref (a1 0), .ref (a2 0), .ref (a3 0), .ref (a4 0), .ref (a5 0), .ref p8, .ref s8])), (p8, .inr (2, [.ref p9, .int (s_10.1 0), .int (s_10.1 1)])), (p9, .inl (q 4, 10, .inr (.inr (.inr (.inr (pf_f A_11 s_10.2)))))), ((a2 0), .inr (0, [.int (b_18.1 0), .int (b_18.1 1), .int (b_18.1 2), .int (b_18.1 3), .int (b_18.1 4), .int (b_18.1 5), .ref (a2 1), .ref (a2 2), .ref (a2 3), .ref (a2 4), .ref (a2 5), .ref (a2 6), .ref (a2 7), .ref (a2 8), .ref (a2 9), .ref (a2 10), .ref (a2 11), .ref e_17])), ((a2 1), .inl (q 0, 4, .inl (b_18.2.1 0))), ((a2 2), .inl (q 0, 4, .inl (b_18.2.1 1))), ((a2 3), .inl (q 0, 160, .inl (b_18.2.1 2))), ((a2 4), .inl (q 0, 40, .inl (b_18.2.1 3))), ((a2 5), .inl (q 0, 40, .inl (b_18.2.1 4))), ((a2 6), .inl (q 0, 40, .inl (b_18.2.1 5))), ((a2 7), .inl (q 0, 40, .inl (b_18.2.1 6))), ((a2 8), .inl (q 0, 40, .inl (b_18.2.1 7))), ((a2 9), .inl (q 0, 40, .inl (b_18.2.1 8))), ((a2 10), .inl (q 0, 40, .inl (b_18.2.1 9))), ((a2 11), .inl (q 1, 40, .inr (.inl b_18.2.2.1))), (e_17, .inl (q 0, b_18.2.2.2.1, .inl b_18.2.2.2.2))] : va_W) ++ ps_w q 10 A_11 s_10.2) H := hP
        have hD : va_D _ (([((a0 0), .inr (5, [.ref (a1 0), .ref (a2 0), .ref (a3 0), .ref (a4 0), .ref (a5 0), .ref p8, .ref s8])), (p8, .inr (2, [.ref p9, .int (s_10.1 0), .int (s_10.1 1)])), (p9, .inl (q 4, 10, .inr (.inr (.inr (.inr (pf_f A_11 s_10.2)))))), ((a2 0), .inr (0, [.int (b_18.1 0), .int (b_18.1 1), .int (b_18.1 2), .int (b_18.1 3), .int (b_18.1 4), .int (b_18.1 5), .ref (a2 1), .ref (a2 2), .ref (a2 3), .ref (a2 4), .ref (a2 5), .ref (a2 6), .ref (a2 7), .ref (a2 8), .ref (a2 9), .ref (a2 10), .ref (a2 11), .ref e_17])), ((a2 1), .inl (q 0, 4, .inl (b_18.2.1 0))), ((a2 2), .inl (q 0, 4, .inl (b_18.2.1 1))), ((a2 3), .inl (q 0, 160, .inl (b_18.2.1 2))), ((a2 4), .inl (q 0, 40, .inl (b_18.2.1 3))), ((a2 5), .inl (q 0, 40, .inl (b_18.2.1 4))), ((a2 6), .inl (q 0, 40, .inl (b_18.2.1 5))), ((a2 7), .inl (q 0, 40, .inl (b_18.2.1 6))), ((a2 8), .inl (q 0, 40, .inl (b_18.2.1 7))), ((a2 9), .inl (q 0, 40, .inl (b_18.2.1 8))), ((a2 10), .inl (q 0, 40, .inl (b_18.2.1 9))), ((a2 11), .inl (q 1, 40, .inr (.inl b_18.2.2.1))), (e_17, .inl (q 0, b_18.2.2.2.1, .inl b_18.2.2.2.2))] : va_W) ++ ps_w q 10 A_11 s_10.2) := hD
        refine W.widen (k := 15) (n := 13306) (Nat.le_of_ble_eq_true rfl) (Nat.le_of_ble_eq_true rfl) ?_
        refine lv_iconst (v := 1) hx hb dX6_exchange_59 (by decide) ?_
        have hP := hP.part (cx := [((a0 0), .inr (5, [.ref (a1 0), .ref (a2 0), .ref (a3 0), .ref (a4 0), .ref (a5 0), .ref p8, .ref s8])), ((a2 0), .inr (0, [.int (b_18.1 0), .int (b_18.1 1), .int (b_18.1 2), .int (b_18.1 3), .int (b_18.1 4), .int (b_18.1 5), .ref (a2 1), .ref (a2 2), .ref (a2 3), .ref (a2 4), .ref (a2 5), .ref (a2 6), .ref (a2 7), .ref (a2 8), .ref (a2 9), .ref (a2 10), .ref (a2 11), .ref e_17])), ((a2 1), .inl (q 0, 4, .inl (b_18.2.1 0))), ((a2 2), .inl (q 0, 4, .inl (b_18.2.1 1))), ((a2 3), .inl (q 0, 160, .inl (b_18.2.1 2))), ((a2 4), .inl (q 0, 40, .inl (b_18.2.1 3))), ((a2 5), .inl (q 0, 40, .inl (b_18.2.1 4))), ((a2 6), .inl (q 0, 40, .inl (b_18.2.1 5))), ((a2 7), .inl (q 0, 40, .inl (b_18.2.1 6))), ((a2 8), .inl (q 0, 40, .inl (b_18.2.1 7))), ((a2 9), .inl (q 0, 40, .inl (b_18.2.1 8))), ((a2 10), .inl (q 0, 40, .inl (b_18.2.1 9))), ((a2 11), .inl (q 1, 40, .inr (.inl b_18.2.2.1))), (e_17, .inl (q 0, b_18.2.2.2.1, .inl b_18.2.2.2.2)), (p8, .inr (2, [.ref p9, .int (s_10.1 0), .int (s_10.1 1)])), (p9, .inl (q 4, 10, .inr (.inr (.inr (.inr (pf_f A_11 s_10.2))))))]) [0, 3, 4, 5, 6, 7, 8, 9, 10, 11, 12, 13, 14, 15, 1, 2] rfl
        have hD := hD.part (cx := [((a0 0), .inr (5, [.ref (a1 0), .ref (a2 0), .ref (a3 0), .ref (a4 0), .ref (a5 0), .ref p8, .ref s8])), ((a2 0), .inr (0, [.int (b_18.1 0), .int (b_18.1 1), .int (b_18.1 2), .int (b_18.1 3), .int (b_18.1 4), .int (b_18.1 5), .ref (a2 1), .ref (a2 2), .ref (a2 3), .ref (a2 4), .ref (a2 5), .ref (a2 6), .ref (a2 7), .ref (a2 8), .ref (a2 9), .ref (a2 10), .ref (a2 11), .ref e_17])), ((a2 1), .inl (q 0, 4, .inl (b_18.2.1 0))), ((a2 2), .inl (q 0, 4, .inl (b_18.2.1 1))), ((a2 3), .inl (q 0, 160, .inl (b_18.2.1 2))), ((a2 4), .inl (q 0, 40, .inl (b_18.2.1 3))), ((a2 5), .inl (q 0, 40, .inl (b_18.2.1 4))), ((a2 6), .inl (q 0, 40, .inl (b_18.2.1 5))), ((a2 7), .inl (q 0, 40, .inl (b_18.2.1 6))), ((a2 8), .inl (q 0, 40, .inl (b_18.2.1 7))), ((a2 9), .inl (q 0, 40, .inl (b_18.2.1 8))), ((a2 10), .inl (q 0, 40, .inl (b_18.2.1 9))), ((a2 11), .inl (q 1, 40, .inr (.inl b_18.2.2.1))), (e_17, .inl (q 0, b_18.2.2.2.1, .inl b_18.2.2.2.2)), (p8, .inr (2, [.ref p9, .int (s_10.1 0), .int (s_10.1 1)])), (p9, .inl (q 4, 10, .inr (.inr (.inr (.inr (pf_f A_11 s_10.2))))))]) [0, 3, 4, 5, 6, 7, 8, 9, 10, 11, 12, 13, 14, 15, 1, 2] (by decide) rfl
        exact mt_iret (A_11, e_17, b_18, s_10) hx hb hr hk h hP hD hS dX6_exchange_60
      · replace h := h.2 c_7
        refine lv_iconst (v := (-1)) hx hb dX6_exchange_29 (by decide) ?_
        have hP := hP.part (cx := [((a0 0), .inr (5, [.ref (a1 0), .ref (a2 0), .ref (a3 0), .ref (a4 0), .ref (a5 0), .ref p8, .ref s8])), ((a2 0), .inr (0, [.int (s2.1 0), .int (s2.1 1), .int (s2.1 2), .int (s2.1 3), .int (s2.1 4), .int (s2.1 5), .ref (a2 1), .ref (a2 2), .ref (a2 3), .ref (a2 4), .ref (a2 5), .ref (a2 6), .ref (a2 7), .ref (a2 8), .ref (a2 9), .ref (a2 10), .ref (a2 11), .ref (a2 12)])), ((a2 1), .inl (q 0, 4, .inl (s2.2.1 0))), ((a2 2), .inl (q 0, 4, .inl (s2.2.1 1))), ((a2 3), .inl (q 0, 160, .inl (s2.2.1 2))), ((a2 4), .inl (q 0, 40, .inl (s2.2.1 3))), ((a2 5), .inl (q 0, 40, .inl (s2.2.1 4))), ((a2 6), .inl (q 0, 40, .inl (s2.2.1 5))), ((a2 7), .inl (q 0, 40, .inl (s2.2.1 6))), ((a2 8), .inl (q 0, 40, .inl (s2.2.1 7))), ((a2 9), .inl (q 0, 40, .inl (s2.2.1 8))), ((a2 10), .inl (q 0, 40, .inl (s2.2.1 9))), ((a2 11), .inl (q 1, 40, .inr (.inl s2.2.2.1))), ((a2 12), .inl (q 0, s2.2.2.2.1, .inl s2.2.2.2.2)), (p8, .inr (2, [.ref p9, .int (s6.1 0), .int (s6.1 1)])), (p9, .inl (q 4, 10, .inr (.inr (.inr (.inr (pf_f AA s6.2))))))]) [0, 1, 2, 3, 4, 5, 6, 7, 8, 9, 10, 11, 12, 13, 14, 15] rfl
        have hD := hD.part (cx := [((a0 0), .inr (5, [.ref (a1 0), .ref (a2 0), .ref (a3 0), .ref (a4 0), .ref (a5 0), .ref p8, .ref s8])), ((a2 0), .inr (0, [.int (s2.1 0), .int (s2.1 1), .int (s2.1 2), .int (s2.1 3), .int (s2.1 4), .int (s2.1 5), .ref (a2 1), .ref (a2 2), .ref (a2 3), .ref (a2 4), .ref (a2 5), .ref (a2 6), .ref (a2 7), .ref (a2 8), .ref (a2 9), .ref (a2 10), .ref (a2 11), .ref (a2 12)])), ((a2 1), .inl (q 0, 4, .inl (s2.2.1 0))), ((a2 2), .inl (q 0, 4, .inl (s2.2.1 1))), ((a2 3), .inl (q 0, 160, .inl (s2.2.1 2))), ((a2 4), .inl (q 0, 40, .inl (s2.2.1 3))), ((a2 5), .inl (q 0, 40, .inl (s2.2.1 4))), ((a2 6), .inl (q 0, 40, .inl (s2.2.1 5))), ((a2 7), .inl (q 0, 40, .inl (s2.2.1 6))), ((a2 8), .inl (q 0, 40, .inl (s2.2.1 7))), ((a2 9), .inl (q 0, 40, .inl (s2.2.1 8))), ((a2 10), .inl (q 0, 40, .inl (s2.2.1 9))), ((a2 11), .inl (q 1, 40, .inr (.inl s2.2.2.1))), ((a2 12), .inl (q 0, s2.2.2.2.1, .inl s2.2.2.2.2)), (p8, .inr (2, [.ref p9, .int (s6.1 0), .int (s6.1 1)])), (p9, .inl (q 4, 10, .inr (.inr (.inr (.inr (pf_f AA s6.2))))))]) [0, 1, 2, 3, 4, 5, 6, 7, 8, 9, 10, 11, 12, 13, 14, 15] (by decide) rfl
        refine W.widen (k := 15) (n := 13306) (Nat.le_of_ble_eq_true rfl) (Nat.le_of_ble_eq_true rfl) ?_
        exact mt_iret (AA, (a2 12), s2, s6) hx hb hr hk h hP hD hS dX6_exchange_30

def wp_X6_run (post : Int32 → Tp → Bd → Mo → Pg → Pa → Prop) (s1 : Tp) (s2 : Bd) (s4 : Mo) (s5 : Pg) (s6 : Pa) : Prop := wp_X6_whyNotProgram (fun r_1 u_2a u_2b => ((¬ r_1 = 0 → post r_1 ((va_up u_2a.1 0 0), u_2a.2) s2 s4 u_2b s6) ∧ (r_1 = 0 → wp_X3_push (fun s_6 => wp_X6_doProgram (fun r_10 u_11a u_11b u_11c => post r_10 ((va_up u_2a.1 0 0), u_2a.2) u_11a u_11b u_11c s_6) u_2a s2 s4 u_2b) s6 s2))) s1 s2 s5
set_option maxHeartbeats 4000000 in
set_option maxRecDepth 100000 in
theorem c2_X6_run {l : Launch} {D : va_G} {q : Nat → ClassId} {sz : Nat} {a0 a1 a2 a3 a4 a5 : Nat → Nat} {p8 s8 p9 : Nat} {AA : Nat → Nat → Nat} {s1 : Tp} {s2 : Bd} {s4 : Mo} {s5 : Pg} {s6 : Pa} {post : Int32 → Tp → Bd → Mo → Pg → Pa → Prop} (h : wp_X6_run post s1 s2 s4 s5 s6) : Met l yX6_run (Cond.code yX6_run cX6_run 2 (some .int) :: w_all) ({ frames := 9, cells := 14, slots := 6906, locals := 192 } : Room) (mt_P D q [.ref (a0 0)] ((fo_w (a0 0) (a1 0) (a2 0) (a3 0) (a4 0) (a5 0) p8 s8 ++ tp_w a1 q s1 ++ bd_w a2 q s2 ++ mo_w a4 q s4 ++ pg_w a5 q s5 ++ pa_o p8 p9 s6 ++ pa_r p9 q 10 AA s6.2) ++ ps_w q 10 AA s6.2) sz) (va_Qi (fun r (u : (Nat → Nat → Nat) × Tp × Bd × Mo × Pg × Pa) => post r u.2.1 u.2.2.1 u.2.2.2.1 u.2.2.2.2.1 u.2.2.2.2.2) (mt_B D ((fo_w (a0 0) (a1 0) (a2 0) (a3 0) (a4 0) (a5 0) p8 s8 ++ tp_w a1 q s1 ++ bd_w a2 q s2 ++ mo_w a4 q s4 ++ pg_w a5 q s5 ++ pa_o p8 p9 s6 ++ pa_r p9 q 10 AA s6.2) ++ ps_w q 10 AA s6.2) sz (fun u : (Nat → Nat → Nat) × Tp × Bd × Mo × Pg × Pa => ((fo_w (a0 0) (a1 0) (a2 0) (a3 0) (a4 0) (a5 0) p8 s8 ++ tp_w a1 q u.2.1 ++ bd_w a2 q u.2.2.1 ++ mo_w a4 q u.2.2.2.1 ++ pg_w a5 q u.2.2.2.2.1 ++ pa_o p8 p9 u.2.2.2.2.2 ++ pa_r p9 q 10 u.1 u.2.2.2.2.2.2) ++ ps_w q 10 u.1 u.2.2.2.2.2.2))) (va_A ((fo_w (a0 0) (a1 0) (a2 0) (a3 0) (a4 0) (a5 0) p8 s8 ++ tp_w a1 q s1 ++ bd_w a2 q s2 ++ mo_w a4 q s4 ++ pg_w a5 q s5 ++ pa_o p8 p9 s6 ++ pa_r p9 q 10 AA s6.2) ++ ps_w q 10 AA s6.2) sz)) 14 6906 (va_A ((fo_w (a0 0) (a1 0) (a2 0) (a3 0) (a4 0) (a5 0) p8 s8 ++ tp_w a1 q s1 ++ bd_w a2 q s2 ++ mo_w a4 q s4 ++ pg_w a5 q s5 ++ pa_o p8 p9 s6 ++ pa_r p9 q 10 AA s6.2) ++ ps_w q 10 AA s6.2) sz) := by
  refine mt_start (by decide) (Nat.le_of_ble_eq_true rfl) ?_
  intro p e s m below meth c ls hx hb hr hml hown ht hk hin hP hQ hD hA hS hV hl
  have hK := hQ.1
  have hown : s.vm.findClass RX6 = some m.cls := hown
  have hl : lv_has ls 2 [(0, .ref (a0 0))] := hl
  have hP : va_P D vwCl (([((a0 0), .inr (5, [.ref (a1 0), .ref (a2 0), .ref (a3 0), .ref (a4 0), .ref (a5 0), .ref p8, .ref s8])), ((a1 0), .inr (4, [.ref (a1 1), .int (s1.1 0), .int (s1.1 1), .int (s1.1 2), .int (s1.1 3), .int (s1.1 4), .int (s1.1 5)])), ((a1 1), .inl (q 0, 400, .inl s1.2)), ((a2 0), .inr (0, [.int (s2.1 0), .int (s2.1 1), .int (s2.1 2), .int (s2.1 3), .int (s2.1 4), .int (s2.1 5), .ref (a2 1), .ref (a2 2), .ref (a2 3), .ref (a2 4), .ref (a2 5), .ref (a2 6), .ref (a2 7), .ref (a2 8), .ref (a2 9), .ref (a2 10), .ref (a2 11), .ref (a2 12)])), ((a2 1), .inl (q 0, 4, .inl (s2.2.1 0))), ((a2 2), .inl (q 0, 4, .inl (s2.2.1 1))), ((a2 3), .inl (q 0, 160, .inl (s2.2.1 2))), ((a2 4), .inl (q 0, 40, .inl (s2.2.1 3))), ((a2 5), .inl (q 0, 40, .inl (s2.2.1 4))), ((a2 6), .inl (q 0, 40, .inl (s2.2.1 5))), ((a2 7), .inl (q 0, 40, .inl (s2.2.1 6))), ((a2 8), .inl (q 0, 40, .inl (s2.2.1 7))), ((a2 9), .inl (q 0, 40, .inl (s2.2.1 8))), ((a2 10), .inl (q 0, 40, .inl (s2.2.1 9))), ((a2 11), .inl (q 1, 40, .inr (.inl s2.2.2.1))), ((a2 12), .inl (q 0, s2.2.2.2.1, .inl s2.2.2.2.2)), ((a4 0), .inr (1, [.ref (a4 1), .ref (a4 2), .ref (a4 3), .int (s4.1 0), .int (s4.1 1), .int (s4.1 2), .int (s4.1 3), .int (s4.1 4), .int (s4.1 5), .int (s4.1 6), .int (s4.1 7), .int (s4.1 8)])), ((a4 1), .inl (q 0, 40, .inl (s4.2 0))), ((a4 2), .inl (q 0, 40, .inl (s4.2 1))), ((a4 3), .inl (q 0, 40, .inl (s4.2 2))), ((a5 0), .inr (3, [.ref (a5 1), .ref (a5 2), .ref (a5 3), .ref (a5 4), .ref (a5 5), .ref (a5 6), .ref (a5 7), .int (s5.1 0), .int (s5.1 1), .int (s5.1 2)])), ((a5 1), .inl (q 0, 80, .inl (s5.2 0))), ((a5 2), .inl (q 0, 80, .inl (s5.2 1))), ((a5 3), .inl (q 0, 80, .inl (s5.2 2))), ((a5 4), .inl (q 0, 80, .inl (s5.2 3))), ((a5 5), .inl (q 0, 80, .inl (s5.2 4))), ((a5 6), .inl (q 0, 3, .inl (s5.2 5))), ((a5 7), .inl (q 0, 3, .inl (s5.2 6))), (p8, .inr (2, [.ref p9, .int (s6.1 0), .int (s6.1 1)])), (p9, .inl (q 4, 10, .inr (.inr (.inr (.inr (pf_f AA s6.2))))))] : va_W) ++ ps_w q 10 AA s6.2) s.heap := hP
  have hD : va_D _ (([((a0 0), .inr (5, [.ref (a1 0), .ref (a2 0), .ref (a3 0), .ref (a4 0), .ref (a5 0), .ref p8, .ref s8])), ((a1 0), .inr (4, [.ref (a1 1), .int (s1.1 0), .int (s1.1 1), .int (s1.1 2), .int (s1.1 3), .int (s1.1 4), .int (s1.1 5)])), ((a1 1), .inl (q 0, 400, .inl s1.2)), ((a2 0), .inr (0, [.int (s2.1 0), .int (s2.1 1), .int (s2.1 2), .int (s2.1 3), .int (s2.1 4), .int (s2.1 5), .ref (a2 1), .ref (a2 2), .ref (a2 3), .ref (a2 4), .ref (a2 5), .ref (a2 6), .ref (a2 7), .ref (a2 8), .ref (a2 9), .ref (a2 10), .ref (a2 11), .ref (a2 12)])), ((a2 1), .inl (q 0, 4, .inl (s2.2.1 0))), ((a2 2), .inl (q 0, 4, .inl (s2.2.1 1))), ((a2 3), .inl (q 0, 160, .inl (s2.2.1 2))), ((a2 4), .inl (q 0, 40, .inl (s2.2.1 3))), ((a2 5), .inl (q 0, 40, .inl (s2.2.1 4))), ((a2 6), .inl (q 0, 40, .inl (s2.2.1 5))), ((a2 7), .inl (q 0, 40, .inl (s2.2.1 6))), ((a2 8), .inl (q 0, 40, .inl (s2.2.1 7))), ((a2 9), .inl (q 0, 40, .inl (s2.2.1 8))), ((a2 10), .inl (q 0, 40, .inl (s2.2.1 9))), ((a2 11), .inl (q 1, 40, .inr (.inl s2.2.2.1))), ((a2 12), .inl (q 0, s2.2.2.2.1, .inl s2.2.2.2.2)), ((a4 0), .inr (1, [.ref (a4 1), .ref (a4 2), .ref (a4 3), .int (s4.1 0), .int (s4.1 1), .int (s4.1 2), .int (s4.1 3), .int (s4.1 4), .int (s4.1 5), .int (s4.1 6), .int (s4.1 7), .int (s4.1 8)])), ((a4 1), .inl (q 0, 40, .inl (s4.2 0))), ((a4 2), .inl (q 0, 40, .inl (s4.2 1))), ((a4 3), .inl (q 0, 40, .inl (s4.2 2))), ((a5 0), .inr (3, [.ref (a5 1), .ref (a5 2), .ref (a5 3), .ref (a5 4), .ref (a5 5), .ref (a5 6), .ref (a5 7), .int (s5.1 0), .int (s5.1 1), .int (s5.1 2)])), ((a5 1), .inl (q 0, 80, .inl (s5.2 0))), ((a5 2), .inl (q 0, 80, .inl (s5.2 1))), ((a5 3), .inl (q 0, 80, .inl (s5.2 2))), ((a5 4), .inl (q 0, 80, .inl (s5.2 3))), ((a5 5), .inl (q 0, 80, .inl (s5.2 4))), ((a5 6), .inl (q 0, 3, .inl (s5.2 5))), ((a5 7), .inl (q 0, 3, .inl (s5.2 6))), (p8, .inr (2, [.ref p9, .int (s6.1 0), .int (s6.1 1)])), (p9, .inl (q 4, 10, .inr (.inr (.inr (.inr (pf_f AA s6.2))))))] : va_W) ++ ps_w q 10 AA s6.2) := hD
  unfold wp_X6_run at h
  refine lv_aload_n hx hb dX6_run_0 rfl (lv_at hl 0 rfl) ?_
  refine mt_goiQ (X := [((a0 0), .inr (5, [.ref (a1 0), .ref (a2 0), .ref (a3 0), .ref (a4 0), .ref (a5 0), .ref p8, .ref s8])), ((a1 0), .inr (4, [.ref (a1 1), .int (s1.1 0), .int (s1.1 1), .int (s1.1 2), .int (s1.1 3), .int (s1.1 4), .int (s1.1 5)])), ((a1 1), .inl (q 0, 400, .inl s1.2)), ((a2 0), .inr (0, [.int (s2.1 0), .int (s2.1 1), .int (s2.1 2), .int (s2.1 3), .int (s2.1 4), .int (s2.1 5), .ref (a2 1), .ref (a2 2), .ref (a2 3), .ref (a2 4), .ref (a2 5), .ref (a2 6), .ref (a2 7), .ref (a2 8), .ref (a2 9), .ref (a2 10), .ref (a2 11), .ref (a2 12)])), ((a2 1), .inl (q 0, 4, .inl (s2.2.1 0))), ((a2 2), .inl (q 0, 4, .inl (s2.2.1 1))), ((a2 3), .inl (q 0, 160, .inl (s2.2.1 2))), ((a2 4), .inl (q 0, 40, .inl (s2.2.1 3))), ((a2 5), .inl (q 0, 40, .inl (s2.2.1 4))), ((a2 6), .inl (q 0, 40, .inl (s2.2.1 5))), ((a2 7), .inl (q 0, 40, .inl (s2.2.1 6))), ((a2 8), .inl (q 0, 40, .inl (s2.2.1 7))), ((a2 9), .inl (q 0, 40, .inl (s2.2.1 8))), ((a2 10), .inl (q 0, 40, .inl (s2.2.1 9))), ((a2 11), .inl (q 1, 40, .inr (.inl s2.2.2.1))), ((a2 12), .inl (q 0, s2.2.2.2.1, .inl s2.2.2.2.2)), ((a4 0), .inr (1, [.ref (a4 1), .ref (a4 2), .ref (a4 3), .int (s4.1 0), .int (s4.1 1), .int (s4.1 2), .int (s4.1 3), .int (s4.1 4), .int (s4.1 5), .int (s4.1 6), .int (s4.1 7), .int (s4.1 8)])), ((a4 1), .inl (q 0, 40, .inl (s4.2 0))), ((a4 2), .inl (q 0, 40, .inl (s4.2 1))), ((a4 3), .inl (q 0, 40, .inl (s4.2 2))), ((a5 0), .inr (3, [.ref (a5 1), .ref (a5 2), .ref (a5 3), .ref (a5 4), .ref (a5 5), .ref (a5 6), .ref (a5 7), .int (s5.1 0), .int (s5.1 1), .int (s5.1 2)])), ((a5 1), .inl (q 0, 80, .inl (s5.2 0))), ((a5 2), .inl (q 0, 80, .inl (s5.2 1))), ((a5 3), .inl (q 0, 80, .inl (s5.2 2))), ((a5 4), .inl (q 0, 80, .inl (s5.2 3))), ((a5 5), .inl (q 0, 80, .inl (s5.2 4))), ((a5 6), .inl (q 0, 3, .inl (s5.2 5))), ((a5 7), .inl (q 0, 3, .inl (s5.2 6))), (p8, .inr (2, [.ref p9, .int (s6.1 0), .int (s6.1 1)])), (p9, .inl (q 4, 10, .inr (.inr (.inr (.inr (pf_f AA s6.2))))))]) (pl := ps_w q 10 AA s6.2) (mt_wV (wc := fo_w (a0 0) (a1 0) (a2 0) (a3 0) (a4 0) (a5 0) p8 s8 ++ tp_w a1 q s1 ++ bd_w a2 q s2 ++ pg_w a5 q s5) (As := []) (rest := []) hx hb hml hown ht (c2_X6_whyNotProgram h) wd_X6_whyNotProgram mw_785 hQ hV hS hA (hP.sub [0, 1, 2, 3, 4, 5, 6, 7, 8, 9, 10, 11, 12, 13, 14, 15, 20, 21, 22, 23, 24, 25, 26, 27] rfl) (hD.sub [0, 1, 2, 3, 4, 5, 6, 7, 8, 9, 10, 11, 12, 13, 14, 15, 20, 21, 22, 23, 24, 25, 26, 27] (by decide) rfl) rfl rfl rfl hl.1 rfl (Nat.le_of_ble_eq_true rfl) dX6_run_1 ⟨Nat.le_of_ble_eq_true rfl, Nat.le_of_ble_eq_true rfl, rfl, rfl⟩ ⟨Nat.le_of_ble_eq_true rfl, Nat.le_of_ble_eq_true rfl⟩) (wr := [((a4 0), .inr (1, [.ref (a4 1), .ref (a4 2), .ref (a4 3), .int (s4.1 0), .int (s4.1 1), .int (s4.1 2), .int (s4.1 3), .int (s4.1 4), .int (s4.1 5), .int (s4.1 6), .int (s4.1 7), .int (s4.1 8)])), ((a4 1), .inl (q 0, 40, .inl (s4.2 0))), ((a4 2), .inl (q 0, 40, .inl (s4.2 1))), ((a4 3), .inl (q 0, 40, .inl (s4.2 2))), (p8, .inr (2, [.ref p9, .int (s6.1 0), .int (s6.1 1)])), (p9, .inl (q 4, 10, .inr (.inr (.inr (.inr (pf_f AA s6.2))))))]) hP hD hS hA [0, 1, 2, 3, 4, 5, 6, 7, 8, 9, 10, 11, 12, 13, 14, 15, 20, 21, 22, 23, 24, 25, 26, 27] [16, 17, 18, 19, 28, 29] rfl rfl (by decide) (by decide) (fun r_1 u_2 H locs h hP hD hS => ?_)
  obtain ⟨u_2a, u_2b⟩ := u_2
  try dsimp only at h
  have hP : va_P D vwCl (([((a4 0), .inr (1, [.ref (a4 1), .ref (a4 2), .ref (a4 3), .int (s4.1 0), .int (s4.1 1), .int (s4.1 2), .int (s4.1 3), .int (s4.1 4), .int (s4.1 5), .int (s4.1 6), .int (s4.1 7), .int (s4.1 8)])), ((a4 1), .inl (q 0, 40, .inl (s4.2 0))), ((a4 2), .inl (q 0, 40, .inl (s4.2 1))), ((a4 3), .inl (q 0, 40, .inl (s4.2 2))), (p8, .inr (2, [.ref p9, .int (s6.1 0), .int (s6.1 1)])), (p9, .inl (q 4, 10, .inr (.inr (.inr (.inr (pf_f AA s6.2)))))), ((a0 0), .inr (5, [.ref (a1 0), .ref (a2 0), .ref (a3 0), .ref (a4 0), .ref (a5 0), .ref p8, .ref s8])), ((a1 0), .inr (4, [.ref (a1 1), .int (u_2a.1 0), .int (u_2a.1 1), .int (u_2a.1 2), .int (u_2a.1 3), .int (u_2a.1 4), .int (u_2a.1 5)])), ((a1 1), .inl (q 0, 400, .inl u_2a.2)), ((a2 0), .inr (0, [.int (s2.1 0), .int (s2.1 1), .int (s2.1 2), .int (s2.1 3), .int (s2.1 4), .int (s2.1 5), .ref (a2 1), .ref (a2 2), .ref (a2 3), .ref (a2 4), .ref (a2 5), .ref (a2 6), .ref (a2 7), .ref (a2 8), .ref (a2 9), .ref (a2 10), .ref (a2 11), .ref (a2 12)])), ((a2 1), .inl (q 0, 4, .inl (s2.2.1 0))), ((a2 2), .inl (q 0, 4, .inl (s2.2.1 1))), ((a2 3), .inl (q 0, 160, .inl (s2.2.1 2))), ((a2 4), .inl (q 0, 40, .inl (s2.2.1 3))), ((a2 5), .inl (q 0, 40, .inl (s2.2.1 4))), ((a2 6), .inl (q 0, 40, .inl (s2.2.1 5))), ((a2 7), .inl (q 0, 40, .inl (s2.2.1 6))), ((a2 8), .inl (q 0, 40, .inl (s2.2.1 7))), ((a2 9), .inl (q 0, 40, .inl (s2.2.1 8))), ((a2 10), .inl (q 0, 40, .inl (s2.2.1 9))), ((a2 11), .inl (q 1, 40, .inr (.inl s2.2.2.1))), ((a2 12), .inl (q 0, s2.2.2.2.1, .inl s2.2.2.2.2)), ((a5 0), .inr (3, [.ref (a5 1), .ref (a5 2), .ref (a5 3), .ref (a5 4), .ref (a5 5), .ref (a5 6), .ref (a5 7), .int (u_2b.1 0), .int (u_2b.1 1), .int (u_2b.1 2)])), ((a5 1), .inl (q 0, 80, .inl (u_2b.2 0))), ((a5 2), .inl (q 0, 80, .inl (u_2b.2 1))), ((a5 3), .inl (q 0, 80, .inl (u_2b.2 2))), ((a5 4), .inl (q 0, 80, .inl (u_2b.2 3))), ((a5 5), .inl (q 0, 80, .inl (u_2b.2 4))), ((a5 6), .inl (q 0, 3, .inl (u_2b.2 5))), ((a5 7), .inl (q 0, 3, .inl (u_2b.2 6)))] : va_W) ++ ps_w q 10 AA s6.2) H := hP
  have hD : va_D _ (([((a4 0), .inr (1, [.ref (a4 1), .ref (a4 2), .ref (a4 3), .int (s4.1 0), .int (s4.1 1), .int (s4.1 2), .int (s4.1 3), .int (s4.1 4), .int (s4.1 5), .int (s4.1 6), .int (s4.1 7), .int (s4.1 8)])), ((a4 1), .inl (q 0, 40, .inl (s4.2 0))), ((a4 2), .inl (q 0, 40, .inl (s4.2 1))), ((a4 3), .inl (q 0, 40, .inl (s4.2 2))), (p8, .inr (2, [.ref p9, .int (s6.1 0), .int (s6.1 1)])), (p9, .inl (q 4, 10, .inr (.inr (.inr (.inr (pf_f AA s6.2)))))), ((a0 0), .inr (5, [.ref (a1 0), .ref (a2 0), .ref (a3 0), .ref (a4 0), .ref (a5 0), .ref p8, .ref s8])), ((a1 0), .inr (4, [.ref (a1 1), .int (u_2a.1 0), .int (u_2a.1 1), .int (u_2a.1 2), .int (u_2a.1 3), .int (u_2a.1 4), .int (u_2a.1 5)])), ((a1 1), .inl (q 0, 400, .inl u_2a.2)), ((a2 0), .inr (0, [.int (s2.1 0), .int (s2.1 1), .int (s2.1 2), .int (s2.1 3), .int (s2.1 4), .int (s2.1 5), .ref (a2 1), .ref (a2 2), .ref (a2 3), .ref (a2 4), .ref (a2 5), .ref (a2 6), .ref (a2 7), .ref (a2 8), .ref (a2 9), .ref (a2 10), .ref (a2 11), .ref (a2 12)])), ((a2 1), .inl (q 0, 4, .inl (s2.2.1 0))), ((a2 2), .inl (q 0, 4, .inl (s2.2.1 1))), ((a2 3), .inl (q 0, 160, .inl (s2.2.1 2))), ((a2 4), .inl (q 0, 40, .inl (s2.2.1 3))), ((a2 5), .inl (q 0, 40, .inl (s2.2.1 4))), ((a2 6), .inl (q 0, 40, .inl (s2.2.1 5))), ((a2 7), .inl (q 0, 40, .inl (s2.2.1 6))), ((a2 8), .inl (q 0, 40, .inl (s2.2.1 7))), ((a2 9), .inl (q 0, 40, .inl (s2.2.1 8))), ((a2 10), .inl (q 0, 40, .inl (s2.2.1 9))), ((a2 11), .inl (q 1, 40, .inr (.inl s2.2.2.1))), ((a2 12), .inl (q 0, s2.2.2.2.1, .inl s2.2.2.2.2)), ((a5 0), .inr (3, [.ref (a5 1), .ref (a5 2), .ref (a5 3), .ref (a5 4), .ref (a5 5), .ref (a5 6), .ref (a5 7), .int (u_2b.1 0), .int (u_2b.1 1), .int (u_2b.1 2)])), ((a5 1), .inl (q 0, 80, .inl (u_2b.2 0))), ((a5 2), .inl (q 0, 80, .inl (u_2b.2 1))), ((a5 3), .inl (q 0, 80, .inl (u_2b.2 2))), ((a5 4), .inl (q 0, 80, .inl (u_2b.2 3))), ((a5 5), .inl (q 0, 80, .inl (u_2b.2 4))), ((a5 6), .inl (q 0, 3, .inl (u_2b.2 5))), ((a5 7), .inl (q 0, 3, .inl (u_2b.2 6)))] : va_W) ++ ps_w q 10 AA s6.2) := hD
  refine lv_istore_n (lv' := [(1, .int r_1), (0, .ref (a0 0))]) hx hb dX6_run_4 rfl hl (by decide) rfl (fun ls hl => ?_)
  refine lv_iload_n hx hb dX6_run_5 rfl (lv_at hl 0 rfl) ?_
  refine lv_if_ne (tgt := 25) hx hb dX6_run_6 (by decide) (fun c_3 => ?_) (fun c_3 => ?_)
  · replace h := h.1 c_3
    refine lv_aload_n hx hb dX6_run_25 rfl (lv_at hl 1 rfl) ?_
    refine fl_get (C := RX6) (T := TX6) (N := 7) (ci := 5) (v := .ref (a1 0)) hx hb ht in_X6 hown hK hP 6 rfl rfl 0 (by decide) mw_355 rfl dX6_run_26 ?_
    refine lv_iconst (v := 0) hx hb dX6_run_29 (by decide) ?_
    refine fl_put (C := RX5) (T := TX5) (N := 7) (ci := 4) (v := .int 0) (ws2 := [((a4 0), .inr (1, [.ref (a4 1), .ref (a4 2), .ref (a4 3), .int (s4.1 0), .int (s4.1 1), .int (s4.1 2), .int (s4.1 3), .int (s4.1 4), .int (s4.1 5), .int (s4.1 6), .int (s4.1 7), .int (s4.1 8)])), ((a4 1), .inl (q 0, 40, .inl (s4.2 0))), ((a4 2), .inl (q 0, 40, .inl (s4.2 1))), ((a4 3), .inl (q 0, 40, .inl (s4.2 2))), (p8, .inr (2, [.ref p9, .int (s6.1 0), .int (s6.1 1)])), (p9, .inl (q 4, 10, .inr (.inr (.inr (.inr (pf_f AA s6.2)))))), ((a0 0), .inr (5, [.ref (a1 0), .ref (a2 0), .ref (a3 0), .ref (a4 0), .ref (a5 0), .ref p8, .ref s8])), ((a1 0), .inr (4, [.ref (a1 1), .int 0, .int (u_2a.1 1), .int (u_2a.1 2), .int (u_2a.1 3), .int (u_2a.1 4), .int (u_2a.1 5)])), ((a1 1), .inl (q 0, 400, .inl u_2a.2)), ((a2 0), .inr (0, [.int (s2.1 0), .int (s2.1 1), .int (s2.1 2), .int (s2.1 3), .int (s2.1 4), .int (s2.1 5), .ref (a2 1), .ref (a2 2), .ref (a2 3), .ref (a2 4), .ref (a2 5), .ref (a2 6), .ref (a2 7), .ref (a2 8), .ref (a2 9), .ref (a2 10), .ref (a2 11), .ref (a2 12)])), ((a2 1), .inl (q 0, 4, .inl (s2.2.1 0))), ((a2 2), .inl (q 0, 4, .inl (s2.2.1 1))), ((a2 3), .inl (q 0, 160, .inl (s2.2.1 2))), ((a2 4), .inl (q 0, 40, .inl (s2.2.1 3))), ((a2 5), .inl (q 0, 40, .inl (s2.2.1 4))), ((a2 6), .inl (q 0, 40, .inl (s2.2.1 5))), ((a2 7), .inl (q 0, 40, .inl (s2.2.1 6))), ((a2 8), .inl (q 0, 40, .inl (s2.2.1 7))), ((a2 9), .inl (q 0, 40, .inl (s2.2.1 8))), ((a2 10), .inl (q 0, 40, .inl (s2.2.1 9))), ((a2 11), .inl (q 1, 40, .inr (.inl s2.2.2.1))), ((a2 12), .inl (q 0, s2.2.2.2.1, .inl s2.2.2.2.2)), ((a5 0), .inr (3, [.ref (a5 1), .ref (a5 2), .ref (a5 3), .ref (a5 4), .ref (a5 5), .ref (a5 6), .ref (a5 7), .int (u_2b.1 0), .int (u_2b.1 1), .int (u_2b.1 2)])), ((a5 1), .inl (q 0, 80, .inl (u_2b.2 0))), ((a5 2), .inl (q 0, 80, .inl (u_2b.2 1))), ((a5 3), .inl (q 0, 80, .inl (u_2b.2 2))), ((a5 4), .inl (q 0, 80, .inl (u_2b.2 3))), ((a5 5), .inl (q 0, 80, .inl (u_2b.2 4))), ((a5 6), .inl (q 0, 3, .inl (u_2b.2 5))), ((a5 7), .inl (q 0, 3, .inl (u_2b.2 6)))] ++ ps_w q 10 AA s6.2) hx hb ht in_X5 tyX5_ok nmX5 hown hK hP hD hS 7 rfl rfl 1 (by decide) mw_129 rfl rfl rfl (Nat.le_of_ble_eq_true rfl) dX6_run_30 rfl (fun H locs hP hD hS => ?_)
    refine lv_iload_n hx hb dX6_run_33 rfl (lv_at hl 0 rfl) ?_
    have hP := hP.part (cx := [((a0 0), .inr (5, [.ref (a1 0), .ref (a2 0), .ref (a3 0), .ref (a4 0), .ref (a5 0), .ref p8, .ref s8])), ((a1 0), .inr (4, [.ref (a1 1), .int 0, .int (u_2a.1 1), .int (u_2a.1 2), .int (u_2a.1 3), .int (u_2a.1 4), .int (u_2a.1 5)])), ((a1 1), .inl (q 0, 400, .inl u_2a.2)), ((a2 0), .inr (0, [.int (s2.1 0), .int (s2.1 1), .int (s2.1 2), .int (s2.1 3), .int (s2.1 4), .int (s2.1 5), .ref (a2 1), .ref (a2 2), .ref (a2 3), .ref (a2 4), .ref (a2 5), .ref (a2 6), .ref (a2 7), .ref (a2 8), .ref (a2 9), .ref (a2 10), .ref (a2 11), .ref (a2 12)])), ((a2 1), .inl (q 0, 4, .inl (s2.2.1 0))), ((a2 2), .inl (q 0, 4, .inl (s2.2.1 1))), ((a2 3), .inl (q 0, 160, .inl (s2.2.1 2))), ((a2 4), .inl (q 0, 40, .inl (s2.2.1 3))), ((a2 5), .inl (q 0, 40, .inl (s2.2.1 4))), ((a2 6), .inl (q 0, 40, .inl (s2.2.1 5))), ((a2 7), .inl (q 0, 40, .inl (s2.2.1 6))), ((a2 8), .inl (q 0, 40, .inl (s2.2.1 7))), ((a2 9), .inl (q 0, 40, .inl (s2.2.1 8))), ((a2 10), .inl (q 0, 40, .inl (s2.2.1 9))), ((a2 11), .inl (q 1, 40, .inr (.inl s2.2.2.1))), ((a2 12), .inl (q 0, s2.2.2.2.1, .inl s2.2.2.2.2)), ((a4 0), .inr (1, [.ref (a4 1), .ref (a4 2), .ref (a4 3), .int (s4.1 0), .int (s4.1 1), .int (s4.1 2), .int (s4.1 3), .int (s4.1 4), .int (s4.1 5), .int (s4.1 6), .int (s4.1 7), .int (s4.1 8)])), ((a4 1), .inl (q 0, 40, .inl (s4.2 0))), ((a4 2), .inl (q 0, 40, .inl (s4.2 1))), ((a4 3), .inl (q 0, 40, .inl (s4.2 2))), ((a5 0), .inr (3, [.ref (a5 1), .ref (a5 2), .ref (a5 3), .ref (a5 4), .ref (a5 5), .ref (a5 6), .ref (a5 7), .int (u_2b.1 0), .int (u_2b.1 1), .int (u_2b.1 2)])), ((a5 1), .inl (q 0, 80, .inl (u_2b.2 0))), ((a5 2), .inl (q 0, 80, .inl (u_2b.2 1))), ((a5 3), .inl (q 0, 80, .inl (u_2b.2 2))), ((a5 4), .inl (q 0, 80, .inl (u_2b.2 3))), ((a5 5), .inl (q 0, 80, .inl (u_2b.2 4))), ((a5 6), .inl (q 0, 3, .inl (u_2b.2 5))), ((a5 7), .inl (q 0, 3, .inl (u_2b.2 6))), (p8, .inr (2, [.ref p9, .int (s6.1 0), .int (s6.1 1)])), (p9, .inl (q 4, 10, .inr (.inr (.inr (.inr (pf_f AA s6.2))))))]) [6, 7, 8, 9, 10, 11, 12, 13, 14, 15, 16, 17, 18, 19, 20, 21, 0, 1, 2, 3, 22, 23, 24, 25, 26, 27, 28, 29, 4, 5] rfl
    have hD := hD.part (cx := [((a0 0), .inr (5, [.ref (a1 0), .ref (a2 0), .ref (a3 0), .ref (a4 0), .ref (a5 0), .ref p8, .ref s8])), ((a1 0), .inr (4, [.ref (a1 1), .int 0, .int (u_2a.1 1), .int (u_2a.1 2), .int (u_2a.1 3), .int (u_2a.1 4), .int (u_2a.1 5)])), ((a1 1), .inl (q 0, 400, .inl u_2a.2)), ((a2 0), .inr (0, [.int (s2.1 0), .int (s2.1 1), .int (s2.1 2), .int (s2.1 3), .int (s2.1 4), .int (s2.1 5), .ref (a2 1), .ref (a2 2), .ref (a2 3), .ref (a2 4), .ref (a2 5), .ref (a2 6), .ref (a2 7), .ref (a2 8), .ref (a2 9), .ref (a2 10), .ref (a2 11), .ref (a2 12)])), ((a2 1), .inl (q 0, 4, .inl (s2.2.1 0))), ((a2 2), .inl (q 0, 4, .inl (s2.2.1 1))), ((a2 3), .inl (q 0, 160, .inl (s2.2.1 2))), ((a2 4), .inl (q 0, 40, .inl (s2.2.1 3))), ((a2 5), .inl (q 0, 40, .inl (s2.2.1 4))), ((a2 6), .inl (q 0, 40, .inl (s2.2.1 5))), ((a2 7), .inl (q 0, 40, .inl (s2.2.1 6))), ((a2 8), .inl (q 0, 40, .inl (s2.2.1 7))), ((a2 9), .inl (q 0, 40, .inl (s2.2.1 8))), ((a2 10), .inl (q 0, 40, .inl (s2.2.1 9))), ((a2 11), .inl (q 1, 40, .inr (.inl s2.2.2.1))), ((a2 12), .inl (q 0, s2.2.2.2.1, .inl s2.2.2.2.2)), ((a4 0), .inr (1, [.ref (a4 1), .ref (a4 2), .ref (a4 3), .int (s4.1 0), .int (s4.1 1), .int (s4.1 2), .int (s4.1 3), .int (s4.1 4), .int (s4.1 5), .int (s4.1 6), .int (s4.1 7), .int (s4.1 8)])), ((a4 1), .inl (q 0, 40, .inl (s4.2 0))), ((a4 2), .inl (q 0, 40, .inl (s4.2 1))), ((a4 3), .inl (q 0, 40, .inl (s4.2 2))), ((a5 0), .inr (3, [.ref (a5 1), .ref (a5 2), .ref (a5 3), .ref (a5 4), .ref (a5 5), .ref (a5 6), .ref (a5 7), .int (u_2b.1 0), .int (u_2b.1 1), .int (u_2b.1 2)])), ((a5 1), .inl (q 0, 80, .inl (u_2b.2 0))), ((a5 2), .inl (q 0, 80, .inl (u_2b.2 1))), ((a5 3), .inl (q 0, 80, .inl (u_2b.2 2))), ((a5 4), .inl (q 0, 80, .inl (u_2b.2 3))), ((a5 5), .inl (q 0, 80, .inl (u_2b.2 4))), ((a5 6), .inl (q 0, 3, .inl (u_2b.2 5))), ((a5 7), .inl (q 0, 3, .inl (u_2b.2 6))), (p8, .inr (2, [.ref p9, .int (s6.1 0), .int (s6.1 1)])), (p9, .inl (q 4, 10, .inr (.inr (.inr (.inr (pf_f AA s6.2))))))]) [6, 7, 8, 9, 10, 11, 12, 13, 14, 15, 16, 17, 18, 19, 20, 21, 0, 1, 2, 3, 22, 23, 24, 25, 26, 27, 28, 29, 4, 5] (by decide) rfl
    refine W.widen (k := 14) (n := 6906) (Nat.le_of_ble_eq_true rfl) (Nat.le_of_ble_eq_true rfl) ?_
    exact mt_iret (AA, ((va_up u_2a.1 0 0), u_2a.2), s2, s4, u_2b, s6) hx hb hr hk h hP hD hS dX6_run_34
  · replace h := h.2 c_3
    refine lv_aload_n hx hb dX6_run_9 rfl (lv_at hl 1 rfl) ?_
    refine fl_get (C := RX6) (T := TX6) (N := 7) (ci := 5) (v := .ref p8) hx hb ht in_X6 hown hK hP 6 rfl rfl 5 (by decide) mw_360 rfl dX6_run_10 ?_
    refine lv_aload_n hx hb dX6_run_13 rfl (lv_at hl 1 rfl) ?_
    refine fl_get (C := RX6) (T := TX6) (N := 7) (ci := 5) (v := .ref (a2 0)) hx hb ht in_X6 hown hK hP 6 rfl rfl 1 (by decide) mw_356 rfl dX6_run_14 ?_
    refine mt_govP (X := [((a4 0), .inr (1, [.ref (a4 1), .ref (a4 2), .ref (a4 3), .int (s4.1 0), .int (s4.1 1), .int (s4.1 2), .int (s4.1 3), .int (s4.1 4), .int (s4.1 5), .int (s4.1 6), .int (s4.1 7), .int (s4.1 8)])), ((a4 1), .inl (q 0, 40, .inl (s4.2 0))), ((a4 2), .inl (q 0, 40, .inl (s4.2 1))), ((a4 3), .inl (q 0, 40, .inl (s4.2 2))), (p8, .inr (2, [.ref p9, .int (s6.1 0), .int (s6.1 1)])), (p9, .inl (q 4, 10, .inr (.inr (.inr (.inr (pf_f AA s6.2)))))), ((a0 0), .inr (5, [.ref (a1 0), .ref (a2 0), .ref (a3 0), .ref (a4 0), .ref (a5 0), .ref p8, .ref s8])), ((a1 0), .inr (4, [.ref (a1 1), .int (u_2a.1 0), .int (u_2a.1 1), .int (u_2a.1 2), .int (u_2a.1 3), .int (u_2a.1 4), .int (u_2a.1 5)])), ((a1 1), .inl (q 0, 400, .inl u_2a.2)), ((a2 0), .inr (0, [.int (s2.1 0), .int (s2.1 1), .int (s2.1 2), .int (s2.1 3), .int (s2.1 4), .int (s2.1 5), .ref (a2 1), .ref (a2 2), .ref (a2 3), .ref (a2 4), .ref (a2 5), .ref (a2 6), .ref (a2 7), .ref (a2 8), .ref (a2 9), .ref (a2 10), .ref (a2 11), .ref (a2 12)])), ((a2 1), .inl (q 0, 4, .inl (s2.2.1 0))), ((a2 2), .inl (q 0, 4, .inl (s2.2.1 1))), ((a2 3), .inl (q 0, 160, .inl (s2.2.1 2))), ((a2 4), .inl (q 0, 40, .inl (s2.2.1 3))), ((a2 5), .inl (q 0, 40, .inl (s2.2.1 4))), ((a2 6), .inl (q 0, 40, .inl (s2.2.1 5))), ((a2 7), .inl (q 0, 40, .inl (s2.2.1 6))), ((a2 8), .inl (q 0, 40, .inl (s2.2.1 7))), ((a2 9), .inl (q 0, 40, .inl (s2.2.1 8))), ((a2 10), .inl (q 0, 40, .inl (s2.2.1 9))), ((a2 11), .inl (q 1, 40, .inr (.inl s2.2.2.1))), ((a2 12), .inl (q 0, s2.2.2.2.1, .inl s2.2.2.2.2)), ((a5 0), .inr (3, [.ref (a5 1), .ref (a5 2), .ref (a5 3), .ref (a5 4), .ref (a5 5), .ref (a5 6), .ref (a5 7), .int (u_2b.1 0), .int (u_2b.1 1), .int (u_2b.1 2)])), ((a5 1), .inl (q 0, 80, .inl (u_2b.2 0))), ((a5 2), .inl (q 0, 80, .inl (u_2b.2 1))), ((a5 3), .inl (q 0, 80, .inl (u_2b.2 2))), ((a5 4), .inl (q 0, 80, .inl (u_2b.2 3))), ((a5 5), .inl (q 0, 80, .inl (u_2b.2 4))), ((a5 6), .inl (q 0, 3, .inl (u_2b.2 5))), ((a5 7), .inl (q 0, 3, .inl (u_2b.2 6)))]) (pl := ps_w q 10 AA s6.2) (mt_wV (wc := (pa_o p8 p9 s6 ++ pa_r p9 q 10 AA s6.2 ++ bd_w a2 q s2) ++ ps_w q 10 AA s6.2) (As := [.ref (a2 0)]) (rest := []) hx hb hml hown ht (c2_X3_push (a0 := va_up (fun _ => p9) 0 p8) h) wd_X3_push mw_631 hQ hV hS hA (hP.part (cx := (pa_o p8 p9 s6 ++ pa_r p9 q 10 AA s6.2 ++ bd_w a2 q s2)) [4, 5, 9, 10, 11, 12, 13, 14, 15, 16, 17, 18, 19, 20, 21] rfl) (hD.part (cx := (pa_o p8 p9 s6 ++ pa_r p9 q 10 AA s6.2 ++ bd_w a2 q s2)) [4, 5, 9, 10, 11, 12, 13, 14, 15, 16, 17, 18, 19, 20, 21] (by decide) rfl) rfl rfl rfl hl.1 rfl (Nat.le_of_ble_eq_true rfl) dX6_run_17 ⟨Nat.le_of_ble_eq_true rfl, Nat.le_of_ble_eq_true rfl, rfl, rfl⟩ ⟨Nat.le_of_ble_eq_true rfl, Nat.le_of_ble_eq_true rfl⟩) (wr := [((a4 0), .inr (1, [.ref (a4 1), .ref (a4 2), .ref (a4 3), .int (s4.1 0), .int (s4.1 1), .int (s4.1 2), .int (s4.1 3), .int (s4.1 4), .int (s4.1 5), .int (s4.1 6), .int (s4.1 7), .int (s4.1 8)])), ((a4 1), .inl (q 0, 40, .inl (s4.2 0))), ((a4 2), .inl (q 0, 40, .inl (s4.2 1))), ((a4 3), .inl (q 0, 40, .inl (s4.2 2))), ((a0 0), .inr (5, [.ref (a1 0), .ref (a2 0), .ref (a3 0), .ref (a4 0), .ref (a5 0), .ref p8, .ref s8])), ((a1 0), .inr (4, [.ref (a1 1), .int (u_2a.1 0), .int (u_2a.1 1), .int (u_2a.1 2), .int (u_2a.1 3), .int (u_2a.1 4), .int (u_2a.1 5)])), ((a1 1), .inl (q 0, 400, .inl u_2a.2)), ((a5 0), .inr (3, [.ref (a5 1), .ref (a5 2), .ref (a5 3), .ref (a5 4), .ref (a5 5), .ref (a5 6), .ref (a5 7), .int (u_2b.1 0), .int (u_2b.1 1), .int (u_2b.1 2)])), ((a5 1), .inl (q 0, 80, .inl (u_2b.2 0))), ((a5 2), .inl (q 0, 80, .inl (u_2b.2 1))), ((a5 3), .inl (q 0, 80, .inl (u_2b.2 2))), ((a5 4), .inl (q 0, 80, .inl (u_2b.2 3))), ((a5 5), .inl (q 0, 80, .inl (u_2b.2 4))), ((a5 6), .inl (q 0, 3, .inl (u_2b.2 5))), ((a5 7), .inl (q 0, 3, .inl (u_2b.2 6)))]) hP hD hS hA [4, 5, 9, 10, 11, 12, 13, 14, 15, 16, 17, 18, 19, 20, 21] [0, 1, 2, 3, 6, 7, 8, 22, 23, 24, 25, 26, 27, 28, 29] rfl rfl (by decide) (by decide) (fun u_4 H locs h hP hD hS => ?_)
    obtain ⟨A_7, s_6⟩ := u_4
    try dsimp only at h
    have hP : va_P D vwCl (([((a4 0), .inr (1, [.ref (a4 1), .ref (a4 2), .ref (a4 3), .int (s4.1 0), .int (s4.1 1), .int (s4.1 2), .int (s4.1 3), .int (s4.1 4), .int (s4.1 5), .int (s4.1 6), .int (s4.1 7), .int (s4.1 8)])), ((a4 1), .inl (q 0, 40, .inl (s4.2 0))), ((a4 2), .inl (q 0, 40, .inl (s4.2 1))), ((a4 3), .inl (q 0, 40, .inl (s4.2 2))), ((a0 0), .inr (5, [.ref (a1 0), .ref (a2 0), .ref (a3 0), .ref (a4 0), .ref (a5 0), .ref p8, .ref s8])), ((a1 0), .inr (4, [.ref (a1 1), .int (u_2a.1 0), .int (u_2a.1 1), .int (u_2a.1 2), .int (u_2a.1 3), .int (u_2a.1 4), .int (u_2a.1 5)])), ((a1 1), .inl (q 0, 400, .inl u_2a.2)), ((a5 0), .inr (3, [.ref (a5 1), .ref (a5 2), .ref (a5 3), .ref (a5 4), .ref (a5 5), .ref (a5 6), .ref (a5 7), .int (u_2b.1 0), .int (u_2b.1 1), .int (u_2b.1 2)])), ((a5 1), .inl (q 0, 80, .inl (u_2b.2 0))), ((a5 2), .inl (q 0, 80, .inl (u_2b.2 1))), ((a5 3), .inl (q 0, 80, .inl (u_2b.2 2))), ((a5 4), .inl (q 0, 80, .inl (u_2b.2 3))), ((a5 5), .inl (q 0, 80, .inl (u_2b.2 4))), ((a5 6), .inl (q 0, 3, .inl (u_2b.2 5))), ((a5 7), .inl (q 0, 3, .inl (u_2b.2 6))), (p8, .inr (2, [.ref p9, .int (s_6.1 0), .int (s_6.1 1)])), (p9, .inl (q 4, 10, .inr (.inr (.inr (.inr (pf_f A_7 s_6.2)))))), ((a2 0), .inr (0, [.int (s2.1 0), .int (s2.1 1), .int (s2.1 2), .int (s2.1 3), .int (s2.1 4), .int (s2.1 5), .ref (a2 1), .ref (a2 2), .ref (a2 3), .ref (a2 4), .ref (a2 5), .ref (a2 6), .ref (a2 7), .ref (a2 8), .ref (a2 9), .ref (a2 10), .ref (a2 11), .ref (a2 12)])), ((a2 1), .inl (q 0, 4, .inl (s2.2.1 0))), ((a2 2), .inl (q 0, 4, .inl (s2.2.1 1))), ((a2 3), .inl (q 0, 160, .inl (s2.2.1 2))), ((a2 4), .inl (q 0, 40, .inl (s2.2.1 3))), ((a2 5), .inl (q 0, 40, .inl (s2.2.1 4))), ((a2 6), .inl (q 0, 40, .inl (s2.2.1 5))), ((a2 7), .inl (q 0, 40, .inl (s2.2.1 6))), ((a2 8), .inl (q 0, 40, .inl (s2.2.1 7))), ((a2 9), .inl (q 0, 40, .inl (s2.2.1 8))), ((a2 10), .inl (q 0, 40, .inl (s2.2.1 9))), ((a2 11), .inl (q 1, 40, .inr (.inl s2.2.2.1))), ((a2 12), .inl (q 0, s2.2.2.2.1, .inl s2.2.2.2.2))] : va_W) ++ ps_w q 10 A_7 s_6.2) H := hP
    have hD : va_D _ (([((a4 0), .inr (1, [.ref (a4 1), .ref (a4 2), .ref (a4 3), .int (s4.1 0), .int (s4.1 1), .int (s4.1 2), .int (s4.1 3), .int (s4.1 4), .int (s4.1 5), .int (s4.1 6), .int (s4.1 7), .int (s4.1 8)])), ((a4 1), .inl (q 0, 40, .inl (s4.2 0))), ((a4 2), .inl (q 0, 40, .inl (s4.2 1))), ((a4 3), .inl (q 0, 40, .inl (s4.2 2))), ((a0 0), .inr (5, [.ref (a1 0), .ref (a2 0), .ref (a3 0), .ref (a4 0), .ref (a5 0), .ref p8, .ref s8])), ((a1 0), .inr (4, [.ref (a1 1), .int (u_2a.1 0), .int (u_2a.1 1), .int (u_2a.1 2), .int (u_2a.1 3), .int (u_2a.1 4), .int (u_2a.1 5)])), ((a1 1), .inl (q 0, 400, .inl u_2a.2)), ((a5 0), .inr (3, [.ref (a5 1), .ref (a5 2), .ref (a5 3), .ref (a5 4), .ref (a5 5), .ref (a5 6), .ref (a5 7), .int (u_2b.1 0), .int (u_2b.1 1), .int (u_2b.1 2)])), ((a5 1), .inl (q 0, 80, .inl (u_2b.2 0))), ((a5 2), .inl (q 0, 80, .inl (u_2b.2 1))), ((a5 3), .inl (q 0, 80, .inl (u_2b.2 2))), ((a5 4), .inl (q 0, 80, .inl (u_2b.2 3))), ((a5 5), .inl (q 0, 80, .inl (u_2b.2 4))), ((a5 6), .inl (q 0, 3, .inl (u_2b.2 5))), ((a5 7), .inl (q 0, 3, .inl (u_2b.2 6))), (p8, .inr (2, [.ref p9, .int (s_6.1 0), .int (s_6.1 1)])), (p9, .inl (q 4, 10, .inr (.inr (.inr (.inr (pf_f A_7 s_6.2)))))), ((a2 0), .inr (0, [.int (s2.1 0), .int (s2.1 1), .int (s2.1 2), .int (s2.1 3), .int (s2.1 4), .int (s2.1 5), .ref (a2 1), .ref (a2 2), .ref (a2 3), .ref (a2 4), .ref (a2 5), .ref (a2 6), .ref (a2 7), .ref (a2 8), .ref (a2 9), .ref (a2 10), .ref (a2 11), .ref (a2 12)])), ((a2 1), .inl (q 0, 4, .inl (s2.2.1 0))), ((a2 2), .inl (q 0, 4, .inl (s2.2.1 1))), ((a2 3), .inl (q 0, 160, .inl (s2.2.1 2))), ((a2 4), .inl (q 0, 40, .inl (s2.2.1 3))), ((a2 5), .inl (q 0, 40, .inl (s2.2.1 4))), ((a2 6), .inl (q 0, 40, .inl (s2.2.1 5))), ((a2 7), .inl (q 0, 40, .inl (s2.2.1 6))), ((a2 8), .inl (q 0, 40, .inl (s2.2.1 7))), ((a2 9), .inl (q 0, 40, .inl (s2.2.1 8))), ((a2 10), .inl (q 0, 40, .inl (s2.2.1 9))), ((a2 11), .inl (q 1, 40, .inr (.inl s2.2.2.1))), ((a2 12), .inl (q 0, s2.2.2.2.1, .inl s2.2.2.2.2))] : va_W) ++ ps_w q 10 A_7 s_6.2) := hD
    refine W.widen (k := 14) (n := 6906) (Nat.le_of_ble_eq_true rfl) (Nat.le_of_ble_eq_true rfl) ?_
    refine lv_aload_n hx hb dX6_run_20 rfl (lv_at hl 1 rfl) ?_
    refine mt_goiQ (X := [((a4 0), .inr (1, [.ref (a4 1), .ref (a4 2), .ref (a4 3), .int (s4.1 0), .int (s4.1 1), .int (s4.1 2), .int (s4.1 3), .int (s4.1 4), .int (s4.1 5), .int (s4.1 6), .int (s4.1 7), .int (s4.1 8)])), ((a4 1), .inl (q 0, 40, .inl (s4.2 0))), ((a4 2), .inl (q 0, 40, .inl (s4.2 1))), ((a4 3), .inl (q 0, 40, .inl (s4.2 2))), ((a0 0), .inr (5, [.ref (a1 0), .ref (a2 0), .ref (a3 0), .ref (a4 0), .ref (a5 0), .ref p8, .ref s8])), ((a1 0), .inr (4, [.ref (a1 1), .int (u_2a.1 0), .int (u_2a.1 1), .int (u_2a.1 2), .int (u_2a.1 3), .int (u_2a.1 4), .int (u_2a.1 5)])), ((a1 1), .inl (q 0, 400, .inl u_2a.2)), ((a5 0), .inr (3, [.ref (a5 1), .ref (a5 2), .ref (a5 3), .ref (a5 4), .ref (a5 5), .ref (a5 6), .ref (a5 7), .int (u_2b.1 0), .int (u_2b.1 1), .int (u_2b.1 2)])), ((a5 1), .inl (q 0, 80, .inl (u_2b.2 0))), ((a5 2), .inl (q 0, 80, .inl (u_2b.2 1))), ((a5 3), .inl (q 0, 80, .inl (u_2b.2 2))), ((a5 4), .inl (q 0, 80, .inl (u_2b.2 3))), ((a5 5), .inl (q 0, 80, .inl (u_2b.2 4))), ((a5 6), .inl (q 0, 3, .inl (u_2b.2 5))), ((a5 7), .inl (q 0, 3, .inl (u_2b.2 6))), (p8, .inr (2, [.ref p9, .int (s_6.1 0), .int (s_6.1 1)])), (p9, .inl (q 4, 10, .inr (.inr (.inr (.inr (pf_f A_7 s_6.2)))))), ((a2 0), .inr (0, [.int (s2.1 0), .int (s2.1 1), .int (s2.1 2), .int (s2.1 3), .int (s2.1 4), .int (s2.1 5), .ref (a2 1), .ref (a2 2), .ref (a2 3), .ref (a2 4), .ref (a2 5), .ref (a2 6), .ref (a2 7), .ref (a2 8), .ref (a2 9), .ref (a2 10), .ref (a2 11), .ref (a2 12)])), ((a2 1), .inl (q 0, 4, .inl (s2.2.1 0))), ((a2 2), .inl (q 0, 4, .inl (s2.2.1 1))), ((a2 3), .inl (q 0, 160, .inl (s2.2.1 2))), ((a2 4), .inl (q 0, 40, .inl (s2.2.1 3))), ((a2 5), .inl (q 0, 40, .inl (s2.2.1 4))), ((a2 6), .inl (q 0, 40, .inl (s2.2.1 5))), ((a2 7), .inl (q 0, 40, .inl (s2.2.1 6))), ((a2 8), .inl (q 0, 40, .inl (s2.2.1 7))), ((a2 9), .inl (q 0, 40, .inl (s2.2.1 8))), ((a2 10), .inl (q 0, 40, .inl (s2.2.1 9))), ((a2 11), .inl (q 1, 40, .inr (.inl s2.2.2.1))), ((a2 12), .inl (q 0, s2.2.2.2.1, .inl s2.2.2.2.2))]) (pl := ps_w q 10 A_7 s_6.2) (mt_wV (wc := fo_w (a0 0) (a1 0) (a2 0) (a3 0) (a4 0) (a5 0) p8 s8 ++ tp_w a1 q u_2a ++ bd_w a2 q s2 ++ mo_w a4 q s4 ++ pg_w a5 q u_2b) (As := []) (rest := []) hx hb hml hown ht (c2_X6_doProgram h) wd_X6_doProgram mw_826 hQ hV hS hA (hP.sub [4, 5, 6, 17, 18, 19, 20, 21, 22, 23, 24, 25, 26, 27, 28, 29, 0, 1, 2, 3, 7, 8, 9, 10, 11, 12, 13, 14] rfl) (hD.sub [4, 5, 6, 17, 18, 19, 20, 21, 22, 23, 24, 25, 26, 27, 28, 29, 0, 1, 2, 3, 7, 8, 9, 10, 11, 12, 13, 14] (by decide) rfl) rfl rfl rfl hl.1 rfl (Nat.le_of_ble_eq_true rfl) dX6_run_21 ⟨Nat.le_of_ble_eq_true rfl, Nat.le_of_ble_eq_true rfl, rfl, rfl⟩ ⟨Nat.le_of_ble_eq_true rfl, Nat.le_of_ble_eq_true rfl⟩) (wr := [(p8, .inr (2, [.ref p9, .int (s_6.1 0), .int (s_6.1 1)])), (p9, .inl (q 4, 10, .inr (.inr (.inr (.inr (pf_f A_7 s_6.2))))))]) hP hD hS hA [4, 5, 6, 17, 18, 19, 20, 21, 22, 23, 24, 25, 26, 27, 28, 29, 0, 1, 2, 3, 7, 8, 9, 10, 11, 12, 13, 14] [15, 16] rfl rfl (by decide) (by decide) (fun r_10 u_11 H locs h hP hD hS => ?_)
    obtain ⟨u_11a, u_11b, u_11c⟩ := u_11
    try dsimp only at h
    have hP : va_P D vwCl (([(p8, .inr (2, [.ref p9, .int (s_6.1 0), .int (s_6.1 1)])), (p9, .inl (q 4, 10, .inr (.inr (.inr (.inr (pf_f A_7 s_6.2)))))), ((a0 0), .inr (5, [.ref (a1 0), .ref (a2 0), .ref (a3 0), .ref (a4 0), .ref (a5 0), .ref p8, .ref s8])), ((a1 0), .inr (4, [.ref (a1 1), .int (u_2a.1 0), .int (u_2a.1 1), .int (u_2a.1 2), .int (u_2a.1 3), .int (u_2a.1 4), .int (u_2a.1 5)])), ((a1 1), .inl (q 0, 400, .inl u_2a.2)), ((a2 0), .inr (0, [.int (u_11a.1 0), .int (u_11a.1 1), .int (u_11a.1 2), .int (u_11a.1 3), .int (u_11a.1 4), .int (u_11a.1 5), .ref (a2 1), .ref (a2 2), .ref (a2 3), .ref (a2 4), .ref (a2 5), .ref (a2 6), .ref (a2 7), .ref (a2 8), .ref (a2 9), .ref (a2 10), .ref (a2 11), .ref (a2 12)])), ((a2 1), .inl (q 0, 4, .inl (u_11a.2.1 0))), ((a2 2), .inl (q 0, 4, .inl (u_11a.2.1 1))), ((a2 3), .inl (q 0, 160, .inl (u_11a.2.1 2))), ((a2 4), .inl (q 0, 40, .inl (u_11a.2.1 3))), ((a2 5), .inl (q 0, 40, .inl (u_11a.2.1 4))), ((a2 6), .inl (q 0, 40, .inl (u_11a.2.1 5))), ((a2 7), .inl (q 0, 40, .inl (u_11a.2.1 6))), ((a2 8), .inl (q 0, 40, .inl (u_11a.2.1 7))), ((a2 9), .inl (q 0, 40, .inl (u_11a.2.1 8))), ((a2 10), .inl (q 0, 40, .inl (u_11a.2.1 9))), ((a2 11), .inl (q 1, 40, .inr (.inl u_11a.2.2.1))), ((a2 12), .inl (q 0, u_11a.2.2.2.1, .inl u_11a.2.2.2.2)), ((a4 0), .inr (1, [.ref (a4 1), .ref (a4 2), .ref (a4 3), .int (u_11b.1 0), .int (u_11b.1 1), .int (u_11b.1 2), .int (u_11b.1 3), .int (u_11b.1 4), .int (u_11b.1 5), .int (u_11b.1 6), .int (u_11b.1 7), .int (u_11b.1 8)])), ((a4 1), .inl (q 0, 40, .inl (u_11b.2 0))), ((a4 2), .inl (q 0, 40, .inl (u_11b.2 1))), ((a4 3), .inl (q 0, 40, .inl (u_11b.2 2))), ((a5 0), .inr (3, [.ref (a5 1), .ref (a5 2), .ref (a5 3), .ref (a5 4), .ref (a5 5), .ref (a5 6), .ref (a5 7), .int (u_11c.1 0), .int (u_11c.1 1), .int (u_11c.1 2)])), ((a5 1), .inl (q 0, 80, .inl (u_11c.2 0))), ((a5 2), .inl (q 0, 80, .inl (u_11c.2 1))), ((a5 3), .inl (q 0, 80, .inl (u_11c.2 2))), ((a5 4), .inl (q 0, 80, .inl (u_11c.2 3))), ((a5 5), .inl (q 0, 80, .inl (u_11c.2 4))), ((a5 6), .inl (q 0, 3, .inl (u_11c.2 5))), ((a5 7), .inl (q 0, 3, .inl (u_11c.2 6)))] : va_W) ++ ps_w q 10 A_7 s_6.2) H := hP
    have hD : va_D _ (([(p8, .inr (2, [.ref p9, .int (s_6.1 0), .int (s_6.1 1)])), (p9, .inl (q 4, 10, .inr (.inr (.inr (.inr (pf_f A_7 s_6.2)))))), ((a0 0), .inr (5, [.ref (a1 0), .ref (a2 0), .ref (a3 0), .ref (a4 0), .ref (a5 0), .ref p8, .ref s8])), ((a1 0), .inr (4, [.ref (a1 1), .int (u_2a.1 0), .int (u_2a.1 1), .int (u_2a.1 2), .int (u_2a.1 3), .int (u_2a.1 4), .int (u_2a.1 5)])), ((a1 1), .inl (q 0, 400, .inl u_2a.2)), ((a2 0), .inr (0, [.int (u_11a.1 0), .int (u_11a.1 1), .int (u_11a.1 2), .int (u_11a.1 3), .int (u_11a.1 4), .int (u_11a.1 5), .ref (a2 1), .ref (a2 2), .ref (a2 3), .ref (a2 4), .ref (a2 5), .ref (a2 6), .ref (a2 7), .ref (a2 8), .ref (a2 9), .ref (a2 10), .ref (a2 11), .ref (a2 12)])), ((a2 1), .inl (q 0, 4, .inl (u_11a.2.1 0))), ((a2 2), .inl (q 0, 4, .inl (u_11a.2.1 1))), ((a2 3), .inl (q 0, 160, .inl (u_11a.2.1 2))), ((a2 4), .inl (q 0, 40, .inl (u_11a.2.1 3))), ((a2 5), .inl (q 0, 40, .inl (u_11a.2.1 4))), ((a2 6), .inl (q 0, 40, .inl (u_11a.2.1 5))), ((a2 7), .inl (q 0, 40, .inl (u_11a.2.1 6))), ((a2 8), .inl (q 0, 40, .inl (u_11a.2.1 7))), ((a2 9), .inl (q 0, 40, .inl (u_11a.2.1 8))), ((a2 10), .inl (q 0, 40, .inl (u_11a.2.1 9))), ((a2 11), .inl (q 1, 40, .inr (.inl u_11a.2.2.1))), ((a2 12), .inl (q 0, u_11a.2.2.2.1, .inl u_11a.2.2.2.2)), ((a4 0), .inr (1, [.ref (a4 1), .ref (a4 2), .ref (a4 3), .int (u_11b.1 0), .int (u_11b.1 1), .int (u_11b.1 2), .int (u_11b.1 3), .int (u_11b.1 4), .int (u_11b.1 5), .int (u_11b.1 6), .int (u_11b.1 7), .int (u_11b.1 8)])), ((a4 1), .inl (q 0, 40, .inl (u_11b.2 0))), ((a4 2), .inl (q 0, 40, .inl (u_11b.2 1))), ((a4 3), .inl (q 0, 40, .inl (u_11b.2 2))), ((a5 0), .inr (3, [.ref (a5 1), .ref (a5 2), .ref (a5 3), .ref (a5 4), .ref (a5 5), .ref (a5 6), .ref (a5 7), .int (u_11c.1 0), .int (u_11c.1 1), .int (u_11c.1 2)])), ((a5 1), .inl (q 0, 80, .inl (u_11c.2 0))), ((a5 2), .inl (q 0, 80, .inl (u_11c.2 1))), ((a5 3), .inl (q 0, 80, .inl (u_11c.2 2))), ((a5 4), .inl (q 0, 80, .inl (u_11c.2 3))), ((a5 5), .inl (q 0, 80, .inl (u_11c.2 4))), ((a5 6), .inl (q 0, 3, .inl (u_11c.2 5))), ((a5 7), .inl (q 0, 3, .inl (u_11c.2 6)))] : va_W) ++ ps_w q 10 A_7 s_6.2) := hD
    refine lv_istore_n (lv' := [(1, .int r_10), (0, .ref (a0 0))]) hx hb dX6_run_24 rfl hl (by decide) rfl (fun ls hl => ?_)
    refine lv_aload_n hx hb dX6_run_25 rfl (lv_at hl 1 rfl) ?_
    refine fl_get (C := RX6) (T := TX6) (N := 7) (ci := 5) (v := .ref (a1 0)) hx hb ht in_X6 hown hK hP 2 rfl rfl 0 (by decide) mw_355 rfl dX6_run_26 ?_
    refine lv_iconst (v := 0) hx hb dX6_run_29 (by decide) ?_
    refine fl_put (C := RX5) (T := TX5) (N := 7) (ci := 4) (v := .int 0) (ws2 := [(p8, .inr (2, [.ref p9, .int (s_6.1 0), .int (s_6.1 1)])), (p9, .inl (q 4, 10, .inr (.inr (.inr (.inr (pf_f A_7 s_6.2)))))), ((a0 0), .inr (5, [.ref (a1 0), .ref (a2 0), .ref (a3 0), .ref (a4 0), .ref (a5 0), .ref p8, .ref s8])), ((a1 0), .inr (4, [.ref (a1 1), .int 0, .int (u_2a.1 1), .int (u_2a.1 2), .int (u_2a.1 3), .int (u_2a.1 4), .int (u_2a.1 5)])), ((a1 1), .inl (q 0, 400, .inl u_2a.2)), ((a2 0), .inr (0, [.int (u_11a.1 0), .int (u_11a.1 1), .int (u_11a.1 2), .int (u_11a.1 3), .int (u_11a.1 4), .int (u_11a.1 5), .ref (a2 1), .ref (a2 2), .ref (a2 3), .ref (a2 4), .ref (a2 5), .ref (a2 6), .ref (a2 7), .ref (a2 8), .ref (a2 9), .ref (a2 10), .ref (a2 11), .ref (a2 12)])), ((a2 1), .inl (q 0, 4, .inl (u_11a.2.1 0))), ((a2 2), .inl (q 0, 4, .inl (u_11a.2.1 1))), ((a2 3), .inl (q 0, 160, .inl (u_11a.2.1 2))), ((a2 4), .inl (q 0, 40, .inl (u_11a.2.1 3))), ((a2 5), .inl (q 0, 40, .inl (u_11a.2.1 4))), ((a2 6), .inl (q 0, 40, .inl (u_11a.2.1 5))), ((a2 7), .inl (q 0, 40, .inl (u_11a.2.1 6))), ((a2 8), .inl (q 0, 40, .inl (u_11a.2.1 7))), ((a2 9), .inl (q 0, 40, .inl (u_11a.2.1 8))), ((a2 10), .inl (q 0, 40, .inl (u_11a.2.1 9))), ((a2 11), .inl (q 1, 40, .inr (.inl u_11a.2.2.1))), ((a2 12), .inl (q 0, u_11a.2.2.2.1, .inl u_11a.2.2.2.2)), ((a4 0), .inr (1, [.ref (a4 1), .ref (a4 2), .ref (a4 3), .int (u_11b.1 0), .int (u_11b.1 1), .int (u_11b.1 2), .int (u_11b.1 3), .int (u_11b.1 4), .int (u_11b.1 5), .int (u_11b.1 6), .int (u_11b.1 7), .int (u_11b.1 8)])), ((a4 1), .inl (q 0, 40, .inl (u_11b.2 0))), ((a4 2), .inl (q 0, 40, .inl (u_11b.2 1))), ((a4 3), .inl (q 0, 40, .inl (u_11b.2 2))), ((a5 0), .inr (3, [.ref (a5 1), .ref (a5 2), .ref (a5 3), .ref (a5 4), .ref (a5 5), .ref (a5 6), .ref (a5 7), .int (u_11c.1 0), .int (u_11c.1 1), .int (u_11c.1 2)])), ((a5 1), .inl (q 0, 80, .inl (u_11c.2 0))), ((a5 2), .inl (q 0, 80, .inl (u_11c.2 1))), ((a5 3), .inl (q 0, 80, .inl (u_11c.2 2))), ((a5 4), .inl (q 0, 80, .inl (u_11c.2 3))), ((a5 5), .inl (q 0, 80, .inl (u_11c.2 4))), ((a5 6), .inl (q 0, 3, .inl (u_11c.2 5))), ((a5 7), .inl (q 0, 3, .inl (u_11c.2 6)))] ++ ps_w q 10 A_7 s_6.2) hx hb ht in_X5 tyX5_ok nmX5 hown hK hP hD hS 3 rfl rfl 1 (by decide) mw_129 rfl rfl rfl (Nat.le_of_ble_eq_true rfl) dX6_run_30 rfl (fun H locs hP hD hS => ?_)
    refine lv_iload_n hx hb dX6_run_33 rfl (lv_at hl 0 rfl) ?_
    have hP := hP.part (cx := [((a0 0), .inr (5, [.ref (a1 0), .ref (a2 0), .ref (a3 0), .ref (a4 0), .ref (a5 0), .ref p8, .ref s8])), ((a1 0), .inr (4, [.ref (a1 1), .int 0, .int (u_2a.1 1), .int (u_2a.1 2), .int (u_2a.1 3), .int (u_2a.1 4), .int (u_2a.1 5)])), ((a1 1), .inl (q 0, 400, .inl u_2a.2)), ((a2 0), .inr (0, [.int (u_11a.1 0), .int (u_11a.1 1), .int (u_11a.1 2), .int (u_11a.1 3), .int (u_11a.1 4), .int (u_11a.1 5), .ref (a2 1), .ref (a2 2), .ref (a2 3), .ref (a2 4), .ref (a2 5), .ref (a2 6), .ref (a2 7), .ref (a2 8), .ref (a2 9), .ref (a2 10), .ref (a2 11), .ref (a2 12)])), ((a2 1), .inl (q 0, 4, .inl (u_11a.2.1 0))), ((a2 2), .inl (q 0, 4, .inl (u_11a.2.1 1))), ((a2 3), .inl (q 0, 160, .inl (u_11a.2.1 2))), ((a2 4), .inl (q 0, 40, .inl (u_11a.2.1 3))), ((a2 5), .inl (q 0, 40, .inl (u_11a.2.1 4))), ((a2 6), .inl (q 0, 40, .inl (u_11a.2.1 5))), ((a2 7), .inl (q 0, 40, .inl (u_11a.2.1 6))), ((a2 8), .inl (q 0, 40, .inl (u_11a.2.1 7))), ((a2 9), .inl (q 0, 40, .inl (u_11a.2.1 8))), ((a2 10), .inl (q 0, 40, .inl (u_11a.2.1 9))), ((a2 11), .inl (q 1, 40, .inr (.inl u_11a.2.2.1))), ((a2 12), .inl (q 0, u_11a.2.2.2.1, .inl u_11a.2.2.2.2)), ((a4 0), .inr (1, [.ref (a4 1), .ref (a4 2), .ref (a4 3), .int (u_11b.1 0), .int (u_11b.1 1), .int (u_11b.1 2), .int (u_11b.1 3), .int (u_11b.1 4), .int (u_11b.1 5), .int (u_11b.1 6), .int (u_11b.1 7), .int (u_11b.1 8)])), ((a4 1), .inl (q 0, 40, .inl (u_11b.2 0))), ((a4 2), .inl (q 0, 40, .inl (u_11b.2 1))), ((a4 3), .inl (q 0, 40, .inl (u_11b.2 2))), ((a5 0), .inr (3, [.ref (a5 1), .ref (a5 2), .ref (a5 3), .ref (a5 4), .ref (a5 5), .ref (a5 6), .ref (a5 7), .int (u_11c.1 0), .int (u_11c.1 1), .int (u_11c.1 2)])), ((a5 1), .inl (q 0, 80, .inl (u_11c.2 0))), ((a5 2), .inl (q 0, 80, .inl (u_11c.2 1))), ((a5 3), .inl (q 0, 80, .inl (u_11c.2 2))), ((a5 4), .inl (q 0, 80, .inl (u_11c.2 3))), ((a5 5), .inl (q 0, 80, .inl (u_11c.2 4))), ((a5 6), .inl (q 0, 3, .inl (u_11c.2 5))), ((a5 7), .inl (q 0, 3, .inl (u_11c.2 6))), (p8, .inr (2, [.ref p9, .int (s_6.1 0), .int (s_6.1 1)])), (p9, .inl (q 4, 10, .inr (.inr (.inr (.inr (pf_f A_7 s_6.2))))))]) [2, 3, 4, 5, 6, 7, 8, 9, 10, 11, 12, 13, 14, 15, 16, 17, 18, 19, 20, 21, 22, 23, 24, 25, 26, 27, 28, 29, 0, 1] rfl
    have hD := hD.part (cx := [((a0 0), .inr (5, [.ref (a1 0), .ref (a2 0), .ref (a3 0), .ref (a4 0), .ref (a5 0), .ref p8, .ref s8])), ((a1 0), .inr (4, [.ref (a1 1), .int 0, .int (u_2a.1 1), .int (u_2a.1 2), .int (u_2a.1 3), .int (u_2a.1 4), .int (u_2a.1 5)])), ((a1 1), .inl (q 0, 400, .inl u_2a.2)), ((a2 0), .inr (0, [.int (u_11a.1 0), .int (u_11a.1 1), .int (u_11a.1 2), .int (u_11a.1 3), .int (u_11a.1 4), .int (u_11a.1 5), .ref (a2 1), .ref (a2 2), .ref (a2 3), .ref (a2 4), .ref (a2 5), .ref (a2 6), .ref (a2 7), .ref (a2 8), .ref (a2 9), .ref (a2 10), .ref (a2 11), .ref (a2 12)])), ((a2 1), .inl (q 0, 4, .inl (u_11a.2.1 0))), ((a2 2), .inl (q 0, 4, .inl (u_11a.2.1 1))), ((a2 3), .inl (q 0, 160, .inl (u_11a.2.1 2))), ((a2 4), .inl (q 0, 40, .inl (u_11a.2.1 3))), ((a2 5), .inl (q 0, 40, .inl (u_11a.2.1 4))), ((a2 6), .inl (q 0, 40, .inl (u_11a.2.1 5))), ((a2 7), .inl (q 0, 40, .inl (u_11a.2.1 6))), ((a2 8), .inl (q 0, 40, .inl (u_11a.2.1 7))), ((a2 9), .inl (q 0, 40, .inl (u_11a.2.1 8))), ((a2 10), .inl (q 0, 40, .inl (u_11a.2.1 9))), ((a2 11), .inl (q 1, 40, .inr (.inl u_11a.2.2.1))), ((a2 12), .inl (q 0, u_11a.2.2.2.1, .inl u_11a.2.2.2.2)), ((a4 0), .inr (1, [.ref (a4 1), .ref (a4 2), .ref (a4 3), .int (u_11b.1 0), .int (u_11b.1 1), .int (u_11b.1 2), .int (u_11b.1 3), .int (u_11b.1 4), .int (u_11b.1 5), .int (u_11b.1 6), .int (u_11b.1 7), .int (u_11b.1 8)])), ((a4 1), .inl (q 0, 40, .inl (u_11b.2 0))), ((a4 2), .inl (q 0, 40, .inl (u_11b.2 1))), ((a4 3), .inl (q 0, 40, .inl (u_11b.2 2))), ((a5 0), .inr (3, [.ref (a5 1), .ref (a5 2), .ref (a5 3), .ref (a5 4), .ref (a5 5), .ref (a5 6), .ref (a5 7), .int (u_11c.1 0), .int (u_11c.1 1), .int (u_11c.1 2)])), ((a5 1), .inl (q 0, 80, .inl (u_11c.2 0))), ((a5 2), .inl (q 0, 80, .inl (u_11c.2 1))), ((a5 3), .inl (q 0, 80, .inl (u_11c.2 2))), ((a5 4), .inl (q 0, 80, .inl (u_11c.2 3))), ((a5 5), .inl (q 0, 80, .inl (u_11c.2 4))), ((a5 6), .inl (q 0, 3, .inl (u_11c.2 5))), ((a5 7), .inl (q 0, 3, .inl (u_11c.2 6))), (p8, .inr (2, [.ref p9, .int (s_6.1 0), .int (s_6.1 1)])), (p9, .inl (q 4, 10, .inr (.inr (.inr (.inr (pf_f A_7 s_6.2))))))]) [2, 3, 4, 5, 6, 7, 8, 9, 10, 11, 12, 13, 14, 15, 16, 17, 18, 19, 20, 21, 22, 23, 24, 25, 26, 27, 28, 29, 0, 1] (by decide) rfl
    exact mt_iret (A_7, ((va_up u_2a.1 0 0), u_2a.2), u_11a, u_11b, u_11c, s_6) hx hb hr hk h hP hD hS dX6_run_34

def wp_X6_undo (post : Int32 → Bd → Pa → Prop) (s2 : Bd) (s6 : Pa) : Prop := wp_X3_pop (fun r_2 s_3 b_6 => ((r_2 = 0 → post (-1) b_6 s_3) ∧ (¬ r_2 = 0 → post (s_3.1 0) b_6 s_3))) s6 s2
set_option maxHeartbeats 4000000 in
set_option maxRecDepth 100000 in
theorem c2_X6_undo {l : Launch} {D : va_G} {q : Nat → ClassId} {sz : Nat} {a0 a1 a2 a3 a4 a5 : Nat → Nat} {p8 s8 p9 : Nat} {AA : Nat → Nat → Nat} {s2 : Bd} {s6 : Pa} {post : Int32 → Bd → Pa → Prop} (h : wp_X6_undo post s2 s6) : Met l yX6_undo (Cond.code yX6_undo cX6_undo 1 (some .int) :: w_all) ({ frames := 4, cells := 1, slots := 6400, locals := 146 } : Room) (mt_P D q [.ref (a0 0)] ((fo_w (a0 0) (a1 0) (a2 0) (a3 0) (a4 0) (a5 0) p8 s8 ++ bd_w a2 q s2 ++ pa_o p8 p9 s6 ++ pa_r p9 q 10 AA s6.2) ++ ps_w q 10 AA s6.2) sz) (va_Qi (fun r (u : (Nat → Nat → Nat) × Nat × Bd × Pa) => post r u.2.2.1 u.2.2.2) (mt_B D ((fo_w (a0 0) (a1 0) (a2 0) (a3 0) (a4 0) (a5 0) p8 s8 ++ bd_w a2 q s2 ++ pa_o p8 p9 s6 ++ pa_r p9 q 10 AA s6.2) ++ ps_w q 10 AA s6.2) sz (fun u : (Nat → Nat → Nat) × Nat × Bd × Pa => ((fo_w (a0 0) (a1 0) (a2 0) (a3 0) (a4 0) (a5 0) p8 s8 ++ bd_w (va_up a2 12 u.2.1) q u.2.2.1 ++ pa_o p8 p9 u.2.2.2 ++ pa_r p9 q 10 u.1 u.2.2.2.2) ++ ps_w q 10 u.1 u.2.2.2.2))) (va_A ((fo_w (a0 0) (a1 0) (a2 0) (a3 0) (a4 0) (a5 0) p8 s8 ++ bd_w a2 q s2 ++ pa_o p8 p9 s6 ++ pa_r p9 q 10 AA s6.2) ++ ps_w q 10 AA s6.2) sz)) 1 6400 (va_A ((fo_w (a0 0) (a1 0) (a2 0) (a3 0) (a4 0) (a5 0) p8 s8 ++ bd_w a2 q s2 ++ pa_o p8 p9 s6 ++ pa_r p9 q 10 AA s6.2) ++ ps_w q 10 AA s6.2) sz) := by
  refine mt_start (by decide) (Nat.le_of_ble_eq_true rfl) ?_
  intro p e s m below meth c ls hx hb hr hml hown ht hk hin hP hQ hD hA hS hV hl
  have hK := hQ.1
  have hown : s.vm.findClass RX6 = some m.cls := hown
  have hl : lv_has ls 1 [(0, .ref (a0 0))] := hl
  have hP : va_P D vwCl (([((a0 0), .inr (5, [.ref (a1 0), .ref (a2 0), .ref (a3 0), .ref (a4 0), .ref (a5 0), .ref p8, .ref s8])), ((a2 0), .inr (0, [.int (s2.1 0), .int (s2.1 1), .int (s2.1 2), .int (s2.1 3), .int (s2.1 4), .int (s2.1 5), .ref (a2 1), .ref (a2 2), .ref (a2 3), .ref (a2 4), .ref (a2 5), .ref (a2 6), .ref (a2 7), .ref (a2 8), .ref (a2 9), .ref (a2 10), .ref (a2 11), .ref (a2 12)])), ((a2 1), .inl (q 0, 4, .inl (s2.2.1 0))), ((a2 2), .inl (q 0, 4, .inl (s2.2.1 1))), ((a2 3), .inl (q 0, 160, .inl (s2.2.1 2))), ((a2 4), .inl (q 0, 40, .inl (s2.2.1 3))), ((a2 5), .inl (q 0, 40, .inl (s2.2.1 4))), ((a2 6), .inl (q 0, 40, .inl (s2.2.1 5))), ((a2 7), .inl (q 0, 40, .inl (s2.2.1 6))), ((a2 8), .inl (q 0, 40, .inl (s2.2.1 7))), ((a2 9), .inl (q 0, 40, .inl (s2.2.1 8))), ((a2 10), .inl (q 0, 40, .inl (s2.2.1 9))), ((a2 11), .inl (q 1, 40, .inr (.inl s2.2.2.1))), ((a2 12), .inl (q 0, s2.2.2.2.1, .inl s2.2.2.2.2)), (p8, .inr (2, [.ref p9, .int (s6.1 0), .int (s6.1 1)])), (p9, .inl (q 4, 10, .inr (.inr (.inr (.inr (pf_f AA s6.2))))))] : va_W) ++ ps_w q 10 AA s6.2) s.heap := hP
  have hD : va_D _ (([((a0 0), .inr (5, [.ref (a1 0), .ref (a2 0), .ref (a3 0), .ref (a4 0), .ref (a5 0), .ref p8, .ref s8])), ((a2 0), .inr (0, [.int (s2.1 0), .int (s2.1 1), .int (s2.1 2), .int (s2.1 3), .int (s2.1 4), .int (s2.1 5), .ref (a2 1), .ref (a2 2), .ref (a2 3), .ref (a2 4), .ref (a2 5), .ref (a2 6), .ref (a2 7), .ref (a2 8), .ref (a2 9), .ref (a2 10), .ref (a2 11), .ref (a2 12)])), ((a2 1), .inl (q 0, 4, .inl (s2.2.1 0))), ((a2 2), .inl (q 0, 4, .inl (s2.2.1 1))), ((a2 3), .inl (q 0, 160, .inl (s2.2.1 2))), ((a2 4), .inl (q 0, 40, .inl (s2.2.1 3))), ((a2 5), .inl (q 0, 40, .inl (s2.2.1 4))), ((a2 6), .inl (q 0, 40, .inl (s2.2.1 5))), ((a2 7), .inl (q 0, 40, .inl (s2.2.1 6))), ((a2 8), .inl (q 0, 40, .inl (s2.2.1 7))), ((a2 9), .inl (q 0, 40, .inl (s2.2.1 8))), ((a2 10), .inl (q 0, 40, .inl (s2.2.1 9))), ((a2 11), .inl (q 1, 40, .inr (.inl s2.2.2.1))), ((a2 12), .inl (q 0, s2.2.2.2.1, .inl s2.2.2.2.2)), (p8, .inr (2, [.ref p9, .int (s6.1 0), .int (s6.1 1)])), (p9, .inl (q 4, 10, .inr (.inr (.inr (.inr (pf_f AA s6.2))))))] : va_W) ++ ps_w q 10 AA s6.2) := hD
  unfold wp_X6_undo at h
  refine lv_aload_n hx hb dX6_undo_0 rfl (lv_at hl 0 rfl) ?_
  refine fl_get (C := RX6) (T := TX6) (N := 7) (ci := 5) (v := .ref p8) hx hb ht in_X6 hown hK hP 0 rfl rfl 5 (by decide) mw_360 rfl dX6_undo_1 ?_
  refine lv_aload_n hx hb dX6_undo_4 rfl (lv_at hl 0 rfl) ?_
  refine fl_get (C := RX6) (T := TX6) (N := 7) (ci := 5) (v := .ref (a2 0)) hx hb ht in_X6 hown hK hP 0 rfl rfl 1 (by decide) mw_356 rfl dX6_undo_5 ?_
  refine mt_goiP (X := [((a0 0), .inr (5, [.ref (a1 0), .ref (a2 0), .ref (a3 0), .ref (a4 0), .ref (a5 0), .ref p8, .ref s8])), ((a2 0), .inr (0, [.int (s2.1 0), .int (s2.1 1), .int (s2.1 2), .int (s2.1 3), .int (s2.1 4), .int (s2.1 5), .ref (a2 1), .ref (a2 2), .ref (a2 3), .ref (a2 4), .ref (a2 5), .ref (a2 6), .ref (a2 7), .ref (a2 8), .ref (a2 9), .ref (a2 10), .ref (a2 11), .ref (a2 12)])), ((a2 1), .inl (q 0, 4, .inl (s2.2.1 0))), ((a2 2), .inl (q 0, 4, .inl (s2.2.1 1))), ((a2 3), .inl (q 0, 160, .inl (s2.2.1 2))), ((a2 4), .inl (q 0, 40, .inl (s2.2.1 3))), ((a2 5), .inl (q 0, 40, .inl (s2.2.1 4))), ((a2 6), .inl (q 0, 40, .inl (s2.2.1 5))), ((a2 7), .inl (q 0, 40, .inl (s2.2.1 6))), ((a2 8), .inl (q 0, 40, .inl (s2.2.1 7))), ((a2 9), .inl (q 0, 40, .inl (s2.2.1 8))), ((a2 10), .inl (q 0, 40, .inl (s2.2.1 9))), ((a2 11), .inl (q 1, 40, .inr (.inl s2.2.2.1))), ((a2 12), .inl (q 0, s2.2.2.2.1, .inl s2.2.2.2.2)), (p8, .inr (2, [.ref p9, .int (s6.1 0), .int (s6.1 1)])), (p9, .inl (q 4, 10, .inr (.inr (.inr (.inr (pf_f AA s6.2))))))]) (pl := ps_w q 10 AA s6.2) (mt_wV (wc := (pa_o p8 p9 s6 ++ pa_r p9 q 10 AA s6.2 ++ bd_w a2 q s2) ++ ps_w q 10 AA s6.2) (As := [.ref (a2 0)]) (rest := []) hx hb hml hown ht (c2_X3_pop (a0 := va_up (fun _ => p9) 0 p8) h) wd_X3_pop mw_873 hQ hV hS hA (hP.part (cx := (pa_o p8 p9 s6 ++ pa_r p9 q 10 AA s6.2 ++ bd_w a2 q s2)) [14, 15, 1, 2, 3, 4, 5, 6, 7, 8, 9, 10, 11, 12, 13] rfl) (hD.part (cx := (pa_o p8 p9 s6 ++ pa_r p9 q 10 AA s6.2 ++ bd_w a2 q s2)) [14, 15, 1, 2, 3, 4, 5, 6, 7, 8, 9, 10, 11, 12, 13] (by decide) rfl) rfl rfl rfl hl.1 rfl (Nat.le_of_ble_eq_true rfl) dX6_undo_8 ⟨Nat.le_of_ble_eq_true rfl, Nat.le_of_ble_eq_true rfl, rfl, rfl⟩ ⟨Nat.le_of_ble_eq_true rfl, Nat.le_of_ble_eq_true rfl⟩) (wr := [((a0 0), .inr (5, [.ref (a1 0), .ref (a2 0), .ref (a3 0), .ref (a4 0), .ref (a5 0), .ref p8, .ref s8]))]) hP hD hS hA [14, 15, 1, 2, 3, 4, 5, 6, 7, 8, 9, 10, 11, 12, 13] [0] rfl rfl (by decide) (by decide) (fun r_2 u_1 H locs h hP hD hS => ?_)
  obtain ⟨e_5, s_3, b_6⟩ := u_1
  try dsimp only at h
  have hP : va_P D vwCl (([((a0 0), .inr (5, [.ref (a1 0), .ref (a2 0), .ref (a3 0), .ref (a4 0), .ref (a5 0), .ref p8, .ref s8])), (p8, .inr (2, [.ref p9, .int (s_3.1 0), .int (s_3.1 1)])), (p9, .inl (q 4, 10, .inr (.inr (.inr (.inr (pf_f AA s_3.2)))))), ((a2 0), .inr (0, [.int (b_6.1 0), .int (b_6.1 1), .int (b_6.1 2), .int (b_6.1 3), .int (b_6.1 4), .int (b_6.1 5), .ref (a2 1), .ref (a2 2), .ref (a2 3), .ref (a2 4), .ref (a2 5), .ref (a2 6), .ref (a2 7), .ref (a2 8), .ref (a2 9), .ref (a2 10), .ref (a2 11), .ref e_5])), ((a2 1), .inl (q 0, 4, .inl (b_6.2.1 0))), ((a2 2), .inl (q 0, 4, .inl (b_6.2.1 1))), ((a2 3), .inl (q 0, 160, .inl (b_6.2.1 2))), ((a2 4), .inl (q 0, 40, .inl (b_6.2.1 3))), ((a2 5), .inl (q 0, 40, .inl (b_6.2.1 4))), ((a2 6), .inl (q 0, 40, .inl (b_6.2.1 5))), ((a2 7), .inl (q 0, 40, .inl (b_6.2.1 6))), ((a2 8), .inl (q 0, 40, .inl (b_6.2.1 7))), ((a2 9), .inl (q 0, 40, .inl (b_6.2.1 8))), ((a2 10), .inl (q 0, 40, .inl (b_6.2.1 9))), ((a2 11), .inl (q 1, 40, .inr (.inl b_6.2.2.1))), (e_5, .inl (q 0, b_6.2.2.2.1, .inl b_6.2.2.2.2))] : va_W) ++ ps_w q 10 AA s_3.2) H := hP
  have hD : va_D _ (([((a0 0), .inr (5, [.ref (a1 0), .ref (a2 0), .ref (a3 0), .ref (a4 0), .ref (a5 0), .ref p8, .ref s8])), (p8, .inr (2, [.ref p9, .int (s_3.1 0), .int (s_3.1 1)])), (p9, .inl (q 4, 10, .inr (.inr (.inr (.inr (pf_f AA s_3.2)))))), ((a2 0), .inr (0, [.int (b_6.1 0), .int (b_6.1 1), .int (b_6.1 2), .int (b_6.1 3), .int (b_6.1 4), .int (b_6.1 5), .ref (a2 1), .ref (a2 2), .ref (a2 3), .ref (a2 4), .ref (a2 5), .ref (a2 6), .ref (a2 7), .ref (a2 8), .ref (a2 9), .ref (a2 10), .ref (a2 11), .ref e_5])), ((a2 1), .inl (q 0, 4, .inl (b_6.2.1 0))), ((a2 2), .inl (q 0, 4, .inl (b_6.2.1 1))), ((a2 3), .inl (q 0, 160, .inl (b_6.2.1 2))), ((a2 4), .inl (q 0, 40, .inl (b_6.2.1 3))), ((a2 5), .inl (q 0, 40, .inl (b_6.2.1 4))), ((a2 6), .inl (q 0, 40, .inl (b_6.2.1 5))), ((a2 7), .inl (q 0, 40, .inl (b_6.2.1 6))), ((a2 8), .inl (q 0, 40, .inl (b_6.2.1 7))), ((a2 9), .inl (q 0, 40, .inl (b_6.2.1 8))), ((a2 10), .inl (q 0, 40, .inl (b_6.2.1 9))), ((a2 11), .inl (q 1, 40, .inr (.inl b_6.2.2.1))), (e_5, .inl (q 0, b_6.2.2.2.1, .inl b_6.2.2.2.2))] : va_W) ++ ps_w q 10 AA s_3.2) := hD
  refine W.widen (k := 1) (n := 6400) (Nat.le_of_ble_eq_true rfl) (Nat.le_of_ble_eq_true rfl) ?_
  refine lv_if_eq (tgt := 24) hx hb dX6_undo_11 (by decide) (fun c_7 => ?_) (fun c_7 => ?_)
  · replace h := h.1 c_7
    refine lv_iconst (v := (-1)) hx hb dX6_undo_24 (by decide) ?_
    have hP := hP.part (cx := [((a0 0), .inr (5, [.ref (a1 0), .ref (a2 0), .ref (a3 0), .ref (a4 0), .ref (a5 0), .ref p8, .ref s8])), ((a2 0), .inr (0, [.int (b_6.1 0), .int (b_6.1 1), .int (b_6.1 2), .int (b_6.1 3), .int (b_6.1 4), .int (b_6.1 5), .ref (a2 1), .ref (a2 2), .ref (a2 3), .ref (a2 4), .ref (a2 5), .ref (a2 6), .ref (a2 7), .ref (a2 8), .ref (a2 9), .ref (a2 10), .ref (a2 11), .ref e_5])), ((a2 1), .inl (q 0, 4, .inl (b_6.2.1 0))), ((a2 2), .inl (q 0, 4, .inl (b_6.2.1 1))), ((a2 3), .inl (q 0, 160, .inl (b_6.2.1 2))), ((a2 4), .inl (q 0, 40, .inl (b_6.2.1 3))), ((a2 5), .inl (q 0, 40, .inl (b_6.2.1 4))), ((a2 6), .inl (q 0, 40, .inl (b_6.2.1 5))), ((a2 7), .inl (q 0, 40, .inl (b_6.2.1 6))), ((a2 8), .inl (q 0, 40, .inl (b_6.2.1 7))), ((a2 9), .inl (q 0, 40, .inl (b_6.2.1 8))), ((a2 10), .inl (q 0, 40, .inl (b_6.2.1 9))), ((a2 11), .inl (q 1, 40, .inr (.inl b_6.2.2.1))), (e_5, .inl (q 0, b_6.2.2.2.1, .inl b_6.2.2.2.2)), (p8, .inr (2, [.ref p9, .int (s_3.1 0), .int (s_3.1 1)])), (p9, .inl (q 4, 10, .inr (.inr (.inr (.inr (pf_f AA s_3.2))))))]) [0, 3, 4, 5, 6, 7, 8, 9, 10, 11, 12, 13, 14, 15, 1, 2] rfl
    have hD := hD.part (cx := [((a0 0), .inr (5, [.ref (a1 0), .ref (a2 0), .ref (a3 0), .ref (a4 0), .ref (a5 0), .ref p8, .ref s8])), ((a2 0), .inr (0, [.int (b_6.1 0), .int (b_6.1 1), .int (b_6.1 2), .int (b_6.1 3), .int (b_6.1 4), .int (b_6.1 5), .ref (a2 1), .ref (a2 2), .ref (a2 3), .ref (a2 4), .ref (a2 5), .ref (a2 6), .ref (a2 7), .ref (a2 8), .ref (a2 9), .ref (a2 10), .ref (a2 11), .ref e_5])), ((a2 1), .inl (q 0, 4, .inl (b_6.2.1 0))), ((a2 2), .inl (q 0, 4, .inl (b_6.2.1 1))), ((a2 3), .inl (q 0, 160, .inl (b_6.2.1 2))), ((a2 4), .inl (q 0, 40, .inl (b_6.2.1 3))), ((a2 5), .inl (q 0, 40, .inl (b_6.2.1 4))), ((a2 6), .inl (q 0, 40, .inl (b_6.2.1 5))), ((a2 7), .inl (q 0, 40, .inl (b_6.2.1 6))), ((a2 8), .inl (q 0, 40, .inl (b_6.2.1 7))), ((a2 9), .inl (q 0, 40, .inl (b_6.2.1 8))), ((a2 10), .inl (q 0, 40, .inl (b_6.2.1 9))), ((a2 11), .inl (q 1, 40, .inr (.inl b_6.2.2.1))), (e_5, .inl (q 0, b_6.2.2.2.1, .inl b_6.2.2.2.2)), (p8, .inr (2, [.ref p9, .int (s_3.1 0), .int (s_3.1 1)])), (p9, .inl (q 4, 10, .inr (.inr (.inr (.inr (pf_f AA s_3.2))))))]) [0, 3, 4, 5, 6, 7, 8, 9, 10, 11, 12, 13, 14, 15, 1, 2] (by decide) rfl
    exact mt_iret (AA, e_5, b_6, s_3) hx hb hr hk h hP hD hS dX6_undo_25
  · replace h := h.2 c_7
    refine lv_aload_n hx hb dX6_undo_14 rfl (lv_at hl 0 rfl) ?_
    refine fl_get (C := RX6) (T := TX6) (N := 7) (ci := 5) (v := .ref p8) hx hb ht in_X6 hown hK hP 0 rfl rfl 5 (by decide) mw_360 rfl dX6_undo_15 ?_
    refine fl_get (C := RX3) (T := TX3) (N := 3) (ci := 2) (v := .int (s_3.1 0)) hx hb ht in_X3 hown hK hP 1 rfl rfl 1 (by decide) mw_346 rfl dX6_undo_18 ?_
    refine lv_goto (tgt := 25) hx hb dX6_undo_21 (by decide) ?_
    have hP := hP.part (cx := [((a0 0), .inr (5, [.ref (a1 0), .ref (a2 0), .ref (a3 0), .ref (a4 0), .ref (a5 0), .ref p8, .ref s8])), ((a2 0), .inr (0, [.int (b_6.1 0), .int (b_6.1 1), .int (b_6.1 2), .int (b_6.1 3), .int (b_6.1 4), .int (b_6.1 5), .ref (a2 1), .ref (a2 2), .ref (a2 3), .ref (a2 4), .ref (a2 5), .ref (a2 6), .ref (a2 7), .ref (a2 8), .ref (a2 9), .ref (a2 10), .ref (a2 11), .ref e_5])), ((a2 1), .inl (q 0, 4, .inl (b_6.2.1 0))), ((a2 2), .inl (q 0, 4, .inl (b_6.2.1 1))), ((a2 3), .inl (q 0, 160, .inl (b_6.2.1 2))), ((a2 4), .inl (q 0, 40, .inl (b_6.2.1 3))), ((a2 5), .inl (q 0, 40, .inl (b_6.2.1 4))), ((a2 6), .inl (q 0, 40, .inl (b_6.2.1 5))), ((a2 7), .inl (q 0, 40, .inl (b_6.2.1 6))), ((a2 8), .inl (q 0, 40, .inl (b_6.2.1 7))), ((a2 9), .inl (q 0, 40, .inl (b_6.2.1 8))), ((a2 10), .inl (q 0, 40, .inl (b_6.2.1 9))), ((a2 11), .inl (q 1, 40, .inr (.inl b_6.2.2.1))), (e_5, .inl (q 0, b_6.2.2.2.1, .inl b_6.2.2.2.2)), (p8, .inr (2, [.ref p9, .int (s_3.1 0), .int (s_3.1 1)])), (p9, .inl (q 4, 10, .inr (.inr (.inr (.inr (pf_f AA s_3.2))))))]) [0, 3, 4, 5, 6, 7, 8, 9, 10, 11, 12, 13, 14, 15, 1, 2] rfl
    have hD := hD.part (cx := [((a0 0), .inr (5, [.ref (a1 0), .ref (a2 0), .ref (a3 0), .ref (a4 0), .ref (a5 0), .ref p8, .ref s8])), ((a2 0), .inr (0, [.int (b_6.1 0), .int (b_6.1 1), .int (b_6.1 2), .int (b_6.1 3), .int (b_6.1 4), .int (b_6.1 5), .ref (a2 1), .ref (a2 2), .ref (a2 3), .ref (a2 4), .ref (a2 5), .ref (a2 6), .ref (a2 7), .ref (a2 8), .ref (a2 9), .ref (a2 10), .ref (a2 11), .ref e_5])), ((a2 1), .inl (q 0, 4, .inl (b_6.2.1 0))), ((a2 2), .inl (q 0, 4, .inl (b_6.2.1 1))), ((a2 3), .inl (q 0, 160, .inl (b_6.2.1 2))), ((a2 4), .inl (q 0, 40, .inl (b_6.2.1 3))), ((a2 5), .inl (q 0, 40, .inl (b_6.2.1 4))), ((a2 6), .inl (q 0, 40, .inl (b_6.2.1 5))), ((a2 7), .inl (q 0, 40, .inl (b_6.2.1 6))), ((a2 8), .inl (q 0, 40, .inl (b_6.2.1 7))), ((a2 9), .inl (q 0, 40, .inl (b_6.2.1 8))), ((a2 10), .inl (q 0, 40, .inl (b_6.2.1 9))), ((a2 11), .inl (q 1, 40, .inr (.inl b_6.2.2.1))), (e_5, .inl (q 0, b_6.2.2.2.1, .inl b_6.2.2.2.2)), (p8, .inr (2, [.ref p9, .int (s_3.1 0), .int (s_3.1 1)])), (p9, .inl (q 4, 10, .inr (.inr (.inr (.inr (pf_f AA s_3.2))))))]) [0, 3, 4, 5, 6, 7, 8, 9, 10, 11, 12, 13, 14, 15, 1, 2] (by decide) rfl
    exact mt_iret (AA, e_5, b_6, s_3) hx hb hr hk h hP hD hS dX6_undo_25

def wp_X6_keep (post : Int32 → (Nat → Option Bd) → Prop) (s2 : Bd) (z7 : Nat → Option Bd) (x1 : Int32) : Prop := wp_X6_isShelf (fun r_1 => ((¬ r_1 = 0 → vp_in x1 2 ∧ (match z7 (Int32.toNatClampNeg x1) with | none => wp_X0_copyAll (fun S_11 => wp_X0_cells (fun r_12 => post r_12 (va_up z7 (Int32.toNatClampNeg x1) (some S_11))) s2) fr_B s2 | some S_5 => wp_X0_copyAll (fun S_16 => wp_X0_cells (fun r_17 => post r_17 (va_up z7 (Int32.toNatClampNeg x1) (some S_16))) s2) S_5 s2)) ∧ (r_1 = 0 → post (-1) z7))) x1
set_option maxHeartbeats 4000000 in
set_option maxRecDepth 100000 in
theorem c2_X6_keep {l : Launch} {D : va_G} {q : Nat → ClassId} {sz : Nat} {a0 a1 a2 a3 a4 a5 : Nat → Nat} {p8 s8 p9 : Nat} {AA : Nat → Nat → Nat} {s2 : Bd} {z7 : Nat → Option Bd} {x1 : Int32} {post : Int32 → (Nat → Option Bd) → Prop} (h : wp_X6_keep post s2 z7 x1) : Met l yX6_keep (Cond.code yX6_keep cX6_keep 3 (some .int) :: w_all) ({ frames := 3, cells := 14, slots := 6906, locals := 124 } : Room) (mt_P D q [.ref (a0 0), .int x1] ((fo_w (a0 0) (a1 0) (a2 0) (a3 0) (a4 0) (a5 0) p8 s8 ++ bd_w a2 q s2 ++ pa_r s8 q 2 AA z7) ++ ps_w q 2 AA z7) sz) (va_Qi (fun r (u : (Nat → Nat → Nat) × (Nat → Option Bd)) => post r u.2) (mt_B D ((fo_w (a0 0) (a1 0) (a2 0) (a3 0) (a4 0) (a5 0) p8 s8 ++ bd_w a2 q s2 ++ pa_r s8 q 2 AA z7) ++ ps_w q 2 AA z7) sz (fun u : (Nat → Nat → Nat) × (Nat → Option Bd) => ((fo_w (a0 0) (a1 0) (a2 0) (a3 0) (a4 0) (a5 0) p8 s8 ++ bd_w a2 q s2 ++ pa_r s8 q 2 u.1 u.2) ++ ps_w q 2 u.1 u.2))) (va_A ((fo_w (a0 0) (a1 0) (a2 0) (a3 0) (a4 0) (a5 0) p8 s8 ++ bd_w a2 q s2 ++ pa_r s8 q 2 AA z7) ++ ps_w q 2 AA z7) sz)) 14 6906 (va_A ((fo_w (a0 0) (a1 0) (a2 0) (a3 0) (a4 0) (a5 0) p8 s8 ++ bd_w a2 q s2 ++ pa_r s8 q 2 AA z7) ++ ps_w q 2 AA z7) sz) := by
  refine mt_start (by decide) (Nat.le_of_ble_eq_true rfl) ?_
  intro p e s m below meth c ls hx hb hr hml hown ht hk hin hP hQ hD hA hS hV hl
  have hK := hQ.1
  have hown : s.vm.findClass RX6 = some m.cls := hown
  have hl : lv_has ls 3 [(0, .ref (a0 0)), (1, .int x1)] := hl
  have hP : va_P D vwCl (([((a0 0), .inr (5, [.ref (a1 0), .ref (a2 0), .ref (a3 0), .ref (a4 0), .ref (a5 0), .ref p8, .ref s8])), ((a2 0), .inr (0, [.int (s2.1 0), .int (s2.1 1), .int (s2.1 2), .int (s2.1 3), .int (s2.1 4), .int (s2.1 5), .ref (a2 1), .ref (a2 2), .ref (a2 3), .ref (a2 4), .ref (a2 5), .ref (a2 6), .ref (a2 7), .ref (a2 8), .ref (a2 9), .ref (a2 10), .ref (a2 11), .ref (a2 12)])), ((a2 1), .inl (q 0, 4, .inl (s2.2.1 0))), ((a2 2), .inl (q 0, 4, .inl (s2.2.1 1))), ((a2 3), .inl (q 0, 160, .inl (s2.2.1 2))), ((a2 4), .inl (q 0, 40, .inl (s2.2.1 3))), ((a2 5), .inl (q 0, 40, .inl (s2.2.1 4))), ((a2 6), .inl (q 0, 40, .inl (s2.2.1 5))), ((a2 7), .inl (q 0, 40, .inl (s2.2.1 6))), ((a2 8), .inl (q 0, 40, .inl (s2.2.1 7))), ((a2 9), .inl (q 0, 40, .inl (s2.2.1 8))), ((a2 10), .inl (q 0, 40, .inl (s2.2.1 9))), ((a2 11), .inl (q 1, 40, .inr (.inl s2.2.2.1))), ((a2 12), .inl (q 0, s2.2.2.2.1, .inl s2.2.2.2.2)), (s8, .inl (q 4, 2, .inr (.inr (.inr (.inr (pf_f AA z7))))))] : va_W) ++ ps_w q 2 AA z7) s.heap := hP
  have hD : va_D _ (([((a0 0), .inr (5, [.ref (a1 0), .ref (a2 0), .ref (a3 0), .ref (a4 0), .ref (a5 0), .ref p8, .ref s8])), ((a2 0), .inr (0, [.int (s2.1 0), .int (s2.1 1), .int (s2.1 2), .int (s2.1 3), .int (s2.1 4), .int (s2.1 5), .ref (a2 1), .ref (a2 2), .ref (a2 3), .ref (a2 4), .ref (a2 5), .ref (a2 6), .ref (a2 7), .ref (a2 8), .ref (a2 9), .ref (a2 10), .ref (a2 11), .ref (a2 12)])), ((a2 1), .inl (q 0, 4, .inl (s2.2.1 0))), ((a2 2), .inl (q 0, 4, .inl (s2.2.1 1))), ((a2 3), .inl (q 0, 160, .inl (s2.2.1 2))), ((a2 4), .inl (q 0, 40, .inl (s2.2.1 3))), ((a2 5), .inl (q 0, 40, .inl (s2.2.1 4))), ((a2 6), .inl (q 0, 40, .inl (s2.2.1 5))), ((a2 7), .inl (q 0, 40, .inl (s2.2.1 6))), ((a2 8), .inl (q 0, 40, .inl (s2.2.1 7))), ((a2 9), .inl (q 0, 40, .inl (s2.2.1 8))), ((a2 10), .inl (q 0, 40, .inl (s2.2.1 9))), ((a2 11), .inl (q 1, 40, .inr (.inl s2.2.2.1))), ((a2 12), .inl (q 0, s2.2.2.2.1, .inl s2.2.2.2.2)), (s8, .inl (q 4, 2, .inr (.inr (.inr (.inr (pf_f AA z7))))))] : va_W) ++ ps_w q 2 AA z7) := hD
  unfold wp_X6_keep at h
  refine lv_iload_n hx hb dX6_keep_0 rfl (lv_at hl 1 rfl) ?_
  refine vp_callSi (rd_wS (wc := ([] : va_W)) (As := [.int x1]) (rest := []) hx hb hml hown ht (c2_X6_isShelf h) wd_X6_isShelf mw_881 hQ hV hS (hP.sub [] rfl) rfl hl.1 rfl (Nat.le_of_ble_eq_true rfl) dX6_keep_1 ⟨Nat.le_of_ble_eq_true rfl, Nat.le_of_ble_eq_true rfl, rfl, rfl⟩ ⟨Nat.le_of_ble_eq_true rfl, Nat.le_of_ble_eq_true rfl⟩) (fun r_1 h => ?_)
  try dsimp only at h
  refine lv_if_ne (tgt := 9) hx hb dX6_keep_4 (by decide) (fun c_3 => ?_) (fun c_3 => ?_)
  · replace h := h.1 c_3
    refine lv_aload_n hx hb dX6_keep_9 rfl (lv_at hl 0 rfl) ?_
    refine fl_get (C := RX6) (T := TX6) (N := 7) (ci := 5) (v := .ref s8) hx hb ht in_X6 hown hK hP 0 rfl rfl 6 (by decide) mw_361 rfl dX6_keep_10 ?_
    refine lv_iload_n hx hb dX6_keep_13 rfl (lv_at hl 1 rfl) ?_
    obtain ⟨g_4, h⟩ := h
    refine va_aldq hx hb hK hP 14 4 rfl rfl g_4 dX6_keep_14 ?_
    cases hs_6 : z7 (Int32.toNatClampNeg x1) with
    | none =>
      rw [hs_6] at h
      dsimp only at h
      refine ab_q (pf_no hs_6) ?_
      refine ab_null ?_
      refine lv_astore_nN (lv' := [(2, .null), (0, .ref (a0 0)), (1, .int x1)]) hx hb dX6_keep_15 rfl hl (by decide) rfl (fun ls hl => ?_)
      refine lv_aload_nN hx hb dX6_keep_16 rfl (lv_at hl 0 rfl) ?_
      refine lv_ifnonnullN hx hb dX6_keep_17 ?_
      refine va_new (ci := 0) (fs := [.int 0, .int 0, .int 0, .int 0, .int 0, .int 0, .null, .null, .null, .null, .null, .null, .null, .null, .null, .null, .null, .null]) (C := RX0) (T := TX0) (N := 18) hx hb ht in_X0 tyX0 tyX0_ok hown (ht _ mw_161) (ht _ mw_162) (ht _ mw_100) hK hP hD hS hA rfl (fun j hj => nf_X0 j hj) (Nat.le_of_ble_eq_true rfl) (Nat.le_of_ble_eq_true rfl) dX6_keep_20 (fun o_7 H hP hD hS => ?_)
      have hP := vp_perm (pq_perm [((a0 0), .inr (5, [.ref (a1 0), .ref (a2 0), .ref (a3 0), .ref (a4 0), .ref (a5 0), .ref p8, .ref s8])), ((a2 0), .inr (0, [.int (s2.1 0), .int (s2.1 1), .int (s2.1 2), .int (s2.1 3), .int (s2.1 4), .int (s2.1 5), .ref (a2 1), .ref (a2 2), .ref (a2 3), .ref (a2 4), .ref (a2 5), .ref (a2 6), .ref (a2 7), .ref (a2 8), .ref (a2 9), .ref (a2 10), .ref (a2 11), .ref (a2 12)])), ((a2 1), .inl (q 0, 4, .inl (s2.2.1 0))), ((a2 2), .inl (q 0, 4, .inl (s2.2.1 1))), ((a2 3), .inl (q 0, 160, .inl (s2.2.1 2))), ((a2 4), .inl (q 0, 40, .inl (s2.2.1 3))), ((a2 5), .inl (q 0, 40, .inl (s2.2.1 4))), ((a2 6), .inl (q 0, 40, .inl (s2.2.1 5))), ((a2 7), .inl (q 0, 40, .inl (s2.2.1 6))), ((a2 8), .inl (q 0, 40, .inl (s2.2.1 7))), ((a2 9), .inl (q 0, 40, .inl (s2.2.1 8))), ((a2 10), .inl (q 0, 40, .inl (s2.2.1 9))), ((a2 11), .inl (q 1, 40, .inr (.inl s2.2.2.1))), ((a2 12), .inl (q 0, s2.2.2.2.1, .inl s2.2.2.2.2)), (s8, .inl (q 4, 2, .inr (.inr (.inr (.inr (pf_f AA z7))))))] _ _) hP
      have hD := vd_perm (pq_perm [((a0 0), .inr (5, [.ref (a1 0), .ref (a2 0), .ref (a3 0), .ref (a4 0), .ref (a5 0), .ref p8, .ref s8])), ((a2 0), .inr (0, [.int (s2.1 0), .int (s2.1 1), .int (s2.1 2), .int (s2.1 3), .int (s2.1 4), .int (s2.1 5), .ref (a2 1), .ref (a2 2), .ref (a2 3), .ref (a2 4), .ref (a2 5), .ref (a2 6), .ref (a2 7), .ref (a2 8), .ref (a2 9), .ref (a2 10), .ref (a2 11), .ref (a2 12)])), ((a2 1), .inl (q 0, 4, .inl (s2.2.1 0))), ((a2 2), .inl (q 0, 4, .inl (s2.2.1 1))), ((a2 3), .inl (q 0, 160, .inl (s2.2.1 2))), ((a2 4), .inl (q 0, 40, .inl (s2.2.1 3))), ((a2 5), .inl (q 0, 40, .inl (s2.2.1 4))), ((a2 6), .inl (q 0, 40, .inl (s2.2.1 5))), ((a2 7), .inl (q 0, 40, .inl (s2.2.1 6))), ((a2 8), .inl (q 0, 40, .inl (s2.2.1 7))), ((a2 9), .inl (q 0, 40, .inl (s2.2.1 8))), ((a2 10), .inl (q 0, 40, .inl (s2.2.1 9))), ((a2 11), .inl (q 1, 40, .inr (.inl s2.2.2.1))), ((a2 12), .inl (q 0, s2.2.2.2.1, .inl s2.2.2.2.2)), (s8, .inl (q 4, 2, .inr (.inr (.inr (.inr (pf_f AA z7))))))] _ _) hD
      have hP : va_P D vwCl (([((a0 0), .inr (5, [.ref (a1 0), .ref (a2 0), .ref (a3 0), .ref (a4 0), .ref (a5 0), .ref p8, .ref s8])), ((a2 0), .inr (0, [.int (s2.1 0), .int (s2.1 1), .int (s2.1 2), .int (s2.1 3), .int (s2.1 4), .int (s2.1 5), .ref (a2 1), .ref (a2 2), .ref (a2 3), .ref (a2 4), .ref (a2 5), .ref (a2 6), .ref (a2 7), .ref (a2 8), .ref (a2 9), .ref (a2 10), .ref (a2 11), .ref (a2 12)])), ((a2 1), .inl (q 0, 4, .inl (s2.2.1 0))), ((a2 2), .inl (q 0, 4, .inl (s2.2.1 1))), ((a2 3), .inl (q 0, 160, .inl (s2.2.1 2))), ((a2 4), .inl (q 0, 40, .inl (s2.2.1 3))), ((a2 5), .inl (q 0, 40, .inl (s2.2.1 4))), ((a2 6), .inl (q 0, 40, .inl (s2.2.1 5))), ((a2 7), .inl (q 0, 40, .inl (s2.2.1 6))), ((a2 8), .inl (q 0, 40, .inl (s2.2.1 7))), ((a2 9), .inl (q 0, 40, .inl (s2.2.1 8))), ((a2 10), .inl (q 0, 40, .inl (s2.2.1 9))), ((a2 11), .inl (q 1, 40, .inr (.inl s2.2.2.1))), ((a2 12), .inl (q 0, s2.2.2.2.1, .inl s2.2.2.2.2)), (s8, .inl (q 4, 2, .inr (.inr (.inr (.inr (pf_f AA z7)))))), (o_7, .inr (0, [.int 0, .int 0, .int 0, .int 0, .int 0, .int 0, .null, .null, .null, .null, .null, .null, .null, .null, .null, .null, .null, .null]))] : va_W) ++ ps_w q 2 AA z7) H := hP
      have hD : va_D _ (([((a0 0), .inr (5, [.ref (a1 0), .ref (a2 0), .ref (a3 0), .ref (a4 0), .ref (a5 0), .ref p8, .ref s8])), ((a2 0), .inr (0, [.int (s2.1 0), .int (s2.1 1), .int (s2.1 2), .int (s2.1 3), .int (s2.1 4), .int (s2.1 5), .ref (a2 1), .ref (a2 2), .ref (a2 3), .ref (a2 4), .ref (a2 5), .ref (a2 6), .ref (a2 7), .ref (a2 8), .ref (a2 9), .ref (a2 10), .ref (a2 11), .ref (a2 12)])), ((a2 1), .inl (q 0, 4, .inl (s2.2.1 0))), ((a2 2), .inl (q 0, 4, .inl (s2.2.1 1))), ((a2 3), .inl (q 0, 160, .inl (s2.2.1 2))), ((a2 4), .inl (q 0, 40, .inl (s2.2.1 3))), ((a2 5), .inl (q 0, 40, .inl (s2.2.1 4))), ((a2 6), .inl (q 0, 40, .inl (s2.2.1 5))), ((a2 7), .inl (q 0, 40, .inl (s2.2.1 6))), ((a2 8), .inl (q 0, 40, .inl (s2.2.1 7))), ((a2 9), .inl (q 0, 40, .inl (s2.2.1 8))), ((a2 10), .inl (q 0, 40, .inl (s2.2.1 9))), ((a2 11), .inl (q 1, 40, .inr (.inl s2.2.2.1))), ((a2 12), .inl (q 0, s2.2.2.2.1, .inl s2.2.2.2.2)), (s8, .inl (q 4, 2, .inr (.inr (.inr (.inr (pf_f AA z7)))))), (o_7, .inr (0, [.int 0, .int 0, .int 0, .int 0, .int 0, .int 0, .null, .null, .null, .null, .null, .null, .null, .null, .null, .null, .null, .null]))] : va_W) ++ ps_w q 2 AA z7) := hD
      refine W.widen (k := 1) (n := 18) (Nat.le_refl _) (Nat.le_of_ble_eq_true rfl) ?_
      refine lv_dup hx hb dX6_keep_23 rfl ?_
      refine mt_govQ (X := [((a0 0), .inr (5, [.ref (a1 0), .ref (a2 0), .ref (a3 0), .ref (a4 0), .ref (a5 0), .ref p8, .ref s8])), ((a2 0), .inr (0, [.int (s2.1 0), .int (s2.1 1), .int (s2.1 2), .int (s2.1 3), .int (s2.1 4), .int (s2.1 5), .ref (a2 1), .ref (a2 2), .ref (a2 3), .ref (a2 4), .ref (a2 5), .ref (a2 6), .ref (a2 7), .ref (a2 8), .ref (a2 9), .ref (a2 10), .ref (a2 11), .ref (a2 12)])), ((a2 1), .inl (q 0, 4, .inl (s2.2.1 0))), ((a2 2), .inl (q 0, 4, .inl (s2.2.1 1))), ((a2 3), .inl (q 0, 160, .inl (s2.2.1 2))), ((a2 4), .inl (q 0, 40, .inl (s2.2.1 3))), ((a2 5), .inl (q 0, 40, .inl (s2.2.1 4))), ((a2 6), .inl (q 0, 40, .inl (s2.2.1 5))), ((a2 7), .inl (q 0, 40, .inl (s2.2.1 6))), ((a2 8), .inl (q 0, 40, .inl (s2.2.1 7))), ((a2 9), .inl (q 0, 40, .inl (s2.2.1 8))), ((a2 10), .inl (q 0, 40, .inl (s2.2.1 9))), ((a2 11), .inl (q 1, 40, .inr (.inl s2.2.2.1))), ((a2 12), .inl (q 0, s2.2.2.2.1, .inl s2.2.2.2.2)), (s8, .inl (q 4, 2, .inr (.inr (.inr (.inr (pf_f AA z7)))))), (o_7, .inr (0, [.int 0, .int 0, .int 0, .int 0, .int 0, .int 0, .null, .null, .null, .null, .null, .null, .null, .null, .null, .null, .null, .null]))]) (pl := ps_w q 2 AA z7) (mt_wI (wc := [(o_7, .inr (0, [.int 0, .int 0, .int 0, .int 0, .int 0, .int 0, .null, .null, .null, .null, .null, .null, .null, .null, .null, .null, .null, .null]))]) (As := []) (rest := [.ref o_7]) hx hb hml hown ht ct_init_X0 wd_X0_init mw_163 hQ hV hS hA (hP.sub [15] rfl) (hD.sub [15] (by decide) rfl) rfl hl.1 rfl (Nat.le_of_ble_eq_true rfl) dX6_keep_24 ⟨Nat.le_of_ble_eq_true rfl, Nat.le_of_ble_eq_true rfl, rfl, rfl⟩ ⟨Nat.le_of_ble_eq_true rfl, Nat.le_of_ble_eq_true rfl⟩) (wr := [((a0 0), .inr (5, [.ref (a1 0), .ref (a2 0), .ref (a3 0), .ref (a4 0), .ref (a5 0), .ref p8, .ref s8])), ((a2 0), .inr (0, [.int (s2.1 0), .int (s2.1 1), .int (s2.1 2), .int (s2.1 3), .int (s2.1 4), .int (s2.1 5), .ref (a2 1), .ref (a2 2), .ref (a2 3), .ref (a2 4), .ref (a2 5), .ref (a2 6), .ref (a2 7), .ref (a2 8), .ref (a2 9), .ref (a2 10), .ref (a2 11), .ref (a2 12)])), ((a2 1), .inl (q 0, 4, .inl (s2.2.1 0))), ((a2 2), .inl (q 0, 4, .inl (s2.2.1 1))), ((a2 3), .inl (q 0, 160, .inl (s2.2.1 2))), ((a2 4), .inl (q 0, 40, .inl (s2.2.1 3))), ((a2 5), .inl (q 0, 40, .inl (s2.2.1 4))), ((a2 6), .inl (q 0, 40, .inl (s2.2.1 5))), ((a2 7), .inl (q 0, 40, .inl (s2.2.1 6))), ((a2 8), .inl (q 0, 40, .inl (s2.2.1 7))), ((a2 9), .inl (q 0, 40, .inl (s2.2.1 8))), ((a2 10), .inl (q 0, 40, .inl (s2.2.1 9))), ((a2 11), .inl (q 1, 40, .inr (.inl s2.2.2.1))), ((a2 12), .inl (q 0, s2.2.2.2.1, .inl s2.2.2.2.2)), (s8, .inl (q 4, 2, .inr (.inr (.inr (.inr (pf_f AA z7))))))]) hP hD hS hA [15] [0, 1, 2, 3, 4, 5, 6, 7, 8, 9, 10, 11, 12, 13, 14] rfl rfl (by decide) (by decide) (fun u_8 H locs _ hP hD hS => ?_)
      have hP : va_P D vwCl (([((a0 0), .inr (5, [.ref (a1 0), .ref (a2 0), .ref (a3 0), .ref (a4 0), .ref (a5 0), .ref p8, .ref s8])), ((a2 0), .inr (0, [.int (s2.1 0), .int (s2.1 1), .int (s2.1 2), .int (s2.1 3), .int (s2.1 4), .int (s2.1 5), .ref (a2 1), .ref (a2 2), .ref (a2 3), .ref (a2 4), .ref (a2 5), .ref (a2 6), .ref (a2 7), .ref (a2 8), .ref (a2 9), .ref (a2 10), .ref (a2 11), .ref (a2 12)])), ((a2 1), .inl (q 0, 4, .inl (s2.2.1 0))), ((a2 2), .inl (q 0, 4, .inl (s2.2.1 1))), ((a2 3), .inl (q 0, 160, .inl (s2.2.1 2))), ((a2 4), .inl (q 0, 40, .inl (s2.2.1 3))), ((a2 5), .inl (q 0, 40, .inl (s2.2.1 4))), ((a2 6), .inl (q 0, 40, .inl (s2.2.1 5))), ((a2 7), .inl (q 0, 40, .inl (s2.2.1 6))), ((a2 8), .inl (q 0, 40, .inl (s2.2.1 7))), ((a2 9), .inl (q 0, 40, .inl (s2.2.1 8))), ((a2 10), .inl (q 0, 40, .inl (s2.2.1 9))), ((a2 11), .inl (q 1, 40, .inr (.inl s2.2.2.1))), ((a2 12), .inl (q 0, s2.2.2.2.1, .inl s2.2.2.2.2)), (s8, .inl (q 4, 2, .inr (.inr (.inr (.inr (pf_f AA z7)))))), (((na_f o_7 u_8) 0), .inr (0, [.int (fr_B.1 0), .int (fr_B.1 1), .int (fr_B.1 2), .int (fr_B.1 3), .int (fr_B.1 4), .int (fr_B.1 5), .ref ((na_f o_7 u_8) 1), .ref ((na_f o_7 u_8) 2), .ref ((na_f o_7 u_8) 3), .ref ((na_f o_7 u_8) 4), .ref ((na_f o_7 u_8) 5), .ref ((na_f o_7 u_8) 6), .ref ((na_f o_7 u_8) 7), .ref ((na_f o_7 u_8) 8), .ref ((na_f o_7 u_8) 9), .ref ((na_f o_7 u_8) 10), .ref ((na_f o_7 u_8) 11), .ref ((na_f o_7 u_8) 12)])), (((na_f o_7 u_8) 1), .inl (q 0, 4, .inl (fr_B.2.1 0))), (((na_f o_7 u_8) 2), .inl (q 0, 4, .inl (fr_B.2.1 1))), (((na_f o_7 u_8) 3), .inl (q 0, 160, .inl (fr_B.2.1 2))), (((na_f o_7 u_8) 4), .inl (q 0, 40, .inl (fr_B.2.1 3))), (((na_f o_7 u_8) 5), .inl (q 0, 40, .inl (fr_B.2.1 4))), (((na_f o_7 u_8) 6), .inl (q 0, 40, .inl (fr_B.2.1 5))), (((na_f o_7 u_8) 7), .inl (q 0, 40, .inl (fr_B.2.1 6))), (((na_f o_7 u_8) 8), .inl (q 0, 40, .inl (fr_B.2.1 7))), (((na_f o_7 u_8) 9), .inl (q 0, 40, .inl (fr_B.2.1 8))), (((na_f o_7 u_8) 10), .inl (q 0, 40, .inl (fr_B.2.1 9))), (((na_f o_7 u_8) 11), .inl (q 1, 40, .inr (.inl fr_B.2.2.1))), (((na_f o_7 u_8) 12), .inl (q 0, fr_B.2.2.2.1, .inl fr_B.2.2.2.2))] : va_W) ++ ps_w q 2 AA z7) H := hP
      have hD : va_D _ (([((a0 0), .inr (5, [.ref (a1 0), .ref (a2 0), .ref (a3 0), .ref (a4 0), .ref (a5 0), .ref p8, .ref s8])), ((a2 0), .inr (0, [.int (s2.1 0), .int (s2.1 1), .int (s2.1 2), .int (s2.1 3), .int (s2.1 4), .int (s2.1 5), .ref (a2 1), .ref (a2 2), .ref (a2 3), .ref (a2 4), .ref (a2 5), .ref (a2 6), .ref (a2 7), .ref (a2 8), .ref (a2 9), .ref (a2 10), .ref (a2 11), .ref (a2 12)])), ((a2 1), .inl (q 0, 4, .inl (s2.2.1 0))), ((a2 2), .inl (q 0, 4, .inl (s2.2.1 1))), ((a2 3), .inl (q 0, 160, .inl (s2.2.1 2))), ((a2 4), .inl (q 0, 40, .inl (s2.2.1 3))), ((a2 5), .inl (q 0, 40, .inl (s2.2.1 4))), ((a2 6), .inl (q 0, 40, .inl (s2.2.1 5))), ((a2 7), .inl (q 0, 40, .inl (s2.2.1 6))), ((a2 8), .inl (q 0, 40, .inl (s2.2.1 7))), ((a2 9), .inl (q 0, 40, .inl (s2.2.1 8))), ((a2 10), .inl (q 0, 40, .inl (s2.2.1 9))), ((a2 11), .inl (q 1, 40, .inr (.inl s2.2.2.1))), ((a2 12), .inl (q 0, s2.2.2.2.1, .inl s2.2.2.2.2)), (s8, .inl (q 4, 2, .inr (.inr (.inr (.inr (pf_f AA z7)))))), (((na_f o_7 u_8) 0), .inr (0, [.int (fr_B.1 0), .int (fr_B.1 1), .int (fr_B.1 2), .int (fr_B.1 3), .int (fr_B.1 4), .int (fr_B.1 5), .ref ((na_f o_7 u_8) 1), .ref ((na_f o_7 u_8) 2), .ref ((na_f o_7 u_8) 3), .ref ((na_f o_7 u_8) 4), .ref ((na_f o_7 u_8) 5), .ref ((na_f o_7 u_8) 6), .ref ((na_f o_7 u_8) 7), .ref ((na_f o_7 u_8) 8), .ref ((na_f o_7 u_8) 9), .ref ((na_f o_7 u_8) 10), .ref ((na_f o_7 u_8) 11), .ref ((na_f o_7 u_8) 12)])), (((na_f o_7 u_8) 1), .inl (q 0, 4, .inl (fr_B.2.1 0))), (((na_f o_7 u_8) 2), .inl (q 0, 4, .inl (fr_B.2.1 1))), (((na_f o_7 u_8) 3), .inl (q 0, 160, .inl (fr_B.2.1 2))), (((na_f o_7 u_8) 4), .inl (q 0, 40, .inl (fr_B.2.1 3))), (((na_f o_7 u_8) 5), .inl (q 0, 40, .inl (fr_B.2.1 4))), (((na_f o_7 u_8) 6), .inl (q 0, 40, .inl (fr_B.2.1 5))), (((na_f o_7 u_8) 7), .inl (q 0, 40, .inl (fr_B.2.1 6))), (((na_f o_7 u_8) 8), .inl (q 0, 40, .inl (fr_B.2.1 7))), (((na_f o_7 u_8) 9), .inl (q 0, 40, .inl (fr_B.2.1 8))), (((na_f o_7 u_8) 10), .inl (q 0, 40, .inl (fr_B.2.1 9))), (((na_f o_7 u_8) 11), .inl (q 1, 40, .inr (.inl fr_B.2.2.1))), (((na_f o_7 u_8) 12), .inl (q 0, fr_B.2.2.2.1, .inl fr_B.2.2.2.2))] : va_W) ++ ps_w q 2 AA z7) := hD
      refine W.widen (k := 13) (n := 506) (Nat.le_of_ble_eq_true rfl) (Nat.le_of_ble_eq_true rfl) ?_
      refine lv_astore_n (lv' := [(2, .ref ((na_f o_7 u_8) 0)), (0, .ref (a0 0)), (1, .int x1)]) hx hb dX6_keep_27 rfl hl (by decide) rfl (fun ls hl => ?_)
      refine lv_aload_n hx hb dX6_keep_28 rfl (lv_at hl 1 rfl) ?_
      refine fl_get (C := RX6) (T := TX6) (N := 7) (ci := 5) (v := .ref s8) hx hb ht in_X6 hown hK hP 0 rfl rfl 6 (by decide) mw_361 rfl dX6_keep_29 ?_
      refine lv_iload_n hx hb dX6_keep_32 rfl (lv_at hl 2 rfl) ?_
      refine lv_aload_n hx hb dX6_keep_33 rfl (lv_at hl 0 rfl) ?_
      refine va_astq hx hb hK hP hD hS 14 4 15 0 rfl rfl rfl rfl g_4 dX6_keep_34 (fun H locs hP hD hS => ?_)
      have hP : va_P D vwCl (([((a0 0), .inr (5, [.ref (a1 0), .ref (a2 0), .ref (a3 0), .ref (a4 0), .ref (a5 0), .ref p8, .ref s8])), ((a2 0), .inr (0, [.int (s2.1 0), .int (s2.1 1), .int (s2.1 2), .int (s2.1 3), .int (s2.1 4), .int (s2.1 5), .ref (a2 1), .ref (a2 2), .ref (a2 3), .ref (a2 4), .ref (a2 5), .ref (a2 6), .ref (a2 7), .ref (a2 8), .ref (a2 9), .ref (a2 10), .ref (a2 11), .ref (a2 12)])), ((a2 1), .inl (q 0, 4, .inl (s2.2.1 0))), ((a2 2), .inl (q 0, 4, .inl (s2.2.1 1))), ((a2 3), .inl (q 0, 160, .inl (s2.2.1 2))), ((a2 4), .inl (q 0, 40, .inl (s2.2.1 3))), ((a2 5), .inl (q 0, 40, .inl (s2.2.1 4))), ((a2 6), .inl (q 0, 40, .inl (s2.2.1 5))), ((a2 7), .inl (q 0, 40, .inl (s2.2.1 6))), ((a2 8), .inl (q 0, 40, .inl (s2.2.1 7))), ((a2 9), .inl (q 0, 40, .inl (s2.2.1 8))), ((a2 10), .inl (q 0, 40, .inl (s2.2.1 9))), ((a2 11), .inl (q 1, 40, .inr (.inl s2.2.2.1))), ((a2 12), .inl (q 0, s2.2.2.2.1, .inl s2.2.2.2.2)), (s8, .inl (q 4, 2, .inr (.inr (.inr (.inr (va_up (pf_f AA z7) (Int32.toNatClampNeg x1) (some ((na_f o_7 u_8) 0)))))))), (((na_f o_7 u_8) 0), .inr (0, [.int (fr_B.1 0), .int (fr_B.1 1), .int (fr_B.1 2), .int (fr_B.1 3), .int (fr_B.1 4), .int (fr_B.1 5), .ref ((na_f o_7 u_8) 1), .ref ((na_f o_7 u_8) 2), .ref ((na_f o_7 u_8) 3), .ref ((na_f o_7 u_8) 4), .ref ((na_f o_7 u_8) 5), .ref ((na_f o_7 u_8) 6), .ref ((na_f o_7 u_8) 7), .ref ((na_f o_7 u_8) 8), .ref ((na_f o_7 u_8) 9), .ref ((na_f o_7 u_8) 10), .ref ((na_f o_7 u_8) 11), .ref ((na_f o_7 u_8) 12)])), (((na_f o_7 u_8) 1), .inl (q 0, 4, .inl (fr_B.2.1 0))), (((na_f o_7 u_8) 2), .inl (q 0, 4, .inl (fr_B.2.1 1))), (((na_f o_7 u_8) 3), .inl (q 0, 160, .inl (fr_B.2.1 2))), (((na_f o_7 u_8) 4), .inl (q 0, 40, .inl (fr_B.2.1 3))), (((na_f o_7 u_8) 5), .inl (q 0, 40, .inl (fr_B.2.1 4))), (((na_f o_7 u_8) 6), .inl (q 0, 40, .inl (fr_B.2.1 5))), (((na_f o_7 u_8) 7), .inl (q 0, 40, .inl (fr_B.2.1 6))), (((na_f o_7 u_8) 8), .inl (q 0, 40, .inl (fr_B.2.1 7))), (((na_f o_7 u_8) 9), .inl (q 0, 40, .inl (fr_B.2.1 8))), (((na_f o_7 u_8) 10), .inl (q 0, 40, .inl (fr_B.2.1 9))), (((na_f o_7 u_8) 11), .inl (q 1, 40, .inr (.inl fr_B.2.2.1))), (((na_f o_7 u_8) 12), .inl (q 0, fr_B.2.2.2.1, .inl fr_B.2.2.2.2))] : va_W) ++ ps_w q 2 AA z7) H := hP
      have hD : va_D _ (([((a0 0), .inr (5, [.ref (a1 0), .ref (a2 0), .ref (a3 0), .ref (a4 0), .ref (a5 0), .ref p8, .ref s8])), ((a2 0), .inr (0, [.int (s2.1 0), .int (s2.1 1), .int (s2.1 2), .int (s2.1 3), .int (s2.1 4), .int (s2.1 5), .ref (a2 1), .ref (a2 2), .ref (a2 3), .ref (a2 4), .ref (a2 5), .ref (a2 6), .ref (a2 7), .ref (a2 8), .ref (a2 9), .ref (a2 10), .ref (a2 11), .ref (a2 12)])), ((a2 1), .inl (q 0, 4, .inl (s2.2.1 0))), ((a2 2), .inl (q 0, 4, .inl (s2.2.1 1))), ((a2 3), .inl (q 0, 160, .inl (s2.2.1 2))), ((a2 4), .inl (q 0, 40, .inl (s2.2.1 3))), ((a2 5), .inl (q 0, 40, .inl (s2.2.1 4))), ((a2 6), .inl (q 0, 40, .inl (s2.2.1 5))), ((a2 7), .inl (q 0, 40, .inl (s2.2.1 6))), ((a2 8), .inl (q 0, 40, .inl (s2.2.1 7))), ((a2 9), .inl (q 0, 40, .inl (s2.2.1 8))), ((a2 10), .inl (q 0, 40, .inl (s2.2.1 9))), ((a2 11), .inl (q 1, 40, .inr (.inl s2.2.2.1))), ((a2 12), .inl (q 0, s2.2.2.2.1, .inl s2.2.2.2.2)), (s8, .inl (q 4, 2, .inr (.inr (.inr (.inr (va_up (pf_f AA z7) (Int32.toNatClampNeg x1) (some ((na_f o_7 u_8) 0)))))))), (((na_f o_7 u_8) 0), .inr (0, [.int (fr_B.1 0), .int (fr_B.1 1), .int (fr_B.1 2), .int (fr_B.1 3), .int (fr_B.1 4), .int (fr_B.1 5), .ref ((na_f o_7 u_8) 1), .ref ((na_f o_7 u_8) 2), .ref ((na_f o_7 u_8) 3), .ref ((na_f o_7 u_8) 4), .ref ((na_f o_7 u_8) 5), .ref ((na_f o_7 u_8) 6), .ref ((na_f o_7 u_8) 7), .ref ((na_f o_7 u_8) 8), .ref ((na_f o_7 u_8) 9), .ref ((na_f o_7 u_8) 10), .ref ((na_f o_7 u_8) 11), .ref ((na_f o_7 u_8) 12)])), (((na_f o_7 u_8) 1), .inl (q 0, 4, .inl (fr_B.2.1 0))), (((na_f o_7 u_8) 2), .inl (q 0, 4, .inl (fr_B.2.1 1))), (((na_f o_7 u_8) 3), .inl (q 0, 160, .inl (fr_B.2.1 2))), (((na_f o_7 u_8) 4), .inl (q 0, 40, .inl (fr_B.2.1 3))), (((na_f o_7 u_8) 5), .inl (q 0, 40, .inl (fr_B.2.1 4))), (((na_f o_7 u_8) 6), .inl (q 0, 40, .inl (fr_B.2.1 5))), (((na_f o_7 u_8) 7), .inl (q 0, 40, .inl (fr_B.2.1 6))), (((na_f o_7 u_8) 8), .inl (q 0, 40, .inl (fr_B.2.1 7))), (((na_f o_7 u_8) 9), .inl (q 0, 40, .inl (fr_B.2.1 8))), (((na_f o_7 u_8) 10), .inl (q 0, 40, .inl (fr_B.2.1 9))), (((na_f o_7 u_8) 11), .inl (q 1, 40, .inr (.inl fr_B.2.2.1))), (((na_f o_7 u_8) 12), .inl (q 0, fr_B.2.2.2.1, .inl fr_B.2.2.2.2))] : va_W) ++ ps_w q 2 AA z7) := hD
      refine lv_aload_n hx hb dX6_keep_35 rfl (lv_at hl 0 rfl) ?_
      refine lv_aload_n hx hb dX6_keep_36 rfl (lv_at hl 1 rfl) ?_
      refine fl_get (C := RX6) (T := TX6) (N := 7) (ci := 5) (v := .ref (a2 0)) hx hb ht in_X6 hown hK hP 0 rfl rfl 1 (by decide) mw_356 rfl dX6_keep_37 ?_
      refine mt_govQ (X := [((a0 0), .inr (5, [.ref (a1 0), .ref (a2 0), .ref (a3 0), .ref (a4 0), .ref (a5 0), .ref p8, .ref s8])), ((a2 0), .inr (0, [.int (s2.1 0), .int (s2.1 1), .int (s2.1 2), .int (s2.1 3), .int (s2.1 4), .int (s2.1 5), .ref (a2 1), .ref (a2 2), .ref (a2 3), .ref (a2 4), .ref (a2 5), .ref (a2 6), .ref (a2 7), .ref (a2 8), .ref (a2 9), .ref (a2 10), .ref (a2 11), .ref (a2 12)])), ((a2 1), .inl (q 0, 4, .inl (s2.2.1 0))), ((a2 2), .inl (q 0, 4, .inl (s2.2.1 1))), ((a2 3), .inl (q 0, 160, .inl (s2.2.1 2))), ((a2 4), .inl (q 0, 40, .inl (s2.2.1 3))), ((a2 5), .inl (q 0, 40, .inl (s2.2.1 4))), ((a2 6), .inl (q 0, 40, .inl (s2.2.1 5))), ((a2 7), .inl (q 0, 40, .inl (s2.2.1 6))), ((a2 8), .inl (q 0, 40, .inl (s2.2.1 7))), ((a2 9), .inl (q 0, 40, .inl (s2.2.1 8))), ((a2 10), .inl (q 0, 40, .inl (s2.2.1 9))), ((a2 11), .inl (q 1, 40, .inr (.inl s2.2.2.1))), ((a2 12), .inl (q 0, s2.2.2.2.1, .inl s2.2.2.2.2)), (s8, .inl (q 4, 2, .inr (.inr (.inr (.inr (va_up (pf_f AA z7) (Int32.toNatClampNeg x1) (some ((na_f o_7 u_8) 0)))))))), (((na_f o_7 u_8) 0), .inr (0, [.int (fr_B.1 0), .int (fr_B.1 1), .int (fr_B.1 2), .int (fr_B.1 3), .int (fr_B.1 4), .int (fr_B.1 5), .ref ((na_f o_7 u_8) 1), .ref ((na_f o_7 u_8) 2), .ref ((na_f o_7 u_8) 3), .ref ((na_f o_7 u_8) 4), .ref ((na_f o_7 u_8) 5), .ref ((na_f o_7 u_8) 6), .ref ((na_f o_7 u_8) 7), .ref ((na_f o_7 u_8) 8), .ref ((na_f o_7 u_8) 9), .ref ((na_f o_7 u_8) 10), .ref ((na_f o_7 u_8) 11), .ref ((na_f o_7 u_8) 12)])), (((na_f o_7 u_8) 1), .inl (q 0, 4, .inl (fr_B.2.1 0))), (((na_f o_7 u_8) 2), .inl (q 0, 4, .inl (fr_B.2.1 1))), (((na_f o_7 u_8) 3), .inl (q 0, 160, .inl (fr_B.2.1 2))), (((na_f o_7 u_8) 4), .inl (q 0, 40, .inl (fr_B.2.1 3))), (((na_f o_7 u_8) 5), .inl (q 0, 40, .inl (fr_B.2.1 4))), (((na_f o_7 u_8) 6), .inl (q 0, 40, .inl (fr_B.2.1 5))), (((na_f o_7 u_8) 7), .inl (q 0, 40, .inl (fr_B.2.1 6))), (((na_f o_7 u_8) 8), .inl (q 0, 40, .inl (fr_B.2.1 7))), (((na_f o_7 u_8) 9), .inl (q 0, 40, .inl (fr_B.2.1 8))), (((na_f o_7 u_8) 10), .inl (q 0, 40, .inl (fr_B.2.1 9))), (((na_f o_7 u_8) 11), .inl (q 1, 40, .inr (.inl fr_B.2.2.1))), (((na_f o_7 u_8) 12), .inl (q 0, fr_B.2.2.2.1, .inl fr_B.2.2.2.2))]) (pl := ps_w q 2 AA z7) (mt_wV (wc := bd_w (na_f o_7 u_8) q fr_B ++ bd_w a2 q s2) (As := [.ref (a2 0)]) (rest := []) hx hb hml hown ht (c2_X0_copyAll h) wd_X0_copyAll mw_884 hQ hV hS hA (hP.sub [15, 16, 17, 18, 19, 20, 21, 22, 23, 24, 25, 26, 27, 1, 2, 3, 4, 5, 6, 7, 8, 9, 10, 11, 12, 13] rfl) (hD.sub [15, 16, 17, 18, 19, 20, 21, 22, 23, 24, 25, 26, 27, 1, 2, 3, 4, 5, 6, 7, 8, 9, 10, 11, 12, 13] (by decide) rfl) rfl rfl rfl hl.1 rfl (Nat.le_of_ble_eq_true rfl) dX6_keep_40 ⟨Nat.le_of_ble_eq_true rfl, Nat.le_of_ble_eq_true rfl, rfl, rfl⟩ ⟨Nat.le_of_ble_eq_true rfl, Nat.le_of_ble_eq_true rfl⟩) (wr := [((a0 0), .inr (5, [.ref (a1 0), .ref (a2 0), .ref (a3 0), .ref (a4 0), .ref (a5 0), .ref p8, .ref s8])), (s8, .inl (q 4, 2, .inr (.inr (.inr (.inr (va_up (pf_f AA z7) (Int32.toNatClampNeg x1) (some ((na_f o_7 u_8) 0))))))))]) hP hD hS hA [15, 16, 17, 18, 19, 20, 21, 22, 23, 24, 25, 26, 27, 1, 2, 3, 4, 5, 6, 7, 8, 9, 10, 11, 12, 13] [0, 14] rfl rfl (by decide) (by decide) (fun u_9 H locs h hP hD hS => ?_)
      obtain ⟨e_10, S_11⟩ := u_9
      try dsimp only at h
      have hP : va_P D vwCl (([((a0 0), .inr (5, [.ref (a1 0), .ref (a2 0), .ref (a3 0), .ref (a4 0), .ref (a5 0), .ref p8, .ref s8])), (s8, .inl (q 4, 2, .inr (.inr (.inr (.inr (va_up (pf_f AA z7) (Int32.toNatClampNeg x1) (some ((na_f o_7 u_8) 0)))))))), (((va_up (na_f o_7 u_8) 12 e_10) 0), .inr (0, [.int (S_11.1 0), .int (S_11.1 1), .int (S_11.1 2), .int (S_11.1 3), .int (S_11.1 4), .int (S_11.1 5), .ref ((va_up (na_f o_7 u_8) 12 e_10) 1), .ref ((va_up (na_f o_7 u_8) 12 e_10) 2), .ref ((va_up (na_f o_7 u_8) 12 e_10) 3), .ref ((va_up (na_f o_7 u_8) 12 e_10) 4), .ref ((va_up (na_f o_7 u_8) 12 e_10) 5), .ref ((va_up (na_f o_7 u_8) 12 e_10) 6), .ref ((va_up (na_f o_7 u_8) 12 e_10) 7), .ref ((va_up (na_f o_7 u_8) 12 e_10) 8), .ref ((va_up (na_f o_7 u_8) 12 e_10) 9), .ref ((va_up (na_f o_7 u_8) 12 e_10) 10), .ref ((va_up (na_f o_7 u_8) 12 e_10) 11), .ref ((va_up (na_f o_7 u_8) 12 e_10) 12)])), (((va_up (na_f o_7 u_8) 12 e_10) 1), .inl (q 0, 4, .inl (S_11.2.1 0))), (((va_up (na_f o_7 u_8) 12 e_10) 2), .inl (q 0, 4, .inl (S_11.2.1 1))), (((va_up (na_f o_7 u_8) 12 e_10) 3), .inl (q 0, 160, .inl (S_11.2.1 2))), (((va_up (na_f o_7 u_8) 12 e_10) 4), .inl (q 0, 40, .inl (S_11.2.1 3))), (((va_up (na_f o_7 u_8) 12 e_10) 5), .inl (q 0, 40, .inl (S_11.2.1 4))), (((va_up (na_f o_7 u_8) 12 e_10) 6), .inl (q 0, 40, .inl (S_11.2.1 5))), (((va_up (na_f o_7 u_8) 12 e_10) 7), .inl (q 0, 40, .inl (S_11.2.1 6))), (((va_up (na_f o_7 u_8) 12 e_10) 8), .inl (q 0, 40, .inl (S_11.2.1 7))), (((va_up (na_f o_7 u_8) 12 e_10) 9), .inl (q 0, 40, .inl (S_11.2.1 8))), (((va_up (na_f o_7 u_8) 12 e_10) 10), .inl (q 0, 40, .inl (S_11.2.1 9))), (((va_up (na_f o_7 u_8) 12 e_10) 11), .inl (q 1, 40, .inr (.inl S_11.2.2.1))), (((va_up (na_f o_7 u_8) 12 e_10) 12), .inl (q 0, S_11.2.2.2.1, .inl S_11.2.2.2.2)), ((a2 0), .inr (0, [.int (s2.1 0), .int (s2.1 1), .int (s2.1 2), .int (s2.1 3), .int (s2.1 4), .int (s2.1 5), .ref (a2 1), .ref (a2 2), .ref (a2 3), .ref (a2 4), .ref (a2 5), .ref (a2 6), .ref (a2 7), .ref (a2 8), .ref (a2 9), .ref (a2 10), .ref (a2 11), .ref (a2 12)])), ((a2 1), .inl (q 0, 4, .inl (s2.2.1 0))), ((a2 2), .inl (q 0, 4, .inl (s2.2.1 1))), ((a2 3), .inl (q 0, 160, .inl (s2.2.1 2))), ((a2 4), .inl (q 0, 40, .inl (s2.2.1 3))), ((a2 5), .inl (q 0, 40, .inl (s2.2.1 4))), ((a2 6), .inl (q 0, 40, .inl (s2.2.1 5))), ((a2 7), .inl (q 0, 40, .inl (s2.2.1 6))), ((a2 8), .inl (q 0, 40, .inl (s2.2.1 7))), ((a2 9), .inl (q 0, 40, .inl (s2.2.1 8))), ((a2 10), .inl (q 0, 40, .inl (s2.2.1 9))), ((a2 11), .inl (q 1, 40, .inr (.inl s2.2.2.1))), ((a2 12), .inl (q 0, s2.2.2.2.1, .inl s2.2.2.2.2))] : va_W) ++ ps_w q 2 AA z7) H := hP
      have hD : va_D _ (([((a0 0), .inr (5, [.ref (a1 0), .ref (a2 0), .ref (a3 0), .ref (a4 0), .ref (a5 0), .ref p8, .ref s8])), (s8, .inl (q 4, 2, .inr (.inr (.inr (.inr (va_up (pf_f AA z7) (Int32.toNatClampNeg x1) (some ((na_f o_7 u_8) 0)))))))), (((va_up (na_f o_7 u_8) 12 e_10) 0), .inr (0, [.int (S_11.1 0), .int (S_11.1 1), .int (S_11.1 2), .int (S_11.1 3), .int (S_11.1 4), .int (S_11.1 5), .ref ((va_up (na_f o_7 u_8) 12 e_10) 1), .ref ((va_up (na_f o_7 u_8) 12 e_10) 2), .ref ((va_up (na_f o_7 u_8) 12 e_10) 3), .ref ((va_up (na_f o_7 u_8) 12 e_10) 4), .ref ((va_up (na_f o_7 u_8) 12 e_10) 5), .ref ((va_up (na_f o_7 u_8) 12 e_10) 6), .ref ((va_up (na_f o_7 u_8) 12 e_10) 7), .ref ((va_up (na_f o_7 u_8) 12 e_10) 8), .ref ((va_up (na_f o_7 u_8) 12 e_10) 9), .ref ((va_up (na_f o_7 u_8) 12 e_10) 10), .ref ((va_up (na_f o_7 u_8) 12 e_10) 11), .ref ((va_up (na_f o_7 u_8) 12 e_10) 12)])), (((va_up (na_f o_7 u_8) 12 e_10) 1), .inl (q 0, 4, .inl (S_11.2.1 0))), (((va_up (na_f o_7 u_8) 12 e_10) 2), .inl (q 0, 4, .inl (S_11.2.1 1))), (((va_up (na_f o_7 u_8) 12 e_10) 3), .inl (q 0, 160, .inl (S_11.2.1 2))), (((va_up (na_f o_7 u_8) 12 e_10) 4), .inl (q 0, 40, .inl (S_11.2.1 3))), (((va_up (na_f o_7 u_8) 12 e_10) 5), .inl (q 0, 40, .inl (S_11.2.1 4))), (((va_up (na_f o_7 u_8) 12 e_10) 6), .inl (q 0, 40, .inl (S_11.2.1 5))), (((va_up (na_f o_7 u_8) 12 e_10) 7), .inl (q 0, 40, .inl (S_11.2.1 6))), (((va_up (na_f o_7 u_8) 12 e_10) 8), .inl (q 0, 40, .inl (S_11.2.1 7))), (((va_up (na_f o_7 u_8) 12 e_10) 9), .inl (q 0, 40, .inl (S_11.2.1 8))), (((va_up (na_f o_7 u_8) 12 e_10) 10), .inl (q 0, 40, .inl (S_11.2.1 9))), (((va_up (na_f o_7 u_8) 12 e_10) 11), .inl (q 1, 40, .inr (.inl S_11.2.2.1))), (((va_up (na_f o_7 u_8) 12 e_10) 12), .inl (q 0, S_11.2.2.2.1, .inl S_11.2.2.2.2)), ((a2 0), .inr (0, [.int (s2.1 0), .int (s2.1 1), .int (s2.1 2), .int (s2.1 3), .int (s2.1 4), .int (s2.1 5), .ref (a2 1), .ref (a2 2), .ref (a2 3), .ref (a2 4), .ref (a2 5), .ref (a2 6), .ref (a2 7), .ref (a2 8), .ref (a2 9), .ref (a2 10), .ref (a2 11), .ref (a2 12)])), ((a2 1), .inl (q 0, 4, .inl (s2.2.1 0))), ((a2 2), .inl (q 0, 4, .inl (s2.2.1 1))), ((a2 3), .inl (q 0, 160, .inl (s2.2.1 2))), ((a2 4), .inl (q 0, 40, .inl (s2.2.1 3))), ((a2 5), .inl (q 0, 40, .inl (s2.2.1 4))), ((a2 6), .inl (q 0, 40, .inl (s2.2.1 5))), ((a2 7), .inl (q 0, 40, .inl (s2.2.1 6))), ((a2 8), .inl (q 0, 40, .inl (s2.2.1 7))), ((a2 9), .inl (q 0, 40, .inl (s2.2.1 8))), ((a2 10), .inl (q 0, 40, .inl (s2.2.1 9))), ((a2 11), .inl (q 1, 40, .inr (.inl s2.2.2.1))), ((a2 12), .inl (q 0, s2.2.2.2.1, .inl s2.2.2.2.2))] : va_W) ++ ps_w q 2 AA z7) := hD
      refine W.widen (k := 14) (n := 6906) (Nat.le_of_ble_eq_true rfl) (Nat.le_of_ble_eq_true rfl) ?_
      refine lv_aload_n hx hb dX6_keep_43 rfl (lv_at hl 1 rfl) ?_
      refine fl_get (C := RX6) (T := TX6) (N := 7) (ci := 5) (v := .ref (a2 0)) hx hb ht in_X6 hown hK hP 0 rfl rfl 1 (by decide) mw_356 rfl dX6_keep_44 ?_
      refine vp_callSi (rd_wV (wc := bd_w a2 q s2) (As := []) (rest := []) hx hb hml hown ht (c2_X0_cells h) wd_X0_cells mw_885 hQ hV hS (hP.sub [15, 16, 17, 18, 19, 20, 21, 22, 23, 24, 25, 26, 27] rfl) rfl rfl rfl hl.1 rfl (Nat.le_of_ble_eq_true rfl) dX6_keep_47 ⟨Nat.le_of_ble_eq_true rfl, Nat.le_of_ble_eq_true rfl, rfl, rfl⟩ ⟨Nat.le_of_ble_eq_true rfl, Nat.le_of_ble_eq_true rfl⟩) (fun r_12 h => ?_)
      try dsimp only at h
      rw [show (va_up (pf_f AA z7) (Int32.toNatClampNeg x1) (some ((na_f o_7 u_8) 0))) = pf_f (va_up AA (Int32.toNatClampNeg x1) (va_up (na_f o_7 u_8) 12 e_10)) (va_up z7 (Int32.toNatClampNeg x1) (some S_11)) from pf_up (a := (va_up (na_f o_7 u_8) 12 e_10))] at hP hD
      have hP := vp_tail (pn_same (q := q) (n := 2) (A := AA) (P := z7) (k := (Int32.toNatClampNeg x1)) hs_6).symm hP
      have hD := vd_tail (pn_same (q := q) (n := 2) (A := AA) (P := z7) (k := (Int32.toNatClampNeg x1)) hs_6).symm hD
      have hP := hP.part (cx := [((a0 0), .inr (5, [.ref (a1 0), .ref (a2 0), .ref (a3 0), .ref (a4 0), .ref (a5 0), .ref p8, .ref s8])), ((a2 0), .inr (0, [.int (s2.1 0), .int (s2.1 1), .int (s2.1 2), .int (s2.1 3), .int (s2.1 4), .int (s2.1 5), .ref (a2 1), .ref (a2 2), .ref (a2 3), .ref (a2 4), .ref (a2 5), .ref (a2 6), .ref (a2 7), .ref (a2 8), .ref (a2 9), .ref (a2 10), .ref (a2 11), .ref (a2 12)])), ((a2 1), .inl (q 0, 4, .inl (s2.2.1 0))), ((a2 2), .inl (q 0, 4, .inl (s2.2.1 1))), ((a2 3), .inl (q 0, 160, .inl (s2.2.1 2))), ((a2 4), .inl (q 0, 40, .inl (s2.2.1 3))), ((a2 5), .inl (q 0, 40, .inl (s2.2.1 4))), ((a2 6), .inl (q 0, 40, .inl (s2.2.1 5))), ((a2 7), .inl (q 0, 40, .inl (s2.2.1 6))), ((a2 8), .inl (q 0, 40, .inl (s2.2.1 7))), ((a2 9), .inl (q 0, 40, .inl (s2.2.1 8))), ((a2 10), .inl (q 0, 40, .inl (s2.2.1 9))), ((a2 11), .inl (q 1, 40, .inr (.inl s2.2.2.1))), ((a2 12), .inl (q 0, s2.2.2.2.1, .inl s2.2.2.2.2)), (s8, .inl (q 4, 2, .inr (.inr (.inr (.inr (pf_f (va_up AA (Int32.toNatClampNeg x1) (va_up (na_f o_7 u_8) 12 e_10)) (va_up z7 (Int32.toNatClampNeg x1) (some S_11)))))))), (((va_up (na_f o_7 u_8) 12 e_10) 0), .inr (0, [.int (S_11.1 0), .int (S_11.1 1), .int (S_11.1 2), .int (S_11.1 3), .int (S_11.1 4), .int (S_11.1 5), .ref ((va_up (na_f o_7 u_8) 12 e_10) 1), .ref ((va_up (na_f o_7 u_8) 12 e_10) 2), .ref ((va_up (na_f o_7 u_8) 12 e_10) 3), .ref ((va_up (na_f o_7 u_8) 12 e_10) 4), .ref ((va_up (na_f o_7 u_8) 12 e_10) 5), .ref ((va_up (na_f o_7 u_8) 12 e_10) 6), .ref ((va_up (na_f o_7 u_8) 12 e_10) 7), .ref ((va_up (na_f o_7 u_8) 12 e_10) 8), .ref ((va_up (na_f o_7 u_8) 12 e_10) 9), .ref ((va_up (na_f o_7 u_8) 12 e_10) 10), .ref ((va_up (na_f o_7 u_8) 12 e_10) 11), .ref ((va_up (na_f o_7 u_8) 12 e_10) 12)])), (((va_up (na_f o_7 u_8) 12 e_10) 1), .inl (q 0, 4, .inl (S_11.2.1 0))), (((va_up (na_f o_7 u_8) 12 e_10) 2), .inl (q 0, 4, .inl (S_11.2.1 1))), (((va_up (na_f o_7 u_8) 12 e_10) 3), .inl (q 0, 160, .inl (S_11.2.1 2))), (((va_up (na_f o_7 u_8) 12 e_10) 4), .inl (q 0, 40, .inl (S_11.2.1 3))), (((va_up (na_f o_7 u_8) 12 e_10) 5), .inl (q 0, 40, .inl (S_11.2.1 4))), (((va_up (na_f o_7 u_8) 12 e_10) 6), .inl (q 0, 40, .inl (S_11.2.1 5))), (((va_up (na_f o_7 u_8) 12 e_10) 7), .inl (q 0, 40, .inl (S_11.2.1 6))), (((va_up (na_f o_7 u_8) 12 e_10) 8), .inl (q 0, 40, .inl (S_11.2.1 7))), (((va_up (na_f o_7 u_8) 12 e_10) 9), .inl (q 0, 40, .inl (S_11.2.1 8))), (((va_up (na_f o_7 u_8) 12 e_10) 10), .inl (q 0, 40, .inl (S_11.2.1 9))), (((va_up (na_f o_7 u_8) 12 e_10) 11), .inl (q 1, 40, .inr (.inl S_11.2.2.1))), (((va_up (na_f o_7 u_8) 12 e_10) 12), .inl (q 0, S_11.2.2.2.1, .inl S_11.2.2.2.2))]) [0, 15, 16, 17, 18, 19, 20, 21, 22, 23, 24, 25, 26, 27, 1, 2, 3, 4, 5, 6, 7, 8, 9, 10, 11, 12, 13, 14] rfl
      have hD := hD.part (cx := [((a0 0), .inr (5, [.ref (a1 0), .ref (a2 0), .ref (a3 0), .ref (a4 0), .ref (a5 0), .ref p8, .ref s8])), ((a2 0), .inr (0, [.int (s2.1 0), .int (s2.1 1), .int (s2.1 2), .int (s2.1 3), .int (s2.1 4), .int (s2.1 5), .ref (a2 1), .ref (a2 2), .ref (a2 3), .ref (a2 4), .ref (a2 5), .ref (a2 6), .ref (a2 7), .ref (a2 8), .ref (a2 9), .ref (a2 10), .ref (a2 11), .ref (a2 12)])), ((a2 1), .inl (q 0, 4, .inl (s2.2.1 0))), ((a2 2), .inl (q 0, 4, .inl (s2.2.1 1))), ((a2 3), .inl (q 0, 160, .inl (s2.2.1 2))), ((a2 4), .inl (q 0, 40, .inl (s2.2.1 3))), ((a2 5), .inl (q 0, 40, .inl (s2.2.1 4))), ((a2 6), .inl (q 0, 40, .inl (s2.2.1 5))), ((a2 7), .inl (q 0, 40, .inl (s2.2.1 6))), ((a2 8), .inl (q 0, 40, .inl (s2.2.1 7))), ((a2 9), .inl (q 0, 40, .inl (s2.2.1 8))), ((a2 10), .inl (q 0, 40, .inl (s2.2.1 9))), ((a2 11), .inl (q 1, 40, .inr (.inl s2.2.2.1))), ((a2 12), .inl (q 0, s2.2.2.2.1, .inl s2.2.2.2.2)), (s8, .inl (q 4, 2, .inr (.inr (.inr (.inr (pf_f (va_up AA (Int32.toNatClampNeg x1) (va_up (na_f o_7 u_8) 12 e_10)) (va_up z7 (Int32.toNatClampNeg x1) (some S_11)))))))), (((va_up (na_f o_7 u_8) 12 e_10) 0), .inr (0, [.int (S_11.1 0), .int (S_11.1 1), .int (S_11.1 2), .int (S_11.1 3), .int (S_11.1 4), .int (S_11.1 5), .ref ((va_up (na_f o_7 u_8) 12 e_10) 1), .ref ((va_up (na_f o_7 u_8) 12 e_10) 2), .ref ((va_up (na_f o_7 u_8) 12 e_10) 3), .ref ((va_up (na_f o_7 u_8) 12 e_10) 4), .ref ((va_up (na_f o_7 u_8) 12 e_10) 5), .ref ((va_up (na_f o_7 u_8) 12 e_10) 6), .ref ((va_up (na_f o_7 u_8) 12 e_10) 7), .ref ((va_up (na_f o_7 u_8) 12 e_10) 8), .ref ((va_up (na_f o_7 u_8) 12 e_10) 9), .ref ((va_up (na_f o_7 u_8) 12 e_10) 10), .ref ((va_up (na_f o_7 u_8) 12 e_10) 11), .ref ((va_up (na_f o_7 u_8) 12 e_10) 12)])), (((va_up (na_f o_7 u_8) 12 e_10) 1), .inl (q 0, 4, .inl (S_11.2.1 0))), (((va_up (na_f o_7 u_8) 12 e_10) 2), .inl (q 0, 4, .inl (S_11.2.1 1))), (((va_up (na_f o_7 u_8) 12 e_10) 3), .inl (q 0, 160, .inl (S_11.2.1 2))), (((va_up (na_f o_7 u_8) 12 e_10) 4), .inl (q 0, 40, .inl (S_11.2.1 3))), (((va_up (na_f o_7 u_8) 12 e_10) 5), .inl (q 0, 40, .inl (S_11.2.1 4))), (((va_up (na_f o_7 u_8) 12 e_10) 6), .inl (q 0, 40, .inl (S_11.2.1 5))), (((va_up (na_f o_7 u_8) 12 e_10) 7), .inl (q 0, 40, .inl (S_11.2.1 6))), (((va_up (na_f o_7 u_8) 12 e_10) 8), .inl (q 0, 40, .inl (S_11.2.1 7))), (((va_up (na_f o_7 u_8) 12 e_10) 9), .inl (q 0, 40, .inl (S_11.2.1 8))), (((va_up (na_f o_7 u_8) 12 e_10) 10), .inl (q 0, 40, .inl (S_11.2.1 9))), (((va_up (na_f o_7 u_8) 12 e_10) 11), .inl (q 1, 40, .inr (.inl S_11.2.2.1))), (((va_up (na_f o_7 u_8) 12 e_10) 12), .inl (q 0, S_11.2.2.2.1, .inl S_11.2.2.2.2))]) [0, 15, 16, 17, 18, 19, 20, 21, 22, 23, 24, 25, 26, 27, 1, 2, 3, 4, 5, 6, 7, 8, 9, 10, 11, 12, 13, 14] (by decide) rfl
      have hP : va_P D vwCl ((([((a0 0), .inr (5, [.ref (a1 0), .ref (a2 0), .ref (a3 0), .ref (a4 0), .ref (a5 0), .ref p8, .ref s8])), ((a2 0), .inr (0, [.int (s2.1 0), .int (s2.1 1), .int (s2.1 2), .int (s2.1 3), .int (s2.1 4), .int (s2.1 5), .ref (a2 1), .ref (a2 2), .ref (a2 3), .ref (a2 4), .ref (a2 5), .ref (a2 6), .ref (a2 7), .ref (a2 8), .ref (a2 9), .ref (a2 10), .ref (a2 11), .ref (a2 12)])), ((a2 1), .inl (q 0, 4, .inl (s2.2.1 0))), ((a2 2), .inl (q 0, 4, .inl (s2.2.1 1))), ((a2 3), .inl (q 0, 160, .inl (s2.2.1 2))), ((a2 4), .inl (q 0, 40, .inl (s2.2.1 3))), ((a2 5), .inl (q 0, 40, .inl (s2.2.1 4))), ((a2 6), .inl (q 0, 40, .inl (s2.2.1 5))), ((a2 7), .inl (q 0, 40, .inl (s2.2.1 6))), ((a2 8), .inl (q 0, 40, .inl (s2.2.1 7))), ((a2 9), .inl (q 0, 40, .inl (s2.2.1 8))), ((a2 10), .inl (q 0, 40, .inl (s2.2.1 9))), ((a2 11), .inl (q 1, 40, .inr (.inl s2.2.2.1))), ((a2 12), .inl (q 0, s2.2.2.2.1, .inl s2.2.2.2.2)), (s8, .inl (q 4, 2, .inr (.inr (.inr (.inr (pf_f (va_up AA (Int32.toNatClampNeg x1) (va_up (na_f o_7 u_8) 12 e_10)) (va_up z7 (Int32.toNatClampNeg x1) (some S_11))))))))] : va_W) ++ bd_w (va_up (na_f o_7 u_8) 12 e_10) q S_11) ++ ps_w q 2 AA (va_up z7 (Int32.toNatClampNeg x1) none)) H := hP
      have hD : va_D _ ((([((a0 0), .inr (5, [.ref (a1 0), .ref (a2 0), .ref (a3 0), .ref (a4 0), .ref (a5 0), .ref p8, .ref s8])), ((a2 0), .inr (0, [.int (s2.1 0), .int (s2.1 1), .int (s2.1 2), .int (s2.1 3), .int (s2.1 4), .int (s2.1 5), .ref (a2 1), .ref (a2 2), .ref (a2 3), .ref (a2 4), .ref (a2 5), .ref (a2 6), .ref (a2 7), .ref (a2 8), .ref (a2 9), .ref (a2 10), .ref (a2 11), .ref (a2 12)])), ((a2 1), .inl (q 0, 4, .inl (s2.2.1 0))), ((a2 2), .inl (q 0, 4, .inl (s2.2.1 1))), ((a2 3), .inl (q 0, 160, .inl (s2.2.1 2))), ((a2 4), .inl (q 0, 40, .inl (s2.2.1 3))), ((a2 5), .inl (q 0, 40, .inl (s2.2.1 4))), ((a2 6), .inl (q 0, 40, .inl (s2.2.1 5))), ((a2 7), .inl (q 0, 40, .inl (s2.2.1 6))), ((a2 8), .inl (q 0, 40, .inl (s2.2.1 7))), ((a2 9), .inl (q 0, 40, .inl (s2.2.1 8))), ((a2 10), .inl (q 0, 40, .inl (s2.2.1 9))), ((a2 11), .inl (q 1, 40, .inr (.inl s2.2.2.1))), ((a2 12), .inl (q 0, s2.2.2.2.1, .inl s2.2.2.2.2)), (s8, .inl (q 4, 2, .inr (.inr (.inr (.inr (pf_f (va_up AA (Int32.toNatClampNeg x1) (va_up (na_f o_7 u_8) 12 e_10)) (va_up z7 (Int32.toNatClampNeg x1) (some S_11))))))))] : va_W) ++ bd_w (va_up (na_f o_7 u_8) 12 e_10) q S_11) ++ ps_w q 2 AA (va_up z7 (Int32.toNatClampNeg x1) none)) := hD
      have hP := vp_perm (pc_perm [((a0 0), .inr (5, [.ref (a1 0), .ref (a2 0), .ref (a3 0), .ref (a4 0), .ref (a5 0), .ref p8, .ref s8])), ((a2 0), .inr (0, [.int (s2.1 0), .int (s2.1 1), .int (s2.1 2), .int (s2.1 3), .int (s2.1 4), .int (s2.1 5), .ref (a2 1), .ref (a2 2), .ref (a2 3), .ref (a2 4), .ref (a2 5), .ref (a2 6), .ref (a2 7), .ref (a2 8), .ref (a2 9), .ref (a2 10), .ref (a2 11), .ref (a2 12)])), ((a2 1), .inl (q 0, 4, .inl (s2.2.1 0))), ((a2 2), .inl (q 0, 4, .inl (s2.2.1 1))), ((a2 3), .inl (q 0, 160, .inl (s2.2.1 2))), ((a2 4), .inl (q 0, 40, .inl (s2.2.1 3))), ((a2 5), .inl (q 0, 40, .inl (s2.2.1 4))), ((a2 6), .inl (q 0, 40, .inl (s2.2.1 5))), ((a2 7), .inl (q 0, 40, .inl (s2.2.1 6))), ((a2 8), .inl (q 0, 40, .inl (s2.2.1 7))), ((a2 9), .inl (q 0, 40, .inl (s2.2.1 8))), ((a2 10), .inl (q 0, 40, .inl (s2.2.1 9))), ((a2 11), .inl (q 1, 40, .inr (.inl s2.2.2.1))), ((a2 12), .inl (q 0, s2.2.2.2.1, .inl s2.2.2.2.2)), (s8, .inl (q 4, 2, .inr (.inr (.inr (.inr (pf_f (va_up AA (Int32.toNatClampNeg x1) (va_up (na_f o_7 u_8) 12 e_10)) (va_up z7 (Int32.toNatClampNeg x1) (some S_11))))))))] (in_lt g_4)) hP
      have hD := vd_perm (pc_perm [((a0 0), .inr (5, [.ref (a1 0), .ref (a2 0), .ref (a3 0), .ref (a4 0), .ref (a5 0), .ref p8, .ref s8])), ((a2 0), .inr (0, [.int (s2.1 0), .int (s2.1 1), .int (s2.1 2), .int (s2.1 3), .int (s2.1 4), .int (s2.1 5), .ref (a2 1), .ref (a2 2), .ref (a2 3), .ref (a2 4), .ref (a2 5), .ref (a2 6), .ref (a2 7), .ref (a2 8), .ref (a2 9), .ref (a2 10), .ref (a2 11), .ref (a2 12)])), ((a2 1), .inl (q 0, 4, .inl (s2.2.1 0))), ((a2 2), .inl (q 0, 4, .inl (s2.2.1 1))), ((a2 3), .inl (q 0, 160, .inl (s2.2.1 2))), ((a2 4), .inl (q 0, 40, .inl (s2.2.1 3))), ((a2 5), .inl (q 0, 40, .inl (s2.2.1 4))), ((a2 6), .inl (q 0, 40, .inl (s2.2.1 5))), ((a2 7), .inl (q 0, 40, .inl (s2.2.1 6))), ((a2 8), .inl (q 0, 40, .inl (s2.2.1 7))), ((a2 9), .inl (q 0, 40, .inl (s2.2.1 8))), ((a2 10), .inl (q 0, 40, .inl (s2.2.1 9))), ((a2 11), .inl (q 1, 40, .inr (.inl s2.2.2.1))), ((a2 12), .inl (q 0, s2.2.2.2.1, .inl s2.2.2.2.2)), (s8, .inl (q 4, 2, .inr (.inr (.inr (.inr (pf_f (va_up AA (Int32.toNatClampNeg x1) (va_up (na_f o_7 u_8) 12 e_10)) (va_up z7 (Int32.toNatClampNeg x1) (some S_11))))))))] (in_lt g_4)) hD
      exact mt_iret ((va_up AA (Int32.toNatClampNeg x1) (va_up (na_f o_7 u_8) 12 e_10)), (va_up z7 (Int32.toNatClampNeg x1) (some S_11))) hx hb hr hk h hP hD hS dX6_keep_50
    | some S_5 =>
      rw [hs_6] at h
      dsimp only at h
      refine ab_q (pf_so hs_6) ?_
      refine ab_ref ?_
      have hP := vp_perm (po_perm [((a0 0), .inr (5, [.ref (a1 0), .ref (a2 0), .ref (a3 0), .ref (a4 0), .ref (a5 0), .ref p8, .ref s8])), ((a2 0), .inr (0, [.int (s2.1 0), .int (s2.1 1), .int (s2.1 2), .int (s2.1 3), .int (s2.1 4), .int (s2.1 5), .ref (a2 1), .ref (a2 2), .ref (a2 3), .ref (a2 4), .ref (a2 5), .ref (a2 6), .ref (a2 7), .ref (a2 8), .ref (a2 9), .ref (a2 10), .ref (a2 11), .ref (a2 12)])), ((a2 1), .inl (q 0, 4, .inl (s2.2.1 0))), ((a2 2), .inl (q 0, 4, .inl (s2.2.1 1))), ((a2 3), .inl (q 0, 160, .inl (s2.2.1 2))), ((a2 4), .inl (q 0, 40, .inl (s2.2.1 3))), ((a2 5), .inl (q 0, 40, .inl (s2.2.1 4))), ((a2 6), .inl (q 0, 40, .inl (s2.2.1 5))), ((a2 7), .inl (q 0, 40, .inl (s2.2.1 6))), ((a2 8), .inl (q 0, 40, .inl (s2.2.1 7))), ((a2 9), .inl (q 0, 40, .inl (s2.2.1 8))), ((a2 10), .inl (q 0, 40, .inl (s2.2.1 9))), ((a2 11), .inl (q 1, 40, .inr (.inl s2.2.2.1))), ((a2 12), .inl (q 0, s2.2.2.2.1, .inl s2.2.2.2.2)), (s8, .inl (q 4, 2, .inr (.inr (.inr (.inr (pf_f AA z7))))))] (in_lt g_4) hs_6) hP
      have hD := vd_perm (po_perm [((a0 0), .inr (5, [.ref (a1 0), .ref (a2 0), .ref (a3 0), .ref (a4 0), .ref (a5 0), .ref p8, .ref s8])), ((a2 0), .inr (0, [.int (s2.1 0), .int (s2.1 1), .int (s2.1 2), .int (s2.1 3), .int (s2.1 4), .int (s2.1 5), .ref (a2 1), .ref (a2 2), .ref (a2 3), .ref (a2 4), .ref (a2 5), .ref (a2 6), .ref (a2 7), .ref (a2 8), .ref (a2 9), .ref (a2 10), .ref (a2 11), .ref (a2 12)])), ((a2 1), .inl (q 0, 4, .inl (s2.2.1 0))), ((a2 2), .inl (q 0, 4, .inl (s2.2.1 1))), ((a2 3), .inl (q 0, 160, .inl (s2.2.1 2))), ((a2 4), .inl (q 0, 40, .inl (s2.2.1 3))), ((a2 5), .inl (q 0, 40, .inl (s2.2.1 4))), ((a2 6), .inl (q 0, 40, .inl (s2.2.1 5))), ((a2 7), .inl (q 0, 40, .inl (s2.2.1 6))), ((a2 8), .inl (q 0, 40, .inl (s2.2.1 7))), ((a2 9), .inl (q 0, 40, .inl (s2.2.1 8))), ((a2 10), .inl (q 0, 40, .inl (s2.2.1 9))), ((a2 11), .inl (q 1, 40, .inr (.inl s2.2.2.1))), ((a2 12), .inl (q 0, s2.2.2.2.1, .inl s2.2.2.2.2)), (s8, .inl (q 4, 2, .inr (.inr (.inr (.inr (pf_f AA z7))))))] (in_lt g_4) hs_6) hD
      have hP : va_P D vwCl (([((a0 0), .inr (5, [.ref (a1 0), .ref (a2 0), .ref (a3 0), .ref (a4 0), .ref (a5 0), .ref p8, .ref s8])), ((a2 0), .inr (0, [.int (s2.1 0), .int (s2.1 1), .int (s2.1 2), .int (s2.1 3), .int (s2.1 4), .int (s2.1 5), .ref (a2 1), .ref (a2 2), .ref (a2 3), .ref (a2 4), .ref (a2 5), .ref (a2 6), .ref (a2 7), .ref (a2 8), .ref (a2 9), .ref (a2 10), .ref (a2 11), .ref (a2 12)])), ((a2 1), .inl (q 0, 4, .inl (s2.2.1 0))), ((a2 2), .inl (q 0, 4, .inl (s2.2.1 1))), ((a2 3), .inl (q 0, 160, .inl (s2.2.1 2))), ((a2 4), .inl (q 0, 40, .inl (s2.2.1 3))), ((a2 5), .inl (q 0, 40, .inl (s2.2.1 4))), ((a2 6), .inl (q 0, 40, .inl (s2.2.1 5))), ((a2 7), .inl (q 0, 40, .inl (s2.2.1 6))), ((a2 8), .inl (q 0, 40, .inl (s2.2.1 7))), ((a2 9), .inl (q 0, 40, .inl (s2.2.1 8))), ((a2 10), .inl (q 0, 40, .inl (s2.2.1 9))), ((a2 11), .inl (q 1, 40, .inr (.inl s2.2.2.1))), ((a2 12), .inl (q 0, s2.2.2.2.1, .inl s2.2.2.2.2)), (s8, .inl (q 4, 2, .inr (.inr (.inr (.inr (pf_f AA z7)))))), (((AA (Int32.toNatClampNeg x1)) 0), .inr (0, [.int (S_5.1 0), .int (S_5.1 1), .int (S_5.1 2), .int (S_5.1 3), .int (S_5.1 4), .int (S_5.1 5), .ref ((AA (Int32.toNatClampNeg x1)) 1), .ref ((AA (Int32.toNatClampNeg x1)) 2), .ref ((AA (Int32.toNatClampNeg x1)) 3), .ref ((AA (Int32.toNatClampNeg x1)) 4), .ref ((AA (Int32.toNatClampNeg x1)) 5), .ref ((AA (Int32.toNatClampNeg x1)) 6), .ref ((AA (Int32.toNatClampNeg x1)) 7), .ref ((AA (Int32.toNatClampNeg x1)) 8), .ref ((AA (Int32.toNatClampNeg x1)) 9), .ref ((AA (Int32.toNatClampNeg x1)) 10), .ref ((AA (Int32.toNatClampNeg x1)) 11), .ref ((AA (Int32.toNatClampNeg x1)) 12)])), (((AA (Int32.toNatClampNeg x1)) 1), .inl (q 0, 4, .inl (S_5.2.1 0))), (((AA (Int32.toNatClampNeg x1)) 2), .inl (q 0, 4, .inl (S_5.2.1 1))), (((AA (Int32.toNatClampNeg x1)) 3), .inl (q 0, 160, .inl (S_5.2.1 2))), (((AA (Int32.toNatClampNeg x1)) 4), .inl (q 0, 40, .inl (S_5.2.1 3))), (((AA (Int32.toNatClampNeg x1)) 5), .inl (q 0, 40, .inl (S_5.2.1 4))), (((AA (Int32.toNatClampNeg x1)) 6), .inl (q 0, 40, .inl (S_5.2.1 5))), (((AA (Int32.toNatClampNeg x1)) 7), .inl (q 0, 40, .inl (S_5.2.1 6))), (((AA (Int32.toNatClampNeg x1)) 8), .inl (q 0, 40, .inl (S_5.2.1 7))), (((AA (Int32.toNatClampNeg x1)) 9), .inl (q 0, 40, .inl (S_5.2.1 8))), (((AA (Int32.toNatClampNeg x1)) 10), .inl (q 0, 40, .inl (S_5.2.1 9))), (((AA (Int32.toNatClampNeg x1)) 11), .inl (q 1, 40, .inr (.inl S_5.2.2.1))), (((AA (Int32.toNatClampNeg x1)) 12), .inl (q 0, S_5.2.2.2.1, .inl S_5.2.2.2.2))] : va_W) ++ ps_w q 2 AA (va_up z7 (Int32.toNatClampNeg x1) none)) s.heap := hP
      have hD : va_D _ (([((a0 0), .inr (5, [.ref (a1 0), .ref (a2 0), .ref (a3 0), .ref (a4 0), .ref (a5 0), .ref p8, .ref s8])), ((a2 0), .inr (0, [.int (s2.1 0), .int (s2.1 1), .int (s2.1 2), .int (s2.1 3), .int (s2.1 4), .int (s2.1 5), .ref (a2 1), .ref (a2 2), .ref (a2 3), .ref (a2 4), .ref (a2 5), .ref (a2 6), .ref (a2 7), .ref (a2 8), .ref (a2 9), .ref (a2 10), .ref (a2 11), .ref (a2 12)])), ((a2 1), .inl (q 0, 4, .inl (s2.2.1 0))), ((a2 2), .inl (q 0, 4, .inl (s2.2.1 1))), ((a2 3), .inl (q 0, 160, .inl (s2.2.1 2))), ((a2 4), .inl (q 0, 40, .inl (s2.2.1 3))), ((a2 5), .inl (q 0, 40, .inl (s2.2.1 4))), ((a2 6), .inl (q 0, 40, .inl (s2.2.1 5))), ((a2 7), .inl (q 0, 40, .inl (s2.2.1 6))), ((a2 8), .inl (q 0, 40, .inl (s2.2.1 7))), ((a2 9), .inl (q 0, 40, .inl (s2.2.1 8))), ((a2 10), .inl (q 0, 40, .inl (s2.2.1 9))), ((a2 11), .inl (q 1, 40, .inr (.inl s2.2.2.1))), ((a2 12), .inl (q 0, s2.2.2.2.1, .inl s2.2.2.2.2)), (s8, .inl (q 4, 2, .inr (.inr (.inr (.inr (pf_f AA z7)))))), (((AA (Int32.toNatClampNeg x1)) 0), .inr (0, [.int (S_5.1 0), .int (S_5.1 1), .int (S_5.1 2), .int (S_5.1 3), .int (S_5.1 4), .int (S_5.1 5), .ref ((AA (Int32.toNatClampNeg x1)) 1), .ref ((AA (Int32.toNatClampNeg x1)) 2), .ref ((AA (Int32.toNatClampNeg x1)) 3), .ref ((AA (Int32.toNatClampNeg x1)) 4), .ref ((AA (Int32.toNatClampNeg x1)) 5), .ref ((AA (Int32.toNatClampNeg x1)) 6), .ref ((AA (Int32.toNatClampNeg x1)) 7), .ref ((AA (Int32.toNatClampNeg x1)) 8), .ref ((AA (Int32.toNatClampNeg x1)) 9), .ref ((AA (Int32.toNatClampNeg x1)) 10), .ref ((AA (Int32.toNatClampNeg x1)) 11), .ref ((AA (Int32.toNatClampNeg x1)) 12)])), (((AA (Int32.toNatClampNeg x1)) 1), .inl (q 0, 4, .inl (S_5.2.1 0))), (((AA (Int32.toNatClampNeg x1)) 2), .inl (q 0, 4, .inl (S_5.2.1 1))), (((AA (Int32.toNatClampNeg x1)) 3), .inl (q 0, 160, .inl (S_5.2.1 2))), (((AA (Int32.toNatClampNeg x1)) 4), .inl (q 0, 40, .inl (S_5.2.1 3))), (((AA (Int32.toNatClampNeg x1)) 5), .inl (q 0, 40, .inl (S_5.2.1 4))), (((AA (Int32.toNatClampNeg x1)) 6), .inl (q 0, 40, .inl (S_5.2.1 5))), (((AA (Int32.toNatClampNeg x1)) 7), .inl (q 0, 40, .inl (S_5.2.1 6))), (((AA (Int32.toNatClampNeg x1)) 8), .inl (q 0, 40, .inl (S_5.2.1 7))), (((AA (Int32.toNatClampNeg x1)) 9), .inl (q 0, 40, .inl (S_5.2.1 8))), (((AA (Int32.toNatClampNeg x1)) 10), .inl (q 0, 40, .inl (S_5.2.1 9))), (((AA (Int32.toNatClampNeg x1)) 11), .inl (q 1, 40, .inr (.inl S_5.2.2.1))), (((AA (Int32.toNatClampNeg x1)) 12), .inl (q 0, S_5.2.2.2.1, .inl S_5.2.2.2.2))] : va_W) ++ ps_w q 2 AA (va_up z7 (Int32.toNatClampNeg x1) none)) := hD
      refine lv_astore_n (lv' := [(2, .ref ((AA (Int32.toNatClampNeg x1)) 0)), (0, .ref (a0 0)), (1, .int x1)]) hx hb dX6_keep_15 rfl hl (by decide) rfl (fun ls hl => ?_)
      refine lv_aload_n hx hb dX6_keep_16 rfl (lv_at hl 0 rfl) ?_
      refine lv_ifnonnull (tgt := 35) hx hb dX6_keep_17 (by decide) ?_
      refine lv_aload_n hx hb dX6_keep_35 rfl (lv_at hl 0 rfl) ?_
      refine lv_aload_n hx hb dX6_keep_36 rfl (lv_at hl 1 rfl) ?_
      refine fl_get (C := RX6) (T := TX6) (N := 7) (ci := 5) (v := .ref (a2 0)) hx hb ht in_X6 hown hK hP 0 rfl rfl 1 (by decide) mw_356 rfl dX6_keep_37 ?_
      refine mt_govQ (X := [((a0 0), .inr (5, [.ref (a1 0), .ref (a2 0), .ref (a3 0), .ref (a4 0), .ref (a5 0), .ref p8, .ref s8])), ((a2 0), .inr (0, [.int (s2.1 0), .int (s2.1 1), .int (s2.1 2), .int (s2.1 3), .int (s2.1 4), .int (s2.1 5), .ref (a2 1), .ref (a2 2), .ref (a2 3), .ref (a2 4), .ref (a2 5), .ref (a2 6), .ref (a2 7), .ref (a2 8), .ref (a2 9), .ref (a2 10), .ref (a2 11), .ref (a2 12)])), ((a2 1), .inl (q 0, 4, .inl (s2.2.1 0))), ((a2 2), .inl (q 0, 4, .inl (s2.2.1 1))), ((a2 3), .inl (q 0, 160, .inl (s2.2.1 2))), ((a2 4), .inl (q 0, 40, .inl (s2.2.1 3))), ((a2 5), .inl (q 0, 40, .inl (s2.2.1 4))), ((a2 6), .inl (q 0, 40, .inl (s2.2.1 5))), ((a2 7), .inl (q 0, 40, .inl (s2.2.1 6))), ((a2 8), .inl (q 0, 40, .inl (s2.2.1 7))), ((a2 9), .inl (q 0, 40, .inl (s2.2.1 8))), ((a2 10), .inl (q 0, 40, .inl (s2.2.1 9))), ((a2 11), .inl (q 1, 40, .inr (.inl s2.2.2.1))), ((a2 12), .inl (q 0, s2.2.2.2.1, .inl s2.2.2.2.2)), (s8, .inl (q 4, 2, .inr (.inr (.inr (.inr (pf_f AA z7)))))), (((AA (Int32.toNatClampNeg x1)) 0), .inr (0, [.int (S_5.1 0), .int (S_5.1 1), .int (S_5.1 2), .int (S_5.1 3), .int (S_5.1 4), .int (S_5.1 5), .ref ((AA (Int32.toNatClampNeg x1)) 1), .ref ((AA (Int32.toNatClampNeg x1)) 2), .ref ((AA (Int32.toNatClampNeg x1)) 3), .ref ((AA (Int32.toNatClampNeg x1)) 4), .ref ((AA (Int32.toNatClampNeg x1)) 5), .ref ((AA (Int32.toNatClampNeg x1)) 6), .ref ((AA (Int32.toNatClampNeg x1)) 7), .ref ((AA (Int32.toNatClampNeg x1)) 8), .ref ((AA (Int32.toNatClampNeg x1)) 9), .ref ((AA (Int32.toNatClampNeg x1)) 10), .ref ((AA (Int32.toNatClampNeg x1)) 11), .ref ((AA (Int32.toNatClampNeg x1)) 12)])), (((AA (Int32.toNatClampNeg x1)) 1), .inl (q 0, 4, .inl (S_5.2.1 0))), (((AA (Int32.toNatClampNeg x1)) 2), .inl (q 0, 4, .inl (S_5.2.1 1))), (((AA (Int32.toNatClampNeg x1)) 3), .inl (q 0, 160, .inl (S_5.2.1 2))), (((AA (Int32.toNatClampNeg x1)) 4), .inl (q 0, 40, .inl (S_5.2.1 3))), (((AA (Int32.toNatClampNeg x1)) 5), .inl (q 0, 40, .inl (S_5.2.1 4))), (((AA (Int32.toNatClampNeg x1)) 6), .inl (q 0, 40, .inl (S_5.2.1 5))), (((AA (Int32.toNatClampNeg x1)) 7), .inl (q 0, 40, .inl (S_5.2.1 6))), (((AA (Int32.toNatClampNeg x1)) 8), .inl (q 0, 40, .inl (S_5.2.1 7))), (((AA (Int32.toNatClampNeg x1)) 9), .inl (q 0, 40, .inl (S_5.2.1 8))), (((AA (Int32.toNatClampNeg x1)) 10), .inl (q 0, 40, .inl (S_5.2.1 9))), (((AA (Int32.toNatClampNeg x1)) 11), .inl (q 1, 40, .inr (.inl S_5.2.2.1))), (((AA (Int32.toNatClampNeg x1)) 12), .inl (q 0, S_5.2.2.2.1, .inl S_5.2.2.2.2))]) (pl := ps_w q 2 AA (va_up z7 (Int32.toNatClampNeg x1) none)) (mt_wV (wc := bd_w (AA (Int32.toNatClampNeg x1)) q S_5 ++ bd_w a2 q s2) (As := [.ref (a2 0)]) (rest := []) hx hb hml hown ht (c2_X0_copyAll h) wd_X0_copyAll mw_884 hQ hV hS hA (hP.sub [15, 16, 17, 18, 19, 20, 21, 22, 23, 24, 25, 26, 27, 1, 2, 3, 4, 5, 6, 7, 8, 9, 10, 11, 12, 13] rfl) (hD.sub [15, 16, 17, 18, 19, 20, 21, 22, 23, 24, 25, 26, 27, 1, 2, 3, 4, 5, 6, 7, 8, 9, 10, 11, 12, 13] (by decide) rfl) rfl rfl rfl hl.1 rfl (Nat.le_of_ble_eq_true rfl) dX6_keep_40 ⟨Nat.le_of_ble_eq_true rfl, Nat.le_of_ble_eq_true rfl, rfl, rfl⟩ ⟨Nat.le_of_ble_eq_true rfl, Nat.le_of_ble_eq_true rfl⟩) (wr := [((a0 0), .inr (5, [.ref (a1 0), .ref (a2 0), .ref (a3 0), .ref (a4 0), .ref (a5 0), .ref p8, .ref s8])), (s8, .inl (q 4, 2, .inr (.inr (.inr (.inr (pf_f AA z7))))))]) hP hD hS hA [15, 16, 17, 18, 19, 20, 21, 22, 23, 24, 25, 26, 27, 1, 2, 3, 4, 5, 6, 7, 8, 9, 10, 11, 12, 13] [0, 14] rfl rfl (by decide) (by decide) (fun u_14 H locs h hP hD hS => ?_)
      obtain ⟨e_15, S_16⟩ := u_14
      try dsimp only at h
      have hP : va_P D vwCl (([((a0 0), .inr (5, [.ref (a1 0), .ref (a2 0), .ref (a3 0), .ref (a4 0), .ref (a5 0), .ref p8, .ref s8])), (s8, .inl (q 4, 2, .inr (.inr (.inr (.inr (pf_f AA z7)))))), (((va_up (AA (Int32.toNatClampNeg x1)) 12 e_15) 0), .inr (0, [.int (S_16.1 0), .int (S_16.1 1), .int (S_16.1 2), .int (S_16.1 3), .int (S_16.1 4), .int (S_16.1 5), .ref ((va_up (AA (Int32.toNatClampNeg x1)) 12 e_15) 1), .ref ((va_up (AA (Int32.toNatClampNeg x1)) 12 e_15) 2), .ref ((va_up (AA (Int32.toNatClampNeg x1)) 12 e_15) 3), .ref ((va_up (AA (Int32.toNatClampNeg x1)) 12 e_15) 4), .ref ((va_up (AA (Int32.toNatClampNeg x1)) 12 e_15) 5), .ref ((va_up (AA (Int32.toNatClampNeg x1)) 12 e_15) 6), .ref ((va_up (AA (Int32.toNatClampNeg x1)) 12 e_15) 7), .ref ((va_up (AA (Int32.toNatClampNeg x1)) 12 e_15) 8), .ref ((va_up (AA (Int32.toNatClampNeg x1)) 12 e_15) 9), .ref ((va_up (AA (Int32.toNatClampNeg x1)) 12 e_15) 10), .ref ((va_up (AA (Int32.toNatClampNeg x1)) 12 e_15) 11), .ref ((va_up (AA (Int32.toNatClampNeg x1)) 12 e_15) 12)])), (((va_up (AA (Int32.toNatClampNeg x1)) 12 e_15) 1), .inl (q 0, 4, .inl (S_16.2.1 0))), (((va_up (AA (Int32.toNatClampNeg x1)) 12 e_15) 2), .inl (q 0, 4, .inl (S_16.2.1 1))), (((va_up (AA (Int32.toNatClampNeg x1)) 12 e_15) 3), .inl (q 0, 160, .inl (S_16.2.1 2))), (((va_up (AA (Int32.toNatClampNeg x1)) 12 e_15) 4), .inl (q 0, 40, .inl (S_16.2.1 3))), (((va_up (AA (Int32.toNatClampNeg x1)) 12 e_15) 5), .inl (q 0, 40, .inl (S_16.2.1 4))), (((va_up (AA (Int32.toNatClampNeg x1)) 12 e_15) 6), .inl (q 0, 40, .inl (S_16.2.1 5))), (((va_up (AA (Int32.toNatClampNeg x1)) 12 e_15) 7), .inl (q 0, 40, .inl (S_16.2.1 6))), (((va_up (AA (Int32.toNatClampNeg x1)) 12 e_15) 8), .inl (q 0, 40, .inl (S_16.2.1 7))), (((va_up (AA (Int32.toNatClampNeg x1)) 12 e_15) 9), .inl (q 0, 40, .inl (S_16.2.1 8))), (((va_up (AA (Int32.toNatClampNeg x1)) 12 e_15) 10), .inl (q 0, 40, .inl (S_16.2.1 9))), (((va_up (AA (Int32.toNatClampNeg x1)) 12 e_15) 11), .inl (q 1, 40, .inr (.inl S_16.2.2.1))), (((va_up (AA (Int32.toNatClampNeg x1)) 12 e_15) 12), .inl (q 0, S_16.2.2.2.1, .inl S_16.2.2.2.2)), ((a2 0), .inr (0, [.int (s2.1 0), .int (s2.1 1), .int (s2.1 2), .int (s2.1 3), .int (s2.1 4), .int (s2.1 5), .ref (a2 1), .ref (a2 2), .ref (a2 3), .ref (a2 4), .ref (a2 5), .ref (a2 6), .ref (a2 7), .ref (a2 8), .ref (a2 9), .ref (a2 10), .ref (a2 11), .ref (a2 12)])), ((a2 1), .inl (q 0, 4, .inl (s2.2.1 0))), ((a2 2), .inl (q 0, 4, .inl (s2.2.1 1))), ((a2 3), .inl (q 0, 160, .inl (s2.2.1 2))), ((a2 4), .inl (q 0, 40, .inl (s2.2.1 3))), ((a2 5), .inl (q 0, 40, .inl (s2.2.1 4))), ((a2 6), .inl (q 0, 40, .inl (s2.2.1 5))), ((a2 7), .inl (q 0, 40, .inl (s2.2.1 6))), ((a2 8), .inl (q 0, 40, .inl (s2.2.1 7))), ((a2 9), .inl (q 0, 40, .inl (s2.2.1 8))), ((a2 10), .inl (q 0, 40, .inl (s2.2.1 9))), ((a2 11), .inl (q 1, 40, .inr (.inl s2.2.2.1))), ((a2 12), .inl (q 0, s2.2.2.2.1, .inl s2.2.2.2.2))] : va_W) ++ ps_w q 2 AA (va_up z7 (Int32.toNatClampNeg x1) none)) H := hP
      have hD : va_D _ (([((a0 0), .inr (5, [.ref (a1 0), .ref (a2 0), .ref (a3 0), .ref (a4 0), .ref (a5 0), .ref p8, .ref s8])), (s8, .inl (q 4, 2, .inr (.inr (.inr (.inr (pf_f AA z7)))))), (((va_up (AA (Int32.toNatClampNeg x1)) 12 e_15) 0), .inr (0, [.int (S_16.1 0), .int (S_16.1 1), .int (S_16.1 2), .int (S_16.1 3), .int (S_16.1 4), .int (S_16.1 5), .ref ((va_up (AA (Int32.toNatClampNeg x1)) 12 e_15) 1), .ref ((va_up (AA (Int32.toNatClampNeg x1)) 12 e_15) 2), .ref ((va_up (AA (Int32.toNatClampNeg x1)) 12 e_15) 3), .ref ((va_up (AA (Int32.toNatClampNeg x1)) 12 e_15) 4), .ref ((va_up (AA (Int32.toNatClampNeg x1)) 12 e_15) 5), .ref ((va_up (AA (Int32.toNatClampNeg x1)) 12 e_15) 6), .ref ((va_up (AA (Int32.toNatClampNeg x1)) 12 e_15) 7), .ref ((va_up (AA (Int32.toNatClampNeg x1)) 12 e_15) 8), .ref ((va_up (AA (Int32.toNatClampNeg x1)) 12 e_15) 9), .ref ((va_up (AA (Int32.toNatClampNeg x1)) 12 e_15) 10), .ref ((va_up (AA (Int32.toNatClampNeg x1)) 12 e_15) 11), .ref ((va_up (AA (Int32.toNatClampNeg x1)) 12 e_15) 12)])), (((va_up (AA (Int32.toNatClampNeg x1)) 12 e_15) 1), .inl (q 0, 4, .inl (S_16.2.1 0))), (((va_up (AA (Int32.toNatClampNeg x1)) 12 e_15) 2), .inl (q 0, 4, .inl (S_16.2.1 1))), (((va_up (AA (Int32.toNatClampNeg x1)) 12 e_15) 3), .inl (q 0, 160, .inl (S_16.2.1 2))), (((va_up (AA (Int32.toNatClampNeg x1)) 12 e_15) 4), .inl (q 0, 40, .inl (S_16.2.1 3))), (((va_up (AA (Int32.toNatClampNeg x1)) 12 e_15) 5), .inl (q 0, 40, .inl (S_16.2.1 4))), (((va_up (AA (Int32.toNatClampNeg x1)) 12 e_15) 6), .inl (q 0, 40, .inl (S_16.2.1 5))), (((va_up (AA (Int32.toNatClampNeg x1)) 12 e_15) 7), .inl (q 0, 40, .inl (S_16.2.1 6))), (((va_up (AA (Int32.toNatClampNeg x1)) 12 e_15) 8), .inl (q 0, 40, .inl (S_16.2.1 7))), (((va_up (AA (Int32.toNatClampNeg x1)) 12 e_15) 9), .inl (q 0, 40, .inl (S_16.2.1 8))), (((va_up (AA (Int32.toNatClampNeg x1)) 12 e_15) 10), .inl (q 0, 40, .inl (S_16.2.1 9))), (((va_up (AA (Int32.toNatClampNeg x1)) 12 e_15) 11), .inl (q 1, 40, .inr (.inl S_16.2.2.1))), (((va_up (AA (Int32.toNatClampNeg x1)) 12 e_15) 12), .inl (q 0, S_16.2.2.2.1, .inl S_16.2.2.2.2)), ((a2 0), .inr (0, [.int (s2.1 0), .int (s2.1 1), .int (s2.1 2), .int (s2.1 3), .int (s2.1 4), .int (s2.1 5), .ref (a2 1), .ref (a2 2), .ref (a2 3), .ref (a2 4), .ref (a2 5), .ref (a2 6), .ref (a2 7), .ref (a2 8), .ref (a2 9), .ref (a2 10), .ref (a2 11), .ref (a2 12)])), ((a2 1), .inl (q 0, 4, .inl (s2.2.1 0))), ((a2 2), .inl (q 0, 4, .inl (s2.2.1 1))), ((a2 3), .inl (q 0, 160, .inl (s2.2.1 2))), ((a2 4), .inl (q 0, 40, .inl (s2.2.1 3))), ((a2 5), .inl (q 0, 40, .inl (s2.2.1 4))), ((a2 6), .inl (q 0, 40, .inl (s2.2.1 5))), ((a2 7), .inl (q 0, 40, .inl (s2.2.1 6))), ((a2 8), .inl (q 0, 40, .inl (s2.2.1 7))), ((a2 9), .inl (q 0, 40, .inl (s2.2.1 8))), ((a2 10), .inl (q 0, 40, .inl (s2.2.1 9))), ((a2 11), .inl (q 1, 40, .inr (.inl s2.2.2.1))), ((a2 12), .inl (q 0, s2.2.2.2.1, .inl s2.2.2.2.2))] : va_W) ++ ps_w q 2 AA (va_up z7 (Int32.toNatClampNeg x1) none)) := hD
      refine W.widen (k := 1) (n := 6400) (Nat.le_of_ble_eq_true rfl) (Nat.le_of_ble_eq_true rfl) ?_
      refine lv_aload_n hx hb dX6_keep_43 rfl (lv_at hl 1 rfl) ?_
      refine fl_get (C := RX6) (T := TX6) (N := 7) (ci := 5) (v := .ref (a2 0)) hx hb ht in_X6 hown hK hP 0 rfl rfl 1 (by decide) mw_356 rfl dX6_keep_44 ?_
      refine vp_callSi (rd_wV (wc := bd_w a2 q s2) (As := []) (rest := []) hx hb hml hown ht (c2_X0_cells h) wd_X0_cells mw_885 hQ hV hS (hP.sub [15, 16, 17, 18, 19, 20, 21, 22, 23, 24, 25, 26, 27] rfl) rfl rfl rfl hl.1 rfl (Nat.le_of_ble_eq_true rfl) dX6_keep_47 ⟨Nat.le_of_ble_eq_true rfl, Nat.le_of_ble_eq_true rfl, rfl, rfl⟩ ⟨Nat.le_of_ble_eq_true rfl, Nat.le_of_ble_eq_true rfl⟩) (fun r_17 h => ?_)
      try dsimp only at h
      rw [show (pf_f AA z7) = pf_f (va_up AA (Int32.toNatClampNeg x1) (va_up (AA (Int32.toNatClampNeg x1)) 12 e_15)) (va_up z7 (Int32.toNatClampNeg x1) (some S_16)) from pf_keep hs_6 rfl] at hP hD
      have hP := hP.part (cx := [((a0 0), .inr (5, [.ref (a1 0), .ref (a2 0), .ref (a3 0), .ref (a4 0), .ref (a5 0), .ref p8, .ref s8])), ((a2 0), .inr (0, [.int (s2.1 0), .int (s2.1 1), .int (s2.1 2), .int (s2.1 3), .int (s2.1 4), .int (s2.1 5), .ref (a2 1), .ref (a2 2), .ref (a2 3), .ref (a2 4), .ref (a2 5), .ref (a2 6), .ref (a2 7), .ref (a2 8), .ref (a2 9), .ref (a2 10), .ref (a2 11), .ref (a2 12)])), ((a2 1), .inl (q 0, 4, .inl (s2.2.1 0))), ((a2 2), .inl (q 0, 4, .inl (s2.2.1 1))), ((a2 3), .inl (q 0, 160, .inl (s2.2.1 2))), ((a2 4), .inl (q 0, 40, .inl (s2.2.1 3))), ((a2 5), .inl (q 0, 40, .inl (s2.2.1 4))), ((a2 6), .inl (q 0, 40, .inl (s2.2.1 5))), ((a2 7), .inl (q 0, 40, .inl (s2.2.1 6))), ((a2 8), .inl (q 0, 40, .inl (s2.2.1 7))), ((a2 9), .inl (q 0, 40, .inl (s2.2.1 8))), ((a2 10), .inl (q 0, 40, .inl (s2.2.1 9))), ((a2 11), .inl (q 1, 40, .inr (.inl s2.2.2.1))), ((a2 12), .inl (q 0, s2.2.2.2.1, .inl s2.2.2.2.2)), (s8, .inl (q 4, 2, .inr (.inr (.inr (.inr (pf_f (va_up AA (Int32.toNatClampNeg x1) (va_up (AA (Int32.toNatClampNeg x1)) 12 e_15)) (va_up z7 (Int32.toNatClampNeg x1) (some S_16)))))))), (((va_up (AA (Int32.toNatClampNeg x1)) 12 e_15) 0), .inr (0, [.int (S_16.1 0), .int (S_16.1 1), .int (S_16.1 2), .int (S_16.1 3), .int (S_16.1 4), .int (S_16.1 5), .ref ((va_up (AA (Int32.toNatClampNeg x1)) 12 e_15) 1), .ref ((va_up (AA (Int32.toNatClampNeg x1)) 12 e_15) 2), .ref ((va_up (AA (Int32.toNatClampNeg x1)) 12 e_15) 3), .ref ((va_up (AA (Int32.toNatClampNeg x1)) 12 e_15) 4), .ref ((va_up (AA (Int32.toNatClampNeg x1)) 12 e_15) 5), .ref ((va_up (AA (Int32.toNatClampNeg x1)) 12 e_15) 6), .ref ((va_up (AA (Int32.toNatClampNeg x1)) 12 e_15) 7), .ref ((va_up (AA (Int32.toNatClampNeg x1)) 12 e_15) 8), .ref ((va_up (AA (Int32.toNatClampNeg x1)) 12 e_15) 9), .ref ((va_up (AA (Int32.toNatClampNeg x1)) 12 e_15) 10), .ref ((va_up (AA (Int32.toNatClampNeg x1)) 12 e_15) 11), .ref ((va_up (AA (Int32.toNatClampNeg x1)) 12 e_15) 12)])), (((va_up (AA (Int32.toNatClampNeg x1)) 12 e_15) 1), .inl (q 0, 4, .inl (S_16.2.1 0))), (((va_up (AA (Int32.toNatClampNeg x1)) 12 e_15) 2), .inl (q 0, 4, .inl (S_16.2.1 1))), (((va_up (AA (Int32.toNatClampNeg x1)) 12 e_15) 3), .inl (q 0, 160, .inl (S_16.2.1 2))), (((va_up (AA (Int32.toNatClampNeg x1)) 12 e_15) 4), .inl (q 0, 40, .inl (S_16.2.1 3))), (((va_up (AA (Int32.toNatClampNeg x1)) 12 e_15) 5), .inl (q 0, 40, .inl (S_16.2.1 4))), (((va_up (AA (Int32.toNatClampNeg x1)) 12 e_15) 6), .inl (q 0, 40, .inl (S_16.2.1 5))), (((va_up (AA (Int32.toNatClampNeg x1)) 12 e_15) 7), .inl (q 0, 40, .inl (S_16.2.1 6))), (((va_up (AA (Int32.toNatClampNeg x1)) 12 e_15) 8), .inl (q 0, 40, .inl (S_16.2.1 7))), (((va_up (AA (Int32.toNatClampNeg x1)) 12 e_15) 9), .inl (q 0, 40, .inl (S_16.2.1 8))), (((va_up (AA (Int32.toNatClampNeg x1)) 12 e_15) 10), .inl (q 0, 40, .inl (S_16.2.1 9))), (((va_up (AA (Int32.toNatClampNeg x1)) 12 e_15) 11), .inl (q 1, 40, .inr (.inl S_16.2.2.1))), (((va_up (AA (Int32.toNatClampNeg x1)) 12 e_15) 12), .inl (q 0, S_16.2.2.2.1, .inl S_16.2.2.2.2))]) [0, 15, 16, 17, 18, 19, 20, 21, 22, 23, 24, 25, 26, 27, 1, 2, 3, 4, 5, 6, 7, 8, 9, 10, 11, 12, 13, 14] rfl
      have hD := hD.part (cx := [((a0 0), .inr (5, [.ref (a1 0), .ref (a2 0), .ref (a3 0), .ref (a4 0), .ref (a5 0), .ref p8, .ref s8])), ((a2 0), .inr (0, [.int (s2.1 0), .int (s2.1 1), .int (s2.1 2), .int (s2.1 3), .int (s2.1 4), .int (s2.1 5), .ref (a2 1), .ref (a2 2), .ref (a2 3), .ref (a2 4), .ref (a2 5), .ref (a2 6), .ref (a2 7), .ref (a2 8), .ref (a2 9), .ref (a2 10), .ref (a2 11), .ref (a2 12)])), ((a2 1), .inl (q 0, 4, .inl (s2.2.1 0))), ((a2 2), .inl (q 0, 4, .inl (s2.2.1 1))), ((a2 3), .inl (q 0, 160, .inl (s2.2.1 2))), ((a2 4), .inl (q 0, 40, .inl (s2.2.1 3))), ((a2 5), .inl (q 0, 40, .inl (s2.2.1 4))), ((a2 6), .inl (q 0, 40, .inl (s2.2.1 5))), ((a2 7), .inl (q 0, 40, .inl (s2.2.1 6))), ((a2 8), .inl (q 0, 40, .inl (s2.2.1 7))), ((a2 9), .inl (q 0, 40, .inl (s2.2.1 8))), ((a2 10), .inl (q 0, 40, .inl (s2.2.1 9))), ((a2 11), .inl (q 1, 40, .inr (.inl s2.2.2.1))), ((a2 12), .inl (q 0, s2.2.2.2.1, .inl s2.2.2.2.2)), (s8, .inl (q 4, 2, .inr (.inr (.inr (.inr (pf_f (va_up AA (Int32.toNatClampNeg x1) (va_up (AA (Int32.toNatClampNeg x1)) 12 e_15)) (va_up z7 (Int32.toNatClampNeg x1) (some S_16)))))))), (((va_up (AA (Int32.toNatClampNeg x1)) 12 e_15) 0), .inr (0, [.int (S_16.1 0), .int (S_16.1 1), .int (S_16.1 2), .int (S_16.1 3), .int (S_16.1 4), .int (S_16.1 5), .ref ((va_up (AA (Int32.toNatClampNeg x1)) 12 e_15) 1), .ref ((va_up (AA (Int32.toNatClampNeg x1)) 12 e_15) 2), .ref ((va_up (AA (Int32.toNatClampNeg x1)) 12 e_15) 3), .ref ((va_up (AA (Int32.toNatClampNeg x1)) 12 e_15) 4), .ref ((va_up (AA (Int32.toNatClampNeg x1)) 12 e_15) 5), .ref ((va_up (AA (Int32.toNatClampNeg x1)) 12 e_15) 6), .ref ((va_up (AA (Int32.toNatClampNeg x1)) 12 e_15) 7), .ref ((va_up (AA (Int32.toNatClampNeg x1)) 12 e_15) 8), .ref ((va_up (AA (Int32.toNatClampNeg x1)) 12 e_15) 9), .ref ((va_up (AA (Int32.toNatClampNeg x1)) 12 e_15) 10), .ref ((va_up (AA (Int32.toNatClampNeg x1)) 12 e_15) 11), .ref ((va_up (AA (Int32.toNatClampNeg x1)) 12 e_15) 12)])), (((va_up (AA (Int32.toNatClampNeg x1)) 12 e_15) 1), .inl (q 0, 4, .inl (S_16.2.1 0))), (((va_up (AA (Int32.toNatClampNeg x1)) 12 e_15) 2), .inl (q 0, 4, .inl (S_16.2.1 1))), (((va_up (AA (Int32.toNatClampNeg x1)) 12 e_15) 3), .inl (q 0, 160, .inl (S_16.2.1 2))), (((va_up (AA (Int32.toNatClampNeg x1)) 12 e_15) 4), .inl (q 0, 40, .inl (S_16.2.1 3))), (((va_up (AA (Int32.toNatClampNeg x1)) 12 e_15) 5), .inl (q 0, 40, .inl (S_16.2.1 4))), (((va_up (AA (Int32.toNatClampNeg x1)) 12 e_15) 6), .inl (q 0, 40, .inl (S_16.2.1 5))), (((va_up (AA (Int32.toNatClampNeg x1)) 12 e_15) 7), .inl (q 0, 40, .inl (S_16.2.1 6))), (((va_up (AA (Int32.toNatClampNeg x1)) 12 e_15) 8), .inl (q 0, 40, .inl (S_16.2.1 7))), (((va_up (AA (Int32.toNatClampNeg x1)) 12 e_15) 9), .inl (q 0, 40, .inl (S_16.2.1 8))), (((va_up (AA (Int32.toNatClampNeg x1)) 12 e_15) 10), .inl (q 0, 40, .inl (S_16.2.1 9))), (((va_up (AA (Int32.toNatClampNeg x1)) 12 e_15) 11), .inl (q 1, 40, .inr (.inl S_16.2.2.1))), (((va_up (AA (Int32.toNatClampNeg x1)) 12 e_15) 12), .inl (q 0, S_16.2.2.2.1, .inl S_16.2.2.2.2))]) [0, 15, 16, 17, 18, 19, 20, 21, 22, 23, 24, 25, 26, 27, 1, 2, 3, 4, 5, 6, 7, 8, 9, 10, 11, 12, 13, 14] (by decide) rfl
      have hP : va_P D vwCl ((([((a0 0), .inr (5, [.ref (a1 0), .ref (a2 0), .ref (a3 0), .ref (a4 0), .ref (a5 0), .ref p8, .ref s8])), ((a2 0), .inr (0, [.int (s2.1 0), .int (s2.1 1), .int (s2.1 2), .int (s2.1 3), .int (s2.1 4), .int (s2.1 5), .ref (a2 1), .ref (a2 2), .ref (a2 3), .ref (a2 4), .ref (a2 5), .ref (a2 6), .ref (a2 7), .ref (a2 8), .ref (a2 9), .ref (a2 10), .ref (a2 11), .ref (a2 12)])), ((a2 1), .inl (q 0, 4, .inl (s2.2.1 0))), ((a2 2), .inl (q 0, 4, .inl (s2.2.1 1))), ((a2 3), .inl (q 0, 160, .inl (s2.2.1 2))), ((a2 4), .inl (q 0, 40, .inl (s2.2.1 3))), ((a2 5), .inl (q 0, 40, .inl (s2.2.1 4))), ((a2 6), .inl (q 0, 40, .inl (s2.2.1 5))), ((a2 7), .inl (q 0, 40, .inl (s2.2.1 6))), ((a2 8), .inl (q 0, 40, .inl (s2.2.1 7))), ((a2 9), .inl (q 0, 40, .inl (s2.2.1 8))), ((a2 10), .inl (q 0, 40, .inl (s2.2.1 9))), ((a2 11), .inl (q 1, 40, .inr (.inl s2.2.2.1))), ((a2 12), .inl (q 0, s2.2.2.2.1, .inl s2.2.2.2.2)), (s8, .inl (q 4, 2, .inr (.inr (.inr (.inr (pf_f (va_up AA (Int32.toNatClampNeg x1) (va_up (AA (Int32.toNatClampNeg x1)) 12 e_15)) (va_up z7 (Int32.toNatClampNeg x1) (some S_16))))))))] : va_W) ++ bd_w (va_up (AA (Int32.toNatClampNeg x1)) 12 e_15) q S_16) ++ ps_w q 2 AA (va_up z7 (Int32.toNatClampNeg x1) none)) H := hP
      have hD : va_D _ ((([((a0 0), .inr (5, [.ref (a1 0), .ref (a2 0), .ref (a3 0), .ref (a4 0), .ref (a5 0), .ref p8, .ref s8])), ((a2 0), .inr (0, [.int (s2.1 0), .int (s2.1 1), .int (s2.1 2), .int (s2.1 3), .int (s2.1 4), .int (s2.1 5), .ref (a2 1), .ref (a2 2), .ref (a2 3), .ref (a2 4), .ref (a2 5), .ref (a2 6), .ref (a2 7), .ref (a2 8), .ref (a2 9), .ref (a2 10), .ref (a2 11), .ref (a2 12)])), ((a2 1), .inl (q 0, 4, .inl (s2.2.1 0))), ((a2 2), .inl (q 0, 4, .inl (s2.2.1 1))), ((a2 3), .inl (q 0, 160, .inl (s2.2.1 2))), ((a2 4), .inl (q 0, 40, .inl (s2.2.1 3))), ((a2 5), .inl (q 0, 40, .inl (s2.2.1 4))), ((a2 6), .inl (q 0, 40, .inl (s2.2.1 5))), ((a2 7), .inl (q 0, 40, .inl (s2.2.1 6))), ((a2 8), .inl (q 0, 40, .inl (s2.2.1 7))), ((a2 9), .inl (q 0, 40, .inl (s2.2.1 8))), ((a2 10), .inl (q 0, 40, .inl (s2.2.1 9))), ((a2 11), .inl (q 1, 40, .inr (.inl s2.2.2.1))), ((a2 12), .inl (q 0, s2.2.2.2.1, .inl s2.2.2.2.2)), (s8, .inl (q 4, 2, .inr (.inr (.inr (.inr (pf_f (va_up AA (Int32.toNatClampNeg x1) (va_up (AA (Int32.toNatClampNeg x1)) 12 e_15)) (va_up z7 (Int32.toNatClampNeg x1) (some S_16))))))))] : va_W) ++ bd_w (va_up (AA (Int32.toNatClampNeg x1)) 12 e_15) q S_16) ++ ps_w q 2 AA (va_up z7 (Int32.toNatClampNeg x1) none)) := hD
      have hP := vp_perm (pc_perm [((a0 0), .inr (5, [.ref (a1 0), .ref (a2 0), .ref (a3 0), .ref (a4 0), .ref (a5 0), .ref p8, .ref s8])), ((a2 0), .inr (0, [.int (s2.1 0), .int (s2.1 1), .int (s2.1 2), .int (s2.1 3), .int (s2.1 4), .int (s2.1 5), .ref (a2 1), .ref (a2 2), .ref (a2 3), .ref (a2 4), .ref (a2 5), .ref (a2 6), .ref (a2 7), .ref (a2 8), .ref (a2 9), .ref (a2 10), .ref (a2 11), .ref (a2 12)])), ((a2 1), .inl (q 0, 4, .inl (s2.2.1 0))), ((a2 2), .inl (q 0, 4, .inl (s2.2.1 1))), ((a2 3), .inl (q 0, 160, .inl (s2.2.1 2))), ((a2 4), .inl (q 0, 40, .inl (s2.2.1 3))), ((a2 5), .inl (q 0, 40, .inl (s2.2.1 4))), ((a2 6), .inl (q 0, 40, .inl (s2.2.1 5))), ((a2 7), .inl (q 0, 40, .inl (s2.2.1 6))), ((a2 8), .inl (q 0, 40, .inl (s2.2.1 7))), ((a2 9), .inl (q 0, 40, .inl (s2.2.1 8))), ((a2 10), .inl (q 0, 40, .inl (s2.2.1 9))), ((a2 11), .inl (q 1, 40, .inr (.inl s2.2.2.1))), ((a2 12), .inl (q 0, s2.2.2.2.1, .inl s2.2.2.2.2)), (s8, .inl (q 4, 2, .inr (.inr (.inr (.inr (pf_f (va_up AA (Int32.toNatClampNeg x1) (va_up (AA (Int32.toNatClampNeg x1)) 12 e_15)) (va_up z7 (Int32.toNatClampNeg x1) (some S_16))))))))] (in_lt g_4)) hP
      have hD := vd_perm (pc_perm [((a0 0), .inr (5, [.ref (a1 0), .ref (a2 0), .ref (a3 0), .ref (a4 0), .ref (a5 0), .ref p8, .ref s8])), ((a2 0), .inr (0, [.int (s2.1 0), .int (s2.1 1), .int (s2.1 2), .int (s2.1 3), .int (s2.1 4), .int (s2.1 5), .ref (a2 1), .ref (a2 2), .ref (a2 3), .ref (a2 4), .ref (a2 5), .ref (a2 6), .ref (a2 7), .ref (a2 8), .ref (a2 9), .ref (a2 10), .ref (a2 11), .ref (a2 12)])), ((a2 1), .inl (q 0, 4, .inl (s2.2.1 0))), ((a2 2), .inl (q 0, 4, .inl (s2.2.1 1))), ((a2 3), .inl (q 0, 160, .inl (s2.2.1 2))), ((a2 4), .inl (q 0, 40, .inl (s2.2.1 3))), ((a2 5), .inl (q 0, 40, .inl (s2.2.1 4))), ((a2 6), .inl (q 0, 40, .inl (s2.2.1 5))), ((a2 7), .inl (q 0, 40, .inl (s2.2.1 6))), ((a2 8), .inl (q 0, 40, .inl (s2.2.1 7))), ((a2 9), .inl (q 0, 40, .inl (s2.2.1 8))), ((a2 10), .inl (q 0, 40, .inl (s2.2.1 9))), ((a2 11), .inl (q 1, 40, .inr (.inl s2.2.2.1))), ((a2 12), .inl (q 0, s2.2.2.2.1, .inl s2.2.2.2.2)), (s8, .inl (q 4, 2, .inr (.inr (.inr (.inr (pf_f (va_up AA (Int32.toNatClampNeg x1) (va_up (AA (Int32.toNatClampNeg x1)) 12 e_15)) (va_up z7 (Int32.toNatClampNeg x1) (some S_16))))))))] (in_lt g_4)) hD
      refine W.widen (k := 14) (n := 6906) (Nat.le_of_ble_eq_true rfl) (Nat.le_of_ble_eq_true rfl) ?_
      exact mt_iret ((va_up AA (Int32.toNatClampNeg x1) (va_up (AA (Int32.toNatClampNeg x1)) 12 e_15)), (va_up z7 (Int32.toNatClampNeg x1) (some S_16))) hx hb hr hk h hP hD hS dX6_keep_50
  · replace h := h.2 c_3
    refine lv_iconst (v := (-1)) hx hb dX6_keep_7 (by decide) ?_
    have hP := hP.part (cx := [((a0 0), .inr (5, [.ref (a1 0), .ref (a2 0), .ref (a3 0), .ref (a4 0), .ref (a5 0), .ref p8, .ref s8])), ((a2 0), .inr (0, [.int (s2.1 0), .int (s2.1 1), .int (s2.1 2), .int (s2.1 3), .int (s2.1 4), .int (s2.1 5), .ref (a2 1), .ref (a2 2), .ref (a2 3), .ref (a2 4), .ref (a2 5), .ref (a2 6), .ref (a2 7), .ref (a2 8), .ref (a2 9), .ref (a2 10), .ref (a2 11), .ref (a2 12)])), ((a2 1), .inl (q 0, 4, .inl (s2.2.1 0))), ((a2 2), .inl (q 0, 4, .inl (s2.2.1 1))), ((a2 3), .inl (q 0, 160, .inl (s2.2.1 2))), ((a2 4), .inl (q 0, 40, .inl (s2.2.1 3))), ((a2 5), .inl (q 0, 40, .inl (s2.2.1 4))), ((a2 6), .inl (q 0, 40, .inl (s2.2.1 5))), ((a2 7), .inl (q 0, 40, .inl (s2.2.1 6))), ((a2 8), .inl (q 0, 40, .inl (s2.2.1 7))), ((a2 9), .inl (q 0, 40, .inl (s2.2.1 8))), ((a2 10), .inl (q 0, 40, .inl (s2.2.1 9))), ((a2 11), .inl (q 1, 40, .inr (.inl s2.2.2.1))), ((a2 12), .inl (q 0, s2.2.2.2.1, .inl s2.2.2.2.2)), (s8, .inl (q 4, 2, .inr (.inr (.inr (.inr (pf_f AA z7))))))]) [0, 1, 2, 3, 4, 5, 6, 7, 8, 9, 10, 11, 12, 13, 14] rfl
    have hD := hD.part (cx := [((a0 0), .inr (5, [.ref (a1 0), .ref (a2 0), .ref (a3 0), .ref (a4 0), .ref (a5 0), .ref p8, .ref s8])), ((a2 0), .inr (0, [.int (s2.1 0), .int (s2.1 1), .int (s2.1 2), .int (s2.1 3), .int (s2.1 4), .int (s2.1 5), .ref (a2 1), .ref (a2 2), .ref (a2 3), .ref (a2 4), .ref (a2 5), .ref (a2 6), .ref (a2 7), .ref (a2 8), .ref (a2 9), .ref (a2 10), .ref (a2 11), .ref (a2 12)])), ((a2 1), .inl (q 0, 4, .inl (s2.2.1 0))), ((a2 2), .inl (q 0, 4, .inl (s2.2.1 1))), ((a2 3), .inl (q 0, 160, .inl (s2.2.1 2))), ((a2 4), .inl (q 0, 40, .inl (s2.2.1 3))), ((a2 5), .inl (q 0, 40, .inl (s2.2.1 4))), ((a2 6), .inl (q 0, 40, .inl (s2.2.1 5))), ((a2 7), .inl (q 0, 40, .inl (s2.2.1 6))), ((a2 8), .inl (q 0, 40, .inl (s2.2.1 7))), ((a2 9), .inl (q 0, 40, .inl (s2.2.1 8))), ((a2 10), .inl (q 0, 40, .inl (s2.2.1 9))), ((a2 11), .inl (q 1, 40, .inr (.inl s2.2.2.1))), ((a2 12), .inl (q 0, s2.2.2.2.1, .inl s2.2.2.2.2)), (s8, .inl (q 4, 2, .inr (.inr (.inr (.inr (pf_f AA z7))))))]) [0, 1, 2, 3, 4, 5, 6, 7, 8, 9, 10, 11, 12, 13, 14] (by decide) rfl
    refine W.widen (k := 14) (n := 6906) (Nat.le_of_ble_eq_true rfl) (Nat.le_of_ble_eq_true rfl) ?_
    exact mt_iret (AA, z7) hx hb hr hk h hP hD hS dX6_keep_8

def wp_X6_back (post : Int32 → Bd → Pa → (Nat → Option Bd) → Prop) (s2 : Bd) (s6 : Pa) (z7 : Nat → Option Bd) (x1 : Int32) : Prop := wp_X6_isShelf (fun r_1 => ((¬ r_1 = 0 → vp_in x1 2 ∧ (match z7 (Int32.toNatClampNeg x1) with | none => post (-2) s2 s6 z7 | some S_5 => wp_X0_copyAll (fun S_9 => wp_X0_cells (fun r_10 => post r_10 S_9 ((va_up s6.1 0 0), s6.2) z7) S_9) s2 S_5)) ∧ (r_1 = 0 → post (-1) s2 s6 z7))) x1
set_option maxHeartbeats 4000000 in
set_option maxRecDepth 100000 in
theorem c2_X6_back {l : Launch} {D : va_G} {q : Nat → ClassId} {sz : Nat} {a0 a1 a2 a3 a4 a5 : Nat → Nat} {p8 s8 p9 : Nat} {AA : Nat → Nat → Nat} {s2 : Bd} {s6 : Pa} {z7 : Nat → Option Bd} {x1 : Int32} {post : Int32 → Bd → Pa → (Nat → Option Bd) → Prop} (h : wp_X6_back post s2 s6 z7 x1) : Met l yX6_back (Cond.code yX6_back cX6_back 3 (some .int) :: w_all) ({ frames := 3, cells := 1, slots := 6400, locals := 124 } : Room) (mt_P D q [.ref (a0 0), .int x1] ((fo_w (a0 0) (a1 0) (a2 0) (a3 0) (a4 0) (a5 0) p8 s8 ++ bd_w a2 q s2 ++ pa_o p8 p9 s6 ++ pa_r s8 q 2 AA z7) ++ ps_w q 2 AA z7) sz) (va_Qi (fun r (u : (Nat → Nat → Nat) × Nat × Bd × Pa × (Nat → Option Bd)) => post r u.2.2.1 u.2.2.2.1 u.2.2.2.2) (mt_B D ((fo_w (a0 0) (a1 0) (a2 0) (a3 0) (a4 0) (a5 0) p8 s8 ++ bd_w a2 q s2 ++ pa_o p8 p9 s6 ++ pa_r s8 q 2 AA z7) ++ ps_w q 2 AA z7) sz (fun u : (Nat → Nat → Nat) × Nat × Bd × Pa × (Nat → Option Bd) => ((fo_w (a0 0) (a1 0) (a2 0) (a3 0) (a4 0) (a5 0) p8 s8 ++ bd_w (va_up a2 12 u.2.1) q u.2.2.1 ++ pa_o p8 p9 u.2.2.2.1 ++ pa_r s8 q 2 u.1 u.2.2.2.2) ++ ps_w q 2 u.1 u.2.2.2.2))) (va_A ((fo_w (a0 0) (a1 0) (a2 0) (a3 0) (a4 0) (a5 0) p8 s8 ++ bd_w a2 q s2 ++ pa_o p8 p9 s6 ++ pa_r s8 q 2 AA z7) ++ ps_w q 2 AA z7) sz)) 1 6400 (va_A ((fo_w (a0 0) (a1 0) (a2 0) (a3 0) (a4 0) (a5 0) p8 s8 ++ bd_w a2 q s2 ++ pa_o p8 p9 s6 ++ pa_r s8 q 2 AA z7) ++ ps_w q 2 AA z7) sz) := by
  refine mt_start (by decide) (Nat.le_of_ble_eq_true rfl) ?_
  intro p e s m below meth c ls hx hb hr hml hown ht hk hin hP hQ hD hA hS hV hl
  have hK := hQ.1
  have hown : s.vm.findClass RX6 = some m.cls := hown
  have hl : lv_has ls 3 [(0, .ref (a0 0)), (1, .int x1)] := hl
  have hP : va_P D vwCl (([((a0 0), .inr (5, [.ref (a1 0), .ref (a2 0), .ref (a3 0), .ref (a4 0), .ref (a5 0), .ref p8, .ref s8])), ((a2 0), .inr (0, [.int (s2.1 0), .int (s2.1 1), .int (s2.1 2), .int (s2.1 3), .int (s2.1 4), .int (s2.1 5), .ref (a2 1), .ref (a2 2), .ref (a2 3), .ref (a2 4), .ref (a2 5), .ref (a2 6), .ref (a2 7), .ref (a2 8), .ref (a2 9), .ref (a2 10), .ref (a2 11), .ref (a2 12)])), ((a2 1), .inl (q 0, 4, .inl (s2.2.1 0))), ((a2 2), .inl (q 0, 4, .inl (s2.2.1 1))), ((a2 3), .inl (q 0, 160, .inl (s2.2.1 2))), ((a2 4), .inl (q 0, 40, .inl (s2.2.1 3))), ((a2 5), .inl (q 0, 40, .inl (s2.2.1 4))), ((a2 6), .inl (q 0, 40, .inl (s2.2.1 5))), ((a2 7), .inl (q 0, 40, .inl (s2.2.1 6))), ((a2 8), .inl (q 0, 40, .inl (s2.2.1 7))), ((a2 9), .inl (q 0, 40, .inl (s2.2.1 8))), ((a2 10), .inl (q 0, 40, .inl (s2.2.1 9))), ((a2 11), .inl (q 1, 40, .inr (.inl s2.2.2.1))), ((a2 12), .inl (q 0, s2.2.2.2.1, .inl s2.2.2.2.2)), (p8, .inr (2, [.ref p9, .int (s6.1 0), .int (s6.1 1)])), (s8, .inl (q 4, 2, .inr (.inr (.inr (.inr (pf_f AA z7))))))] : va_W) ++ ps_w q 2 AA z7) s.heap := hP
  have hD : va_D _ (([((a0 0), .inr (5, [.ref (a1 0), .ref (a2 0), .ref (a3 0), .ref (a4 0), .ref (a5 0), .ref p8, .ref s8])), ((a2 0), .inr (0, [.int (s2.1 0), .int (s2.1 1), .int (s2.1 2), .int (s2.1 3), .int (s2.1 4), .int (s2.1 5), .ref (a2 1), .ref (a2 2), .ref (a2 3), .ref (a2 4), .ref (a2 5), .ref (a2 6), .ref (a2 7), .ref (a2 8), .ref (a2 9), .ref (a2 10), .ref (a2 11), .ref (a2 12)])), ((a2 1), .inl (q 0, 4, .inl (s2.2.1 0))), ((a2 2), .inl (q 0, 4, .inl (s2.2.1 1))), ((a2 3), .inl (q 0, 160, .inl (s2.2.1 2))), ((a2 4), .inl (q 0, 40, .inl (s2.2.1 3))), ((a2 5), .inl (q 0, 40, .inl (s2.2.1 4))), ((a2 6), .inl (q 0, 40, .inl (s2.2.1 5))), ((a2 7), .inl (q 0, 40, .inl (s2.2.1 6))), ((a2 8), .inl (q 0, 40, .inl (s2.2.1 7))), ((a2 9), .inl (q 0, 40, .inl (s2.2.1 8))), ((a2 10), .inl (q 0, 40, .inl (s2.2.1 9))), ((a2 11), .inl (q 1, 40, .inr (.inl s2.2.2.1))), ((a2 12), .inl (q 0, s2.2.2.2.1, .inl s2.2.2.2.2)), (p8, .inr (2, [.ref p9, .int (s6.1 0), .int (s6.1 1)])), (s8, .inl (q 4, 2, .inr (.inr (.inr (.inr (pf_f AA z7))))))] : va_W) ++ ps_w q 2 AA z7) := hD
  unfold wp_X6_back at h
  refine lv_iload_n hx hb dX6_back_0 rfl (lv_at hl 1 rfl) ?_
  refine vp_callSi (rd_wS (wc := ([] : va_W)) (As := [.int x1]) (rest := []) hx hb hml hown ht (c2_X6_isShelf h) wd_X6_isShelf mw_881 hQ hV hS (hP.sub [] rfl) rfl hl.1 rfl (Nat.le_of_ble_eq_true rfl) dX6_back_1 ⟨Nat.le_of_ble_eq_true rfl, Nat.le_of_ble_eq_true rfl, rfl, rfl⟩ ⟨Nat.le_of_ble_eq_true rfl, Nat.le_of_ble_eq_true rfl⟩) (fun r_1 h => ?_)
  try dsimp only at h
  refine lv_if_ne (tgt := 9) hx hb dX6_back_4 (by decide) (fun c_3 => ?_) (fun c_3 => ?_)
  · replace h := h.1 c_3
    refine lv_aload_n hx hb dX6_back_9 rfl (lv_at hl 0 rfl) ?_
    refine fl_get (C := RX6) (T := TX6) (N := 7) (ci := 5) (v := .ref s8) hx hb ht in_X6 hown hK hP 0 rfl rfl 6 (by decide) mw_361 rfl dX6_back_10 ?_
    refine lv_iload_n hx hb dX6_back_13 rfl (lv_at hl 1 rfl) ?_
    obtain ⟨g_4, h⟩ := h
    refine va_aldq hx hb hK hP 15 4 rfl rfl g_4 dX6_back_14 ?_
    cases hs_6 : z7 (Int32.toNatClampNeg x1) with
    | none =>
      rw [hs_6] at h
      dsimp only at h
      refine ab_q (pf_no hs_6) ?_
      refine ab_null ?_
      refine lv_astore_nN (lv' := [(2, .null), (0, .ref (a0 0)), (1, .int x1)]) hx hb dX6_back_15 rfl hl (by decide) rfl (fun ls hl => ?_)
      refine lv_aload_nN hx hb dX6_back_16 rfl (lv_at hl 0 rfl) ?_
      refine lv_ifnonnullN hx hb dX6_back_17 ?_
      refine lv_bipush (v := (-2)) hx hb dX6_back_20 (by decide) ?_
      have hP := hP.part (cx := [((a0 0), .inr (5, [.ref (a1 0), .ref (a2 0), .ref (a3 0), .ref (a4 0), .ref (a5 0), .ref p8, .ref s8])), ((a2 0), .inr (0, [.int (s2.1 0), .int (s2.1 1), .int (s2.1 2), .int (s2.1 3), .int (s2.1 4), .int (s2.1 5), .ref (a2 1), .ref (a2 2), .ref (a2 3), .ref (a2 4), .ref (a2 5), .ref (a2 6), .ref (a2 7), .ref (a2 8), .ref (a2 9), .ref (a2 10), .ref (a2 11), .ref (a2 12)])), ((a2 1), .inl (q 0, 4, .inl (s2.2.1 0))), ((a2 2), .inl (q 0, 4, .inl (s2.2.1 1))), ((a2 3), .inl (q 0, 160, .inl (s2.2.1 2))), ((a2 4), .inl (q 0, 40, .inl (s2.2.1 3))), ((a2 5), .inl (q 0, 40, .inl (s2.2.1 4))), ((a2 6), .inl (q 0, 40, .inl (s2.2.1 5))), ((a2 7), .inl (q 0, 40, .inl (s2.2.1 6))), ((a2 8), .inl (q 0, 40, .inl (s2.2.1 7))), ((a2 9), .inl (q 0, 40, .inl (s2.2.1 8))), ((a2 10), .inl (q 0, 40, .inl (s2.2.1 9))), ((a2 11), .inl (q 1, 40, .inr (.inl s2.2.2.1))), ((a2 12), .inl (q 0, s2.2.2.2.1, .inl s2.2.2.2.2)), (p8, .inr (2, [.ref p9, .int (s6.1 0), .int (s6.1 1)])), (s8, .inl (q 4, 2, .inr (.inr (.inr (.inr (pf_f AA z7))))))]) [0, 1, 2, 3, 4, 5, 6, 7, 8, 9, 10, 11, 12, 13, 14, 15] rfl
      have hD := hD.part (cx := [((a0 0), .inr (5, [.ref (a1 0), .ref (a2 0), .ref (a3 0), .ref (a4 0), .ref (a5 0), .ref p8, .ref s8])), ((a2 0), .inr (0, [.int (s2.1 0), .int (s2.1 1), .int (s2.1 2), .int (s2.1 3), .int (s2.1 4), .int (s2.1 5), .ref (a2 1), .ref (a2 2), .ref (a2 3), .ref (a2 4), .ref (a2 5), .ref (a2 6), .ref (a2 7), .ref (a2 8), .ref (a2 9), .ref (a2 10), .ref (a2 11), .ref (a2 12)])), ((a2 1), .inl (q 0, 4, .inl (s2.2.1 0))), ((a2 2), .inl (q 0, 4, .inl (s2.2.1 1))), ((a2 3), .inl (q 0, 160, .inl (s2.2.1 2))), ((a2 4), .inl (q 0, 40, .inl (s2.2.1 3))), ((a2 5), .inl (q 0, 40, .inl (s2.2.1 4))), ((a2 6), .inl (q 0, 40, .inl (s2.2.1 5))), ((a2 7), .inl (q 0, 40, .inl (s2.2.1 6))), ((a2 8), .inl (q 0, 40, .inl (s2.2.1 7))), ((a2 9), .inl (q 0, 40, .inl (s2.2.1 8))), ((a2 10), .inl (q 0, 40, .inl (s2.2.1 9))), ((a2 11), .inl (q 1, 40, .inr (.inl s2.2.2.1))), ((a2 12), .inl (q 0, s2.2.2.2.1, .inl s2.2.2.2.2)), (p8, .inr (2, [.ref p9, .int (s6.1 0), .int (s6.1 1)])), (s8, .inl (q 4, 2, .inr (.inr (.inr (.inr (pf_f AA z7))))))]) [0, 1, 2, 3, 4, 5, 6, 7, 8, 9, 10, 11, 12, 13, 14, 15] (by decide) rfl
      refine W.widen (k := 1) (n := 6400) (Nat.le_of_ble_eq_true rfl) (Nat.le_of_ble_eq_true rfl) ?_
      exact mt_iret (AA, (a2 12), s2, s6, z7) hx hb hr hk h hP hD hS dX6_back_22
    | some S_5 =>
      rw [hs_6] at h
      dsimp only at h
      refine ab_q (pf_so hs_6) ?_
      refine ab_ref ?_
      have hP := vp_perm (po_perm [((a0 0), .inr (5, [.ref (a1 0), .ref (a2 0), .ref (a3 0), .ref (a4 0), .ref (a5 0), .ref p8, .ref s8])), ((a2 0), .inr (0, [.int (s2.1 0), .int (s2.1 1), .int (s2.1 2), .int (s2.1 3), .int (s2.1 4), .int (s2.1 5), .ref (a2 1), .ref (a2 2), .ref (a2 3), .ref (a2 4), .ref (a2 5), .ref (a2 6), .ref (a2 7), .ref (a2 8), .ref (a2 9), .ref (a2 10), .ref (a2 11), .ref (a2 12)])), ((a2 1), .inl (q 0, 4, .inl (s2.2.1 0))), ((a2 2), .inl (q 0, 4, .inl (s2.2.1 1))), ((a2 3), .inl (q 0, 160, .inl (s2.2.1 2))), ((a2 4), .inl (q 0, 40, .inl (s2.2.1 3))), ((a2 5), .inl (q 0, 40, .inl (s2.2.1 4))), ((a2 6), .inl (q 0, 40, .inl (s2.2.1 5))), ((a2 7), .inl (q 0, 40, .inl (s2.2.1 6))), ((a2 8), .inl (q 0, 40, .inl (s2.2.1 7))), ((a2 9), .inl (q 0, 40, .inl (s2.2.1 8))), ((a2 10), .inl (q 0, 40, .inl (s2.2.1 9))), ((a2 11), .inl (q 1, 40, .inr (.inl s2.2.2.1))), ((a2 12), .inl (q 0, s2.2.2.2.1, .inl s2.2.2.2.2)), (p8, .inr (2, [.ref p9, .int (s6.1 0), .int (s6.1 1)])), (s8, .inl (q 4, 2, .inr (.inr (.inr (.inr (pf_f AA z7))))))] (in_lt g_4) hs_6) hP
      have hD := vd_perm (po_perm [((a0 0), .inr (5, [.ref (a1 0), .ref (a2 0), .ref (a3 0), .ref (a4 0), .ref (a5 0), .ref p8, .ref s8])), ((a2 0), .inr (0, [.int (s2.1 0), .int (s2.1 1), .int (s2.1 2), .int (s2.1 3), .int (s2.1 4), .int (s2.1 5), .ref (a2 1), .ref (a2 2), .ref (a2 3), .ref (a2 4), .ref (a2 5), .ref (a2 6), .ref (a2 7), .ref (a2 8), .ref (a2 9), .ref (a2 10), .ref (a2 11), .ref (a2 12)])), ((a2 1), .inl (q 0, 4, .inl (s2.2.1 0))), ((a2 2), .inl (q 0, 4, .inl (s2.2.1 1))), ((a2 3), .inl (q 0, 160, .inl (s2.2.1 2))), ((a2 4), .inl (q 0, 40, .inl (s2.2.1 3))), ((a2 5), .inl (q 0, 40, .inl (s2.2.1 4))), ((a2 6), .inl (q 0, 40, .inl (s2.2.1 5))), ((a2 7), .inl (q 0, 40, .inl (s2.2.1 6))), ((a2 8), .inl (q 0, 40, .inl (s2.2.1 7))), ((a2 9), .inl (q 0, 40, .inl (s2.2.1 8))), ((a2 10), .inl (q 0, 40, .inl (s2.2.1 9))), ((a2 11), .inl (q 1, 40, .inr (.inl s2.2.2.1))), ((a2 12), .inl (q 0, s2.2.2.2.1, .inl s2.2.2.2.2)), (p8, .inr (2, [.ref p9, .int (s6.1 0), .int (s6.1 1)])), (s8, .inl (q 4, 2, .inr (.inr (.inr (.inr (pf_f AA z7))))))] (in_lt g_4) hs_6) hD
      have hP : va_P D vwCl (([((a0 0), .inr (5, [.ref (a1 0), .ref (a2 0), .ref (a3 0), .ref (a4 0), .ref (a5 0), .ref p8, .ref s8])), ((a2 0), .inr (0, [.int (s2.1 0), .int (s2.1 1), .int (s2.1 2), .int (s2.1 3), .int (s2.1 4), .int (s2.1 5), .ref (a2 1), .ref (a2 2), .ref (a2 3), .ref (a2 4), .ref (a2 5), .ref (a2 6), .ref (a2 7), .ref (a2 8), .ref (a2 9), .ref (a2 10), .ref (a2 11), .ref (a2 12)])), ((a2 1), .inl (q 0, 4, .inl (s2.2.1 0))), ((a2 2), .inl (q 0, 4, .inl (s2.2.1 1))), ((a2 3), .inl (q 0, 160, .inl (s2.2.1 2))), ((a2 4), .inl (q 0, 40, .inl (s2.2.1 3))), ((a2 5), .inl (q 0, 40, .inl (s2.2.1 4))), ((a2 6), .inl (q 0, 40, .inl (s2.2.1 5))), ((a2 7), .inl (q 0, 40, .inl (s2.2.1 6))), ((a2 8), .inl (q 0, 40, .inl (s2.2.1 7))), ((a2 9), .inl (q 0, 40, .inl (s2.2.1 8))), ((a2 10), .inl (q 0, 40, .inl (s2.2.1 9))), ((a2 11), .inl (q 1, 40, .inr (.inl s2.2.2.1))), ((a2 12), .inl (q 0, s2.2.2.2.1, .inl s2.2.2.2.2)), (p8, .inr (2, [.ref p9, .int (s6.1 0), .int (s6.1 1)])), (s8, .inl (q 4, 2, .inr (.inr (.inr (.inr (pf_f AA z7)))))), (((AA (Int32.toNatClampNeg x1)) 0), .inr (0, [.int (S_5.1 0), .int (S_5.1 1), .int (S_5.1 2), .int (S_5.1 3), .int (S_5.1 4), .int (S_5.1 5), .ref ((AA (Int32.toNatClampNeg x1)) 1), .ref ((AA (Int32.toNatClampNeg x1)) 2), .ref ((AA (Int32.toNatClampNeg x1)) 3), .ref ((AA (Int32.toNatClampNeg x1)) 4), .ref ((AA (Int32.toNatClampNeg x1)) 5), .ref ((AA (Int32.toNatClampNeg x1)) 6), .ref ((AA (Int32.toNatClampNeg x1)) 7), .ref ((AA (Int32.toNatClampNeg x1)) 8), .ref ((AA (Int32.toNatClampNeg x1)) 9), .ref ((AA (Int32.toNatClampNeg x1)) 10), .ref ((AA (Int32.toNatClampNeg x1)) 11), .ref ((AA (Int32.toNatClampNeg x1)) 12)])), (((AA (Int32.toNatClampNeg x1)) 1), .inl (q 0, 4, .inl (S_5.2.1 0))), (((AA (Int32.toNatClampNeg x1)) 2), .inl (q 0, 4, .inl (S_5.2.1 1))), (((AA (Int32.toNatClampNeg x1)) 3), .inl (q 0, 160, .inl (S_5.2.1 2))), (((AA (Int32.toNatClampNeg x1)) 4), .inl (q 0, 40, .inl (S_5.2.1 3))), (((AA (Int32.toNatClampNeg x1)) 5), .inl (q 0, 40, .inl (S_5.2.1 4))), (((AA (Int32.toNatClampNeg x1)) 6), .inl (q 0, 40, .inl (S_5.2.1 5))), (((AA (Int32.toNatClampNeg x1)) 7), .inl (q 0, 40, .inl (S_5.2.1 6))), (((AA (Int32.toNatClampNeg x1)) 8), .inl (q 0, 40, .inl (S_5.2.1 7))), (((AA (Int32.toNatClampNeg x1)) 9), .inl (q 0, 40, .inl (S_5.2.1 8))), (((AA (Int32.toNatClampNeg x1)) 10), .inl (q 0, 40, .inl (S_5.2.1 9))), (((AA (Int32.toNatClampNeg x1)) 11), .inl (q 1, 40, .inr (.inl S_5.2.2.1))), (((AA (Int32.toNatClampNeg x1)) 12), .inl (q 0, S_5.2.2.2.1, .inl S_5.2.2.2.2))] : va_W) ++ ps_w q 2 AA (va_up z7 (Int32.toNatClampNeg x1) none)) s.heap := hP
      have hD : va_D _ (([((a0 0), .inr (5, [.ref (a1 0), .ref (a2 0), .ref (a3 0), .ref (a4 0), .ref (a5 0), .ref p8, .ref s8])), ((a2 0), .inr (0, [.int (s2.1 0), .int (s2.1 1), .int (s2.1 2), .int (s2.1 3), .int (s2.1 4), .int (s2.1 5), .ref (a2 1), .ref (a2 2), .ref (a2 3), .ref (a2 4), .ref (a2 5), .ref (a2 6), .ref (a2 7), .ref (a2 8), .ref (a2 9), .ref (a2 10), .ref (a2 11), .ref (a2 12)])), ((a2 1), .inl (q 0, 4, .inl (s2.2.1 0))), ((a2 2), .inl (q 0, 4, .inl (s2.2.1 1))), ((a2 3), .inl (q 0, 160, .inl (s2.2.1 2))), ((a2 4), .inl (q 0, 40, .inl (s2.2.1 3))), ((a2 5), .inl (q 0, 40, .inl (s2.2.1 4))), ((a2 6), .inl (q 0, 40, .inl (s2.2.1 5))), ((a2 7), .inl (q 0, 40, .inl (s2.2.1 6))), ((a2 8), .inl (q 0, 40, .inl (s2.2.1 7))), ((a2 9), .inl (q 0, 40, .inl (s2.2.1 8))), ((a2 10), .inl (q 0, 40, .inl (s2.2.1 9))), ((a2 11), .inl (q 1, 40, .inr (.inl s2.2.2.1))), ((a2 12), .inl (q 0, s2.2.2.2.1, .inl s2.2.2.2.2)), (p8, .inr (2, [.ref p9, .int (s6.1 0), .int (s6.1 1)])), (s8, .inl (q 4, 2, .inr (.inr (.inr (.inr (pf_f AA z7)))))), (((AA (Int32.toNatClampNeg x1)) 0), .inr (0, [.int (S_5.1 0), .int (S_5.1 1), .int (S_5.1 2), .int (S_5.1 3), .int (S_5.1 4), .int (S_5.1 5), .ref ((AA (Int32.toNatClampNeg x1)) 1), .ref ((AA (Int32.toNatClampNeg x1)) 2), .ref ((AA (Int32.toNatClampNeg x1)) 3), .ref ((AA (Int32.toNatClampNeg x1)) 4), .ref ((AA (Int32.toNatClampNeg x1)) 5), .ref ((AA (Int32.toNatClampNeg x1)) 6), .ref ((AA (Int32.toNatClampNeg x1)) 7), .ref ((AA (Int32.toNatClampNeg x1)) 8), .ref ((AA (Int32.toNatClampNeg x1)) 9), .ref ((AA (Int32.toNatClampNeg x1)) 10), .ref ((AA (Int32.toNatClampNeg x1)) 11), .ref ((AA (Int32.toNatClampNeg x1)) 12)])), (((AA (Int32.toNatClampNeg x1)) 1), .inl (q 0, 4, .inl (S_5.2.1 0))), (((AA (Int32.toNatClampNeg x1)) 2), .inl (q 0, 4, .inl (S_5.2.1 1))), (((AA (Int32.toNatClampNeg x1)) 3), .inl (q 0, 160, .inl (S_5.2.1 2))), (((AA (Int32.toNatClampNeg x1)) 4), .inl (q 0, 40, .inl (S_5.2.1 3))), (((AA (Int32.toNatClampNeg x1)) 5), .inl (q 0, 40, .inl (S_5.2.1 4))), (((AA (Int32.toNatClampNeg x1)) 6), .inl (q 0, 40, .inl (S_5.2.1 5))), (((AA (Int32.toNatClampNeg x1)) 7), .inl (q 0, 40, .inl (S_5.2.1 6))), (((AA (Int32.toNatClampNeg x1)) 8), .inl (q 0, 40, .inl (S_5.2.1 7))), (((AA (Int32.toNatClampNeg x1)) 9), .inl (q 0, 40, .inl (S_5.2.1 8))), (((AA (Int32.toNatClampNeg x1)) 10), .inl (q 0, 40, .inl (S_5.2.1 9))), (((AA (Int32.toNatClampNeg x1)) 11), .inl (q 1, 40, .inr (.inl S_5.2.2.1))), (((AA (Int32.toNatClampNeg x1)) 12), .inl (q 0, S_5.2.2.2.1, .inl S_5.2.2.2.2))] : va_W) ++ ps_w q 2 AA (va_up z7 (Int32.toNatClampNeg x1) none)) := hD
      refine lv_astore_n (lv' := [(2, .ref ((AA (Int32.toNatClampNeg x1)) 0)), (0, .ref (a0 0)), (1, .int x1)]) hx hb dX6_back_15 rfl hl (by decide) rfl (fun ls hl => ?_)
      refine lv_aload_n hx hb dX6_back_16 rfl (lv_at hl 0 rfl) ?_
      refine lv_ifnonnull (tgt := 23) hx hb dX6_back_17 (by decide) ?_
      refine lv_aload_n hx hb dX6_back_23 rfl (lv_at hl 1 rfl) ?_
      refine fl_get (C := RX6) (T := TX6) (N := 7) (ci := 5) (v := .ref (a2 0)) hx hb ht in_X6 hown hK hP 0 rfl rfl 1 (by decide) mw_356 rfl dX6_back_24 ?_
      refine lv_aload_n hx hb dX6_back_27 rfl (lv_at hl 0 rfl) ?_
      refine mt_govQ (X := [((a0 0), .inr (5, [.ref (a1 0), .ref (a2 0), .ref (a3 0), .ref (a4 0), .ref (a5 0), .ref p8, .ref s8])), ((a2 0), .inr (0, [.int (s2.1 0), .int (s2.1 1), .int (s2.1 2), .int (s2.1 3), .int (s2.1 4), .int (s2.1 5), .ref (a2 1), .ref (a2 2), .ref (a2 3), .ref (a2 4), .ref (a2 5), .ref (a2 6), .ref (a2 7), .ref (a2 8), .ref (a2 9), .ref (a2 10), .ref (a2 11), .ref (a2 12)])), ((a2 1), .inl (q 0, 4, .inl (s2.2.1 0))), ((a2 2), .inl (q 0, 4, .inl (s2.2.1 1))), ((a2 3), .inl (q 0, 160, .inl (s2.2.1 2))), ((a2 4), .inl (q 0, 40, .inl (s2.2.1 3))), ((a2 5), .inl (q 0, 40, .inl (s2.2.1 4))), ((a2 6), .inl (q 0, 40, .inl (s2.2.1 5))), ((a2 7), .inl (q 0, 40, .inl (s2.2.1 6))), ((a2 8), .inl (q 0, 40, .inl (s2.2.1 7))), ((a2 9), .inl (q 0, 40, .inl (s2.2.1 8))), ((a2 10), .inl (q 0, 40, .inl (s2.2.1 9))), ((a2 11), .inl (q 1, 40, .inr (.inl s2.2.2.1))), ((a2 12), .inl (q 0, s2.2.2.2.1, .inl s2.2.2.2.2)), (p8, .inr (2, [.ref p9, .int (s6.1 0), .int (s6.1 1)])), (s8, .inl (q 4, 2, .inr (.inr (.inr (.inr (pf_f AA z7)))))), (((AA (Int32.toNatClampNeg x1)) 0), .inr (0, [.int (S_5.1 0), .int (S_5.1 1), .int (S_5.1 2), .int (S_5.1 3), .int (S_5.1 4), .int (S_5.1 5), .ref ((AA (Int32.toNatClampNeg x1)) 1), .ref ((AA (Int32.toNatClampNeg x1)) 2), .ref ((AA (Int32.toNatClampNeg x1)) 3), .ref ((AA (Int32.toNatClampNeg x1)) 4), .ref ((AA (Int32.toNatClampNeg x1)) 5), .ref ((AA (Int32.toNatClampNeg x1)) 6), .ref ((AA (Int32.toNatClampNeg x1)) 7), .ref ((AA (Int32.toNatClampNeg x1)) 8), .ref ((AA (Int32.toNatClampNeg x1)) 9), .ref ((AA (Int32.toNatClampNeg x1)) 10), .ref ((AA (Int32.toNatClampNeg x1)) 11), .ref ((AA (Int32.toNatClampNeg x1)) 12)])), (((AA (Int32.toNatClampNeg x1)) 1), .inl (q 0, 4, .inl (S_5.2.1 0))), (((AA (Int32.toNatClampNeg x1)) 2), .inl (q 0, 4, .inl (S_5.2.1 1))), (((AA (Int32.toNatClampNeg x1)) 3), .inl (q 0, 160, .inl (S_5.2.1 2))), (((AA (Int32.toNatClampNeg x1)) 4), .inl (q 0, 40, .inl (S_5.2.1 3))), (((AA (Int32.toNatClampNeg x1)) 5), .inl (q 0, 40, .inl (S_5.2.1 4))), (((AA (Int32.toNatClampNeg x1)) 6), .inl (q 0, 40, .inl (S_5.2.1 5))), (((AA (Int32.toNatClampNeg x1)) 7), .inl (q 0, 40, .inl (S_5.2.1 6))), (((AA (Int32.toNatClampNeg x1)) 8), .inl (q 0, 40, .inl (S_5.2.1 7))), (((AA (Int32.toNatClampNeg x1)) 9), .inl (q 0, 40, .inl (S_5.2.1 8))), (((AA (Int32.toNatClampNeg x1)) 10), .inl (q 0, 40, .inl (S_5.2.1 9))), (((AA (Int32.toNatClampNeg x1)) 11), .inl (q 1, 40, .inr (.inl S_5.2.2.1))), (((AA (Int32.toNatClampNeg x1)) 12), .inl (q 0, S_5.2.2.2.1, .inl S_5.2.2.2.2))]) (pl := ps_w q 2 AA (va_up z7 (Int32.toNatClampNeg x1) none)) (mt_wV (wc := bd_w a2 q s2 ++ bd_w (AA (Int32.toNatClampNeg x1)) q S_5) (As := [.ref ((AA (Int32.toNatClampNeg x1)) 0)]) (rest := []) hx hb hml hown ht (c2_X0_copyAll h) wd_X0_copyAll mw_884 hQ hV hS hA (hP.sub [1, 2, 3, 4, 5, 6, 7, 8, 9, 10, 11, 12, 13, 16, 17, 18, 19, 20, 21, 22, 23, 24, 25, 26, 27, 28] rfl) (hD.sub [1, 2, 3, 4, 5, 6, 7, 8, 9, 10, 11, 12, 13, 16, 17, 18, 19, 20, 21, 22, 23, 24, 25, 26, 27, 28] (by decide) rfl) rfl rfl rfl hl.1 rfl (Nat.le_of_ble_eq_true rfl) dX6_back_28 ⟨Nat.le_of_ble_eq_true rfl, Nat.le_of_ble_eq_true rfl, rfl, rfl⟩ ⟨Nat.le_of_ble_eq_true rfl, Nat.le_of_ble_eq_true rfl⟩) (wr := [((a0 0), .inr (5, [.ref (a1 0), .ref (a2 0), .ref (a3 0), .ref (a4 0), .ref (a5 0), .ref p8, .ref s8])), (p8, .inr (2, [.ref p9, .int (s6.1 0), .int (s6.1 1)])), (s8, .inl (q 4, 2, .inr (.inr (.inr (.inr (pf_f AA z7))))))]) hP hD hS hA [1, 2, 3, 4, 5, 6, 7, 8, 9, 10, 11, 12, 13, 16, 17, 18, 19, 20, 21, 22, 23, 24, 25, 26, 27, 28] [0, 14, 15] rfl rfl (by decide) (by decide) (fun u_7 H locs h hP hD hS => ?_)
      obtain ⟨e_8, S_9⟩ := u_7
      try dsimp only at h
      have hP : va_P D vwCl (([((a0 0), .inr (5, [.ref (a1 0), .ref (a2 0), .ref (a3 0), .ref (a4 0), .ref (a5 0), .ref p8, .ref s8])), (p8, .inr (2, [.ref p9, .int (s6.1 0), .int (s6.1 1)])), (s8, .inl (q 4, 2, .inr (.inr (.inr (.inr (pf_f AA z7)))))), ((a2 0), .inr (0, [.int (S_9.1 0), .int (S_9.1 1), .int (S_9.1 2), .int (S_9.1 3), .int (S_9.1 4), .int (S_9.1 5), .ref (a2 1), .ref (a2 2), .ref (a2 3), .ref (a2 4), .ref (a2 5), .ref (a2 6), .ref (a2 7), .ref (a2 8), .ref (a2 9), .ref (a2 10), .ref (a2 11), .ref e_8])), ((a2 1), .inl (q 0, 4, .inl (S_9.2.1 0))), ((a2 2), .inl (q 0, 4, .inl (S_9.2.1 1))), ((a2 3), .inl (q 0, 160, .inl (S_9.2.1 2))), ((a2 4), .inl (q 0, 40, .inl (S_9.2.1 3))), ((a2 5), .inl (q 0, 40, .inl (S_9.2.1 4))), ((a2 6), .inl (q 0, 40, .inl (S_9.2.1 5))), ((a2 7), .inl (q 0, 40, .inl (S_9.2.1 6))), ((a2 8), .inl (q 0, 40, .inl (S_9.2.1 7))), ((a2 9), .inl (q 0, 40, .inl (S_9.2.1 8))), ((a2 10), .inl (q 0, 40, .inl (S_9.2.1 9))), ((a2 11), .inl (q 1, 40, .inr (.inl S_9.2.2.1))), (e_8, .inl (q 0, S_9.2.2.2.1, .inl S_9.2.2.2.2)), (((AA (Int32.toNatClampNeg x1)) 0), .inr (0, [.int (S_5.1 0), .int (S_5.1 1), .int (S_5.1 2), .int (S_5.1 3), .int (S_5.1 4), .int (S_5.1 5), .ref ((AA (Int32.toNatClampNeg x1)) 1), .ref ((AA (Int32.toNatClampNeg x1)) 2), .ref ((AA (Int32.toNatClampNeg x1)) 3), .ref ((AA (Int32.toNatClampNeg x1)) 4), .ref ((AA (Int32.toNatClampNeg x1)) 5), .ref ((AA (Int32.toNatClampNeg x1)) 6), .ref ((AA (Int32.toNatClampNeg x1)) 7), .ref ((AA (Int32.toNatClampNeg x1)) 8), .ref ((AA (Int32.toNatClampNeg x1)) 9), .ref ((AA (Int32.toNatClampNeg x1)) 10), .ref ((AA (Int32.toNatClampNeg x1)) 11), .ref ((AA (Int32.toNatClampNeg x1)) 12)])), (((AA (Int32.toNatClampNeg x1)) 1), .inl (q 0, 4, .inl (S_5.2.1 0))), (((AA (Int32.toNatClampNeg x1)) 2), .inl (q 0, 4, .inl (S_5.2.1 1))), (((AA (Int32.toNatClampNeg x1)) 3), .inl (q 0, 160, .inl (S_5.2.1 2))), (((AA (Int32.toNatClampNeg x1)) 4), .inl (q 0, 40, .inl (S_5.2.1 3))), (((AA (Int32.toNatClampNeg x1)) 5), .inl (q 0, 40, .inl (S_5.2.1 4))), (((AA (Int32.toNatClampNeg x1)) 6), .inl (q 0, 40, .inl (S_5.2.1 5))), (((AA (Int32.toNatClampNeg x1)) 7), .inl (q 0, 40, .inl (S_5.2.1 6))), (((AA (Int32.toNatClampNeg x1)) 8), .inl (q 0, 40, .inl (S_5.2.1 7))), (((AA (Int32.toNatClampNeg x1)) 9), .inl (q 0, 40, .inl (S_5.2.1 8))), (((AA (Int32.toNatClampNeg x1)) 10), .inl (q 0, 40, .inl (S_5.2.1 9))), (((AA (Int32.toNatClampNeg x1)) 11), .inl (q 1, 40, .inr (.inl S_5.2.2.1))), (((AA (Int32.toNatClampNeg x1)) 12), .inl (q 0, S_5.2.2.2.1, .inl S_5.2.2.2.2))] : va_W) ++ ps_w q 2 AA (va_up z7 (Int32.toNatClampNeg x1) none)) H := hP
      have hD : va_D _ (([((a0 0), .inr (5, [.ref (a1 0), .ref (a2 0), .ref (a3 0), .ref (a4 0), .ref (a5 0), .ref p8, .ref s8])), (p8, .inr (2, [.ref p9, .int (s6.1 0), .int (s6.1 1)])), (s8, .inl (q 4, 2, .inr (.inr (.inr (.inr (pf_f AA z7)))))), ((a2 0), .inr (0, [.int (S_9.1 0), .int (S_9.1 1), .int (S_9.1 2), .int (S_9.1 3), .int (S_9.1 4), .int (S_9.1 5), .ref (a2 1), .ref (a2 2), .ref (a2 3), .ref (a2 4), .ref (a2 5), .ref (a2 6), .ref (a2 7), .ref (a2 8), .ref (a2 9), .ref (a2 10), .ref (a2 11), .ref e_8])), ((a2 1), .inl (q 0, 4, .inl (S_9.2.1 0))), ((a2 2), .inl (q 0, 4, .inl (S_9.2.1 1))), ((a2 3), .inl (q 0, 160, .inl (S_9.2.1 2))), ((a2 4), .inl (q 0, 40, .inl (S_9.2.1 3))), ((a2 5), .inl (q 0, 40, .inl (S_9.2.1 4))), ((a2 6), .inl (q 0, 40, .inl (S_9.2.1 5))), ((a2 7), .inl (q 0, 40, .inl (S_9.2.1 6))), ((a2 8), .inl (q 0, 40, .inl (S_9.2.1 7))), ((a2 9), .inl (q 0, 40, .inl (S_9.2.1 8))), ((a2 10), .inl (q 0, 40, .inl (S_9.2.1 9))), ((a2 11), .inl (q 1, 40, .inr (.inl S_9.2.2.1))), (e_8, .inl (q 0, S_9.2.2.2.1, .inl S_9.2.2.2.2)), (((AA (Int32.toNatClampNeg x1)) 0), .inr (0, [.int (S_5.1 0), .int (S_5.1 1), .int (S_5.1 2), .int (S_5.1 3), .int (S_5.1 4), .int (S_5.1 5), .ref ((AA (Int32.toNatClampNeg x1)) 1), .ref ((AA (Int32.toNatClampNeg x1)) 2), .ref ((AA (Int32.toNatClampNeg x1)) 3), .ref ((AA (Int32.toNatClampNeg x1)) 4), .ref ((AA (Int32.toNatClampNeg x1)) 5), .ref ((AA (Int32.toNatClampNeg x1)) 6), .ref ((AA (Int32.toNatClampNeg x1)) 7), .ref ((AA (Int32.toNatClampNeg x1)) 8), .ref ((AA (Int32.toNatClampNeg x1)) 9), .ref ((AA (Int32.toNatClampNeg x1)) 10), .ref ((AA (Int32.toNatClampNeg x1)) 11), .ref ((AA (Int32.toNatClampNeg x1)) 12)])), (((AA (Int32.toNatClampNeg x1)) 1), .inl (q 0, 4, .inl (S_5.2.1 0))), (((AA (Int32.toNatClampNeg x1)) 2), .inl (q 0, 4, .inl (S_5.2.1 1))), (((AA (Int32.toNatClampNeg x1)) 3), .inl (q 0, 160, .inl (S_5.2.1 2))), (((AA (Int32.toNatClampNeg x1)) 4), .inl (q 0, 40, .inl (S_5.2.1 3))), (((AA (Int32.toNatClampNeg x1)) 5), .inl (q 0, 40, .inl (S_5.2.1 4))), (((AA (Int32.toNatClampNeg x1)) 6), .inl (q 0, 40, .inl (S_5.2.1 5))), (((AA (Int32.toNatClampNeg x1)) 7), .inl (q 0, 40, .inl (S_5.2.1 6))), (((AA (Int32.toNatClampNeg x1)) 8), .inl (q 0, 40, .inl (S_5.2.1 7))), (((AA (Int32.toNatClampNeg x1)) 9), .inl (q 0, 40, .inl (S_5.2.1 8))), (((AA (Int32.toNatClampNeg x1)) 10), .inl (q 0, 40, .inl (S_5.2.1 9))), (((AA (Int32.toNatClampNeg x1)) 11), .inl (q 1, 40, .inr (.inl S_5.2.2.1))), (((AA (Int32.toNatClampNeg x1)) 12), .inl (q 0, S_5.2.2.2.1, .inl S_5.2.2.2.2))] : va_W) ++ ps_w q 2 AA (va_up z7 (Int32.toNatClampNeg x1) none)) := hD
      refine W.widen (k := 1) (n := 6400) (Nat.le_of_ble_eq_true rfl) (Nat.le_of_ble_eq_true rfl) ?_
      refine lv_aload_n hx hb dX6_back_31 rfl (lv_at hl 1 rfl) ?_
      refine fl_get (C := RX6) (T := TX6) (N := 7) (ci := 5) (v := .ref p8) hx hb ht in_X6 hown hK hP 0 rfl rfl 5 (by decide) mw_360 rfl dX6_back_32 ?_
      refine lv_iconst (v := 0) hx hb dX6_back_35 (by decide) ?_
      refine fl_put (C := RX3) (T := TX3) (N := 3) (ci := 2) (v := .int 0) (ws2 := [((a0 0), .inr (5, [.ref (a1 0), .ref (a2 0), .ref (a3 0), .ref (a4 0), .ref (a5 0), .ref p8, .ref s8])), (p8, .inr (2, [.ref p9, .int 0, .int (s6.1 1)])), (s8, .inl (q 4, 2, .inr (.inr (.inr (.inr (pf_f AA z7)))))), ((a2 0), .inr (0, [.int (S_9.1 0), .int (S_9.1 1), .int (S_9.1 2), .int (S_9.1 3), .int (S_9.1 4), .int (S_9.1 5), .ref (a2 1), .ref (a2 2), .ref (a2 3), .ref (a2 4), .ref (a2 5), .ref (a2 6), .ref (a2 7), .ref (a2 8), .ref (a2 9), .ref (a2 10), .ref (a2 11), .ref e_8])), ((a2 1), .inl (q 0, 4, .inl (S_9.2.1 0))), ((a2 2), .inl (q 0, 4, .inl (S_9.2.1 1))), ((a2 3), .inl (q 0, 160, .inl (S_9.2.1 2))), ((a2 4), .inl (q 0, 40, .inl (S_9.2.1 3))), ((a2 5), .inl (q 0, 40, .inl (S_9.2.1 4))), ((a2 6), .inl (q 0, 40, .inl (S_9.2.1 5))), ((a2 7), .inl (q 0, 40, .inl (S_9.2.1 6))), ((a2 8), .inl (q 0, 40, .inl (S_9.2.1 7))), ((a2 9), .inl (q 0, 40, .inl (S_9.2.1 8))), ((a2 10), .inl (q 0, 40, .inl (S_9.2.1 9))), ((a2 11), .inl (q 1, 40, .inr (.inl S_9.2.2.1))), (e_8, .inl (q 0, S_9.2.2.2.1, .inl S_9.2.2.2.2)), (((AA (Int32.toNatClampNeg x1)) 0), .inr (0, [.int (S_5.1 0), .int (S_5.1 1), .int (S_5.1 2), .int (S_5.1 3), .int (S_5.1 4), .int (S_5.1 5), .ref ((AA (Int32.toNatClampNeg x1)) 1), .ref ((AA (Int32.toNatClampNeg x1)) 2), .ref ((AA (Int32.toNatClampNeg x1)) 3), .ref ((AA (Int32.toNatClampNeg x1)) 4), .ref ((AA (Int32.toNatClampNeg x1)) 5), .ref ((AA (Int32.toNatClampNeg x1)) 6), .ref ((AA (Int32.toNatClampNeg x1)) 7), .ref ((AA (Int32.toNatClampNeg x1)) 8), .ref ((AA (Int32.toNatClampNeg x1)) 9), .ref ((AA (Int32.toNatClampNeg x1)) 10), .ref ((AA (Int32.toNatClampNeg x1)) 11), .ref ((AA (Int32.toNatClampNeg x1)) 12)])), (((AA (Int32.toNatClampNeg x1)) 1), .inl (q 0, 4, .inl (S_5.2.1 0))), (((AA (Int32.toNatClampNeg x1)) 2), .inl (q 0, 4, .inl (S_5.2.1 1))), (((AA (Int32.toNatClampNeg x1)) 3), .inl (q 0, 160, .inl (S_5.2.1 2))), (((AA (Int32.toNatClampNeg x1)) 4), .inl (q 0, 40, .inl (S_5.2.1 3))), (((AA (Int32.toNatClampNeg x1)) 5), .inl (q 0, 40, .inl (S_5.2.1 4))), (((AA (Int32.toNatClampNeg x1)) 6), .inl (q 0, 40, .inl (S_5.2.1 5))), (((AA (Int32.toNatClampNeg x1)) 7), .inl (q 0, 40, .inl (S_5.2.1 6))), (((AA (Int32.toNatClampNeg x1)) 8), .inl (q 0, 40, .inl (S_5.2.1 7))), (((AA (Int32.toNatClampNeg x1)) 9), .inl (q 0, 40, .inl (S_5.2.1 8))), (((AA (Int32.toNatClampNeg x1)) 10), .inl (q 0, 40, .inl (S_5.2.1 9))), (((AA (Int32.toNatClampNeg x1)) 11), .inl (q 1, 40, .inr (.inl S_5.2.2.1))), (((AA (Int32.toNatClampNeg x1)) 12), .inl (q 0, S_5.2.2.2.1, .inl S_5.2.2.2.2))] ++ ps_w q 2 AA (va_up z7 (Int32.toNatClampNeg x1) none)) hx hb ht in_X3 tyX3_ok nmX3 hown hK hP hD hS 1 rfl rfl 1 (by decide) mw_346 rfl rfl rfl (Nat.le_of_ble_eq_true rfl) dX6_back_36 rfl (fun H locs hP hD hS => ?_)
      refine lv_aload_n hx hb dX6_back_39 rfl (lv_at hl 1 rfl) ?_
      refine fl_get (C := RX6) (T := TX6) (N := 7) (ci := 5) (v := .ref (a2 0)) hx hb ht in_X6 hown hK hP 0 rfl rfl 1 (by decide) mw_356 rfl dX6_back_40 ?_
      refine vp_callSi (rd_wV (wc := bd_w (va_up a2 12 e_8) q S_9) (As := []) (rest := []) hx hb hml hown ht (c2_X0_cells h) wd_X0_cells mw_885 hQ hV hS (hP.sub [3, 4, 5, 6, 7, 8, 9, 10, 11, 12, 13, 14, 15] rfl) rfl rfl rfl hl.1 rfl (Nat.le_of_ble_eq_true rfl) dX6_back_43 ⟨Nat.le_of_ble_eq_true rfl, Nat.le_of_ble_eq_true rfl, rfl, rfl⟩ ⟨Nat.le_of_ble_eq_true rfl, Nat.le_of_ble_eq_true rfl⟩) (fun r_10 h => ?_)
      try dsimp only at h
      have hP := hP.part (cx := [((a0 0), .inr (5, [.ref (a1 0), .ref (a2 0), .ref (a3 0), .ref (a4 0), .ref (a5 0), .ref p8, .ref s8])), ((a2 0), .inr (0, [.int (S_9.1 0), .int (S_9.1 1), .int (S_9.1 2), .int (S_9.1 3), .int (S_9.1 4), .int (S_9.1 5), .ref (a2 1), .ref (a2 2), .ref (a2 3), .ref (a2 4), .ref (a2 5), .ref (a2 6), .ref (a2 7), .ref (a2 8), .ref (a2 9), .ref (a2 10), .ref (a2 11), .ref e_8])), ((a2 1), .inl (q 0, 4, .inl (S_9.2.1 0))), ((a2 2), .inl (q 0, 4, .inl (S_9.2.1 1))), ((a2 3), .inl (q 0, 160, .inl (S_9.2.1 2))), ((a2 4), .inl (q 0, 40, .inl (S_9.2.1 3))), ((a2 5), .inl (q 0, 40, .inl (S_9.2.1 4))), ((a2 6), .inl (q 0, 40, .inl (S_9.2.1 5))), ((a2 7), .inl (q 0, 40, .inl (S_9.2.1 6))), ((a2 8), .inl (q 0, 40, .inl (S_9.2.1 7))), ((a2 9), .inl (q 0, 40, .inl (S_9.2.1 8))), ((a2 10), .inl (q 0, 40, .inl (S_9.2.1 9))), ((a2 11), .inl (q 1, 40, .inr (.inl S_9.2.2.1))), (e_8, .inl (q 0, S_9.2.2.2.1, .inl S_9.2.2.2.2)), (p8, .inr (2, [.ref p9, .int 0, .int (s6.1 1)])), (s8, .inl (q 4, 2, .inr (.inr (.inr (.inr (pf_f AA z7)))))), (((AA (Int32.toNatClampNeg x1)) 0), .inr (0, [.int (S_5.1 0), .int (S_5.1 1), .int (S_5.1 2), .int (S_5.1 3), .int (S_5.1 4), .int (S_5.1 5), .ref ((AA (Int32.toNatClampNeg x1)) 1), .ref ((AA (Int32.toNatClampNeg x1)) 2), .ref ((AA (Int32.toNatClampNeg x1)) 3), .ref ((AA (Int32.toNatClampNeg x1)) 4), .ref ((AA (Int32.toNatClampNeg x1)) 5), .ref ((AA (Int32.toNatClampNeg x1)) 6), .ref ((AA (Int32.toNatClampNeg x1)) 7), .ref ((AA (Int32.toNatClampNeg x1)) 8), .ref ((AA (Int32.toNatClampNeg x1)) 9), .ref ((AA (Int32.toNatClampNeg x1)) 10), .ref ((AA (Int32.toNatClampNeg x1)) 11), .ref ((AA (Int32.toNatClampNeg x1)) 12)])), (((AA (Int32.toNatClampNeg x1)) 1), .inl (q 0, 4, .inl (S_5.2.1 0))), (((AA (Int32.toNatClampNeg x1)) 2), .inl (q 0, 4, .inl (S_5.2.1 1))), (((AA (Int32.toNatClampNeg x1)) 3), .inl (q 0, 160, .inl (S_5.2.1 2))), (((AA (Int32.toNatClampNeg x1)) 4), .inl (q 0, 40, .inl (S_5.2.1 3))), (((AA (Int32.toNatClampNeg x1)) 5), .inl (q 0, 40, .inl (S_5.2.1 4))), (((AA (Int32.toNatClampNeg x1)) 6), .inl (q 0, 40, .inl (S_5.2.1 5))), (((AA (Int32.toNatClampNeg x1)) 7), .inl (q 0, 40, .inl (S_5.2.1 6))), (((AA (Int32.toNatClampNeg x1)) 8), .inl (q 0, 40, .inl (S_5.2.1 7))), (((AA (Int32.toNatClampNeg x1)) 9), .inl (q 0, 40, .inl (S_5.2.1 8))), (((AA (Int32.toNatClampNeg x1)) 10), .inl (q 0, 40, .inl (S_5.2.1 9))), (((AA (Int32.toNatClampNeg x1)) 11), .inl (q 1, 40, .inr (.inl S_5.2.2.1))), (((AA (Int32.toNatClampNeg x1)) 12), .inl (q 0, S_5.2.2.2.1, .inl S_5.2.2.2.2))]) [0, 3, 4, 5, 6, 7, 8, 9, 10, 11, 12, 13, 14, 15, 1, 2, 16, 17, 18, 19, 20, 21, 22, 23, 24, 25, 26, 27, 28] rfl
      have hD := hD.part (cx := [((a0 0), .inr (5, [.ref (a1 0), .ref (a2 0), .ref (a3 0), .ref (a4 0), .ref (a5 0), .ref p8, .ref s8])), ((a2 0), .inr (0, [.int (S_9.1 0), .int (S_9.1 1), .int (S_9.1 2), .int (S_9.1 3), .int (S_9.1 4), .int (S_9.1 5), .ref (a2 1), .ref (a2 2), .ref (a2 3), .ref (a2 4), .ref (a2 5), .ref (a2 6), .ref (a2 7), .ref (a2 8), .ref (a2 9), .ref (a2 10), .ref (a2 11), .ref e_8])), ((a2 1), .inl (q 0, 4, .inl (S_9.2.1 0))), ((a2 2), .inl (q 0, 4, .inl (S_9.2.1 1))), ((a2 3), .inl (q 0, 160, .inl (S_9.2.1 2))), ((a2 4), .inl (q 0, 40, .inl (S_9.2.1 3))), ((a2 5), .inl (q 0, 40, .inl (S_9.2.1 4))), ((a2 6), .inl (q 0, 40, .inl (S_9.2.1 5))), ((a2 7), .inl (q 0, 40, .inl (S_9.2.1 6))), ((a2 8), .inl (q 0, 40, .inl (S_9.2.1 7))), ((a2 9), .inl (q 0, 40, .inl (S_9.2.1 8))), ((a2 10), .inl (q 0, 40, .inl (S_9.2.1 9))), ((a2 11), .inl (q 1, 40, .inr (.inl S_9.2.2.1))), (e_8, .inl (q 0, S_9.2.2.2.1, .inl S_9.2.2.2.2)), (p8, .inr (2, [.ref p9, .int 0, .int (s6.1 1)])), (s8, .inl (q 4, 2, .inr (.inr (.inr (.inr (pf_f AA z7)))))), (((AA (Int32.toNatClampNeg x1)) 0), .inr (0, [.int (S_5.1 0), .int (S_5.1 1), .int (S_5.1 2), .int (S_5.1 3), .int (S_5.1 4), .int (S_5.1 5), .ref ((AA (Int32.toNatClampNeg x1)) 1), .ref ((AA (Int32.toNatClampNeg x1)) 2), .ref ((AA (Int32.toNatClampNeg x1)) 3), .ref ((AA (Int32.toNatClampNeg x1)) 4), .ref ((AA (Int32.toNatClampNeg x1)) 5), .ref ((AA (Int32.toNatClampNeg x1)) 6), .ref ((AA (Int32.toNatClampNeg x1)) 7), .ref ((AA (Int32.toNatClampNeg x1)) 8), .ref ((AA (Int32.toNatClampNeg x1)) 9), .ref ((AA (Int32.toNatClampNeg x1)) 10), .ref ((AA (Int32.toNatClampNeg x1)) 11), .ref ((AA (Int32.toNatClampNeg x1)) 12)])), (((AA (Int32.toNatClampNeg x1)) 1), .inl (q 0, 4, .inl (S_5.2.1 0))), (((AA (Int32.toNatClampNeg x1)) 2), .inl (q 0, 4, .inl (S_5.2.1 1))), (((AA (Int32.toNatClampNeg x1)) 3), .inl (q 0, 160, .inl (S_5.2.1 2))), (((AA (Int32.toNatClampNeg x1)) 4), .inl (q 0, 40, .inl (S_5.2.1 3))), (((AA (Int32.toNatClampNeg x1)) 5), .inl (q 0, 40, .inl (S_5.2.1 4))), (((AA (Int32.toNatClampNeg x1)) 6), .inl (q 0, 40, .inl (S_5.2.1 5))), (((AA (Int32.toNatClampNeg x1)) 7), .inl (q 0, 40, .inl (S_5.2.1 6))), (((AA (Int32.toNatClampNeg x1)) 8), .inl (q 0, 40, .inl (S_5.2.1 7))), (((AA (Int32.toNatClampNeg x1)) 9), .inl (q 0, 40, .inl (S_5.2.1 8))), (((AA (Int32.toNatClampNeg x1)) 10), .inl (q 0, 40, .inl (S_5.2.1 9))), (((AA (Int32.toNatClampNeg x1)) 11), .inl (q 1, 40, .inr (.inl S_5.2.2.1))), (((AA (Int32.toNatClampNeg x1)) 12), .inl (q 0, S_5.2.2.2.1, .inl S_5.2.2.2.2))]) [0, 3, 4, 5, 6, 7, 8, 9, 10, 11, 12, 13, 14, 15, 1, 2, 16, 17, 18, 19, 20, 21, 22, 23, 24, 25, 26, 27, 28] (by decide) rfl
      have hP : va_P D vwCl ((([((a0 0), .inr (5, [.ref (a1 0), .ref (a2 0), .ref (a3 0), .ref (a4 0), .ref (a5 0), .ref p8, .ref s8])), ((a2 0), .inr (0, [.int (S_9.1 0), .int (S_9.1 1), .int (S_9.1 2), .int (S_9.1 3), .int (S_9.1 4), .int (S_9.1 5), .ref (a2 1), .ref (a2 2), .ref (a2 3), .ref (a2 4), .ref (a2 5), .ref (a2 6), .ref (a2 7), .ref (a2 8), .ref (a2 9), .ref (a2 10), .ref (a2 11), .ref e_8])), ((a2 1), .inl (q 0, 4, .inl (S_9.2.1 0))), ((a2 2), .inl (q 0, 4, .inl (S_9.2.1 1))), ((a2 3), .inl (q 0, 160, .inl (S_9.2.1 2))), ((a2 4), .inl (q 0, 40, .inl (S_9.2.1 3))), ((a2 5), .inl (q 0, 40, .inl (S_9.2.1 4))), ((a2 6), .inl (q 0, 40, .inl (S_9.2.1 5))), ((a2 7), .inl (q 0, 40, .inl (S_9.2.1 6))), ((a2 8), .inl (q 0, 40, .inl (S_9.2.1 7))), ((a2 9), .inl (q 0, 40, .inl (S_9.2.1 8))), ((a2 10), .inl (q 0, 40, .inl (S_9.2.1 9))), ((a2 11), .inl (q 1, 40, .inr (.inl S_9.2.2.1))), (e_8, .inl (q 0, S_9.2.2.2.1, .inl S_9.2.2.2.2)), (p8, .inr (2, [.ref p9, .int 0, .int (s6.1 1)])), (s8, .inl (q 4, 2, .inr (.inr (.inr (.inr (pf_f AA z7))))))] : va_W) ++ bd_w (AA (Int32.toNatClampNeg x1)) q S_5) ++ ps_w q 2 AA (va_up z7 (Int32.toNatClampNeg x1) none)) H := hP
      have hD : va_D _ ((([((a0 0), .inr (5, [.ref (a1 0), .ref (a2 0), .ref (a3 0), .ref (a4 0), .ref (a5 0), .ref p8, .ref s8])), ((a2 0), .inr (0, [.int (S_9.1 0), .int (S_9.1 1), .int (S_9.1 2), .int (S_9.1 3), .int (S_9.1 4), .int (S_9.1 5), .ref (a2 1), .ref (a2 2), .ref (a2 3), .ref (a2 4), .ref (a2 5), .ref (a2 6), .ref (a2 7), .ref (a2 8), .ref (a2 9), .ref (a2 10), .ref (a2 11), .ref e_8])), ((a2 1), .inl (q 0, 4, .inl (S_9.2.1 0))), ((a2 2), .inl (q 0, 4, .inl (S_9.2.1 1))), ((a2 3), .inl (q 0, 160, .inl (S_9.2.1 2))), ((a2 4), .inl (q 0, 40, .inl (S_9.2.1 3))), ((a2 5), .inl (q 0, 40, .inl (S_9.2.1 4))), ((a2 6), .inl (q 0, 40, .inl (S_9.2.1 5))), ((a2 7), .inl (q 0, 40, .inl (S_9.2.1 6))), ((a2 8), .inl (q 0, 40, .inl (S_9.2.1 7))), ((a2 9), .inl (q 0, 40, .inl (S_9.2.1 8))), ((a2 10), .inl (q 0, 40, .inl (S_9.2.1 9))), ((a2 11), .inl (q 1, 40, .inr (.inl S_9.2.2.1))), (e_8, .inl (q 0, S_9.2.2.2.1, .inl S_9.2.2.2.2)), (p8, .inr (2, [.ref p9, .int 0, .int (s6.1 1)])), (s8, .inl (q 4, 2, .inr (.inr (.inr (.inr (pf_f AA z7))))))] : va_W) ++ bd_w (AA (Int32.toNatClampNeg x1)) q S_5) ++ ps_w q 2 AA (va_up z7 (Int32.toNatClampNeg x1) none)) := hD
      have hP := vp_perm (po_perm [((a0 0), .inr (5, [.ref (a1 0), .ref (a2 0), .ref (a3 0), .ref (a4 0), .ref (a5 0), .ref p8, .ref s8])), ((a2 0), .inr (0, [.int (S_9.1 0), .int (S_9.1 1), .int (S_9.1 2), .int (S_9.1 3), .int (S_9.1 4), .int (S_9.1 5), .ref (a2 1), .ref (a2 2), .ref (a2 3), .ref (a2 4), .ref (a2 5), .ref (a2 6), .ref (a2 7), .ref (a2 8), .ref (a2 9), .ref (a2 10), .ref (a2 11), .ref e_8])), ((a2 1), .inl (q 0, 4, .inl (S_9.2.1 0))), ((a2 2), .inl (q 0, 4, .inl (S_9.2.1 1))), ((a2 3), .inl (q 0, 160, .inl (S_9.2.1 2))), ((a2 4), .inl (q 0, 40, .inl (S_9.2.1 3))), ((a2 5), .inl (q 0, 40, .inl (S_9.2.1 4))), ((a2 6), .inl (q 0, 40, .inl (S_9.2.1 5))), ((a2 7), .inl (q 0, 40, .inl (S_9.2.1 6))), ((a2 8), .inl (q 0, 40, .inl (S_9.2.1 7))), ((a2 9), .inl (q 0, 40, .inl (S_9.2.1 8))), ((a2 10), .inl (q 0, 40, .inl (S_9.2.1 9))), ((a2 11), .inl (q 1, 40, .inr (.inl S_9.2.2.1))), (e_8, .inl (q 0, S_9.2.2.2.1, .inl S_9.2.2.2.2)), (p8, .inr (2, [.ref p9, .int 0, .int (s6.1 1)])), (s8, .inl (q 4, 2, .inr (.inr (.inr (.inr (pf_f AA z7))))))] (in_lt g_4) hs_6).symm hP
      have hD := vd_perm (po_perm [((a0 0), .inr (5, [.ref (a1 0), .ref (a2 0), .ref (a3 0), .ref (a4 0), .ref (a5 0), .ref p8, .ref s8])), ((a2 0), .inr (0, [.int (S_9.1 0), .int (S_9.1 1), .int (S_9.1 2), .int (S_9.1 3), .int (S_9.1 4), .int (S_9.1 5), .ref (a2 1), .ref (a2 2), .ref (a2 3), .ref (a2 4), .ref (a2 5), .ref (a2 6), .ref (a2 7), .ref (a2 8), .ref (a2 9), .ref (a2 10), .ref (a2 11), .ref e_8])), ((a2 1), .inl (q 0, 4, .inl (S_9.2.1 0))), ((a2 2), .inl (q 0, 4, .inl (S_9.2.1 1))), ((a2 3), .inl (q 0, 160, .inl (S_9.2.1 2))), ((a2 4), .inl (q 0, 40, .inl (S_9.2.1 3))), ((a2 5), .inl (q 0, 40, .inl (S_9.2.1 4))), ((a2 6), .inl (q 0, 40, .inl (S_9.2.1 5))), ((a2 7), .inl (q 0, 40, .inl (S_9.2.1 6))), ((a2 8), .inl (q 0, 40, .inl (S_9.2.1 7))), ((a2 9), .inl (q 0, 40, .inl (S_9.2.1 8))), ((a2 10), .inl (q 0, 40, .inl (S_9.2.1 9))), ((a2 11), .inl (q 1, 40, .inr (.inl S_9.2.2.1))), (e_8, .inl (q 0, S_9.2.2.2.1, .inl S_9.2.2.2.2)), (p8, .inr (2, [.ref p9, .int 0, .int (s6.1 1)])), (s8, .inl (q 4, 2, .inr (.inr (.inr (.inr (pf_f AA z7))))))] (in_lt g_4) hs_6).symm hD
      exact mt_iret (AA, e_8, S_9, ((va_up s6.1 0 0), s6.2), z7) hx hb hr hk h hP hD hS dX6_back_46
  · replace h := h.2 c_3
    refine lv_iconst (v := (-1)) hx hb dX6_back_7 (by decide) ?_
    have hP := hP.part (cx := [((a0 0), .inr (5, [.ref (a1 0), .ref (a2 0), .ref (a3 0), .ref (a4 0), .ref (a5 0), .ref p8, .ref s8])), ((a2 0), .inr (0, [.int (s2.1 0), .int (s2.1 1), .int (s2.1 2), .int (s2.1 3), .int (s2.1 4), .int (s2.1 5), .ref (a2 1), .ref (a2 2), .ref (a2 3), .ref (a2 4), .ref (a2 5), .ref (a2 6), .ref (a2 7), .ref (a2 8), .ref (a2 9), .ref (a2 10), .ref (a2 11), .ref (a2 12)])), ((a2 1), .inl (q 0, 4, .inl (s2.2.1 0))), ((a2 2), .inl (q 0, 4, .inl (s2.2.1 1))), ((a2 3), .inl (q 0, 160, .inl (s2.2.1 2))), ((a2 4), .inl (q 0, 40, .inl (s2.2.1 3))), ((a2 5), .inl (q 0, 40, .inl (s2.2.1 4))), ((a2 6), .inl (q 0, 40, .inl (s2.2.1 5))), ((a2 7), .inl (q 0, 40, .inl (s2.2.1 6))), ((a2 8), .inl (q 0, 40, .inl (s2.2.1 7))), ((a2 9), .inl (q 0, 40, .inl (s2.2.1 8))), ((a2 10), .inl (q 0, 40, .inl (s2.2.1 9))), ((a2 11), .inl (q 1, 40, .inr (.inl s2.2.2.1))), ((a2 12), .inl (q 0, s2.2.2.2.1, .inl s2.2.2.2.2)), (p8, .inr (2, [.ref p9, .int (s6.1 0), .int (s6.1 1)])), (s8, .inl (q 4, 2, .inr (.inr (.inr (.inr (pf_f AA z7))))))]) [0, 1, 2, 3, 4, 5, 6, 7, 8, 9, 10, 11, 12, 13, 14, 15] rfl
    have hD := hD.part (cx := [((a0 0), .inr (5, [.ref (a1 0), .ref (a2 0), .ref (a3 0), .ref (a4 0), .ref (a5 0), .ref p8, .ref s8])), ((a2 0), .inr (0, [.int (s2.1 0), .int (s2.1 1), .int (s2.1 2), .int (s2.1 3), .int (s2.1 4), .int (s2.1 5), .ref (a2 1), .ref (a2 2), .ref (a2 3), .ref (a2 4), .ref (a2 5), .ref (a2 6), .ref (a2 7), .ref (a2 8), .ref (a2 9), .ref (a2 10), .ref (a2 11), .ref (a2 12)])), ((a2 1), .inl (q 0, 4, .inl (s2.2.1 0))), ((a2 2), .inl (q 0, 4, .inl (s2.2.1 1))), ((a2 3), .inl (q 0, 160, .inl (s2.2.1 2))), ((a2 4), .inl (q 0, 40, .inl (s2.2.1 3))), ((a2 5), .inl (q 0, 40, .inl (s2.2.1 4))), ((a2 6), .inl (q 0, 40, .inl (s2.2.1 5))), ((a2 7), .inl (q 0, 40, .inl (s2.2.1 6))), ((a2 8), .inl (q 0, 40, .inl (s2.2.1 7))), ((a2 9), .inl (q 0, 40, .inl (s2.2.1 8))), ((a2 10), .inl (q 0, 40, .inl (s2.2.1 9))), ((a2 11), .inl (q 1, 40, .inr (.inl s2.2.2.1))), ((a2 12), .inl (q 0, s2.2.2.2.1, .inl s2.2.2.2.2)), (p8, .inr (2, [.ref p9, .int (s6.1 0), .int (s6.1 1)])), (s8, .inl (q 4, 2, .inr (.inr (.inr (.inr (pf_f AA z7))))))]) [0, 1, 2, 3, 4, 5, 6, 7, 8, 9, 10, 11, 12, 13, 14, 15] (by decide) rfl
    refine W.widen (k := 1) (n := 6400) (Nat.le_of_ble_eq_true rfl) (Nat.le_of_ble_eq_true rfl) ?_
    exact mt_iret (AA, (a2 12), s2, s6, z7) hx hb hr hk h hP hD hS dX6_back_8

def wp_X6_tell (post : Int32 → Tp → Bd → Bd → Pa → Prop) (s1 : Tp) (s2 : Bd) (s3 : Bd) (s6 : Pa) : Prop := wp_X1_readInto (fun u_2a u_2b => wp_X5_isSound (fun r_3 => ((¬ r_3 = 0 → wp_X0_copyAllButLog (fun u_7 => wp_X0_emptyLog (fun b_10 => post (b_10.1 3) ((va_up u_2b.1 0 0), u_2b.2) b_10 u_2a ((va_up s6.1 0 0), s6.2)) u_7) s2 u_2a) ∧ (r_3 = 0 → post ((-2) - (u_2b.1 5)) ((va_up u_2b.1 0 0), u_2b.2) s2 u_2a s6))) ((va_up u_2b.1 0 0), u_2b.2)) s3 s1
set_option maxHeartbeats 4000000 in
set_option maxRecDepth 100000 in
theorem c2_X6_tell {l : Launch} {D : va_G} {q : Nat → ClassId} {sz : Nat} {a0 a1 a2 a3 a4 a5 : Nat → Nat} {p8 s8 p9 : Nat} {AA : Nat → Nat → Nat} {s1 : Tp} {s2 : Bd} {s3 : Bd} {s6 : Pa} {post : Int32 → Tp → Bd → Bd → Pa → Prop} (h : wp_X6_tell post s1 s2 s3 s6) : Met l yX6_tell (Cond.code yX6_tell cX6_tell 1 (some .int) :: w_all) ({ frames := 10, cells := 1, slots := 6400, locals := 215 } : Room) (mt_P D q [.ref (a0 0)] (fo_w (a0 0) (a1 0) (a2 0) (a3 0) (a4 0) (a5 0) p8 s8 ++ tp_w a1 q s1 ++ bd_w a2 q s2 ++ bd_w a3 q s3 ++ pa_o p8 p9 s6) sz) (va_Qi (fun r (u : Nat × Tp × Bd × Bd × Pa) => post r u.2.1 u.2.2.1 u.2.2.2.1 u.2.2.2.2) (mt_B D (fo_w (a0 0) (a1 0) (a2 0) (a3 0) (a4 0) (a5 0) p8 s8 ++ tp_w a1 q s1 ++ bd_w a2 q s2 ++ bd_w a3 q s3 ++ pa_o p8 p9 s6) sz (fun u : Nat × Tp × Bd × Bd × Pa => (fo_w (a0 0) (a1 0) (a2 0) (a3 0) (a4 0) (a5 0) p8 s8 ++ tp_w a1 q u.2.1 ++ bd_w (va_up a2 12 u.1) q u.2.2.1 ++ bd_w a3 q u.2.2.2.1 ++ pa_o p8 p9 u.2.2.2.2))) (va_A (fo_w (a0 0) (a1 0) (a2 0) (a3 0) (a4 0) (a5 0) p8 s8 ++ tp_w a1 q s1 ++ bd_w a2 q s2 ++ bd_w a3 q s3 ++ pa_o p8 p9 s6) sz)) 1 6400 (va_A (fo_w (a0 0) (a1 0) (a2 0) (a3 0) (a4 0) (a5 0) p8 s8 ++ tp_w a1 q s1 ++ bd_w a2 q s2 ++ bd_w a3 q s3 ++ pa_o p8 p9 s6) sz) := by
  refine mt_start (by decide) (Nat.le_of_ble_eq_true rfl) ?_
  intro p e s m below meth c ls hx hb hr hml hown ht hk hin hP hQ hD hA hS hV hl
  have hK := hQ.1
  have hown : s.vm.findClass RX6 = some m.cls := hown
  have hl : lv_has ls 1 [(0, .ref (a0 0))] := hl
  have hP : va_P D vwCl [((a0 0), .inr (5, [.ref (a1 0), .ref (a2 0), .ref (a3 0), .ref (a4 0), .ref (a5 0), .ref p8, .ref s8])), ((a1 0), .inr (4, [.ref (a1 1), .int (s1.1 0), .int (s1.1 1), .int (s1.1 2), .int (s1.1 3), .int (s1.1 4), .int (s1.1 5)])), ((a1 1), .inl (q 0, 400, .inl s1.2)), ((a2 0), .inr (0, [.int (s2.1 0), .int (s2.1 1), .int (s2.1 2), .int (s2.1 3), .int (s2.1 4), .int (s2.1 5), .ref (a2 1), .ref (a2 2), .ref (a2 3), .ref (a2 4), .ref (a2 5), .ref (a2 6), .ref (a2 7), .ref (a2 8), .ref (a2 9), .ref (a2 10), .ref (a2 11), .ref (a2 12)])), ((a2 1), .inl (q 0, 4, .inl (s2.2.1 0))), ((a2 2), .inl (q 0, 4, .inl (s2.2.1 1))), ((a2 3), .inl (q 0, 160, .inl (s2.2.1 2))), ((a2 4), .inl (q 0, 40, .inl (s2.2.1 3))), ((a2 5), .inl (q 0, 40, .inl (s2.2.1 4))), ((a2 6), .inl (q 0, 40, .inl (s2.2.1 5))), ((a2 7), .inl (q 0, 40, .inl (s2.2.1 6))), ((a2 8), .inl (q 0, 40, .inl (s2.2.1 7))), ((a2 9), .inl (q 0, 40, .inl (s2.2.1 8))), ((a2 10), .inl (q 0, 40, .inl (s2.2.1 9))), ((a2 11), .inl (q 1, 40, .inr (.inl s2.2.2.1))), ((a2 12), .inl (q 0, s2.2.2.2.1, .inl s2.2.2.2.2)), ((a3 0), .inr (0, [.int (s3.1 0), .int (s3.1 1), .int (s3.1 2), .int (s3.1 3), .int (s3.1 4), .int (s3.1 5), .ref (a3 1), .ref (a3 2), .ref (a3 3), .ref (a3 4), .ref (a3 5), .ref (a3 6), .ref (a3 7), .ref (a3 8), .ref (a3 9), .ref (a3 10), .ref (a3 11), .ref (a3 12)])), ((a3 1), .inl (q 0, 4, .inl (s3.2.1 0))), ((a3 2), .inl (q 0, 4, .inl (s3.2.1 1))), ((a3 3), .inl (q 0, 160, .inl (s3.2.1 2))), ((a3 4), .inl (q 0, 40, .inl (s3.2.1 3))), ((a3 5), .inl (q 0, 40, .inl (s3.2.1 4))), ((a3 6), .inl (q 0, 40, .inl (s3.2.1 5))), ((a3 7), .inl (q 0, 40, .inl (s3.2.1 6))), ((a3 8), .inl (q 0, 40, .inl (s3.2.1 7))), ((a3 9), .inl (q 0, 40, .inl (s3.2.1 8))), ((a3 10), .inl (q 0, 40, .inl (s3.2.1 9))), ((a3 11), .inl (q 1, 40, .inr (.inl s3.2.2.1))), ((a3 12), .inl (q 0, s3.2.2.2.1, .inl s3.2.2.2.2)), (p8, .inr (2, [.ref p9, .int (s6.1 0), .int (s6.1 1)]))] s.heap := hP
  have hD : va_D _ [((a0 0), .inr (5, [.ref (a1 0), .ref (a2 0), .ref (a3 0), .ref (a4 0), .ref (a5 0), .ref p8, .ref s8])), ((a1 0), .inr (4, [.ref (a1 1), .int (s1.1 0), .int (s1.1 1), .int (s1.1 2), .int (s1.1 3), .int (s1.1 4), .int (s1.1 5)])), ((a1 1), .inl (q 0, 400, .inl s1.2)), ((a2 0), .inr (0, [.int (s2.1 0), .int (s2.1 1), .int (s2.1 2), .int (s2.1 3), .int (s2.1 4), .int (s2.1 5), .ref (a2 1), .ref (a2 2), .ref (a2 3), .ref (a2 4), .ref (a2 5), .ref (a2 6), .ref (a2 7), .ref (a2 8), .ref (a2 9), .ref (a2 10), .ref (a2 11), .ref (a2 12)])), ((a2 1), .inl (q 0, 4, .inl (s2.2.1 0))), ((a2 2), .inl (q 0, 4, .inl (s2.2.1 1))), ((a2 3), .inl (q 0, 160, .inl (s2.2.1 2))), ((a2 4), .inl (q 0, 40, .inl (s2.2.1 3))), ((a2 5), .inl (q 0, 40, .inl (s2.2.1 4))), ((a2 6), .inl (q 0, 40, .inl (s2.2.1 5))), ((a2 7), .inl (q 0, 40, .inl (s2.2.1 6))), ((a2 8), .inl (q 0, 40, .inl (s2.2.1 7))), ((a2 9), .inl (q 0, 40, .inl (s2.2.1 8))), ((a2 10), .inl (q 0, 40, .inl (s2.2.1 9))), ((a2 11), .inl (q 1, 40, .inr (.inl s2.2.2.1))), ((a2 12), .inl (q 0, s2.2.2.2.1, .inl s2.2.2.2.2)), ((a3 0), .inr (0, [.int (s3.1 0), .int (s3.1 1), .int (s3.1 2), .int (s3.1 3), .int (s3.1 4), .int (s3.1 5), .ref (a3 1), .ref (a3 2), .ref (a3 3), .ref (a3 4), .ref (a3 5), .ref (a3 6), .ref (a3 7), .ref (a3 8), .ref (a3 9), .ref (a3 10), .ref (a3 11), .ref (a3 12)])), ((a3 1), .inl (q 0, 4, .inl (s3.2.1 0))), ((a3 2), .inl (q 0, 4, .inl (s3.2.1 1))), ((a3 3), .inl (q 0, 160, .inl (s3.2.1 2))), ((a3 4), .inl (q 0, 40, .inl (s3.2.1 3))), ((a3 5), .inl (q 0, 40, .inl (s3.2.1 4))), ((a3 6), .inl (q 0, 40, .inl (s3.2.1 5))), ((a3 7), .inl (q 0, 40, .inl (s3.2.1 6))), ((a3 8), .inl (q 0, 40, .inl (s3.2.1 7))), ((a3 9), .inl (q 0, 40, .inl (s3.2.1 8))), ((a3 10), .inl (q 0, 40, .inl (s3.2.1 9))), ((a3 11), .inl (q 1, 40, .inr (.inl s3.2.2.1))), ((a3 12), .inl (q 0, s3.2.2.2.1, .inl s3.2.2.2.2)), (p8, .inr (2, [.ref p9, .int (s6.1 0), .int (s6.1 1)]))] := hD
  unfold wp_X6_tell at h
  refine lv_aload_n hx hb dX6_tell_0 rfl (lv_at hl 0 rfl) ?_
  refine fl_get (C := RX6) (T := TX6) (N := 7) (ci := 5) (v := .ref (a3 0)) hx hb ht in_X6 hown hK hP 0 rfl rfl 2 (by decide) mw_357 rfl dX6_tell_1 ?_
  refine lv_aload_n hx hb dX6_tell_4 rfl (lv_at hl 0 rfl) ?_
  refine fl_get (C := RX6) (T := TX6) (N := 7) (ci := 5) (v := .ref (a1 0)) hx hb ht in_X6 hown hK hP 0 rfl rfl 0 (by decide) mw_355 rfl dX6_tell_5 ?_
  refine mt_gov (mt_wS (wc := bd_w a3 q s3 ++ tp_w a1 q s1) (As := [.ref (a3 0), .ref (a1 0)]) (rest := []) hx hb hml hown ht (c2_X1_readInto h) wd_X1_readInto mw_393 hQ hV hS hA (hP.sub [16, 17, 18, 19, 20, 21, 22, 23, 24, 25, 26, 27, 28, 1, 2] rfl) (hD.sub [16, 17, 18, 19, 20, 21, 22, 23, 24, 25, 26, 27, 28, 1, 2] (by decide) rfl) rfl hl.1 rfl (Nat.le_of_ble_eq_true rfl) dX6_tell_8 ⟨Nat.le_of_ble_eq_true rfl, Nat.le_of_ble_eq_true rfl, rfl, rfl⟩ ⟨Nat.le_of_ble_eq_true rfl, Nat.le_of_ble_eq_true rfl⟩) (wr := [((a0 0), .inr (5, [.ref (a1 0), .ref (a2 0), .ref (a3 0), .ref (a4 0), .ref (a5 0), .ref p8, .ref s8])), ((a2 0), .inr (0, [.int (s2.1 0), .int (s2.1 1), .int (s2.1 2), .int (s2.1 3), .int (s2.1 4), .int (s2.1 5), .ref (a2 1), .ref (a2 2), .ref (a2 3), .ref (a2 4), .ref (a2 5), .ref (a2 6), .ref (a2 7), .ref (a2 8), .ref (a2 9), .ref (a2 10), .ref (a2 11), .ref (a2 12)])), ((a2 1), .inl (q 0, 4, .inl (s2.2.1 0))), ((a2 2), .inl (q 0, 4, .inl (s2.2.1 1))), ((a2 3), .inl (q 0, 160, .inl (s2.2.1 2))), ((a2 4), .inl (q 0, 40, .inl (s2.2.1 3))), ((a2 5), .inl (q 0, 40, .inl (s2.2.1 4))), ((a2 6), .inl (q 0, 40, .inl (s2.2.1 5))), ((a2 7), .inl (q 0, 40, .inl (s2.2.1 6))), ((a2 8), .inl (q 0, 40, .inl (s2.2.1 7))), ((a2 9), .inl (q 0, 40, .inl (s2.2.1 8))), ((a2 10), .inl (q 0, 40, .inl (s2.2.1 9))), ((a2 11), .inl (q 1, 40, .inr (.inl s2.2.2.1))), ((a2 12), .inl (q 0, s2.2.2.2.1, .inl s2.2.2.2.2)), (p8, .inr (2, [.ref p9, .int (s6.1 0), .int (s6.1 1)]))]) hP hD hS hA [16, 17, 18, 19, 20, 21, 22, 23, 24, 25, 26, 27, 28, 1, 2] [0, 3, 4, 5, 6, 7, 8, 9, 10, 11, 12, 13, 14, 15, 29] rfl rfl (by decide) (by decide) (fun u_2 H locs h hP hD hS => ?_)
  obtain ⟨u_2a, u_2b⟩ := u_2
  try dsimp only at h
  have hP : va_P D vwCl [((a0 0), .inr (5, [.ref (a1 0), .ref (a2 0), .ref (a3 0), .ref (a4 0), .ref (a5 0), .ref p8, .ref s8])), ((a2 0), .inr (0, [.int (s2.1 0), .int (s2.1 1), .int (s2.1 2), .int (s2.1 3), .int (s2.1 4), .int (s2.1 5), .ref (a2 1), .ref (a2 2), .ref (a2 3), .ref (a2 4), .ref (a2 5), .ref (a2 6), .ref (a2 7), .ref (a2 8), .ref (a2 9), .ref (a2 10), .ref (a2 11), .ref (a2 12)])), ((a2 1), .inl (q 0, 4, .inl (s2.2.1 0))), ((a2 2), .inl (q 0, 4, .inl (s2.2.1 1))), ((a2 3), .inl (q 0, 160, .inl (s2.2.1 2))), ((a2 4), .inl (q 0, 40, .inl (s2.2.1 3))), ((a2 5), .inl (q 0, 40, .inl (s2.2.1 4))), ((a2 6), .inl (q 0, 40, .inl (s2.2.1 5))), ((a2 7), .inl (q 0, 40, .inl (s2.2.1 6))), ((a2 8), .inl (q 0, 40, .inl (s2.2.1 7))), ((a2 9), .inl (q 0, 40, .inl (s2.2.1 8))), ((a2 10), .inl (q 0, 40, .inl (s2.2.1 9))), ((a2 11), .inl (q 1, 40, .inr (.inl s2.2.2.1))), ((a2 12), .inl (q 0, s2.2.2.2.1, .inl s2.2.2.2.2)), (p8, .inr (2, [.ref p9, .int (s6.1 0), .int (s6.1 1)])), ((a3 0), .inr (0, [.int (u_2a.1 0), .int (u_2a.1 1), .int (u_2a.1 2), .int (u_2a.1 3), .int (u_2a.1 4), .int (u_2a.1 5), .ref (a3 1), .ref (a3 2), .ref (a3 3), .ref (a3 4), .ref (a3 5), .ref (a3 6), .ref (a3 7), .ref (a3 8), .ref (a3 9), .ref (a3 10), .ref (a3 11), .ref (a3 12)])), ((a3 1), .inl (q 0, 4, .inl (u_2a.2.1 0))), ((a3 2), .inl (q 0, 4, .inl (u_2a.2.1 1))), ((a3 3), .inl (q 0, 160, .inl (u_2a.2.1 2))), ((a3 4), .inl (q 0, 40, .inl (u_2a.2.1 3))), ((a3 5), .inl (q 0, 40, .inl (u_2a.2.1 4))), ((a3 6), .inl (q 0, 40, .inl (u_2a.2.1 5))), ((a3 7), .inl (q 0, 40, .inl (u_2a.2.1 6))), ((a3 8), .inl (q 0, 40, .inl (u_2a.2.1 7))), ((a3 9), .inl (q 0, 40, .inl (u_2a.2.1 8))), ((a3 10), .inl (q 0, 40, .inl (u_2a.2.1 9))), ((a3 11), .inl (q 1, 40, .inr (.inl u_2a.2.2.1))), ((a3 12), .inl (q 0, u_2a.2.2.2.1, .inl u_2a.2.2.2.2)), ((a1 0), .inr (4, [.ref (a1 1), .int (u_2b.1 0), .int (u_2b.1 1), .int (u_2b.1 2), .int (u_2b.1 3), .int (u_2b.1 4), .int (u_2b.1 5)])), ((a1 1), .inl (q 0, 400, .inl u_2b.2))] H := hP
  have hD : va_D _ [((a0 0), .inr (5, [.ref (a1 0), .ref (a2 0), .ref (a3 0), .ref (a4 0), .ref (a5 0), .ref p8, .ref s8])), ((a2 0), .inr (0, [.int (s2.1 0), .int (s2.1 1), .int (s2.1 2), .int (s2.1 3), .int (s2.1 4), .int (s2.1 5), .ref (a2 1), .ref (a2 2), .ref (a2 3), .ref (a2 4), .ref (a2 5), .ref (a2 6), .ref (a2 7), .ref (a2 8), .ref (a2 9), .ref (a2 10), .ref (a2 11), .ref (a2 12)])), ((a2 1), .inl (q 0, 4, .inl (s2.2.1 0))), ((a2 2), .inl (q 0, 4, .inl (s2.2.1 1))), ((a2 3), .inl (q 0, 160, .inl (s2.2.1 2))), ((a2 4), .inl (q 0, 40, .inl (s2.2.1 3))), ((a2 5), .inl (q 0, 40, .inl (s2.2.1 4))), ((a2 6), .inl (q 0, 40, .inl (s2.2.1 5))), ((a2 7), .inl (q 0, 40, .inl (s2.2.1 6))), ((a2 8), .inl (q 0, 40, .inl (s2.2.1 7))), ((a2 9), .inl (q 0, 40, .inl (s2.2.1 8))), ((a2 10), .inl (q 0, 40, .inl (s2.2.1 9))), ((a2 11), .inl (q 1, 40, .inr (.inl s2.2.2.1))), ((a2 12), .inl (q 0, s2.2.2.2.1, .inl s2.2.2.2.2)), (p8, .inr (2, [.ref p9, .int (s6.1 0), .int (s6.1 1)])), ((a3 0), .inr (0, [.int (u_2a.1 0), .int (u_2a.1 1), .int (u_2a.1 2), .int (u_2a.1 3), .int (u_2a.1 4), .int (u_2a.1 5), .ref (a3 1), .ref (a3 2), .ref (a3 3), .ref (a3 4), .ref (a3 5), .ref (a3 6), .ref (a3 7), .ref (a3 8), .ref (a3 9), .ref (a3 10), .ref (a3 11), .ref (a3 12)])), ((a3 1), .inl (q 0, 4, .inl (u_2a.2.1 0))), ((a3 2), .inl (q 0, 4, .inl (u_2a.2.1 1))), ((a3 3), .inl (q 0, 160, .inl (u_2a.2.1 2))), ((a3 4), .inl (q 0, 40, .inl (u_2a.2.1 3))), ((a3 5), .inl (q 0, 40, .inl (u_2a.2.1 4))), ((a3 6), .inl (q 0, 40, .inl (u_2a.2.1 5))), ((a3 7), .inl (q 0, 40, .inl (u_2a.2.1 6))), ((a3 8), .inl (q 0, 40, .inl (u_2a.2.1 7))), ((a3 9), .inl (q 0, 40, .inl (u_2a.2.1 8))), ((a3 10), .inl (q 0, 40, .inl (u_2a.2.1 9))), ((a3 11), .inl (q 1, 40, .inr (.inl u_2a.2.2.1))), ((a3 12), .inl (q 0, u_2a.2.2.2.1, .inl u_2a.2.2.2.2)), ((a1 0), .inr (4, [.ref (a1 1), .int (u_2b.1 0), .int (u_2b.1 1), .int (u_2b.1 2), .int (u_2b.1 3), .int (u_2b.1 4), .int (u_2b.1 5)])), ((a1 1), .inl (q 0, 400, .inl u_2b.2))] := hD
  refine lv_aload_n hx hb dX6_tell_11 rfl (lv_at hl 0 rfl) ?_
  refine fl_get (C := RX6) (T := TX6) (N := 7) (ci := 5) (v := .ref (a1 0)) hx hb ht in_X6 hown hK hP 0 rfl rfl 0 (by decide) mw_355 rfl dX6_tell_12 ?_
  refine lv_iconst (v := 0) hx hb dX6_tell_15 (by decide) ?_
  refine fl_put (C := RX5) (T := TX5) (N := 7) (ci := 4) (v := .int 0) (ws2 := [((a0 0), .inr (5, [.ref (a1 0), .ref (a2 0), .ref (a3 0), .ref (a4 0), .ref (a5 0), .ref p8, .ref s8])), ((a2 0), .inr (0, [.int (s2.1 0), .int (s2.1 1), .int (s2.1 2), .int (s2.1 3), .int (s2.1 4), .int (s2.1 5), .ref (a2 1), .ref (a2 2), .ref (a2 3), .ref (a2 4), .ref (a2 5), .ref (a2 6), .ref (a2 7), .ref (a2 8), .ref (a2 9), .ref (a2 10), .ref (a2 11), .ref (a2 12)])), ((a2 1), .inl (q 0, 4, .inl (s2.2.1 0))), ((a2 2), .inl (q 0, 4, .inl (s2.2.1 1))), ((a2 3), .inl (q 0, 160, .inl (s2.2.1 2))), ((a2 4), .inl (q 0, 40, .inl (s2.2.1 3))), ((a2 5), .inl (q 0, 40, .inl (s2.2.1 4))), ((a2 6), .inl (q 0, 40, .inl (s2.2.1 5))), ((a2 7), .inl (q 0, 40, .inl (s2.2.1 6))), ((a2 8), .inl (q 0, 40, .inl (s2.2.1 7))), ((a2 9), .inl (q 0, 40, .inl (s2.2.1 8))), ((a2 10), .inl (q 0, 40, .inl (s2.2.1 9))), ((a2 11), .inl (q 1, 40, .inr (.inl s2.2.2.1))), ((a2 12), .inl (q 0, s2.2.2.2.1, .inl s2.2.2.2.2)), (p8, .inr (2, [.ref p9, .int (s6.1 0), .int (s6.1 1)])), ((a3 0), .inr (0, [.int (u_2a.1 0), .int (u_2a.1 1), .int (u_2a.1 2), .int (u_2a.1 3), .int (u_2a.1 4), .int (u_2a.1 5), .ref (a3 1), .ref (a3 2), .ref (a3 3), .ref (a3 4), .ref (a3 5), .ref (a3 6), .ref (a3 7), .ref (a3 8), .ref (a3 9), .ref (a3 10), .ref (a3 11), .ref (a3 12)])), ((a3 1), .inl (q 0, 4, .inl (u_2a.2.1 0))), ((a3 2), .inl (q 0, 4, .inl (u_2a.2.1 1))), ((a3 3), .inl (q 0, 160, .inl (u_2a.2.1 2))), ((a3 4), .inl (q 0, 40, .inl (u_2a.2.1 3))), ((a3 5), .inl (q 0, 40, .inl (u_2a.2.1 4))), ((a3 6), .inl (q 0, 40, .inl (u_2a.2.1 5))), ((a3 7), .inl (q 0, 40, .inl (u_2a.2.1 6))), ((a3 8), .inl (q 0, 40, .inl (u_2a.2.1 7))), ((a3 9), .inl (q 0, 40, .inl (u_2a.2.1 8))), ((a3 10), .inl (q 0, 40, .inl (u_2a.2.1 9))), ((a3 11), .inl (q 1, 40, .inr (.inl u_2a.2.2.1))), ((a3 12), .inl (q 0, u_2a.2.2.2.1, .inl u_2a.2.2.2.2)), ((a1 0), .inr (4, [.ref (a1 1), .int 0, .int (u_2b.1 1), .int (u_2b.1 2), .int (u_2b.1 3), .int (u_2b.1 4), .int (u_2b.1 5)])), ((a1 1), .inl (q 0, 400, .inl u_2b.2))]) hx hb ht in_X5 tyX5_ok nmX5 hown hK hP hD hS 28 rfl rfl 1 (by decide) mw_129 rfl rfl rfl (Nat.le_of_ble_eq_true rfl) dX6_tell_16 rfl (fun H locs hP hD hS => ?_)
  refine lv_aload_n hx hb dX6_tell_19 rfl (lv_at hl 0 rfl) ?_
  refine fl_get (C := RX6) (T := TX6) (N := 7) (ci := 5) (v := .ref (a1 0)) hx hb ht in_X6 hown hK hP 0 rfl rfl 0 (by decide) mw_355 rfl dX6_tell_20 ?_
  refine vp_callSi (rd_wV (wc := tp_w a1 q ((va_up u_2b.1 0 0), u_2b.2)) (As := []) (rest := []) hx hb hml hown ht (c2_X5_isSound h) wd_X5_isSound mw_589 hQ hV hS (hP.sub [28, 29] rfl) rfl rfl rfl hl.1 rfl (Nat.le_of_ble_eq_true rfl) dX6_tell_23 ⟨Nat.le_of_ble_eq_true rfl, Nat.le_of_ble_eq_true rfl, rfl, rfl⟩ ⟨Nat.le_of_ble_eq_true rfl, Nat.le_of_ble_eq_true rfl⟩) (fun r_3 h => ?_)
  try dsimp only at h
  refine lv_if_ne (tgt := 40) hx hb dX6_tell_26 (by decide) (fun c_5 => ?_) (fun c_5 => ?_)
  · replace h := h.1 c_5
    refine lv_aload_n hx hb dX6_tell_40 rfl (lv_at hl 0 rfl) ?_
    refine fl_get (C := RX6) (T := TX6) (N := 7) (ci := 5) (v := .ref (a2 0)) hx hb ht in_X6 hown hK hP 0 rfl rfl 1 (by decide) mw_356 rfl dX6_tell_41 ?_
    refine lv_aload_n hx hb dX6_tell_44 rfl (lv_at hl 0 rfl) ?_
    refine fl_get (C := RX6) (T := TX6) (N := 7) (ci := 5) (v := .ref (a3 0)) hx hb ht in_X6 hown hK hP 0 rfl rfl 2 (by decide) mw_357 rfl dX6_tell_45 ?_
    refine mt_gov (mt_wV (wc := bd_w a2 q s2 ++ bd_w a3 q u_2a) (As := [.ref (a3 0)]) (rest := []) hx hb hml hown ht (c2_X0_copyAllButLog h) wd_X0_copyAllButLog mw_590 hQ hV hS hA (hP.sub [1, 2, 3, 4, 5, 6, 7, 8, 9, 10, 11, 12, 13, 15, 16, 17, 18, 19, 20, 21, 22, 23, 24, 25, 26, 27] rfl) (hD.sub [1, 2, 3, 4, 5, 6, 7, 8, 9, 10, 11, 12, 13, 15, 16, 17, 18, 19, 20, 21, 22, 23, 24, 25, 26, 27] (by decide) rfl) rfl rfl rfl hl.1 rfl (Nat.le_of_ble_eq_true rfl) dX6_tell_48 ⟨Nat.le_of_ble_eq_true rfl, Nat.le_of_ble_eq_true rfl, rfl, rfl⟩ ⟨Nat.le_of_ble_eq_true rfl, Nat.le_of_ble_eq_true rfl⟩) (wr := [((a0 0), .inr (5, [.ref (a1 0), .ref (a2 0), .ref (a3 0), .ref (a4 0), .ref (a5 0), .ref p8, .ref s8])), (p8, .inr (2, [.ref p9, .int (s6.1 0), .int (s6.1 1)])), ((a1 0), .inr (4, [.ref (a1 1), .int 0, .int (u_2b.1 1), .int (u_2b.1 2), .int (u_2b.1 3), .int (u_2b.1 4), .int (u_2b.1 5)])), ((a1 1), .inl (q 0, 400, .inl u_2b.2))]) hP hD hS hA [1, 2, 3, 4, 5, 6, 7, 8, 9, 10, 11, 12, 13, 15, 16, 17, 18, 19, 20, 21, 22, 23, 24, 25, 26, 27] [0, 14, 28, 29] rfl rfl (by decide) (by decide) (fun u_7 H locs h hP hD hS => ?_)
    try dsimp only at h
    have hP : va_P D vwCl [((a0 0), .inr (5, [.ref (a1 0), .ref (a2 0), .ref (a3 0), .ref (a4 0), .ref (a5 0), .ref p8, .ref s8])), (p8, .inr (2, [.ref p9, .int (s6.1 0), .int (s6.1 1)])), ((a1 0), .inr (4, [.ref (a1 1), .int 0, .int (u_2b.1 1), .int (u_2b.1 2), .int (u_2b.1 3), .int (u_2b.1 4), .int (u_2b.1 5)])), ((a1 1), .inl (q 0, 400, .inl u_2b.2)), ((a2 0), .inr (0, [.int (u_7.1 0), .int (u_7.1 1), .int (u_7.1 2), .int (u_7.1 3), .int (u_7.1 4), .int (u_7.1 5), .ref (a2 1), .ref (a2 2), .ref (a2 3), .ref (a2 4), .ref (a2 5), .ref (a2 6), .ref (a2 7), .ref (a2 8), .ref (a2 9), .ref (a2 10), .ref (a2 11), .ref (a2 12)])), ((a2 1), .inl (q 0, 4, .inl (u_7.2.1 0))), ((a2 2), .inl (q 0, 4, .inl (u_7.2.1 1))), ((a2 3), .inl (q 0, 160, .inl (u_7.2.1 2))), ((a2 4), .inl (q 0, 40, .inl (u_7.2.1 3))), ((a2 5), .inl (q 0, 40, .inl (u_7.2.1 4))), ((a2 6), .inl (q 0, 40, .inl (u_7.2.1 5))), ((a2 7), .inl (q 0, 40, .inl (u_7.2.1 6))), ((a2 8), .inl (q 0, 40, .inl (u_7.2.1 7))), ((a2 9), .inl (q 0, 40, .inl (u_7.2.1 8))), ((a2 10), .inl (q 0, 40, .inl (u_7.2.1 9))), ((a2 11), .inl (q 1, 40, .inr (.inl u_7.2.2.1))), ((a2 12), .inl (q 0, u_7.2.2.2.1, .inl u_7.2.2.2.2)), ((a3 0), .inr (0, [.int (u_2a.1 0), .int (u_2a.1 1), .int (u_2a.1 2), .int (u_2a.1 3), .int (u_2a.1 4), .int (u_2a.1 5), .ref (a3 1), .ref (a3 2), .ref (a3 3), .ref (a3 4), .ref (a3 5), .ref (a3 6), .ref (a3 7), .ref (a3 8), .ref (a3 9), .ref (a3 10), .ref (a3 11), .ref (a3 12)])), ((a3 1), .inl (q 0, 4, .inl (u_2a.2.1 0))), ((a3 2), .inl (q 0, 4, .inl (u_2a.2.1 1))), ((a3 3), .inl (q 0, 160, .inl (u_2a.2.1 2))), ((a3 4), .inl (q 0, 40, .inl (u_2a.2.1 3))), ((a3 5), .inl (q 0, 40, .inl (u_2a.2.1 4))), ((a3 6), .inl (q 0, 40, .inl (u_2a.2.1 5))), ((a3 7), .inl (q 0, 40, .inl (u_2a.2.1 6))), ((a3 8), .inl (q 0, 40, .inl (u_2a.2.1 7))), ((a3 9), .inl (q 0, 40, .inl (u_2a.2.1 8))), ((a3 10), .inl (q 0, 40, .inl (u_2a.2.1 9))), ((a3 11), .inl (q 1, 40, .inr (.inl u_2a.2.2.1))), ((a3 12), .inl (q 0, u_2a.2.2.2.1, .inl u_2a.2.2.2.2))] H := hP
    have hD : va_D _ [((a0 0), .inr (5, [.ref (a1 0), .ref (a2 0), .ref (a3 0), .ref (a4 0), .ref (a5 0), .ref p8, .ref s8])), (p8, .inr (2, [.ref p9, .int (s6.1 0), .int (s6.1 1)])), ((a1 0), .inr (4, [.ref (a1 1), .int 0, .int (u_2b.1 1), .int (u_2b.1 2), .int (u_2b.1 3), .int (u_2b.1 4), .int (u_2b.1 5)])), ((a1 1), .inl (q 0, 400, .inl u_2b.2)), ((a2 0), .inr (0, [.int (u_7.1 0), .int (u_7.1 1), .int (u_7.1 2), .int (u_7.1 3), .int (u_7.1 4), .int (u_7.1 5), .ref (a2 1), .ref (a2 2), .ref (a2 3), .ref (a2 4), .ref (a2 5), .ref (a2 6), .ref (a2 7), .ref (a2 8), .ref (a2 9), .ref (a2 10), .ref (a2 11), .ref (a2 12)])), ((a2 1), .inl (q 0, 4, .inl (u_7.2.1 0))), ((a2 2), .inl (q 0, 4, .inl (u_7.2.1 1))), ((a2 3), .inl (q 0, 160, .inl (u_7.2.1 2))), ((a2 4), .inl (q 0, 40, .inl (u_7.2.1 3))), ((a2 5), .inl (q 0, 40, .inl (u_7.2.1 4))), ((a2 6), .inl (q 0, 40, .inl (u_7.2.1 5))), ((a2 7), .inl (q 0, 40, .inl (u_7.2.1 6))), ((a2 8), .inl (q 0, 40, .inl (u_7.2.1 7))), ((a2 9), .inl (q 0, 40, .inl (u_7.2.1 8))), ((a2 10), .inl (q 0, 40, .inl (u_7.2.1 9))), ((a2 11), .inl (q 1, 40, .inr (.inl u_7.2.2.1))), ((a2 12), .inl (q 0, u_7.2.2.2.1, .inl u_7.2.2.2.2)), ((a3 0), .inr (0, [.int (u_2a.1 0), .int (u_2a.1 1), .int (u_2a.1 2), .int (u_2a.1 3), .int (u_2a.1 4), .int (u_2a.1 5), .ref (a3 1), .ref (a3 2), .ref (a3 3), .ref (a3 4), .ref (a3 5), .ref (a3 6), .ref (a3 7), .ref (a3 8), .ref (a3 9), .ref (a3 10), .ref (a3 11), .ref (a3 12)])), ((a3 1), .inl (q 0, 4, .inl (u_2a.2.1 0))), ((a3 2), .inl (q 0, 4, .inl (u_2a.2.1 1))), ((a3 3), .inl (q 0, 160, .inl (u_2a.2.1 2))), ((a3 4), .inl (q 0, 40, .inl (u_2a.2.1 3))), ((a3 5), .inl (q 0, 40, .inl (u_2a.2.1 4))), ((a3 6), .inl (q 0, 40, .inl (u_2a.2.1 5))), ((a3 7), .inl (q 0, 40, .inl (u_2a.2.1 6))), ((a3 8), .inl (q 0, 40, .inl (u_2a.2.1 7))), ((a3 9), .inl (q 0, 40, .inl (u_2a.2.1 8))), ((a3 10), .inl (q 0, 40, .inl (u_2a.2.1 9))), ((a3 11), .inl (q 1, 40, .inr (.inl u_2a.2.2.1))), ((a3 12), .inl (q 0, u_2a.2.2.2.1, .inl u_2a.2.2.2.2))] := hD
    refine lv_aload_n hx hb dX6_tell_51 rfl (lv_at hl 0 rfl) ?_
    refine fl_get (C := RX6) (T := TX6) (N := 7) (ci := 5) (v := .ref (a2 0)) hx hb ht in_X6 hown hK hP 0 rfl rfl 1 (by decide) mw_356 rfl dX6_tell_52 ?_
    refine mt_gov (mt_wV (wc := bd_w a2 q u_7) (As := []) (rest := []) hx hb hml hown ht (c2_X0_emptyLog h) wd_X0_emptyLog mw_597 hQ hV hS hA (hP.sub [4, 5, 6, 7, 8, 9, 10, 11, 12, 13, 14, 15, 16] rfl) (hD.sub [4, 5, 6, 7, 8, 9, 10, 11, 12, 13, 14, 15, 16] (by decide) rfl) rfl rfl rfl hl.1 rfl (Nat.le_of_ble_eq_true rfl) dX6_tell_55 ⟨Nat.le_of_ble_eq_true rfl, Nat.le_of_ble_eq_true rfl, rfl, rfl⟩ ⟨Nat.le_of_ble_eq_true rfl, Nat.le_of_ble_eq_true rfl⟩) (wr := [((a0 0), .inr (5, [.ref (a1 0), .ref (a2 0), .ref (a3 0), .ref (a4 0), .ref (a5 0), .ref p8, .ref s8])), (p8, .inr (2, [.ref p9, .int (s6.1 0), .int (s6.1 1)])), ((a1 0), .inr (4, [.ref (a1 1), .int 0, .int (u_2b.1 1), .int (u_2b.1 2), .int (u_2b.1 3), .int (u_2b.1 4), .int (u_2b.1 5)])), ((a1 1), .inl (q 0, 400, .inl u_2b.2)), ((a3 0), .inr (0, [.int (u_2a.1 0), .int (u_2a.1 1), .int (u_2a.1 2), .int (u_2a.1 3), .int (u_2a.1 4), .int (u_2a.1 5), .ref (a3 1), .ref (a3 2), .ref (a3 3), .ref (a3 4), .ref (a3 5), .ref (a3 6), .ref (a3 7), .ref (a3 8), .ref (a3 9), .ref (a3 10), .ref (a3 11), .ref (a3 12)])), ((a3 1), .inl (q 0, 4, .inl (u_2a.2.1 0))), ((a3 2), .inl (q 0, 4, .inl (u_2a.2.1 1))), ((a3 3), .inl (q 0, 160, .inl (u_2a.2.1 2))), ((a3 4), .inl (q 0, 40, .inl (u_2a.2.1 3))), ((a3 5), .inl (q 0, 40, .inl (u_2a.2.1 4))), ((a3 6), .inl (q 0, 40, .inl (u_2a.2.1 5))), ((a3 7), .inl (q 0, 40, .inl (u_2a.2.1 6))), ((a3 8), .inl (q 0, 40, .inl (u_2a.2.1 7))), ((a3 9), .inl (q 0, 40, .inl (u_2a.2.1 8))), ((a3 10), .inl (q 0, 40, .inl (u_2a.2.1 9))), ((a3 11), .inl (q 1, 40, .inr (.inl u_2a.2.2.1))), ((a3 12), .inl (q 0, u_2a.2.2.2.1, .inl u_2a.2.2.2.2))]) hP hD hS hA [4, 5, 6, 7, 8, 9, 10, 11, 12, 13, 14, 15, 16] [0, 1, 2, 3, 17, 18, 19, 20, 21, 22, 23, 24, 25, 26, 27, 28, 29] rfl rfl (by decide) (by decide) (fun u_8 H locs h hP hD hS => ?_)
    obtain ⟨e_9, b_10⟩ := u_8
    try dsimp only at h
    have hP : va_P D vwCl [((a0 0), .inr (5, [.ref (a1 0), .ref (a2 0), .ref (a3 0), .ref (a4 0), .ref (a5 0), .ref p8, .ref s8])), (p8, .inr (2, [.ref p9, .int (s6.1 0), .int (s6.1 1)])), ((a1 0), .inr (4, [.ref (a1 1), .int 0, .int (u_2b.1 1), .int (u_2b.1 2), .int (u_2b.1 3), .int (u_2b.1 4), .int (u_2b.1 5)])), ((a1 1), .inl (q 0, 400, .inl u_2b.2)), ((a3 0), .inr (0, [.int (u_2a.1 0), .int (u_2a.1 1), .int (u_2a.1 2), .int (u_2a.1 3), .int (u_2a.1 4), .int (u_2a.1 5), .ref (a3 1), .ref (a3 2), .ref (a3 3), .ref (a3 4), .ref (a3 5), .ref (a3 6), .ref (a3 7), .ref (a3 8), .ref (a3 9), .ref (a3 10), .ref (a3 11), .ref (a3 12)])), ((a3 1), .inl (q 0, 4, .inl (u_2a.2.1 0))), ((a3 2), .inl (q 0, 4, .inl (u_2a.2.1 1))), ((a3 3), .inl (q 0, 160, .inl (u_2a.2.1 2))), ((a3 4), .inl (q 0, 40, .inl (u_2a.2.1 3))), ((a3 5), .inl (q 0, 40, .inl (u_2a.2.1 4))), ((a3 6), .inl (q 0, 40, .inl (u_2a.2.1 5))), ((a3 7), .inl (q 0, 40, .inl (u_2a.2.1 6))), ((a3 8), .inl (q 0, 40, .inl (u_2a.2.1 7))), ((a3 9), .inl (q 0, 40, .inl (u_2a.2.1 8))), ((a3 10), .inl (q 0, 40, .inl (u_2a.2.1 9))), ((a3 11), .inl (q 1, 40, .inr (.inl u_2a.2.2.1))), ((a3 12), .inl (q 0, u_2a.2.2.2.1, .inl u_2a.2.2.2.2)), ((a2 0), .inr (0, [.int (b_10.1 0), .int (b_10.1 1), .int (b_10.1 2), .int (b_10.1 3), .int (b_10.1 4), .int (b_10.1 5), .ref (a2 1), .ref (a2 2), .ref (a2 3), .ref (a2 4), .ref (a2 5), .ref (a2 6), .ref (a2 7), .ref (a2 8), .ref (a2 9), .ref (a2 10), .ref (a2 11), .ref e_9])), ((a2 1), .inl (q 0, 4, .inl (b_10.2.1 0))), ((a2 2), .inl (q 0, 4, .inl (b_10.2.1 1))), ((a2 3), .inl (q 0, 160, .inl (b_10.2.1 2))), ((a2 4), .inl (q 0, 40, .inl (b_10.2.1 3))), ((a2 5), .inl (q 0, 40, .inl (b_10.2.1 4))), ((a2 6), .inl (q 0, 40, .inl (b_10.2.1 5))), ((a2 7), .inl (q 0, 40, .inl (b_10.2.1 6))), ((a2 8), .inl (q 0, 40, .inl (b_10.2.1 7))), ((a2 9), .inl (q 0, 40, .inl (b_10.2.1 8))), ((a2 10), .inl (q 0, 40, .inl (b_10.2.1 9))), ((a2 11), .inl (q 1, 40, .inr (.inl b_10.2.2.1))), (e_9, .inl (q 0, b_10.2.2.2.1, .inl b_10.2.2.2.2))] H := hP
    have hD : va_D _ [((a0 0), .inr (5, [.ref (a1 0), .ref (a2 0), .ref (a3 0), .ref (a4 0), .ref (a5 0), .ref p8, .ref s8])), (p8, .inr (2, [.ref p9, .int (s6.1 0), .int (s6.1 1)])), ((a1 0), .inr (4, [.ref (a1 1), .int 0, .int (u_2b.1 1), .int (u_2b.1 2), .int (u_2b.1 3), .int (u_2b.1 4), .int (u_2b.1 5)])), ((a1 1), .inl (q 0, 400, .inl u_2b.2)), ((a3 0), .inr (0, [.int (u_2a.1 0), .int (u_2a.1 1), .int (u_2a.1 2), .int (u_2a.1 3), .int (u_2a.1 4), .int (u_2a.1 5), .ref (a3 1), .ref (a3 2), .ref (a3 3), .ref (a3 4), .ref (a3 5), .ref (a3 6), .ref (a3 7), .ref (a3 8), .ref (a3 9), .ref (a3 10), .ref (a3 11), .ref (a3 12)])), ((a3 1), .inl (q 0, 4, .inl (u_2a.2.1 0))), ((a3 2), .inl (q 0, 4, .inl (u_2a.2.1 1))), ((a3 3), .inl (q 0, 160, .inl (u_2a.2.1 2))), ((a3 4), .inl (q 0, 40, .inl (u_2a.2.1 3))), ((a3 5), .inl (q 0, 40, .inl (u_2a.2.1 4))), ((a3 6), .inl (q 0, 40, .inl (u_2a.2.1 5))), ((a3 7), .inl (q 0, 40, .inl (u_2a.2.1 6))), ((a3 8), .inl (q 0, 40, .inl (u_2a.2.1 7))), ((a3 9), .inl (q 0, 40, .inl (u_2a.2.1 8))), ((a3 10), .inl (q 0, 40, .inl (u_2a.2.1 9))), ((a3 11), .inl (q 1, 40, .inr (.inl u_2a.2.2.1))), ((a3 12), .inl (q 0, u_2a.2.2.2.1, .inl u_2a.2.2.2.2)), ((a2 0), .inr (0, [.int (b_10.1 0), .int (b_10.1 1), .int (b_10.1 2), .int (b_10.1 3), .int (b_10.1 4), .int (b_10.1 5), .ref (a2 1), .ref (a2 2), .ref (a2 3), .ref (a2 4), .ref (a2 5), .ref (a2 6), .ref (a2 7), .ref (a2 8), .ref (a2 9), .ref (a2 10), .ref (a2 11), .ref e_9])), ((a2 1), .inl (q 0, 4, .inl (b_10.2.1 0))), ((a2 2), .inl (q 0, 4, .inl (b_10.2.1 1))), ((a2 3), .inl (q 0, 160, .inl (b_10.2.1 2))), ((a2 4), .inl (q 0, 40, .inl (b_10.2.1 3))), ((a2 5), .inl (q 0, 40, .inl (b_10.2.1 4))), ((a2 6), .inl (q 0, 40, .inl (b_10.2.1 5))), ((a2 7), .inl (q 0, 40, .inl (b_10.2.1 6))), ((a2 8), .inl (q 0, 40, .inl (b_10.2.1 7))), ((a2 9), .inl (q 0, 40, .inl (b_10.2.1 8))), ((a2 10), .inl (q 0, 40, .inl (b_10.2.1 9))), ((a2 11), .inl (q 1, 40, .inr (.inl b_10.2.2.1))), (e_9, .inl (q 0, b_10.2.2.2.1, .inl b_10.2.2.2.2))] := hD
    refine W.widen (k := 1) (n := 6400) (Nat.le_of_ble_eq_true rfl) (Nat.le_of_ble_eq_true rfl) ?_
    refine lv_aload_n hx hb dX6_tell_58 rfl (lv_at hl 0 rfl) ?_
    refine fl_get (C := RX6) (T := TX6) (N := 7) (ci := 5) (v := .ref p8) hx hb ht in_X6 hown hK hP 0 rfl rfl 5 (by decide) mw_360 rfl dX6_tell_59 ?_
    refine lv_iconst (v := 0) hx hb dX6_tell_62 (by decide) ?_
    refine fl_put (C := RX3) (T := TX3) (N := 3) (ci := 2) (v := .int 0) (ws2 := [((a0 0), .inr (5, [.ref (a1 0), .ref (a2 0), .ref (a3 0), .ref (a4 0), .ref (a5 0), .ref p8, .ref s8])), (p8, .inr (2, [.ref p9, .int 0, .int (s6.1 1)])), ((a1 0), .inr (4, [.ref (a1 1), .int 0, .int (u_2b.1 1), .int (u_2b.1 2), .int (u_2b.1 3), .int (u_2b.1 4), .int (u_2b.1 5)])), ((a1 1), .inl (q 0, 400, .inl u_2b.2)), ((a3 0), .inr (0, [.int (u_2a.1 0), .int (u_2a.1 1), .int (u_2a.1 2), .int (u_2a.1 3), .int (u_2a.1 4), .int (u_2a.1 5), .ref (a3 1), .ref (a3 2), .ref (a3 3), .ref (a3 4), .ref (a3 5), .ref (a3 6), .ref (a3 7), .ref (a3 8), .ref (a3 9), .ref (a3 10), .ref (a3 11), .ref (a3 12)])), ((a3 1), .inl (q 0, 4, .inl (u_2a.2.1 0))), ((a3 2), .inl (q 0, 4, .inl (u_2a.2.1 1))), ((a3 3), .inl (q 0, 160, .inl (u_2a.2.1 2))), ((a3 4), .inl (q 0, 40, .inl (u_2a.2.1 3))), ((a3 5), .inl (q 0, 40, .inl (u_2a.2.1 4))), ((a3 6), .inl (q 0, 40, .inl (u_2a.2.1 5))), ((a3 7), .inl (q 0, 40, .inl (u_2a.2.1 6))), ((a3 8), .inl (q 0, 40, .inl (u_2a.2.1 7))), ((a3 9), .inl (q 0, 40, .inl (u_2a.2.1 8))), ((a3 10), .inl (q 0, 40, .inl (u_2a.2.1 9))), ((a3 11), .inl (q 1, 40, .inr (.inl u_2a.2.2.1))), ((a3 12), .inl (q 0, u_2a.2.2.2.1, .inl u_2a.2.2.2.2)), ((a2 0), .inr (0, [.int (b_10.1 0), .int (b_10.1 1), .int (b_10.1 2), .int (b_10.1 3), .int (b_10.1 4), .int (b_10.1 5), .ref (a2 1), .ref (a2 2), .ref (a2 3), .ref (a2 4), .ref (a2 5), .ref (a2 6), .ref (a2 7), .ref (a2 8), .ref (a2 9), .ref (a2 10), .ref (a2 11), .ref e_9])), ((a2 1), .inl (q 0, 4, .inl (b_10.2.1 0))), ((a2 2), .inl (q 0, 4, .inl (b_10.2.1 1))), ((a2 3), .inl (q 0, 160, .inl (b_10.2.1 2))), ((a2 4), .inl (q 0, 40, .inl (b_10.2.1 3))), ((a2 5), .inl (q 0, 40, .inl (b_10.2.1 4))), ((a2 6), .inl (q 0, 40, .inl (b_10.2.1 5))), ((a2 7), .inl (q 0, 40, .inl (b_10.2.1 6))), ((a2 8), .inl (q 0, 40, .inl (b_10.2.1 7))), ((a2 9), .inl (q 0, 40, .inl (b_10.2.1 8))), ((a2 10), .inl (q 0, 40, .inl (b_10.2.1 9))), ((a2 11), .inl (q 1, 40, .inr (.inl b_10.2.2.1))), (e_9, .inl (q 0, b_10.2.2.2.1, .inl b_10.2.2.2.2))]) hx hb ht in_X3 tyX3_ok nmX3 hown hK hP hD hS 1 rfl rfl 1 (by decide) mw_346 rfl rfl rfl (Nat.le_of_ble_eq_true rfl) dX6_tell_63 rfl (fun H locs hP hD hS => ?_)
    refine lv_aload_n hx hb dX6_tell_66 rfl (lv_at hl 0 rfl) ?_
    refine fl_get (C := RX6) (T := TX6) (N := 7) (ci := 5) (v := .ref (a2 0)) hx hb ht in_X6 hown hK hP 0 rfl rfl 1 (by decide) mw_356 rfl dX6_tell_67 ?_
    refine fl_get (C := RX0) (T := TX0) (N := 18) (ci := 0) (v := .int (b_10.1 3)) hx hb ht in_X0 hown hK hP 17 rfl rfl 3 (by decide) mw_181 rfl dX6_tell_70 ?_
    have hP := hP.sub (ws' := [((a0 0), .inr (5, [.ref (a1 0), .ref (a2 0), .ref (a3 0), .ref (a4 0), .ref (a5 0), .ref p8, .ref s8])), ((a1 0), .inr (4, [.ref (a1 1), .int 0, .int (u_2b.1 1), .int (u_2b.1 2), .int (u_2b.1 3), .int (u_2b.1 4), .int (u_2b.1 5)])), ((a1 1), .inl (q 0, 400, .inl u_2b.2)), ((a2 0), .inr (0, [.int (b_10.1 0), .int (b_10.1 1), .int (b_10.1 2), .int (b_10.1 3), .int (b_10.1 4), .int (b_10.1 5), .ref (a2 1), .ref (a2 2), .ref (a2 3), .ref (a2 4), .ref (a2 5), .ref (a2 6), .ref (a2 7), .ref (a2 8), .ref (a2 9), .ref (a2 10), .ref (a2 11), .ref e_9])), ((a2 1), .inl (q 0, 4, .inl (b_10.2.1 0))), ((a2 2), .inl (q 0, 4, .inl (b_10.2.1 1))), ((a2 3), .inl (q 0, 160, .inl (b_10.2.1 2))), ((a2 4), .inl (q 0, 40, .inl (b_10.2.1 3))), ((a2 5), .inl (q 0, 40, .inl (b_10.2.1 4))), ((a2 6), .inl (q 0, 40, .inl (b_10.2.1 5))), ((a2 7), .inl (q 0, 40, .inl (b_10.2.1 6))), ((a2 8), .inl (q 0, 40, .inl (b_10.2.1 7))), ((a2 9), .inl (q 0, 40, .inl (b_10.2.1 8))), ((a2 10), .inl (q 0, 40, .inl (b_10.2.1 9))), ((a2 11), .inl (q 1, 40, .inr (.inl b_10.2.2.1))), (e_9, .inl (q 0, b_10.2.2.2.1, .inl b_10.2.2.2.2)), ((a3 0), .inr (0, [.int (u_2a.1 0), .int (u_2a.1 1), .int (u_2a.1 2), .int (u_2a.1 3), .int (u_2a.1 4), .int (u_2a.1 5), .ref (a3 1), .ref (a3 2), .ref (a3 3), .ref (a3 4), .ref (a3 5), .ref (a3 6), .ref (a3 7), .ref (a3 8), .ref (a3 9), .ref (a3 10), .ref (a3 11), .ref (a3 12)])), ((a3 1), .inl (q 0, 4, .inl (u_2a.2.1 0))), ((a3 2), .inl (q 0, 4, .inl (u_2a.2.1 1))), ((a3 3), .inl (q 0, 160, .inl (u_2a.2.1 2))), ((a3 4), .inl (q 0, 40, .inl (u_2a.2.1 3))), ((a3 5), .inl (q 0, 40, .inl (u_2a.2.1 4))), ((a3 6), .inl (q 0, 40, .inl (u_2a.2.1 5))), ((a3 7), .inl (q 0, 40, .inl (u_2a.2.1 6))), ((a3 8), .inl (q 0, 40, .inl (u_2a.2.1 7))), ((a3 9), .inl (q 0, 40, .inl (u_2a.2.1 8))), ((a3 10), .inl (q 0, 40, .inl (u_2a.2.1 9))), ((a3 11), .inl (q 1, 40, .inr (.inl u_2a.2.2.1))), ((a3 12), .inl (q 0, u_2a.2.2.2.1, .inl u_2a.2.2.2.2)), (p8, .inr (2, [.ref p9, .int 0, .int (s6.1 1)]))]) [0, 2, 3, 17, 18, 19, 20, 21, 22, 23, 24, 25, 26, 27, 28, 29, 4, 5, 6, 7, 8, 9, 10, 11, 12, 13, 14, 15, 16, 1] rfl
    have hD := hD.sub (ws' := [((a0 0), .inr (5, [.ref (a1 0), .ref (a2 0), .ref (a3 0), .ref (a4 0), .ref (a5 0), .ref p8, .ref s8])), ((a1 0), .inr (4, [.ref (a1 1), .int 0, .int (u_2b.1 1), .int (u_2b.1 2), .int (u_2b.1 3), .int (u_2b.1 4), .int (u_2b.1 5)])), ((a1 1), .inl (q 0, 400, .inl u_2b.2)), ((a2 0), .inr (0, [.int (b_10.1 0), .int (b_10.1 1), .int (b_10.1 2), .int (b_10.1 3), .int (b_10.1 4), .int (b_10.1 5), .ref (a2 1), .ref (a2 2), .ref (a2 3), .ref (a2 4), .ref (a2 5), .ref (a2 6), .ref (a2 7), .ref (a2 8), .ref (a2 9), .ref (a2 10), .ref (a2 11), .ref e_9])), ((a2 1), .inl (q 0, 4, .inl (b_10.2.1 0))), ((a2 2), .inl (q 0, 4, .inl (b_10.2.1 1))), ((a2 3), .inl (q 0, 160, .inl (b_10.2.1 2))), ((a2 4), .inl (q 0, 40, .inl (b_10.2.1 3))), ((a2 5), .inl (q 0, 40, .inl (b_10.2.1 4))), ((a2 6), .inl (q 0, 40, .inl (b_10.2.1 5))), ((a2 7), .inl (q 0, 40, .inl (b_10.2.1 6))), ((a2 8), .inl (q 0, 40, .inl (b_10.2.1 7))), ((a2 9), .inl (q 0, 40, .inl (b_10.2.1 8))), ((a2 10), .inl (q 0, 40, .inl (b_10.2.1 9))), ((a2 11), .inl (q 1, 40, .inr (.inl b_10.2.2.1))), (e_9, .inl (q 0, b_10.2.2.2.1, .inl b_10.2.2.2.2)), ((a3 0), .inr (0, [.int (u_2a.1 0), .int (u_2a.1 1), .int (u_2a.1 2), .int (u_2a.1 3), .int (u_2a.1 4), .int (u_2a.1 5), .ref (a3 1), .ref (a3 2), .ref (a3 3), .ref (a3 4), .ref (a3 5), .ref (a3 6), .ref (a3 7), .ref (a3 8), .ref (a3 9), .ref (a3 10), .ref (a3 11), .ref (a3 12)])), ((a3 1), .inl (q 0, 4, .inl (u_2a.2.1 0))), ((a3 2), .inl (q 0, 4, .inl (u_2a.2.1 1))), ((a3 3), .inl (q 0, 160, .inl (u_2a.2.1 2))), ((a3 4), .inl (q 0, 40, .inl (u_2a.2.1 3))), ((a3 5), .inl (q 0, 40, .inl (u_2a.2.1 4))), ((a3 6), .inl (q 0, 40, .inl (u_2a.2.1 5))), ((a3 7), .inl (q 0, 40, .inl (u_2a.2.1 6))), ((a3 8), .inl (q 0, 40, .inl (u_2a.2.1 7))), ((a3 9), .inl (q 0, 40, .inl (u_2a.2.1 8))), ((a3 10), .inl (q 0, 40, .inl (u_2a.2.1 9))), ((a3 11), .inl (q 1, 40, .inr (.inl u_2a.2.2.1))), ((a3 12), .inl (q 0, u_2a.2.2.2.1, .inl u_2a.2.2.2.2)), (p8, .inr (2, [.ref p9, .int 0, .int (s6.1 1)]))]) [0, 2, 3, 17, 18, 19, 20, 21, 22, 23, 24, 25, 26, 27, 28, 29, 4, 5, 6, 7, 8, 9, 10, 11, 12, 13, 14, 15, 16, 1] (by decide) rfl
    exact mt_iret (e_9, ((va_up u_2b.1 0 0), u_2b.2), b_10, u_2a, ((va_up s6.1 0 0), s6.2)) hx hb hr hk h hP hD hS dX6_tell_73
  · replace h := h.2 c_5
    refine lv_bipush (v := (-2)) hx hb dX6_tell_29 (by decide) ?_
    refine lv_aload_n hx hb dX6_tell_31 rfl (lv_at hl 0 rfl) ?_
    refine fl_get (C := RX6) (T := TX6) (N := 7) (ci := 5) (v := .ref (a1 0)) hx hb ht in_X6 hown hK hP 0 rfl rfl 0 (by decide) mw_355 rfl dX6_tell_32 ?_
    refine fl_get (C := RX5) (T := TX5) (N := 7) (ci := 4) (v := .int (u_2b.1 5)) hx hb ht in_X5 hown hK hP 28 rfl rfl 6 (by decide) mw_144 rfl dX6_tell_35 ?_
    refine lv_isub hx hb dX6_tell_38 ?_
    have hP := hP.sub (ws' := [((a0 0), .inr (5, [.ref (a1 0), .ref (a2 0), .ref (a3 0), .ref (a4 0), .ref (a5 0), .ref p8, .ref s8])), ((a1 0), .inr (4, [.ref (a1 1), .int 0, .int (u_2b.1 1), .int (u_2b.1 2), .int (u_2b.1 3), .int (u_2b.1 4), .int (u_2b.1 5)])), ((a1 1), .inl (q 0, 400, .inl u_2b.2)), ((a2 0), .inr (0, [.int (s2.1 0), .int (s2.1 1), .int (s2.1 2), .int (s2.1 3), .int (s2.1 4), .int (s2.1 5), .ref (a2 1), .ref (a2 2), .ref (a2 3), .ref (a2 4), .ref (a2 5), .ref (a2 6), .ref (a2 7), .ref (a2 8), .ref (a2 9), .ref (a2 10), .ref (a2 11), .ref (a2 12)])), ((a2 1), .inl (q 0, 4, .inl (s2.2.1 0))), ((a2 2), .inl (q 0, 4, .inl (s2.2.1 1))), ((a2 3), .inl (q 0, 160, .inl (s2.2.1 2))), ((a2 4), .inl (q 0, 40, .inl (s2.2.1 3))), ((a2 5), .inl (q 0, 40, .inl (s2.2.1 4))), ((a2 6), .inl (q 0, 40, .inl (s2.2.1 5))), ((a2 7), .inl (q 0, 40, .inl (s2.2.1 6))), ((a2 8), .inl (q 0, 40, .inl (s2.2.1 7))), ((a2 9), .inl (q 0, 40, .inl (s2.2.1 8))), ((a2 10), .inl (q 0, 40, .inl (s2.2.1 9))), ((a2 11), .inl (q 1, 40, .inr (.inl s2.2.2.1))), ((a2 12), .inl (q 0, s2.2.2.2.1, .inl s2.2.2.2.2)), ((a3 0), .inr (0, [.int (u_2a.1 0), .int (u_2a.1 1), .int (u_2a.1 2), .int (u_2a.1 3), .int (u_2a.1 4), .int (u_2a.1 5), .ref (a3 1), .ref (a3 2), .ref (a3 3), .ref (a3 4), .ref (a3 5), .ref (a3 6), .ref (a3 7), .ref (a3 8), .ref (a3 9), .ref (a3 10), .ref (a3 11), .ref (a3 12)])), ((a3 1), .inl (q 0, 4, .inl (u_2a.2.1 0))), ((a3 2), .inl (q 0, 4, .inl (u_2a.2.1 1))), ((a3 3), .inl (q 0, 160, .inl (u_2a.2.1 2))), ((a3 4), .inl (q 0, 40, .inl (u_2a.2.1 3))), ((a3 5), .inl (q 0, 40, .inl (u_2a.2.1 4))), ((a3 6), .inl (q 0, 40, .inl (u_2a.2.1 5))), ((a3 7), .inl (q 0, 40, .inl (u_2a.2.1 6))), ((a3 8), .inl (q 0, 40, .inl (u_2a.2.1 7))), ((a3 9), .inl (q 0, 40, .inl (u_2a.2.1 8))), ((a3 10), .inl (q 0, 40, .inl (u_2a.2.1 9))), ((a3 11), .inl (q 1, 40, .inr (.inl u_2a.2.2.1))), ((a3 12), .inl (q 0, u_2a.2.2.2.1, .inl u_2a.2.2.2.2)), (p8, .inr (2, [.ref p9, .int (s6.1 0), .int (s6.1 1)]))]) [0, 28, 29, 1, 2, 3, 4, 5, 6, 7, 8, 9, 10, 11, 12, 13, 15, 16, 17, 18, 19, 20, 21, 22, 23, 24, 25, 26, 27, 14] rfl
    have hD := hD.sub (ws' := [((a0 0), .inr (5, [.ref (a1 0), .ref (a2 0), .ref (a3 0), .ref (a4 0), .ref (a5 0), .ref p8, .ref s8])), ((a1 0), .inr (4, [.ref (a1 1), .int 0, .int (u_2b.1 1), .int (u_2b.1 2), .int (u_2b.1 3), .int (u_2b.1 4), .int (u_2b.1 5)])), ((a1 1), .inl (q 0, 400, .inl u_2b.2)), ((a2 0), .inr (0, [.int (s2.1 0), .int (s2.1 1), .int (s2.1 2), .int (s2.1 3), .int (s2.1 4), .int (s2.1 5), .ref (a2 1), .ref (a2 2), .ref (a2 3), .ref (a2 4), .ref (a2 5), .ref (a2 6), .ref (a2 7), .ref (a2 8), .ref (a2 9), .ref (a2 10), .ref (a2 11), .ref (a2 12)])), ((a2 1), .inl (q 0, 4, .inl (s2.2.1 0))), ((a2 2), .inl (q 0, 4, .inl (s2.2.1 1))), ((a2 3), .inl (q 0, 160, .inl (s2.2.1 2))), ((a2 4), .inl (q 0, 40, .inl (s2.2.1 3))), ((a2 5), .inl (q 0, 40, .inl (s2.2.1 4))), ((a2 6), .inl (q 0, 40, .inl (s2.2.1 5))), ((a2 7), .inl (q 0, 40, .inl (s2.2.1 6))), ((a2 8), .inl (q 0, 40, .inl (s2.2.1 7))), ((a2 9), .inl (q 0, 40, .inl (s2.2.1 8))), ((a2 10), .inl (q 0, 40, .inl (s2.2.1 9))), ((a2 11), .inl (q 1, 40, .inr (.inl s2.2.2.1))), ((a2 12), .inl (q 0, s2.2.2.2.1, .inl s2.2.2.2.2)), ((a3 0), .inr (0, [.int (u_2a.1 0), .int (u_2a.1 1), .int (u_2a.1 2), .int (u_2a.1 3), .int (u_2a.1 4), .int (u_2a.1 5), .ref (a3 1), .ref (a3 2), .ref (a3 3), .ref (a3 4), .ref (a3 5), .ref (a3 6), .ref (a3 7), .ref (a3 8), .ref (a3 9), .ref (a3 10), .ref (a3 11), .ref (a3 12)])), ((a3 1), .inl (q 0, 4, .inl (u_2a.2.1 0))), ((a3 2), .inl (q 0, 4, .inl (u_2a.2.1 1))), ((a3 3), .inl (q 0, 160, .inl (u_2a.2.1 2))), ((a3 4), .inl (q 0, 40, .inl (u_2a.2.1 3))), ((a3 5), .inl (q 0, 40, .inl (u_2a.2.1 4))), ((a3 6), .inl (q 0, 40, .inl (u_2a.2.1 5))), ((a3 7), .inl (q 0, 40, .inl (u_2a.2.1 6))), ((a3 8), .inl (q 0, 40, .inl (u_2a.2.1 7))), ((a3 9), .inl (q 0, 40, .inl (u_2a.2.1 8))), ((a3 10), .inl (q 0, 40, .inl (u_2a.2.1 9))), ((a3 11), .inl (q 1, 40, .inr (.inl u_2a.2.2.1))), ((a3 12), .inl (q 0, u_2a.2.2.2.1, .inl u_2a.2.2.2.2)), (p8, .inr (2, [.ref p9, .int (s6.1 0), .int (s6.1 1)]))]) [0, 28, 29, 1, 2, 3, 4, 5, 6, 7, 8, 9, 10, 11, 12, 13, 15, 16, 17, 18, 19, 20, 21, 22, 23, 24, 25, 26, 27, 14] (by decide) rfl
    refine W.widen (k := 1) (n := 6400) (Nat.le_of_ble_eq_true rfl) (Nat.le_of_ble_eq_true rfl) ?_
    exact mt_iret ((a2 12), ((va_up u_2b.1 0 0), u_2b.2), s2, u_2a, s6) hx hb hr hk h hP hD hS dX6_tell_39

def wp_X6_shelvesUsed (post : Int32 → Prop) (z7 : Nat → Option Bd) : Prop := (match z7 (Int32.toNatClampNeg 0) with | none => (match z7 (Int32.toNatClampNeg 1) with | none => post 0 | some _ => post 2) | some _ => (match z7 (Int32.toNatClampNeg 1) with | none => post 1 | some _ => post 3))
set_option maxHeartbeats 4000000 in
set_option maxRecDepth 100000 in
theorem c2_X6_shelvesUsed {l : Launch} {D : va_G} {q : Nat → ClassId} {sz : Nat} {a0 a1 a2 a3 a4 a5 : Nat → Nat} {p8 s8 p9 : Nat} {AA : Nat → Nat → Nat} {z7 : Nat → Option Bd} {post : Int32 → Prop} (h : wp_X6_shelvesUsed post z7) : Met l yX6_shelvesUsed (Cond.code yX6_shelvesUsed cX6_shelvesUsed 3 (some .int) :: w_all) ({ frames := 0, cells := 0, slots := 0, locals := 0 } : Room) (mt_P D q [.ref (a0 0)] (fo_w (a0 0) (a1 0) (a2 0) (a3 0) (a4 0) (a5 0) p8 s8 ++ pa_r s8 q 2 AA z7) sz) (va_Qi (fun r (u : Unit) => post r) (mt_B D (fo_w (a0 0) (a1 0) (a2 0) (a3 0) (a4 0) (a5 0) p8 s8 ++ pa_r s8 q 2 AA z7) sz (fun u : Unit => (fo_w (a0 0) (a1 0) (a2 0) (a3 0) (a4 0) (a5 0) p8 s8 ++ pa_r s8 q 2 AA z7))) (va_A (fo_w (a0 0) (a1 0) (a2 0) (a3 0) (a4 0) (a5 0) p8 s8 ++ pa_r s8 q 2 AA z7) sz)) 0 0 (va_A (fo_w (a0 0) (a1 0) (a2 0) (a3 0) (a4 0) (a5 0) p8 s8 ++ pa_r s8 q 2 AA z7) sz) := by
  refine mt_start (by decide) (Nat.le_of_ble_eq_true rfl) ?_
  intro p e s m below meth c ls hx hb hr hml hown ht hk hin hP hQ hD hA hS hV hl
  have hK := hQ.1
  have hown : s.vm.findClass RX6 = some m.cls := hown
  have hl : lv_has ls 3 [(0, .ref (a0 0))] := hl
  have hP : va_P D vwCl [((a0 0), .inr (5, [.ref (a1 0), .ref (a2 0), .ref (a3 0), .ref (a4 0), .ref (a5 0), .ref p8, .ref s8])), (s8, .inl (q 4, 2, .inr (.inr (.inr (.inr (pf_f AA z7))))))] s.heap := hP
  have hD : va_D _ [((a0 0), .inr (5, [.ref (a1 0), .ref (a2 0), .ref (a3 0), .ref (a4 0), .ref (a5 0), .ref p8, .ref s8])), (s8, .inl (q 4, 2, .inr (.inr (.inr (.inr (pf_f AA z7))))))] := hD
  unfold wp_X6_shelvesUsed at h
  refine lv_iconst (v := 0) hx hb dX6_shelvesUsed_0 (by decide) ?_
  refine lv_istore_n (lv' := [(1, .int 0), (0, .ref (a0 0))]) hx hb dX6_shelvesUsed_1 rfl hl (by decide) rfl (fun ls hl => ?_)
  refine lv_iconst (v := 0) hx hb dX6_shelvesUsed_2 (by decide) ?_
  refine lv_istore_n (lv' := [(2, .int 0), (1, .int 0), (0, .ref (a0 0))]) hx hb dX6_shelvesUsed_3 rfl hl (by decide) rfl (fun ls hl => ?_)
  refine lv_iload_n hx hb dX6_shelvesUsed_4 rfl (lv_at hl 0 rfl) ?_
  refine lv_iconst (v := 2) hx hb dX6_shelvesUsed_5 (by decide) ?_
  refine lv_icmp_ge (tgt := 30) hx hb dX6_shelvesUsed_6 (by decide) (fun c9 => absurd c9 (by decide)) (fun _ => ?_)
  refine lv_aload_n hx hb dX6_shelvesUsed_9 rfl (lv_at hl 2 rfl) ?_
  refine fl_get (C := RX6) (T := TX6) (N := 7) (ci := 5) (v := .ref s8) hx hb ht in_X6 hown hK hP 0 rfl rfl 6 (by decide) mw_361 rfl dX6_shelvesUsed_10 ?_
  refine lv_iload_n hx hb dX6_shelvesUsed_13 rfl (lv_at hl 0 rfl) ?_
  refine va_aldq hx hb hK hP 1 4 rfl rfl (in_c rfl) dX6_shelvesUsed_14 ?_
  cases hs_1 : z7 (Int32.toNatClampNeg 0) with
  | none =>
    rw [hs_1] at h
    dsimp only at h
    refine ab_q (pf_no hs_1) ?_
    refine ab_null ?_
    refine lv_ifnullN (tgt := 24) hx hb dX6_shelvesUsed_15 (by decide) ?_
    refine lv_iinc (v := 1) (lv' := [(2, .int 1), (1, .int 0), (0, .ref (a0 0))]) hx hb dX6_shelvesUsed_24 hl (k := 0) rfl (by decide) (by decide) rfl (fun ls hl => ?_)
    refine lv_goto (tgt := 4) hx hb dX6_shelvesUsed_27 (by decide) ?_
    refine lv_iload_n hx hb dX6_shelvesUsed_4 rfl (lv_at hl 0 rfl) ?_
    refine lv_iconst (v := 2) hx hb dX6_shelvesUsed_5 (by decide) ?_
    refine lv_icmp_ge (tgt := 30) hx hb dX6_shelvesUsed_6 (by decide) (fun c9 => absurd c9 (by decide)) (fun _ => ?_)
    refine lv_aload_n hx hb dX6_shelvesUsed_9 rfl (lv_at hl 2 rfl) ?_
    refine fl_get (C := RX6) (T := TX6) (N := 7) (ci := 5) (v := .ref s8) hx hb ht in_X6 hown hK hP 0 rfl rfl 6 (by decide) mw_361 rfl dX6_shelvesUsed_10 ?_
    refine lv_iload_n hx hb dX6_shelvesUsed_13 rfl (lv_at hl 0 rfl) ?_
    refine va_aldq hx hb hK hP 1 4 rfl rfl (in_c rfl) dX6_shelvesUsed_14 ?_
    cases hs_3 : z7 (Int32.toNatClampNeg 1) with
    | none =>
      rw [hs_3] at h
      dsimp only at h
      refine ab_q (pf_no hs_3) ?_
      refine ab_null ?_
      refine lv_ifnullN (tgt := 24) hx hb dX6_shelvesUsed_15 (by decide) ?_
      refine lv_iinc (v := 2) (lv' := [(2, .int 2), (1, .int 0), (0, .ref (a0 0))]) hx hb dX6_shelvesUsed_24 hl (k := 0) rfl (by decide) (by decide) rfl (fun ls hl => ?_)
      refine lv_goto (tgt := 4) hx hb dX6_shelvesUsed_27 (by decide) ?_
      refine lv_iload_n hx hb dX6_shelvesUsed_4 rfl (lv_at hl 0 rfl) ?_
      refine lv_iconst (v := 2) hx hb dX6_shelvesUsed_5 (by decide) ?_
      refine lv_icmp_ge (tgt := 30) hx hb dX6_shelvesUsed_6 (by decide) (fun _ => ?_) (fun c9 => absurd (by decide) c9)
      refine lv_iload_n hx hb dX6_shelvesUsed_30 rfl (lv_at hl 1 rfl) ?_
      have hP := hP.sub (ws' := [((a0 0), .inr (5, [.ref (a1 0), .ref (a2 0), .ref (a3 0), .ref (a4 0), .ref (a5 0), .ref p8, .ref s8])), (s8, .inl (q 4, 2, .inr (.inr (.inr (.inr (pf_f AA z7))))))]) [0, 1] rfl
      have hD := hD.sub (ws' := [((a0 0), .inr (5, [.ref (a1 0), .ref (a2 0), .ref (a3 0), .ref (a4 0), .ref (a5 0), .ref p8, .ref s8])), (s8, .inl (q 4, 2, .inr (.inr (.inr (.inr (pf_f AA z7))))))]) [0, 1] (by decide) rfl
      exact mt_iret () hx hb hr hk h hP hD hS dX6_shelvesUsed_31
    | some S_4 =>
      rw [hs_3] at h
      dsimp only at h
      refine ab_q (pf_so hs_3) ?_
      refine ab_ref ?_
      refine lv_ifnull hx hb dX6_shelvesUsed_15 ?_
      refine lv_iload_n hx hb dX6_shelvesUsed_18 rfl (lv_at hl 1 rfl) ?_
      refine lv_iconst (v := 1) hx hb dX6_shelvesUsed_19 (by decide) ?_
      refine lv_iload_n hx hb dX6_shelvesUsed_20 rfl (lv_at hl 0 rfl) ?_
      refine lv_ishl hx hb dX6_shelvesUsed_21 ?_
      refine ab_i (v := 2) (by decide) ?_
      refine lv_ior hx hb dX6_shelvesUsed_22 ?_
      refine ab_i (v := 2) (by decide) ?_
      refine lv_istore_n (lv' := [(1, .int 2), (2, .int 1), (0, .ref (a0 0))]) hx hb dX6_shelvesUsed_23 rfl hl (by decide) rfl (fun ls hl => ?_)
      refine lv_iinc (v := 2) (lv' := [(2, .int 2), (1, .int 2), (0, .ref (a0 0))]) hx hb dX6_shelvesUsed_24 hl (k := 1) rfl (by decide) (by decide) rfl (fun ls hl => ?_)
      refine lv_goto (tgt := 4) hx hb dX6_shelvesUsed_27 (by decide) ?_
      refine lv_iload_n hx hb dX6_shelvesUsed_4 rfl (lv_at hl 0 rfl) ?_
      refine lv_iconst (v := 2) hx hb dX6_shelvesUsed_5 (by decide) ?_
      refine lv_icmp_ge (tgt := 30) hx hb dX6_shelvesUsed_6 (by decide) (fun _ => ?_) (fun c9 => absurd (by decide) c9)
      refine lv_iload_n hx hb dX6_shelvesUsed_30 rfl (lv_at hl 1 rfl) ?_
      have hP := hP.sub (ws' := [((a0 0), .inr (5, [.ref (a1 0), .ref (a2 0), .ref (a3 0), .ref (a4 0), .ref (a5 0), .ref p8, .ref s8])), (s8, .inl (q 4, 2, .inr (.inr (.inr (.inr (pf_f AA z7))))))]) [0, 1] rfl
      have hD := hD.sub (ws' := [((a0 0), .inr (5, [.ref (a1 0), .ref (a2 0), .ref (a3 0), .ref (a4 0), .ref (a5 0), .ref p8, .ref s8])), (s8, .inl (q 4, 2, .inr (.inr (.inr (.inr (pf_f AA z7))))))]) [0, 1] (by decide) rfl
      exact mt_iret () hx hb hr hk h hP hD hS dX6_shelvesUsed_31
  | some S_2 =>
    rw [hs_1] at h
    dsimp only at h
    refine ab_q (pf_so hs_1) ?_
    refine ab_ref ?_
    refine lv_ifnull hx hb dX6_shelvesUsed_15 ?_
    refine lv_iload_n hx hb dX6_shelvesUsed_18 rfl (lv_at hl 1 rfl) ?_
    refine lv_iconst (v := 1) hx hb dX6_shelvesUsed_19 (by decide) ?_
    refine lv_iload_n hx hb dX6_shelvesUsed_20 rfl (lv_at hl 0 rfl) ?_
    refine lv_ishl hx hb dX6_shelvesUsed_21 ?_
    refine ab_i (v := 1) (by decide) ?_
    refine lv_ior hx hb dX6_shelvesUsed_22 ?_
    refine ab_i (v := 1) (by decide) ?_
    refine lv_istore_n (lv' := [(1, .int 1), (2, .int 0), (0, .ref (a0 0))]) hx hb dX6_shelvesUsed_23 rfl hl (by decide) rfl (fun ls hl => ?_)
    refine lv_iinc (v := 1) (lv' := [(2, .int 1), (1, .int 1), (0, .ref (a0 0))]) hx hb dX6_shelvesUsed_24 hl (k := 1) rfl (by decide) (by decide) rfl (fun ls hl => ?_)
    refine lv_goto (tgt := 4) hx hb dX6_shelvesUsed_27 (by decide) ?_
    refine lv_iload_n hx hb dX6_shelvesUsed_4 rfl (lv_at hl 0 rfl) ?_
    refine lv_iconst (v := 2) hx hb dX6_shelvesUsed_5 (by decide) ?_
    refine lv_icmp_ge (tgt := 30) hx hb dX6_shelvesUsed_6 (by decide) (fun c9 => absurd c9 (by decide)) (fun _ => ?_)
    refine lv_aload_n hx hb dX6_shelvesUsed_9 rfl (lv_at hl 2 rfl) ?_
    refine fl_get (C := RX6) (T := TX6) (N := 7) (ci := 5) (v := .ref s8) hx hb ht in_X6 hown hK hP 0 rfl rfl 6 (by decide) mw_361 rfl dX6_shelvesUsed_10 ?_
    refine lv_iload_n hx hb dX6_shelvesUsed_13 rfl (lv_at hl 0 rfl) ?_
    refine va_aldq hx hb hK hP 1 4 rfl rfl (in_c rfl) dX6_shelvesUsed_14 ?_
    cases hs_5 : z7 (Int32.toNatClampNeg 1) with
    | none =>
      rw [hs_5] at h
      dsimp only at h
      refine ab_q (pf_no hs_5) ?_
      refine ab_null ?_
      refine lv_ifnullN (tgt := 24) hx hb dX6_shelvesUsed_15 (by decide) ?_
      refine lv_iinc (v := 2) (lv' := [(2, .int 2), (1, .int 1), (0, .ref (a0 0))]) hx hb dX6_shelvesUsed_24 hl (k := 0) rfl (by decide) (by decide) rfl (fun ls hl => ?_)
      refine lv_goto (tgt := 4) hx hb dX6_shelvesUsed_27 (by decide) ?_
      refine lv_iload_n hx hb dX6_shelvesUsed_4 rfl (lv_at hl 0 rfl) ?_
      refine lv_iconst (v := 2) hx hb dX6_shelvesUsed_5 (by decide) ?_
      refine lv_icmp_ge (tgt := 30) hx hb dX6_shelvesUsed_6 (by decide) (fun _ => ?_) (fun c9 => absurd (by decide) c9)
      refine lv_iload_n hx hb dX6_shelvesUsed_30 rfl (lv_at hl 1 rfl) ?_
      have hP := hP.sub (ws' := [((a0 0), .inr (5, [.ref (a1 0), .ref (a2 0), .ref (a3 0), .ref (a4 0), .ref (a5 0), .ref p8, .ref s8])), (s8, .inl (q 4, 2, .inr (.inr (.inr (.inr (pf_f AA z7))))))]) [0, 1] rfl
      have hD := hD.sub (ws' := [((a0 0), .inr (5, [.ref (a1 0), .ref (a2 0), .ref (a3 0), .ref (a4 0), .ref (a5 0), .ref p8, .ref s8])), (s8, .inl (q 4, 2, .inr (.inr (.inr (.inr (pf_f AA z7))))))]) [0, 1] (by decide) rfl
      exact mt_iret () hx hb hr hk h hP hD hS dX6_shelvesUsed_31
    | some S_6 =>
      rw [hs_5] at h
      dsimp only at h
      refine ab_q (pf_so hs_5) ?_
      refine ab_ref ?_
      refine lv_ifnull hx hb dX6_shelvesUsed_15 ?_
      refine lv_iload_n hx hb dX6_shelvesUsed_18 rfl (lv_at hl 1 rfl) ?_
      refine lv_iconst (v := 1) hx hb dX6_shelvesUsed_19 (by decide) ?_
      refine lv_iload_n hx hb dX6_shelvesUsed_20 rfl (lv_at hl 0 rfl) ?_
      refine lv_ishl hx hb dX6_shelvesUsed_21 ?_
      refine ab_i (v := 2) (by decide) ?_
      refine lv_ior hx hb dX6_shelvesUsed_22 ?_
      refine ab_i (v := 3) (by decide) ?_
      refine lv_istore_n (lv' := [(1, .int 3), (2, .int 1), (0, .ref (a0 0))]) hx hb dX6_shelvesUsed_23 rfl hl (by decide) rfl (fun ls hl => ?_)
      refine lv_iinc (v := 2) (lv' := [(2, .int 2), (1, .int 3), (0, .ref (a0 0))]) hx hb dX6_shelvesUsed_24 hl (k := 1) rfl (by decide) (by decide) rfl (fun ls hl => ?_)
      refine lv_goto (tgt := 4) hx hb dX6_shelvesUsed_27 (by decide) ?_
      refine lv_iload_n hx hb dX6_shelvesUsed_4 rfl (lv_at hl 0 rfl) ?_
      refine lv_iconst (v := 2) hx hb dX6_shelvesUsed_5 (by decide) ?_
      refine lv_icmp_ge (tgt := 30) hx hb dX6_shelvesUsed_6 (by decide) (fun _ => ?_) (fun c9 => absurd (by decide) c9)
      refine lv_iload_n hx hb dX6_shelvesUsed_30 rfl (lv_at hl 1 rfl) ?_
      have hP := hP.sub (ws' := [((a0 0), .inr (5, [.ref (a1 0), .ref (a2 0), .ref (a3 0), .ref (a4 0), .ref (a5 0), .ref p8, .ref s8])), (s8, .inl (q 4, 2, .inr (.inr (.inr (.inr (pf_f AA z7))))))]) [0, 1] rfl
      have hD := hD.sub (ws' := [((a0 0), .inr (5, [.ref (a1 0), .ref (a2 0), .ref (a3 0), .ref (a4 0), .ref (a5 0), .ref p8, .ref s8])), (s8, .inl (q 4, 2, .inr (.inr (.inr (.inr (pf_f AA z7))))))]) [0, 1] (by decide) rfl
      exact mt_iret () hx hb hr hk h hP hD hS dX6_shelvesUsed_31

def wp_X6_count (post : Int32 → Mo → Pa → Prop) (s1 : Tp) (s2 : Bd) (s4 : Mo) (s6 : Pa) (z7 : Nat → Option Bd) (x1 : Int32) : Prop := ((x1 = 0 → post (s2.1 0) s4 s6) ∧ (¬ x1 = 0 → ((x1 = 1 → post (s2.1 1) s4 s6) ∧ (¬ x1 = 1 → ((x1 = 2 → wp_X0_cells (fun r_4 => post r_4 s4 s6) s2) ∧ (¬ x1 = 2 → ((x1 = 3 → post (s2.1 2) s4 s6) ∧ (¬ x1 = 3 → ((x1 = 4 → post (s2.1 3) s4 s6) ∧ (¬ x1 = 4 → ((x1 = 5 → post (s6.1 0) s4 s6) ∧ (¬ x1 = 5 → ((x1 = 6 → post (s1.1 0) s4 s6) ∧ (¬ x1 = 6 → ((x1 = 7 → wp_X6_shelvesUsed (fun r_11 => post r_11 s4 s6) z7) ∧ (¬ x1 = 7 → ((x1 = 8 → wp_X2_choose (fun u_14 => post (u_14.1 0) u_14 s6) s4 s2) ∧ (¬ x1 = 8 → post (-1) s4 s6))))))))))))))))))
set_option maxHeartbeats 4000000 in
set_option maxRecDepth 100000 in
theorem c2_X6_count {l : Launch} {D : va_G} {q : Nat → ClassId} {sz : Nat} {a0 a1 a2 a3 a4 a5 : Nat → Nat} {p8 s8 p9 : Nat} {AA : Nat → Nat → Nat} {s1 : Tp} {s2 : Bd} {s4 : Mo} {s6 : Pa} {z7 : Nat → Option Bd} {x1 : Int32} {post : Int32 → Mo → Pa → Prop} (h : wp_X6_count post s1 s2 s4 s6 z7 x1) : Met l yX6_count (Cond.code yX6_count cX6_count 2 (some .int) :: w_all) ({ frames := 3, cells := 0, slots := 0, locals := 90 } : Room) (mt_P D q [.ref (a0 0), .int x1] (fo_w (a0 0) (a1 0) (a2 0) (a3 0) (a4 0) (a5 0) p8 s8 ++ tp_w a1 q s1 ++ bd_w a2 q s2 ++ mo_w a4 q s4 ++ pa_o p8 p9 s6 ++ pa_r s8 q 2 AA z7) sz) (va_Qi (fun r (u : Mo × Pa) => post r u.1 u.2) (mt_B D (fo_w (a0 0) (a1 0) (a2 0) (a3 0) (a4 0) (a5 0) p8 s8 ++ tp_w a1 q s1 ++ bd_w a2 q s2 ++ mo_w a4 q s4 ++ pa_o p8 p9 s6 ++ pa_r s8 q 2 AA z7) sz (fun u : Mo × Pa => (fo_w (a0 0) (a1 0) (a2 0) (a3 0) (a4 0) (a5 0) p8 s8 ++ tp_w a1 q s1 ++ bd_w a2 q s2 ++ mo_w a4 q u.1 ++ pa_o p8 p9 u.2 ++ pa_r s8 q 2 AA z7))) (va_A (fo_w (a0 0) (a1 0) (a2 0) (a3 0) (a4 0) (a5 0) p8 s8 ++ tp_w a1 q s1 ++ bd_w a2 q s2 ++ mo_w a4 q s4 ++ pa_o p8 p9 s6 ++ pa_r s8 q 2 AA z7) sz)) 0 0 (va_A (fo_w (a0 0) (a1 0) (a2 0) (a3 0) (a4 0) (a5 0) p8 s8 ++ tp_w a1 q s1 ++ bd_w a2 q s2 ++ mo_w a4 q s4 ++ pa_o p8 p9 s6 ++ pa_r s8 q 2 AA z7) sz) := by
  refine mt_start (by decide) (Nat.le_of_ble_eq_true rfl) ?_
  intro p e s m below meth c ls hx hb hr hml hown ht hk hin hP hQ hD hA hS hV hl
  have hK := hQ.1
  have hown : s.vm.findClass RX6 = some m.cls := hown
  have hl : lv_has ls 2 [(0, .ref (a0 0)), (1, .int x1)] := hl
  have hP : va_P D vwCl [((a0 0), .inr (5, [.ref (a1 0), .ref (a2 0), .ref (a3 0), .ref (a4 0), .ref (a5 0), .ref p8, .ref s8])), ((a1 0), .inr (4, [.ref (a1 1), .int (s1.1 0), .int (s1.1 1), .int (s1.1 2), .int (s1.1 3), .int (s1.1 4), .int (s1.1 5)])), ((a1 1), .inl (q 0, 400, .inl s1.2)), ((a2 0), .inr (0, [.int (s2.1 0), .int (s2.1 1), .int (s2.1 2), .int (s2.1 3), .int (s2.1 4), .int (s2.1 5), .ref (a2 1), .ref (a2 2), .ref (a2 3), .ref (a2 4), .ref (a2 5), .ref (a2 6), .ref (a2 7), .ref (a2 8), .ref (a2 9), .ref (a2 10), .ref (a2 11), .ref (a2 12)])), ((a2 1), .inl (q 0, 4, .inl (s2.2.1 0))), ((a2 2), .inl (q 0, 4, .inl (s2.2.1 1))), ((a2 3), .inl (q 0, 160, .inl (s2.2.1 2))), ((a2 4), .inl (q 0, 40, .inl (s2.2.1 3))), ((a2 5), .inl (q 0, 40, .inl (s2.2.1 4))), ((a2 6), .inl (q 0, 40, .inl (s2.2.1 5))), ((a2 7), .inl (q 0, 40, .inl (s2.2.1 6))), ((a2 8), .inl (q 0, 40, .inl (s2.2.1 7))), ((a2 9), .inl (q 0, 40, .inl (s2.2.1 8))), ((a2 10), .inl (q 0, 40, .inl (s2.2.1 9))), ((a2 11), .inl (q 1, 40, .inr (.inl s2.2.2.1))), ((a2 12), .inl (q 0, s2.2.2.2.1, .inl s2.2.2.2.2)), ((a4 0), .inr (1, [.ref (a4 1), .ref (a4 2), .ref (a4 3), .int (s4.1 0), .int (s4.1 1), .int (s4.1 2), .int (s4.1 3), .int (s4.1 4), .int (s4.1 5), .int (s4.1 6), .int (s4.1 7), .int (s4.1 8)])), ((a4 1), .inl (q 0, 40, .inl (s4.2 0))), ((a4 2), .inl (q 0, 40, .inl (s4.2 1))), ((a4 3), .inl (q 0, 40, .inl (s4.2 2))), (p8, .inr (2, [.ref p9, .int (s6.1 0), .int (s6.1 1)])), (s8, .inl (q 4, 2, .inr (.inr (.inr (.inr (pf_f AA z7))))))] s.heap := hP
  have hD : va_D _ [((a0 0), .inr (5, [.ref (a1 0), .ref (a2 0), .ref (a3 0), .ref (a4 0), .ref (a5 0), .ref p8, .ref s8])), ((a1 0), .inr (4, [.ref (a1 1), .int (s1.1 0), .int (s1.1 1), .int (s1.1 2), .int (s1.1 3), .int (s1.1 4), .int (s1.1 5)])), ((a1 1), .inl (q 0, 400, .inl s1.2)), ((a2 0), .inr (0, [.int (s2.1 0), .int (s2.1 1), .int (s2.1 2), .int (s2.1 3), .int (s2.1 4), .int (s2.1 5), .ref (a2 1), .ref (a2 2), .ref (a2 3), .ref (a2 4), .ref (a2 5), .ref (a2 6), .ref (a2 7), .ref (a2 8), .ref (a2 9), .ref (a2 10), .ref (a2 11), .ref (a2 12)])), ((a2 1), .inl (q 0, 4, .inl (s2.2.1 0))), ((a2 2), .inl (q 0, 4, .inl (s2.2.1 1))), ((a2 3), .inl (q 0, 160, .inl (s2.2.1 2))), ((a2 4), .inl (q 0, 40, .inl (s2.2.1 3))), ((a2 5), .inl (q 0, 40, .inl (s2.2.1 4))), ((a2 6), .inl (q 0, 40, .inl (s2.2.1 5))), ((a2 7), .inl (q 0, 40, .inl (s2.2.1 6))), ((a2 8), .inl (q 0, 40, .inl (s2.2.1 7))), ((a2 9), .inl (q 0, 40, .inl (s2.2.1 8))), ((a2 10), .inl (q 0, 40, .inl (s2.2.1 9))), ((a2 11), .inl (q 1, 40, .inr (.inl s2.2.2.1))), ((a2 12), .inl (q 0, s2.2.2.2.1, .inl s2.2.2.2.2)), ((a4 0), .inr (1, [.ref (a4 1), .ref (a4 2), .ref (a4 3), .int (s4.1 0), .int (s4.1 1), .int (s4.1 2), .int (s4.1 3), .int (s4.1 4), .int (s4.1 5), .int (s4.1 6), .int (s4.1 7), .int (s4.1 8)])), ((a4 1), .inl (q 0, 40, .inl (s4.2 0))), ((a4 2), .inl (q 0, 40, .inl (s4.2 1))), ((a4 3), .inl (q 0, 40, .inl (s4.2 2))), (p8, .inr (2, [.ref p9, .int (s6.1 0), .int (s6.1 1)])), (s8, .inl (q 4, 2, .inr (.inr (.inr (.inr (pf_f AA z7))))))] := hD
  unfold wp_X6_count at h
  refine lv_iload_n hx hb dX6_count_0 rfl (lv_at hl 1 rfl) ?_
  by_cases k_1 : x1 = 0
  · replace h := h.1 k_1
    refine lv_tableIn (tgt := 52) hx hb dX6_count_1 (by rw [k_1]; decide) (by rw [k_1]; decide) (by rw [k_1]; rfl) (by decide) ?_
    refine lv_aload_n hx hb dX6_count_52 rfl (lv_at hl 0 rfl) ?_
    refine fl_get (C := RX6) (T := TX6) (N := 7) (ci := 5) (v := .ref (a2 0)) hx hb ht in_X6 hown hK hP 0 rfl rfl 1 (by decide) mw_356 rfl dX6_count_53 ?_
    refine fl_get (C := RX0) (T := TX0) (N := 18) (ci := 0) (v := .int (s2.1 0)) hx hb ht in_X0 hown hK hP 3 rfl rfl 0 (by decide) mw_169 rfl dX6_count_56 ?_
    have hP := hP.sub (ws' := [((a0 0), .inr (5, [.ref (a1 0), .ref (a2 0), .ref (a3 0), .ref (a4 0), .ref (a5 0), .ref p8, .ref s8])), ((a1 0), .inr (4, [.ref (a1 1), .int (s1.1 0), .int (s1.1 1), .int (s1.1 2), .int (s1.1 3), .int (s1.1 4), .int (s1.1 5)])), ((a1 1), .inl (q 0, 400, .inl s1.2)), ((a2 0), .inr (0, [.int (s2.1 0), .int (s2.1 1), .int (s2.1 2), .int (s2.1 3), .int (s2.1 4), .int (s2.1 5), .ref (a2 1), .ref (a2 2), .ref (a2 3), .ref (a2 4), .ref (a2 5), .ref (a2 6), .ref (a2 7), .ref (a2 8), .ref (a2 9), .ref (a2 10), .ref (a2 11), .ref (a2 12)])), ((a2 1), .inl (q 0, 4, .inl (s2.2.1 0))), ((a2 2), .inl (q 0, 4, .inl (s2.2.1 1))), ((a2 3), .inl (q 0, 160, .inl (s2.2.1 2))), ((a2 4), .inl (q 0, 40, .inl (s2.2.1 3))), ((a2 5), .inl (q 0, 40, .inl (s2.2.1 4))), ((a2 6), .inl (q 0, 40, .inl (s2.2.1 5))), ((a2 7), .inl (q 0, 40, .inl (s2.2.1 6))), ((a2 8), .inl (q 0, 40, .inl (s2.2.1 7))), ((a2 9), .inl (q 0, 40, .inl (s2.2.1 8))), ((a2 10), .inl (q 0, 40, .inl (s2.2.1 9))), ((a2 11), .inl (q 1, 40, .inr (.inl s2.2.2.1))), ((a2 12), .inl (q 0, s2.2.2.2.1, .inl s2.2.2.2.2)), ((a4 0), .inr (1, [.ref (a4 1), .ref (a4 2), .ref (a4 3), .int (s4.1 0), .int (s4.1 1), .int (s4.1 2), .int (s4.1 3), .int (s4.1 4), .int (s4.1 5), .int (s4.1 6), .int (s4.1 7), .int (s4.1 8)])), ((a4 1), .inl (q 0, 40, .inl (s4.2 0))), ((a4 2), .inl (q 0, 40, .inl (s4.2 1))), ((a4 3), .inl (q 0, 40, .inl (s4.2 2))), (p8, .inr (2, [.ref p9, .int (s6.1 0), .int (s6.1 1)])), (s8, .inl (q 4, 2, .inr (.inr (.inr (.inr (pf_f AA z7))))))]) [0, 1, 2, 3, 4, 5, 6, 7, 8, 9, 10, 11, 12, 13, 14, 15, 16, 17, 18, 19, 20, 21] rfl
    have hD := hD.sub (ws' := [((a0 0), .inr (5, [.ref (a1 0), .ref (a2 0), .ref (a3 0), .ref (a4 0), .ref (a5 0), .ref p8, .ref s8])), ((a1 0), .inr (4, [.ref (a1 1), .int (s1.1 0), .int (s1.1 1), .int (s1.1 2), .int (s1.1 3), .int (s1.1 4), .int (s1.1 5)])), ((a1 1), .inl (q 0, 400, .inl s1.2)), ((a2 0), .inr (0, [.int (s2.1 0), .int (s2.1 1), .int (s2.1 2), .int (s2.1 3), .int (s2.1 4), .int (s2.1 5), .ref (a2 1), .ref (a2 2), .ref (a2 3), .ref (a2 4), .ref (a2 5), .ref (a2 6), .ref (a2 7), .ref (a2 8), .ref (a2 9), .ref (a2 10), .ref (a2 11), .ref (a2 12)])), ((a2 1), .inl (q 0, 4, .inl (s2.2.1 0))), ((a2 2), .inl (q 0, 4, .inl (s2.2.1 1))), ((a2 3), .inl (q 0, 160, .inl (s2.2.1 2))), ((a2 4), .inl (q 0, 40, .inl (s2.2.1 3))), ((a2 5), .inl (q 0, 40, .inl (s2.2.1 4))), ((a2 6), .inl (q 0, 40, .inl (s2.2.1 5))), ((a2 7), .inl (q 0, 40, .inl (s2.2.1 6))), ((a2 8), .inl (q 0, 40, .inl (s2.2.1 7))), ((a2 9), .inl (q 0, 40, .inl (s2.2.1 8))), ((a2 10), .inl (q 0, 40, .inl (s2.2.1 9))), ((a2 11), .inl (q 1, 40, .inr (.inl s2.2.2.1))), ((a2 12), .inl (q 0, s2.2.2.2.1, .inl s2.2.2.2.2)), ((a4 0), .inr (1, [.ref (a4 1), .ref (a4 2), .ref (a4 3), .int (s4.1 0), .int (s4.1 1), .int (s4.1 2), .int (s4.1 3), .int (s4.1 4), .int (s4.1 5), .int (s4.1 6), .int (s4.1 7), .int (s4.1 8)])), ((a4 1), .inl (q 0, 40, .inl (s4.2 0))), ((a4 2), .inl (q 0, 40, .inl (s4.2 1))), ((a4 3), .inl (q 0, 40, .inl (s4.2 2))), (p8, .inr (2, [.ref p9, .int (s6.1 0), .int (s6.1 1)])), (s8, .inl (q 4, 2, .inr (.inr (.inr (.inr (pf_f AA z7))))))]) [0, 1, 2, 3, 4, 5, 6, 7, 8, 9, 10, 11, 12, 13, 14, 15, 16, 17, 18, 19, 20, 21] (by decide) rfl
    exact mt_iret (s4, s6) hx hb hr hk h hP hD hS dX6_count_59
  replace h := h.2 k_1
  by_cases k_2 : x1 = 1
  · replace h := h.1 k_2
    refine lv_tableIn (tgt := 60) hx hb dX6_count_1 (by rw [k_2]; decide) (by rw [k_2]; decide) (by rw [k_2]; rfl) (by decide) ?_
    refine lv_aload_n hx hb dX6_count_60 rfl (lv_at hl 0 rfl) ?_
    refine fl_get (C := RX6) (T := TX6) (N := 7) (ci := 5) (v := .ref (a2 0)) hx hb ht in_X6 hown hK hP 0 rfl rfl 1 (by decide) mw_356 rfl dX6_count_61 ?_
    refine fl_get (C := RX0) (T := TX0) (N := 18) (ci := 0) (v := .int (s2.1 1)) hx hb ht in_X0 hown hK hP 3 rfl rfl 1 (by decide) mw_174 rfl dX6_count_64 ?_
    have hP := hP.sub (ws' := [((a0 0), .inr (5, [.ref (a1 0), .ref (a2 0), .ref (a3 0), .ref (a4 0), .ref (a5 0), .ref p8, .ref s8])), ((a1 0), .inr (4, [.ref (a1 1), .int (s1.1 0), .int (s1.1 1), .int (s1.1 2), .int (s1.1 3), .int (s1.1 4), .int (s1.1 5)])), ((a1 1), .inl (q 0, 400, .inl s1.2)), ((a2 0), .inr (0, [.int (s2.1 0), .int (s2.1 1), .int (s2.1 2), .int (s2.1 3), .int (s2.1 4), .int (s2.1 5), .ref (a2 1), .ref (a2 2), .ref (a2 3), .ref (a2 4), .ref (a2 5), .ref (a2 6), .ref (a2 7), .ref (a2 8), .ref (a2 9), .ref (a2 10), .ref (a2 11), .ref (a2 12)])), ((a2 1), .inl (q 0, 4, .inl (s2.2.1 0))), ((a2 2), .inl (q 0, 4, .inl (s2.2.1 1))), ((a2 3), .inl (q 0, 160, .inl (s2.2.1 2))), ((a2 4), .inl (q 0, 40, .inl (s2.2.1 3))), ((a2 5), .inl (q 0, 40, .inl (s2.2.1 4))), ((a2 6), .inl (q 0, 40, .inl (s2.2.1 5))), ((a2 7), .inl (q 0, 40, .inl (s2.2.1 6))), ((a2 8), .inl (q 0, 40, .inl (s2.2.1 7))), ((a2 9), .inl (q 0, 40, .inl (s2.2.1 8))), ((a2 10), .inl (q 0, 40, .inl (s2.2.1 9))), ((a2 11), .inl (q 1, 40, .inr (.inl s2.2.2.1))), ((a2 12), .inl (q 0, s2.2.2.2.1, .inl s2.2.2.2.2)), ((a4 0), .inr (1, [.ref (a4 1), .ref (a4 2), .ref (a4 3), .int (s4.1 0), .int (s4.1 1), .int (s4.1 2), .int (s4.1 3), .int (s4.1 4), .int (s4.1 5), .int (s4.1 6), .int (s4.1 7), .int (s4.1 8)])), ((a4 1), .inl (q 0, 40, .inl (s4.2 0))), ((a4 2), .inl (q 0, 40, .inl (s4.2 1))), ((a4 3), .inl (q 0, 40, .inl (s4.2 2))), (p8, .inr (2, [.ref p9, .int (s6.1 0), .int (s6.1 1)])), (s8, .inl (q 4, 2, .inr (.inr (.inr (.inr (pf_f AA z7))))))]) [0, 1, 2, 3, 4, 5, 6, 7, 8, 9, 10, 11, 12, 13, 14, 15, 16, 17, 18, 19, 20, 21] rfl
    have hD := hD.sub (ws' := [((a0 0), .inr (5, [.ref (a1 0), .ref (a2 0), .ref (a3 0), .ref (a4 0), .ref (a5 0), .ref p8, .ref s8])), ((a1 0), .inr (4, [.ref (a1 1), .int (s1.1 0), .int (s1.1 1), .int (s1.1 2), .int (s1.1 3), .int (s1.1 4), .int (s1.1 5)])), ((a1 1), .inl (q 0, 400, .inl s1.2)), ((a2 0), .inr (0, [.int (s2.1 0), .int (s2.1 1), .int (s2.1 2), .int (s2.1 3), .int (s2.1 4), .int (s2.1 5), .ref (a2 1), .ref (a2 2), .ref (a2 3), .ref (a2 4), .ref (a2 5), .ref (a2 6), .ref (a2 7), .ref (a2 8), .ref (a2 9), .ref (a2 10), .ref (a2 11), .ref (a2 12)])), ((a2 1), .inl (q 0, 4, .inl (s2.2.1 0))), ((a2 2), .inl (q 0, 4, .inl (s2.2.1 1))), ((a2 3), .inl (q 0, 160, .inl (s2.2.1 2))), ((a2 4), .inl (q 0, 40, .inl (s2.2.1 3))), ((a2 5), .inl (q 0, 40, .inl (s2.2.1 4))), ((a2 6), .inl (q 0, 40, .inl (s2.2.1 5))), ((a2 7), .inl (q 0, 40, .inl (s2.2.1 6))), ((a2 8), .inl (q 0, 40, .inl (s2.2.1 7))), ((a2 9), .inl (q 0, 40, .inl (s2.2.1 8))), ((a2 10), .inl (q 0, 40, .inl (s2.2.1 9))), ((a2 11), .inl (q 1, 40, .inr (.inl s2.2.2.1))), ((a2 12), .inl (q 0, s2.2.2.2.1, .inl s2.2.2.2.2)), ((a4 0), .inr (1, [.ref (a4 1), .ref (a4 2), .ref (a4 3), .int (s4.1 0), .int (s4.1 1), .int (s4.1 2), .int (s4.1 3), .int (s4.1 4), .int (s4.1 5), .int (s4.1 6), .int (s4.1 7), .int (s4.1 8)])), ((a4 1), .inl (q 0, 40, .inl (s4.2 0))), ((a4 2), .inl (q 0, 40, .inl (s4.2 1))), ((a4 3), .inl (q 0, 40, .inl (s4.2 2))), (p8, .inr (2, [.ref p9, .int (s6.1 0), .int (s6.1 1)])), (s8, .inl (q 4, 2, .inr (.inr (.inr (.inr (pf_f AA z7))))))]) [0, 1, 2, 3, 4, 5, 6, 7, 8, 9, 10, 11, 12, 13, 14, 15, 16, 17, 18, 19, 20, 21] (by decide) rfl
    exact mt_iret (s4, s6) hx hb hr hk h hP hD hS dX6_count_67
  replace h := h.2 k_2
  by_cases k_3 : x1 = 2
  · replace h := h.1 k_3
    refine lv_tableIn (tgt := 68) hx hb dX6_count_1 (by rw [k_3]; decide) (by rw [k_3]; decide) (by rw [k_3]; rfl) (by decide) ?_
    refine lv_aload_n hx hb dX6_count_68 rfl (lv_at hl 0 rfl) ?_
    refine fl_get (C := RX6) (T := TX6) (N := 7) (ci := 5) (v := .ref (a2 0)) hx hb ht in_X6 hown hK hP 0 rfl rfl 1 (by decide) mw_356 rfl dX6_count_69 ?_
    refine vp_callSi (rd_wV (wc := bd_w a2 q s2) (As := []) (rest := []) hx hb hml hown ht (c2_X0_cells h) wd_X0_cells mw_885 hQ hV hS (hP.sub [3, 4, 5, 6, 7, 8, 9, 10, 11, 12, 13, 14, 15] rfl) rfl rfl rfl hl.1 rfl (Nat.le_of_ble_eq_true rfl) dX6_count_72 ⟨Nat.le_of_ble_eq_true rfl, Nat.le_of_ble_eq_true rfl, rfl, rfl⟩ ⟨Nat.le_of_ble_eq_true rfl, Nat.le_of_ble_eq_true rfl⟩) (fun r_4 h => ?_)
    try dsimp only at h
    have hP := hP.sub (ws' := [((a0 0), .inr (5, [.ref (a1 0), .ref (a2 0), .ref (a3 0), .ref (a4 0), .ref (a5 0), .ref p8, .ref s8])), ((a1 0), .inr (4, [.ref (a1 1), .int (s1.1 0), .int (s1.1 1), .int (s1.1 2), .int (s1.1 3), .int (s1.1 4), .int (s1.1 5)])), ((a1 1), .inl (q 0, 400, .inl s1.2)), ((a2 0), .inr (0, [.int (s2.1 0), .int (s2.1 1), .int (s2.1 2), .int (s2.1 3), .int (s2.1 4), .int (s2.1 5), .ref (a2 1), .ref (a2 2), .ref (a2 3), .ref (a2 4), .ref (a2 5), .ref (a2 6), .ref (a2 7), .ref (a2 8), .ref (a2 9), .ref (a2 10), .ref (a2 11), .ref (a2 12)])), ((a2 1), .inl (q 0, 4, .inl (s2.2.1 0))), ((a2 2), .inl (q 0, 4, .inl (s2.2.1 1))), ((a2 3), .inl (q 0, 160, .inl (s2.2.1 2))), ((a2 4), .inl (q 0, 40, .inl (s2.2.1 3))), ((a2 5), .inl (q 0, 40, .inl (s2.2.1 4))), ((a2 6), .inl (q 0, 40, .inl (s2.2.1 5))), ((a2 7), .inl (q 0, 40, .inl (s2.2.1 6))), ((a2 8), .inl (q 0, 40, .inl (s2.2.1 7))), ((a2 9), .inl (q 0, 40, .inl (s2.2.1 8))), ((a2 10), .inl (q 0, 40, .inl (s2.2.1 9))), ((a2 11), .inl (q 1, 40, .inr (.inl s2.2.2.1))), ((a2 12), .inl (q 0, s2.2.2.2.1, .inl s2.2.2.2.2)), ((a4 0), .inr (1, [.ref (a4 1), .ref (a4 2), .ref (a4 3), .int (s4.1 0), .int (s4.1 1), .int (s4.1 2), .int (s4.1 3), .int (s4.1 4), .int (s4.1 5), .int (s4.1 6), .int (s4.1 7), .int (s4.1 8)])), ((a4 1), .inl (q 0, 40, .inl (s4.2 0))), ((a4 2), .inl (q 0, 40, .inl (s4.2 1))), ((a4 3), .inl (q 0, 40, .inl (s4.2 2))), (p8, .inr (2, [.ref p9, .int (s6.1 0), .int (s6.1 1)])), (s8, .inl (q 4, 2, .inr (.inr (.inr (.inr (pf_f AA z7))))))]) [0, 1, 2, 3, 4, 5, 6, 7, 8, 9, 10, 11, 12, 13, 14, 15, 16, 17, 18, 19, 20, 21] rfl
    have hD := hD.sub (ws' := [((a0 0), .inr (5, [.ref (a1 0), .ref (a2 0), .ref (a3 0), .ref (a4 0), .ref (a5 0), .ref p8, .ref s8])), ((a1 0), .inr (4, [.ref (a1 1), .int (s1.1 0), .int (s1.1 1), .int (s1.1 2), .int (s1.1 3), .int (s1.1 4), .int (s1.1 5)])), ((a1 1), .inl (q 0, 400, .inl s1.2)), ((a2 0), .inr (0, [.int (s2.1 0), .int (s2.1 1), .int (s2.1 2), .int (s2.1 3), .int (s2.1 4), .int (s2.1 5), .ref (a2 1), .ref (a2 2), .ref (a2 3), .ref (a2 4), .ref (a2 5), .ref (a2 6), .ref (a2 7), .ref (a2 8), .ref (a2 9), .ref (a2 10), .ref (a2 11), .ref (a2 12)])), ((a2 1), .inl (q 0, 4, .inl (s2.2.1 0))), ((a2 2), .inl (q 0, 4, .inl (s2.2.1 1))), ((a2 3), .inl (q 0, 160, .inl (s2.2.1 2))), ((a2 4), .inl (q 0, 40, .inl (s2.2.1 3))), ((a2 5), .inl (q 0, 40, .inl (s2.2.1 4))), ((a2 6), .inl (q 0, 40, .inl (s2.2.1 5))), ((a2 7), .inl (q 0, 40, .inl (s2.2.1 6))), ((a2 8), .inl (q 0, 40, .inl (s2.2.1 7))), ((a2 9), .inl (q 0, 40, .inl (s2.2.1 8))), ((a2 10), .inl (q 0, 40, .inl (s2.2.1 9))), ((a2 11), .inl (q 1, 40, .inr (.inl s2.2.2.1))), ((a2 12), .inl (q 0, s2.2.2.2.1, .inl s2.2.2.2.2)), ((a4 0), .inr (1, [.ref (a4 1), .ref (a4 2), .ref (a4 3), .int (s4.1 0), .int (s4.1 1), .int (s4.1 2), .int (s4.1 3), .int (s4.1 4), .int (s4.1 5), .int (s4.1 6), .int (s4.1 7), .int (s4.1 8)])), ((a4 1), .inl (q 0, 40, .inl (s4.2 0))), ((a4 2), .inl (q 0, 40, .inl (s4.2 1))), ((a4 3), .inl (q 0, 40, .inl (s4.2 2))), (p8, .inr (2, [.ref p9, .int (s6.1 0), .int (s6.1 1)])), (s8, .inl (q 4, 2, .inr (.inr (.inr (.inr (pf_f AA z7))))))]) [0, 1, 2, 3, 4, 5, 6, 7, 8, 9, 10, 11, 12, 13, 14, 15, 16, 17, 18, 19, 20, 21] (by decide) rfl
    exact mt_iret (s4, s6) hx hb hr hk h hP hD hS dX6_count_75
  replace h := h.2 k_3
  by_cases k_6 : x1 = 3
  · replace h := h.1 k_6
    refine lv_tableIn (tgt := 76) hx hb dX6_count_1 (by rw [k_6]; decide) (by rw [k_6]; decide) (by rw [k_6]; rfl) (by decide) ?_
    refine lv_aload_n hx hb dX6_count_76 rfl (lv_at hl 0 rfl) ?_
    refine fl_get (C := RX6) (T := TX6) (N := 7) (ci := 5) (v := .ref (a2 0)) hx hb ht in_X6 hown hK hP 0 rfl rfl 1 (by decide) mw_356 rfl dX6_count_77 ?_
    refine fl_get (C := RX0) (T := TX0) (N := 18) (ci := 0) (v := .int (s2.1 2)) hx hb ht in_X0 hown hK hP 3 rfl rfl 2 (by decide) mw_178 rfl dX6_count_80 ?_
    have hP := hP.sub (ws' := [((a0 0), .inr (5, [.ref (a1 0), .ref (a2 0), .ref (a3 0), .ref (a4 0), .ref (a5 0), .ref p8, .ref s8])), ((a1 0), .inr (4, [.ref (a1 1), .int (s1.1 0), .int (s1.1 1), .int (s1.1 2), .int (s1.1 3), .int (s1.1 4), .int (s1.1 5)])), ((a1 1), .inl (q 0, 400, .inl s1.2)), ((a2 0), .inr (0, [.int (s2.1 0), .int (s2.1 1), .int (s2.1 2), .int (s2.1 3), .int (s2.1 4), .int (s2.1 5), .ref (a2 1), .ref (a2 2), .ref (a2 3), .ref (a2 4), .ref (a2 5), .ref (a2 6), .ref (a2 7), .ref (a2 8), .ref (a2 9), .ref (a2 10), .ref (a2 11), .ref (a2 12)])), ((a2 1), .inl (q 0, 4, .inl (s2.2.1 0))), ((a2 2), .inl (q 0, 4, .inl (s2.2.1 1))), ((a2 3), .inl (q 0, 160, .inl (s2.2.1 2))), ((a2 4), .inl (q 0, 40, .inl (s2.2.1 3))), ((a2 5), .inl (q 0, 40, .inl (s2.2.1 4))), ((a2 6), .inl (q 0, 40, .inl (s2.2.1 5))), ((a2 7), .inl (q 0, 40, .inl (s2.2.1 6))), ((a2 8), .inl (q 0, 40, .inl (s2.2.1 7))), ((a2 9), .inl (q 0, 40, .inl (s2.2.1 8))), ((a2 10), .inl (q 0, 40, .inl (s2.2.1 9))), ((a2 11), .inl (q 1, 40, .inr (.inl s2.2.2.1))), ((a2 12), .inl (q 0, s2.2.2.2.1, .inl s2.2.2.2.2)), ((a4 0), .inr (1, [.ref (a4 1), .ref (a4 2), .ref (a4 3), .int (s4.1 0), .int (s4.1 1), .int (s4.1 2), .int (s4.1 3), .int (s4.1 4), .int (s4.1 5), .int (s4.1 6), .int (s4.1 7), .int (s4.1 8)])), ((a4 1), .inl (q 0, 40, .inl (s4.2 0))), ((a4 2), .inl (q 0, 40, .inl (s4.2 1))), ((a4 3), .inl (q 0, 40, .inl (s4.2 2))), (p8, .inr (2, [.ref p9, .int (s6.1 0), .int (s6.1 1)])), (s8, .inl (q 4, 2, .inr (.inr (.inr (.inr (pf_f AA z7))))))]) [0, 1, 2, 3, 4, 5, 6, 7, 8, 9, 10, 11, 12, 13, 14, 15, 16, 17, 18, 19, 20, 21] rfl
    have hD := hD.sub (ws' := [((a0 0), .inr (5, [.ref (a1 0), .ref (a2 0), .ref (a3 0), .ref (a4 0), .ref (a5 0), .ref p8, .ref s8])), ((a1 0), .inr (4, [.ref (a1 1), .int (s1.1 0), .int (s1.1 1), .int (s1.1 2), .int (s1.1 3), .int (s1.1 4), .int (s1.1 5)])), ((a1 1), .inl (q 0, 400, .inl s1.2)), ((a2 0), .inr (0, [.int (s2.1 0), .int (s2.1 1), .int (s2.1 2), .int (s2.1 3), .int (s2.1 4), .int (s2.1 5), .ref (a2 1), .ref (a2 2), .ref (a2 3), .ref (a2 4), .ref (a2 5), .ref (a2 6), .ref (a2 7), .ref (a2 8), .ref (a2 9), .ref (a2 10), .ref (a2 11), .ref (a2 12)])), ((a2 1), .inl (q 0, 4, .inl (s2.2.1 0))), ((a2 2), .inl (q 0, 4, .inl (s2.2.1 1))), ((a2 3), .inl (q 0, 160, .inl (s2.2.1 2))), ((a2 4), .inl (q 0, 40, .inl (s2.2.1 3))), ((a2 5), .inl (q 0, 40, .inl (s2.2.1 4))), ((a2 6), .inl (q 0, 40, .inl (s2.2.1 5))), ((a2 7), .inl (q 0, 40, .inl (s2.2.1 6))), ((a2 8), .inl (q 0, 40, .inl (s2.2.1 7))), ((a2 9), .inl (q 0, 40, .inl (s2.2.1 8))), ((a2 10), .inl (q 0, 40, .inl (s2.2.1 9))), ((a2 11), .inl (q 1, 40, .inr (.inl s2.2.2.1))), ((a2 12), .inl (q 0, s2.2.2.2.1, .inl s2.2.2.2.2)), ((a4 0), .inr (1, [.ref (a4 1), .ref (a4 2), .ref (a4 3), .int (s4.1 0), .int (s4.1 1), .int (s4.1 2), .int (s4.1 3), .int (s4.1 4), .int (s4.1 5), .int (s4.1 6), .int (s4.1 7), .int (s4.1 8)])), ((a4 1), .inl (q 0, 40, .inl (s4.2 0))), ((a4 2), .inl (q 0, 40, .inl (s4.2 1))), ((a4 3), .inl (q 0, 40, .inl (s4.2 2))), (p8, .inr (2, [.ref p9, .int (s6.1 0), .int (s6.1 1)])), (s8, .inl (q 4, 2, .inr (.inr (.inr (.inr (pf_f AA z7))))))]) [0, 1, 2, 3, 4, 5, 6, 7, 8, 9, 10, 11, 12, 13, 14, 15, 16, 17, 18, 19, 20, 21] (by decide) rfl
    exact mt_iret (s4, s6) hx hb hr hk h hP hD hS dX6_count_83
  replace h := h.2 k_6
  by_cases k_7 : x1 = 4
  · replace h := h.1 k_7
    refine lv_tableIn (tgt := 84) hx hb dX6_count_1 (by rw [k_7]; decide) (by rw [k_7]; decide) (by rw [k_7]; rfl) (by decide) ?_
    refine lv_aload_n hx hb dX6_count_84 rfl (lv_at hl 0 rfl) ?_
    refine fl_get (C := RX6) (T := TX6) (N := 7) (ci := 5) (v := .ref (a2 0)) hx hb ht in_X6 hown hK hP 0 rfl rfl 1 (by decide) mw_356 rfl dX6_count_85 ?_
    refine fl_get (C := RX0) (T := TX0) (N := 18) (ci := 0) (v := .int (s2.1 3)) hx hb ht in_X0 hown hK hP 3 rfl rfl 3 (by decide) mw_181 rfl dX6_count_88 ?_
    have hP := hP.sub (ws' := [((a0 0), .inr (5, [.ref (a1 0), .ref (a2 0), .ref (a3 0), .ref (a4 0), .ref (a5 0), .ref p8, .ref s8])), ((a1 0), .inr (4, [.ref (a1 1), .int (s1.1 0), .int (s1.1 1), .int (s1.1 2), .int (s1.1 3), .int (s1.1 4), .int (s1.1 5)])), ((a1 1), .inl (q 0, 400, .inl s1.2)), ((a2 0), .inr (0, [.int (s2.1 0), .int (s2.1 1), .int (s2.1 2), .int (s2.1 3), .int (s2.1 4), .int (s2.1 5), .ref (a2 1), .ref (a2 2), .ref (a2 3), .ref (a2 4), .ref (a2 5), .ref (a2 6), .ref (a2 7), .ref (a2 8), .ref (a2 9), .ref (a2 10), .ref (a2 11), .ref (a2 12)])), ((a2 1), .inl (q 0, 4, .inl (s2.2.1 0))), ((a2 2), .inl (q 0, 4, .inl (s2.2.1 1))), ((a2 3), .inl (q 0, 160, .inl (s2.2.1 2))), ((a2 4), .inl (q 0, 40, .inl (s2.2.1 3))), ((a2 5), .inl (q 0, 40, .inl (s2.2.1 4))), ((a2 6), .inl (q 0, 40, .inl (s2.2.1 5))), ((a2 7), .inl (q 0, 40, .inl (s2.2.1 6))), ((a2 8), .inl (q 0, 40, .inl (s2.2.1 7))), ((a2 9), .inl (q 0, 40, .inl (s2.2.1 8))), ((a2 10), .inl (q 0, 40, .inl (s2.2.1 9))), ((a2 11), .inl (q 1, 40, .inr (.inl s2.2.2.1))), ((a2 12), .inl (q 0, s2.2.2.2.1, .inl s2.2.2.2.2)), ((a4 0), .inr (1, [.ref (a4 1), .ref (a4 2), .ref (a4 3), .int (s4.1 0), .int (s4.1 1), .int (s4.1 2), .int (s4.1 3), .int (s4.1 4), .int (s4.1 5), .int (s4.1 6), .int (s4.1 7), .int (s4.1 8)])), ((a4 1), .inl (q 0, 40, .inl (s4.2 0))), ((a4 2), .inl (q 0, 40, .inl (s4.2 1))), ((a4 3), .inl (q 0, 40, .inl (s4.2 2))), (p8, .inr (2, [.ref p9, .int (s6.1 0), .int (s6.1 1)])), (s8, .inl (q 4, 2, .inr (.inr (.inr (.inr (pf_f AA z7))))))]) [0, 1, 2, 3, 4, 5, 6, 7, 8, 9, 10, 11, 12, 13, 14, 15, 16, 17, 18, 19, 20, 21] rfl
    have hD := hD.sub (ws' := [((a0 0), .inr (5, [.ref (a1 0), .ref (a2 0), .ref (a3 0), .ref (a4 0), .ref (a5 0), .ref p8, .ref s8])), ((a1 0), .inr (4, [.ref (a1 1), .int (s1.1 0), .int (s1.1 1), .int (s1.1 2), .int (s1.1 3), .int (s1.1 4), .int (s1.1 5)])), ((a1 1), .inl (q 0, 400, .inl s1.2)), ((a2 0), .inr (0, [.int (s2.1 0), .int (s2.1 1), .int (s2.1 2), .int (s2.1 3), .int (s2.1 4), .int (s2.1 5), .ref (a2 1), .ref (a2 2), .ref (a2 3), .ref (a2 4), .ref (a2 5), .ref (a2 6), .ref (a2 7), .ref (a2 8), .ref (a2 9), .ref (a2 10), .ref (a2 11), .ref (a2 12)])), ((a2 1), .inl (q 0, 4, .inl (s2.2.1 0))), ((a2 2), .inl (q 0, 4, .inl (s2.2.1 1))), ((a2 3), .inl (q 0, 160, .inl (s2.2.1 2))), ((a2 4), .inl (q 0, 40, .inl (s2.2.1 3))), ((a2 5), .inl (q 0, 40, .inl (s2.2.1 4))), ((a2 6), .inl (q 0, 40, .inl (s2.2.1 5))), ((a2 7), .inl (q 0, 40, .inl (s2.2.1 6))), ((a2 8), .inl (q 0, 40, .inl (s2.2.1 7))), ((a2 9), .inl (q 0, 40, .inl (s2.2.1 8))), ((a2 10), .inl (q 0, 40, .inl (s2.2.1 9))), ((a2 11), .inl (q 1, 40, .inr (.inl s2.2.2.1))), ((a2 12), .inl (q 0, s2.2.2.2.1, .inl s2.2.2.2.2)), ((a4 0), .inr (1, [.ref (a4 1), .ref (a4 2), .ref (a4 3), .int (s4.1 0), .int (s4.1 1), .int (s4.1 2), .int (s4.1 3), .int (s4.1 4), .int (s4.1 5), .int (s4.1 6), .int (s4.1 7), .int (s4.1 8)])), ((a4 1), .inl (q 0, 40, .inl (s4.2 0))), ((a4 2), .inl (q 0, 40, .inl (s4.2 1))), ((a4 3), .inl (q 0, 40, .inl (s4.2 2))), (p8, .inr (2, [.ref p9, .int (s6.1 0), .int (s6.1 1)])), (s8, .inl (q 4, 2, .inr (.inr (.inr (.inr (pf_f AA z7))))))]) [0, 1, 2, 3, 4, 5, 6, 7, 8, 9, 10, 11, 12, 13, 14, 15, 16, 17, 18, 19, 20, 21] (by decide) rfl
    exact mt_iret (s4, s6) hx hb hr hk h hP hD hS dX6_count_91
  replace h := h.2 k_7
  by_cases k_8 : x1 = 5
  · replace h := h.1 k_8
    refine lv_tableIn (tgt := 92) hx hb dX6_count_1 (by rw [k_8]; decide) (by rw [k_8]; decide) (by rw [k_8]; rfl) (by decide) ?_
    refine lv_aload_n hx hb dX6_count_92 rfl (lv_at hl 0 rfl) ?_
    refine fl_get (C := RX6) (T := TX6) (N := 7) (ci := 5) (v := .ref p8) hx hb ht in_X6 hown hK hP 0 rfl rfl 5 (by decide) mw_360 rfl dX6_count_93 ?_
    refine fl_get (C := RX3) (T := TX3) (N := 3) (ci := 2) (v := .int (s6.1 0)) hx hb ht in_X3 hown hK hP 20 rfl rfl 1 (by decide) mw_346 rfl dX6_count_96 ?_
    have hP := hP.sub (ws' := [((a0 0), .inr (5, [.ref (a1 0), .ref (a2 0), .ref (a3 0), .ref (a4 0), .ref (a5 0), .ref p8, .ref s8])), ((a1 0), .inr (4, [.ref (a1 1), .int (s1.1 0), .int (s1.1 1), .int (s1.1 2), .int (s1.1 3), .int (s1.1 4), .int (s1.1 5)])), ((a1 1), .inl (q 0, 400, .inl s1.2)), ((a2 0), .inr (0, [.int (s2.1 0), .int (s2.1 1), .int (s2.1 2), .int (s2.1 3), .int (s2.1 4), .int (s2.1 5), .ref (a2 1), .ref (a2 2), .ref (a2 3), .ref (a2 4), .ref (a2 5), .ref (a2 6), .ref (a2 7), .ref (a2 8), .ref (a2 9), .ref (a2 10), .ref (a2 11), .ref (a2 12)])), ((a2 1), .inl (q 0, 4, .inl (s2.2.1 0))), ((a2 2), .inl (q 0, 4, .inl (s2.2.1 1))), ((a2 3), .inl (q 0, 160, .inl (s2.2.1 2))), ((a2 4), .inl (q 0, 40, .inl (s2.2.1 3))), ((a2 5), .inl (q 0, 40, .inl (s2.2.1 4))), ((a2 6), .inl (q 0, 40, .inl (s2.2.1 5))), ((a2 7), .inl (q 0, 40, .inl (s2.2.1 6))), ((a2 8), .inl (q 0, 40, .inl (s2.2.1 7))), ((a2 9), .inl (q 0, 40, .inl (s2.2.1 8))), ((a2 10), .inl (q 0, 40, .inl (s2.2.1 9))), ((a2 11), .inl (q 1, 40, .inr (.inl s2.2.2.1))), ((a2 12), .inl (q 0, s2.2.2.2.1, .inl s2.2.2.2.2)), ((a4 0), .inr (1, [.ref (a4 1), .ref (a4 2), .ref (a4 3), .int (s4.1 0), .int (s4.1 1), .int (s4.1 2), .int (s4.1 3), .int (s4.1 4), .int (s4.1 5), .int (s4.1 6), .int (s4.1 7), .int (s4.1 8)])), ((a4 1), .inl (q 0, 40, .inl (s4.2 0))), ((a4 2), .inl (q 0, 40, .inl (s4.2 1))), ((a4 3), .inl (q 0, 40, .inl (s4.2 2))), (p8, .inr (2, [.ref p9, .int (s6.1 0), .int (s6.1 1)])), (s8, .inl (q 4, 2, .inr (.inr (.inr (.inr (pf_f AA z7))))))]) [0, 1, 2, 3, 4, 5, 6, 7, 8, 9, 10, 11, 12, 13, 14, 15, 16, 17, 18, 19, 20, 21] rfl
    have hD := hD.sub (ws' := [((a0 0), .inr (5, [.ref (a1 0), .ref (a2 0), .ref (a3 0), .ref (a4 0), .ref (a5 0), .ref p8, .ref s8])), ((a1 0), .inr (4, [.ref (a1 1), .int (s1.1 0), .int (s1.1 1), .int (s1.1 2), .int (s1.1 3), .int (s1.1 4), .int (s1.1 5)])), ((a1 1), .inl (q 0, 400, .inl s1.2)), ((a2 0), .inr (0, [.int (s2.1 0), .int (s2.1 1), .int (s2.1 2), .int (s2.1 3), .int (s2.1 4), .int (s2.1 5), .ref (a2 1), .ref (a2 2), .ref (a2 3), .ref (a2 4), .ref (a2 5), .ref (a2 6), .ref (a2 7), .ref (a2 8), .ref (a2 9), .ref (a2 10), .ref (a2 11), .ref (a2 12)])), ((a2 1), .inl (q 0, 4, .inl (s2.2.1 0))), ((a2 2), .inl (q 0, 4, .inl (s2.2.1 1))), ((a2 3), .inl (q 0, 160, .inl (s2.2.1 2))), ((a2 4), .inl (q 0, 40, .inl (s2.2.1 3))), ((a2 5), .inl (q 0, 40, .inl (s2.2.1 4))), ((a2 6), .inl (q 0, 40, .inl (s2.2.1 5))), ((a2 7), .inl (q 0, 40, .inl (s2.2.1 6))), ((a2 8), .inl (q 0, 40, .inl (s2.2.1 7))), ((a2 9), .inl (q 0, 40, .inl (s2.2.1 8))), ((a2 10), .inl (q 0, 40, .inl (s2.2.1 9))), ((a2 11), .inl (q 1, 40, .inr (.inl s2.2.2.1))), ((a2 12), .inl (q 0, s2.2.2.2.1, .inl s2.2.2.2.2)), ((a4 0), .inr (1, [.ref (a4 1), .ref (a4 2), .ref (a4 3), .int (s4.1 0), .int (s4.1 1), .int (s4.1 2), .int (s4.1 3), .int (s4.1 4), .int (s4.1 5), .int (s4.1 6), .int (s4.1 7), .int (s4.1 8)])), ((a4 1), .inl (q 0, 40, .inl (s4.2 0))), ((a4 2), .inl (q 0, 40, .inl (s4.2 1))), ((a4 3), .inl (q 0, 40, .inl (s4.2 2))), (p8, .inr (2, [.ref p9, .int (s6.1 0), .int (s6.1 1)])), (s8, .inl (q 4, 2, .inr (.inr (.inr (.inr (pf_f AA z7))))))]) [0, 1, 2, 3, 4, 5, 6, 7, 8, 9, 10, 11, 12, 13, 14, 15, 16, 17, 18, 19, 20, 21] (by decide) rfl
    exact mt_iret (s4, s6) hx hb hr hk h hP hD hS dX6_count_99
  replace h := h.2 k_8
  by_cases k_9 : x1 = 6
  · replace h := h.1 k_9
    refine lv_tableIn (tgt := 100) hx hb dX6_count_1 (by rw [k_9]; decide) (by rw [k_9]; decide) (by rw [k_9]; rfl) (by decide) ?_
    refine lv_aload_n hx hb dX6_count_100 rfl (lv_at hl 0 rfl) ?_
    refine fl_get (C := RX6) (T := TX6) (N := 7) (ci := 5) (v := .ref (a1 0)) hx hb ht in_X6 hown hK hP 0 rfl rfl 0 (by decide) mw_355 rfl dX6_count_101 ?_
    refine fl_get (C := RX5) (T := TX5) (N := 7) (ci := 4) (v := .int (s1.1 0)) hx hb ht in_X5 hown hK hP 1 rfl rfl 1 (by decide) mw_129 rfl dX6_count_104 ?_
    have hP := hP.sub (ws' := [((a0 0), .inr (5, [.ref (a1 0), .ref (a2 0), .ref (a3 0), .ref (a4 0), .ref (a5 0), .ref p8, .ref s8])), ((a1 0), .inr (4, [.ref (a1 1), .int (s1.1 0), .int (s1.1 1), .int (s1.1 2), .int (s1.1 3), .int (s1.1 4), .int (s1.1 5)])), ((a1 1), .inl (q 0, 400, .inl s1.2)), ((a2 0), .inr (0, [.int (s2.1 0), .int (s2.1 1), .int (s2.1 2), .int (s2.1 3), .int (s2.1 4), .int (s2.1 5), .ref (a2 1), .ref (a2 2), .ref (a2 3), .ref (a2 4), .ref (a2 5), .ref (a2 6), .ref (a2 7), .ref (a2 8), .ref (a2 9), .ref (a2 10), .ref (a2 11), .ref (a2 12)])), ((a2 1), .inl (q 0, 4, .inl (s2.2.1 0))), ((a2 2), .inl (q 0, 4, .inl (s2.2.1 1))), ((a2 3), .inl (q 0, 160, .inl (s2.2.1 2))), ((a2 4), .inl (q 0, 40, .inl (s2.2.1 3))), ((a2 5), .inl (q 0, 40, .inl (s2.2.1 4))), ((a2 6), .inl (q 0, 40, .inl (s2.2.1 5))), ((a2 7), .inl (q 0, 40, .inl (s2.2.1 6))), ((a2 8), .inl (q 0, 40, .inl (s2.2.1 7))), ((a2 9), .inl (q 0, 40, .inl (s2.2.1 8))), ((a2 10), .inl (q 0, 40, .inl (s2.2.1 9))), ((a2 11), .inl (q 1, 40, .inr (.inl s2.2.2.1))), ((a2 12), .inl (q 0, s2.2.2.2.1, .inl s2.2.2.2.2)), ((a4 0), .inr (1, [.ref (a4 1), .ref (a4 2), .ref (a4 3), .int (s4.1 0), .int (s4.1 1), .int (s4.1 2), .int (s4.1 3), .int (s4.1 4), .int (s4.1 5), .int (s4.1 6), .int (s4.1 7), .int (s4.1 8)])), ((a4 1), .inl (q 0, 40, .inl (s4.2 0))), ((a4 2), .inl (q 0, 40, .inl (s4.2 1))), ((a4 3), .inl (q 0, 40, .inl (s4.2 2))), (p8, .inr (2, [.ref p9, .int (s6.1 0), .int (s6.1 1)])), (s8, .inl (q 4, 2, .inr (.inr (.inr (.inr (pf_f AA z7))))))]) [0, 1, 2, 3, 4, 5, 6, 7, 8, 9, 10, 11, 12, 13, 14, 15, 16, 17, 18, 19, 20, 21] rfl
    have hD := hD.sub (ws' := [((a0 0), .inr (5, [.ref (a1 0), .ref (a2 0), .ref (a3 0), .ref (a4 0), .ref (a5 0), .ref p8, .ref s8])), ((a1 0), .inr (4, [.ref (a1 1), .int (s1.1 0), .int (s1.1 1), .int (s1.1 2), .int (s1.1 3), .int (s1.1 4), .int (s1.1 5)])), ((a1 1), .inl (q 0, 400, .inl s1.2)), ((a2 0), .inr (0, [.int (s2.1 0), .int (s2.1 1), .int (s2.1 2), .int (s2.1 3), .int (s2.1 4), .int (s2.1 5), .ref (a2 1), .ref (a2 2), .ref (a2 3), .ref (a2 4), .ref (a2 5), .ref (a2 6), .ref (a2 7), .ref (a2 8), .ref (a2 9), .ref (a2 10), .ref (a2 11), .ref (a2 12)])), ((a2 1), .inl (q 0, 4, .inl (s2.2.1 0))), ((a2 2), .inl (q 0, 4, .inl (s2.2.1 1))), ((a2 3), .inl (q 0, 160, .inl (s2.2.1 2))), ((a2 4), .inl (q 0, 40, .inl (s2.2.1 3))), ((a2 5), .inl (q 0, 40, .inl (s2.2.1 4))), ((a2 6), .inl (q 0, 40, .inl (s2.2.1 5))), ((a2 7), .inl (q 0, 40, .inl (s2.2.1 6))), ((a2 8), .inl (q 0, 40, .inl (s2.2.1 7))), ((a2 9), .inl (q 0, 40, .inl (s2.2.1 8))), ((a2 10), .inl (q 0, 40, .inl (s2.2.1 9))), ((a2 11), .inl (q 1, 40, .inr (.inl s2.2.2.1))), ((a2 12), .inl (q 0, s2.2.2.2.1, .inl s2.2.2.2.2)), ((a4 0), .inr (1, [.ref (a4 1), .ref (a4 2), .ref (a4 3), .int (s4.1 0), .int (s4.1 1), .int (s4.1 2), .int (s4.1 3), .int (s4.1 4), .int (s4.1 5), .int (s4.1 6), .int (s4.1 7), .int (s4.1 8)])), ((a4 1), .inl (q 0, 40, .inl (s4.2 0))), ((a4 2), .inl (q 0, 40, .inl (s4.2 1))), ((a4 3), .inl (q 0, 40, .inl (s4.2 2))), (p8, .inr (2, [.ref p9, .int (s6.1 0), .int (s6.1 1)])), (s8, .inl (q 4, 2, .inr (.inr (.inr (.inr (pf_f AA z7))))))]) [0, 1, 2, 3, 4, 5, 6, 7, 8, 9, 10, 11, 12, 13, 14, 15, 16, 17, 18, 19, 20, 21] (by decide) rfl
    exact mt_iret (s4, s6) hx hb hr hk h hP hD hS dX6_count_107
  replace h := h.2 k_9
  by_cases k_10 : x1 = 7
  · replace h := h.1 k_10
    refine lv_tableIn (tgt := 108) hx hb dX6_count_1 (by rw [k_10]; decide) (by rw [k_10]; decide) (by rw [k_10]; rfl) (by decide) ?_
    refine lv_aload_n hx hb dX6_count_108 rfl (lv_at hl 0 rfl) ?_
    refine mt_goi (mt_wV (wc := (fo_w (a0 0) (a1 0) (a2 0) (a3 0) (a4 0) (a5 0) p8 s8 ++ pa_r s8 q 2 AA z7)) (As := []) (rest := []) hx hb hml hown ht (c2_X6_shelvesUsed (p9 := p9) h) wd_X6_shelvesUsed mw_1119 hQ hV hS hA (hP.sub [0, 21] rfl) (hD.sub [0, 21] (by decide) rfl) rfl rfl rfl hl.1 rfl (Nat.le_of_ble_eq_true rfl) dX6_count_109 ⟨Nat.le_of_ble_eq_true rfl, Nat.le_of_ble_eq_true rfl, rfl, rfl⟩ ⟨Nat.le_of_ble_eq_true rfl, Nat.le_of_ble_eq_true rfl⟩) (wr := [((a1 0), .inr (4, [.ref (a1 1), .int (s1.1 0), .int (s1.1 1), .int (s1.1 2), .int (s1.1 3), .int (s1.1 4), .int (s1.1 5)])), ((a1 1), .inl (q 0, 400, .inl s1.2)), ((a2 0), .inr (0, [.int (s2.1 0), .int (s2.1 1), .int (s2.1 2), .int (s2.1 3), .int (s2.1 4), .int (s2.1 5), .ref (a2 1), .ref (a2 2), .ref (a2 3), .ref (a2 4), .ref (a2 5), .ref (a2 6), .ref (a2 7), .ref (a2 8), .ref (a2 9), .ref (a2 10), .ref (a2 11), .ref (a2 12)])), ((a2 1), .inl (q 0, 4, .inl (s2.2.1 0))), ((a2 2), .inl (q 0, 4, .inl (s2.2.1 1))), ((a2 3), .inl (q 0, 160, .inl (s2.2.1 2))), ((a2 4), .inl (q 0, 40, .inl (s2.2.1 3))), ((a2 5), .inl (q 0, 40, .inl (s2.2.1 4))), ((a2 6), .inl (q 0, 40, .inl (s2.2.1 5))), ((a2 7), .inl (q 0, 40, .inl (s2.2.1 6))), ((a2 8), .inl (q 0, 40, .inl (s2.2.1 7))), ((a2 9), .inl (q 0, 40, .inl (s2.2.1 8))), ((a2 10), .inl (q 0, 40, .inl (s2.2.1 9))), ((a2 11), .inl (q 1, 40, .inr (.inl s2.2.2.1))), ((a2 12), .inl (q 0, s2.2.2.2.1, .inl s2.2.2.2.2)), ((a4 0), .inr (1, [.ref (a4 1), .ref (a4 2), .ref (a4 3), .int (s4.1 0), .int (s4.1 1), .int (s4.1 2), .int (s4.1 3), .int (s4.1 4), .int (s4.1 5), .int (s4.1 6), .int (s4.1 7), .int (s4.1 8)])), ((a4 1), .inl (q 0, 40, .inl (s4.2 0))), ((a4 2), .inl (q 0, 40, .inl (s4.2 1))), ((a4 3), .inl (q 0, 40, .inl (s4.2 2))), (p8, .inr (2, [.ref p9, .int (s6.1 0), .int (s6.1 1)]))]) hP hD hS hA [0, 21] [1, 2, 3, 4, 5, 6, 7, 8, 9, 10, 11, 12, 13, 14, 15, 16, 17, 18, 19, 20] rfl rfl (by decide) (by decide) (fun r_11 _ H locs h hP hD hS => ?_)
    try dsimp only at h
    have hP : va_P D vwCl [((a1 0), .inr (4, [.ref (a1 1), .int (s1.1 0), .int (s1.1 1), .int (s1.1 2), .int (s1.1 3), .int (s1.1 4), .int (s1.1 5)])), ((a1 1), .inl (q 0, 400, .inl s1.2)), ((a2 0), .inr (0, [.int (s2.1 0), .int (s2.1 1), .int (s2.1 2), .int (s2.1 3), .int (s2.1 4), .int (s2.1 5), .ref (a2 1), .ref (a2 2), .ref (a2 3), .ref (a2 4), .ref (a2 5), .ref (a2 6), .ref (a2 7), .ref (a2 8), .ref (a2 9), .ref (a2 10), .ref (a2 11), .ref (a2 12)])), ((a2 1), .inl (q 0, 4, .inl (s2.2.1 0))), ((a2 2), .inl (q 0, 4, .inl (s2.2.1 1))), ((a2 3), .inl (q 0, 160, .inl (s2.2.1 2))), ((a2 4), .inl (q 0, 40, .inl (s2.2.1 3))), ((a2 5), .inl (q 0, 40, .inl (s2.2.1 4))), ((a2 6), .inl (q 0, 40, .inl (s2.2.1 5))), ((a2 7), .inl (q 0, 40, .inl (s2.2.1 6))), ((a2 8), .inl (q 0, 40, .inl (s2.2.1 7))), ((a2 9), .inl (q 0, 40, .inl (s2.2.1 8))), ((a2 10), .inl (q 0, 40, .inl (s2.2.1 9))), ((a2 11), .inl (q 1, 40, .inr (.inl s2.2.2.1))), ((a2 12), .inl (q 0, s2.2.2.2.1, .inl s2.2.2.2.2)), ((a4 0), .inr (1, [.ref (a4 1), .ref (a4 2), .ref (a4 3), .int (s4.1 0), .int (s4.1 1), .int (s4.1 2), .int (s4.1 3), .int (s4.1 4), .int (s4.1 5), .int (s4.1 6), .int (s4.1 7), .int (s4.1 8)])), ((a4 1), .inl (q 0, 40, .inl (s4.2 0))), ((a4 2), .inl (q 0, 40, .inl (s4.2 1))), ((a4 3), .inl (q 0, 40, .inl (s4.2 2))), (p8, .inr (2, [.ref p9, .int (s6.1 0), .int (s6.1 1)])), ((a0 0), .inr (5, [.ref (a1 0), .ref (a2 0), .ref (a3 0), .ref (a4 0), .ref (a5 0), .ref p8, .ref s8])), (s8, .inl (q 4, 2, .inr (.inr (.inr (.inr (pf_f AA z7))))))] H := hP
    have hD : va_D _ [((a1 0), .inr (4, [.ref (a1 1), .int (s1.1 0), .int (s1.1 1), .int (s1.1 2), .int (s1.1 3), .int (s1.1 4), .int (s1.1 5)])), ((a1 1), .inl (q 0, 400, .inl s1.2)), ((a2 0), .inr (0, [.int (s2.1 0), .int (s2.1 1), .int (s2.1 2), .int (s2.1 3), .int (s2.1 4), .int (s2.1 5), .ref (a2 1), .ref (a2 2), .ref (a2 3), .ref (a2 4), .ref (a2 5), .ref (a2 6), .ref (a2 7), .ref (a2 8), .ref (a2 9), .ref (a2 10), .ref (a2 11), .ref (a2 12)])), ((a2 1), .inl (q 0, 4, .inl (s2.2.1 0))), ((a2 2), .inl (q 0, 4, .inl (s2.2.1 1))), ((a2 3), .inl (q 0, 160, .inl (s2.2.1 2))), ((a2 4), .inl (q 0, 40, .inl (s2.2.1 3))), ((a2 5), .inl (q 0, 40, .inl (s2.2.1 4))), ((a2 6), .inl (q 0, 40, .inl (s2.2.1 5))), ((a2 7), .inl (q 0, 40, .inl (s2.2.1 6))), ((a2 8), .inl (q 0, 40, .inl (s2.2.1 7))), ((a2 9), .inl (q 0, 40, .inl (s2.2.1 8))), ((a2 10), .inl (q 0, 40, .inl (s2.2.1 9))), ((a2 11), .inl (q 1, 40, .inr (.inl s2.2.2.1))), ((a2 12), .inl (q 0, s2.2.2.2.1, .inl s2.2.2.2.2)), ((a4 0), .inr (1, [.ref (a4 1), .ref (a4 2), .ref (a4 3), .int (s4.1 0), .int (s4.1 1), .int (s4.1 2), .int (s4.1 3), .int (s4.1 4), .int (s4.1 5), .int (s4.1 6), .int (s4.1 7), .int (s4.1 8)])), ((a4 1), .inl (q 0, 40, .inl (s4.2 0))), ((a4 2), .inl (q 0, 40, .inl (s4.2 1))), ((a4 3), .inl (q 0, 40, .inl (s4.2 2))), (p8, .inr (2, [.ref p9, .int (s6.1 0), .int (s6.1 1)])), ((a0 0), .inr (5, [.ref (a1 0), .ref (a2 0), .ref (a3 0), .ref (a4 0), .ref (a5 0), .ref p8, .ref s8])), (s8, .inl (q 4, 2, .inr (.inr (.inr (.inr (pf_f AA z7))))))] := hD
    have hP := hP.sub (ws' := [((a0 0), .inr (5, [.ref (a1 0), .ref (a2 0), .ref (a3 0), .ref (a4 0), .ref (a5 0), .ref p8, .ref s8])), ((a1 0), .inr (4, [.ref (a1 1), .int (s1.1 0), .int (s1.1 1), .int (s1.1 2), .int (s1.1 3), .int (s1.1 4), .int (s1.1 5)])), ((a1 1), .inl (q 0, 400, .inl s1.2)), ((a2 0), .inr (0, [.int (s2.1 0), .int (s2.1 1), .int (s2.1 2), .int (s2.1 3), .int (s2.1 4), .int (s2.1 5), .ref (a2 1), .ref (a2 2), .ref (a2 3), .ref (a2 4), .ref (a2 5), .ref (a2 6), .ref (a2 7), .ref (a2 8), .ref (a2 9), .ref (a2 10), .ref (a2 11), .ref (a2 12)])), ((a2 1), .inl (q 0, 4, .inl (s2.2.1 0))), ((a2 2), .inl (q 0, 4, .inl (s2.2.1 1))), ((a2 3), .inl (q 0, 160, .inl (s2.2.1 2))), ((a2 4), .inl (q 0, 40, .inl (s2.2.1 3))), ((a2 5), .inl (q 0, 40, .inl (s2.2.1 4))), ((a2 6), .inl (q 0, 40, .inl (s2.2.1 5))), ((a2 7), .inl (q 0, 40, .inl (s2.2.1 6))), ((a2 8), .inl (q 0, 40, .inl (s2.2.1 7))), ((a2 9), .inl (q 0, 40, .inl (s2.2.1 8))), ((a2 10), .inl (q 0, 40, .inl (s2.2.1 9))), ((a2 11), .inl (q 1, 40, .inr (.inl s2.2.2.1))), ((a2 12), .inl (q 0, s2.2.2.2.1, .inl s2.2.2.2.2)), ((a4 0), .inr (1, [.ref (a4 1), .ref (a4 2), .ref (a4 3), .int (s4.1 0), .int (s4.1 1), .int (s4.1 2), .int (s4.1 3), .int (s4.1 4), .int (s4.1 5), .int (s4.1 6), .int (s4.1 7), .int (s4.1 8)])), ((a4 1), .inl (q 0, 40, .inl (s4.2 0))), ((a4 2), .inl (q 0, 40, .inl (s4.2 1))), ((a4 3), .inl (q 0, 40, .inl (s4.2 2))), (p8, .inr (2, [.ref p9, .int (s6.1 0), .int (s6.1 1)])), (s8, .inl (q 4, 2, .inr (.inr (.inr (.inr (pf_f AA z7))))))]) [20, 0, 1, 2, 3, 4, 5, 6, 7, 8, 9, 10, 11, 12, 13, 14, 15, 16, 17, 18, 19, 21] rfl
    have hD := hD.sub (ws' := [((a0 0), .inr (5, [.ref (a1 0), .ref (a2 0), .ref (a3 0), .ref (a4 0), .ref (a5 0), .ref p8, .ref s8])), ((a1 0), .inr (4, [.ref (a1 1), .int (s1.1 0), .int (s1.1 1), .int (s1.1 2), .int (s1.1 3), .int (s1.1 4), .int (s1.1 5)])), ((a1 1), .inl (q 0, 400, .inl s1.2)), ((a2 0), .inr (0, [.int (s2.1 0), .int (s2.1 1), .int (s2.1 2), .int (s2.1 3), .int (s2.1 4), .int (s2.1 5), .ref (a2 1), .ref (a2 2), .ref (a2 3), .ref (a2 4), .ref (a2 5), .ref (a2 6), .ref (a2 7), .ref (a2 8), .ref (a2 9), .ref (a2 10), .ref (a2 11), .ref (a2 12)])), ((a2 1), .inl (q 0, 4, .inl (s2.2.1 0))), ((a2 2), .inl (q 0, 4, .inl (s2.2.1 1))), ((a2 3), .inl (q 0, 160, .inl (s2.2.1 2))), ((a2 4), .inl (q 0, 40, .inl (s2.2.1 3))), ((a2 5), .inl (q 0, 40, .inl (s2.2.1 4))), ((a2 6), .inl (q 0, 40, .inl (s2.2.1 5))), ((a2 7), .inl (q 0, 40, .inl (s2.2.1 6))), ((a2 8), .inl (q 0, 40, .inl (s2.2.1 7))), ((a2 9), .inl (q 0, 40, .inl (s2.2.1 8))), ((a2 10), .inl (q 0, 40, .inl (s2.2.1 9))), ((a2 11), .inl (q 1, 40, .inr (.inl s2.2.2.1))), ((a2 12), .inl (q 0, s2.2.2.2.1, .inl s2.2.2.2.2)), ((a4 0), .inr (1, [.ref (a4 1), .ref (a4 2), .ref (a4 3), .int (s4.1 0), .int (s4.1 1), .int (s4.1 2), .int (s4.1 3), .int (s4.1 4), .int (s4.1 5), .int (s4.1 6), .int (s4.1 7), .int (s4.1 8)])), ((a4 1), .inl (q 0, 40, .inl (s4.2 0))), ((a4 2), .inl (q 0, 40, .inl (s4.2 1))), ((a4 3), .inl (q 0, 40, .inl (s4.2 2))), (p8, .inr (2, [.ref p9, .int (s6.1 0), .int (s6.1 1)])), (s8, .inl (q 4, 2, .inr (.inr (.inr (.inr (pf_f AA z7))))))]) [20, 0, 1, 2, 3, 4, 5, 6, 7, 8, 9, 10, 11, 12, 13, 14, 15, 16, 17, 18, 19, 21] (by decide) rfl
    exact mt_iret (s4, s6) hx hb hr hk h hP hD hS dX6_count_112
  replace h := h.2 k_10
  by_cases k_12 : x1 = 8
  · replace h := h.1 k_12
    refine lv_tableIn (tgt := 113) hx hb dX6_count_1 (by rw [k_12]; decide) (by rw [k_12]; decide) (by rw [k_12]; rfl) (by decide) ?_
    refine lv_aload_n hx hb dX6_count_113 rfl (lv_at hl 0 rfl) ?_
    refine fl_get (C := RX6) (T := TX6) (N := 7) (ci := 5) (v := .ref (a4 0)) hx hb ht in_X6 hown hK hP 0 rfl rfl 3 (by decide) mw_358 rfl dX6_count_114 ?_
    refine lv_aload_n hx hb dX6_count_117 rfl (lv_at hl 0 rfl) ?_
    refine fl_get (C := RX6) (T := TX6) (N := 7) (ci := 5) (v := .ref (a2 0)) hx hb ht in_X6 hown hK hP 0 rfl rfl 1 (by decide) mw_356 rfl dX6_count_118 ?_
    refine mt_gov (mt_wV (wc := mo_w a4 q s4 ++ bd_w a2 q s2) (As := [.ref (a2 0)]) (rest := []) hx hb hml hown ht (c2_X2_choose h) wd_X2_choose mw_725 hQ hV hS hA (hP.sub [16, 17, 18, 19, 3, 4, 5, 6, 7, 8, 9, 10, 11, 12, 13, 14, 15] rfl) (hD.sub [16, 17, 18, 19, 3, 4, 5, 6, 7, 8, 9, 10, 11, 12, 13, 14, 15] (by decide) rfl) rfl rfl rfl hl.1 rfl (Nat.le_of_ble_eq_true rfl) dX6_count_121 ⟨Nat.le_of_ble_eq_true rfl, Nat.le_of_ble_eq_true rfl, rfl, rfl⟩ ⟨Nat.le_of_ble_eq_true rfl, Nat.le_of_ble_eq_true rfl⟩) (wr := [((a0 0), .inr (5, [.ref (a1 0), .ref (a2 0), .ref (a3 0), .ref (a4 0), .ref (a5 0), .ref p8, .ref s8])), ((a1 0), .inr (4, [.ref (a1 1), .int (s1.1 0), .int (s1.1 1), .int (s1.1 2), .int (s1.1 3), .int (s1.1 4), .int (s1.1 5)])), ((a1 1), .inl (q 0, 400, .inl s1.2)), (p8, .inr (2, [.ref p9, .int (s6.1 0), .int (s6.1 1)])), (s8, .inl (q 4, 2, .inr (.inr (.inr (.inr (pf_f AA z7))))))]) hP hD hS hA [16, 17, 18, 19, 3, 4, 5, 6, 7, 8, 9, 10, 11, 12, 13, 14, 15] [0, 1, 2, 20, 21] rfl rfl (by decide) (by decide) (fun u_14 H locs h hP hD hS => ?_)
    try dsimp only at h
    have hP : va_P D vwCl [((a0 0), .inr (5, [.ref (a1 0), .ref (a2 0), .ref (a3 0), .ref (a4 0), .ref (a5 0), .ref p8, .ref s8])), ((a1 0), .inr (4, [.ref (a1 1), .int (s1.1 0), .int (s1.1 1), .int (s1.1 2), .int (s1.1 3), .int (s1.1 4), .int (s1.1 5)])), ((a1 1), .inl (q 0, 400, .inl s1.2)), (p8, .inr (2, [.ref p9, .int (s6.1 0), .int (s6.1 1)])), (s8, .inl (q 4, 2, .inr (.inr (.inr (.inr (pf_f AA z7)))))), ((a4 0), .inr (1, [.ref (a4 1), .ref (a4 2), .ref (a4 3), .int (u_14.1 0), .int (u_14.1 1), .int (u_14.1 2), .int (u_14.1 3), .int (u_14.1 4), .int (u_14.1 5), .int (u_14.1 6), .int (u_14.1 7), .int (u_14.1 8)])), ((a4 1), .inl (q 0, 40, .inl (u_14.2 0))), ((a4 2), .inl (q 0, 40, .inl (u_14.2 1))), ((a4 3), .inl (q 0, 40, .inl (u_14.2 2))), ((a2 0), .inr (0, [.int (s2.1 0), .int (s2.1 1), .int (s2.1 2), .int (s2.1 3), .int (s2.1 4), .int (s2.1 5), .ref (a2 1), .ref (a2 2), .ref (a2 3), .ref (a2 4), .ref (a2 5), .ref (a2 6), .ref (a2 7), .ref (a2 8), .ref (a2 9), .ref (a2 10), .ref (a2 11), .ref (a2 12)])), ((a2 1), .inl (q 0, 4, .inl (s2.2.1 0))), ((a2 2), .inl (q 0, 4, .inl (s2.2.1 1))), ((a2 3), .inl (q 0, 160, .inl (s2.2.1 2))), ((a2 4), .inl (q 0, 40, .inl (s2.2.1 3))), ((a2 5), .inl (q 0, 40, .inl (s2.2.1 4))), ((a2 6), .inl (q 0, 40, .inl (s2.2.1 5))), ((a2 7), .inl (q 0, 40, .inl (s2.2.1 6))), ((a2 8), .inl (q 0, 40, .inl (s2.2.1 7))), ((a2 9), .inl (q 0, 40, .inl (s2.2.1 8))), ((a2 10), .inl (q 0, 40, .inl (s2.2.1 9))), ((a2 11), .inl (q 1, 40, .inr (.inl s2.2.2.1))), ((a2 12), .inl (q 0, s2.2.2.2.1, .inl s2.2.2.2.2))] H := hP
    have hD : va_D _ [((a0 0), .inr (5, [.ref (a1 0), .ref (a2 0), .ref (a3 0), .ref (a4 0), .ref (a5 0), .ref p8, .ref s8])), ((a1 0), .inr (4, [.ref (a1 1), .int (s1.1 0), .int (s1.1 1), .int (s1.1 2), .int (s1.1 3), .int (s1.1 4), .int (s1.1 5)])), ((a1 1), .inl (q 0, 400, .inl s1.2)), (p8, .inr (2, [.ref p9, .int (s6.1 0), .int (s6.1 1)])), (s8, .inl (q 4, 2, .inr (.inr (.inr (.inr (pf_f AA z7)))))), ((a4 0), .inr (1, [.ref (a4 1), .ref (a4 2), .ref (a4 3), .int (u_14.1 0), .int (u_14.1 1), .int (u_14.1 2), .int (u_14.1 3), .int (u_14.1 4), .int (u_14.1 5), .int (u_14.1 6), .int (u_14.1 7), .int (u_14.1 8)])), ((a4 1), .inl (q 0, 40, .inl (u_14.2 0))), ((a4 2), .inl (q 0, 40, .inl (u_14.2 1))), ((a4 3), .inl (q 0, 40, .inl (u_14.2 2))), ((a2 0), .inr (0, [.int (s2.1 0), .int (s2.1 1), .int (s2.1 2), .int (s2.1 3), .int (s2.1 4), .int (s2.1 5), .ref (a2 1), .ref (a2 2), .ref (a2 3), .ref (a2 4), .ref (a2 5), .ref (a2 6), .ref (a2 7), .ref (a2 8), .ref (a2 9), .ref (a2 10), .ref (a2 11), .ref (a2 12)])), ((a2 1), .inl (q 0, 4, .inl (s2.2.1 0))), ((a2 2), .inl (q 0, 4, .inl (s2.2.1 1))), ((a2 3), .inl (q 0, 160, .inl (s2.2.1 2))), ((a2 4), .inl (q 0, 40, .inl (s2.2.1 3))), ((a2 5), .inl (q 0, 40, .inl (s2.2.1 4))), ((a2 6), .inl (q 0, 40, .inl (s2.2.1 5))), ((a2 7), .inl (q 0, 40, .inl (s2.2.1 6))), ((a2 8), .inl (q 0, 40, .inl (s2.2.1 7))), ((a2 9), .inl (q 0, 40, .inl (s2.2.1 8))), ((a2 10), .inl (q 0, 40, .inl (s2.2.1 9))), ((a2 11), .inl (q 1, 40, .inr (.inl s2.2.2.1))), ((a2 12), .inl (q 0, s2.2.2.2.1, .inl s2.2.2.2.2))] := hD
    refine lv_aload_n hx hb dX6_count_124 rfl (lv_at hl 0 rfl) ?_
    refine fl_get (C := RX6) (T := TX6) (N := 7) (ci := 5) (v := .ref (a4 0)) hx hb ht in_X6 hown hK hP 0 rfl rfl 3 (by decide) mw_358 rfl dX6_count_125 ?_
    refine fl_get (C := RX2) (T := TX2) (N := 12) (ci := 1) (v := .int (u_14.1 0)) hx hb ht in_X2 hown hK hP 5 rfl rfl 3 (by decide) mw_257 rfl dX6_count_128 ?_
    have hP := hP.sub (ws' := [((a0 0), .inr (5, [.ref (a1 0), .ref (a2 0), .ref (a3 0), .ref (a4 0), .ref (a5 0), .ref p8, .ref s8])), ((a1 0), .inr (4, [.ref (a1 1), .int (s1.1 0), .int (s1.1 1), .int (s1.1 2), .int (s1.1 3), .int (s1.1 4), .int (s1.1 5)])), ((a1 1), .inl (q 0, 400, .inl s1.2)), ((a2 0), .inr (0, [.int (s2.1 0), .int (s2.1 1), .int (s2.1 2), .int (s2.1 3), .int (s2.1 4), .int (s2.1 5), .ref (a2 1), .ref (a2 2), .ref (a2 3), .ref (a2 4), .ref (a2 5), .ref (a2 6), .ref (a2 7), .ref (a2 8), .ref (a2 9), .ref (a2 10), .ref (a2 11), .ref (a2 12)])), ((a2 1), .inl (q 0, 4, .inl (s2.2.1 0))), ((a2 2), .inl (q 0, 4, .inl (s2.2.1 1))), ((a2 3), .inl (q 0, 160, .inl (s2.2.1 2))), ((a2 4), .inl (q 0, 40, .inl (s2.2.1 3))), ((a2 5), .inl (q 0, 40, .inl (s2.2.1 4))), ((a2 6), .inl (q 0, 40, .inl (s2.2.1 5))), ((a2 7), .inl (q 0, 40, .inl (s2.2.1 6))), ((a2 8), .inl (q 0, 40, .inl (s2.2.1 7))), ((a2 9), .inl (q 0, 40, .inl (s2.2.1 8))), ((a2 10), .inl (q 0, 40, .inl (s2.2.1 9))), ((a2 11), .inl (q 1, 40, .inr (.inl s2.2.2.1))), ((a2 12), .inl (q 0, s2.2.2.2.1, .inl s2.2.2.2.2)), ((a4 0), .inr (1, [.ref (a4 1), .ref (a4 2), .ref (a4 3), .int (u_14.1 0), .int (u_14.1 1), .int (u_14.1 2), .int (u_14.1 3), .int (u_14.1 4), .int (u_14.1 5), .int (u_14.1 6), .int (u_14.1 7), .int (u_14.1 8)])), ((a4 1), .inl (q 0, 40, .inl (u_14.2 0))), ((a4 2), .inl (q 0, 40, .inl (u_14.2 1))), ((a4 3), .inl (q 0, 40, .inl (u_14.2 2))), (p8, .inr (2, [.ref p9, .int (s6.1 0), .int (s6.1 1)])), (s8, .inl (q 4, 2, .inr (.inr (.inr (.inr (pf_f AA z7))))))]) [0, 1, 2, 9, 10, 11, 12, 13, 14, 15, 16, 17, 18, 19, 20, 21, 5, 6, 7, 8, 3, 4] rfl
    have hD := hD.sub (ws' := [((a0 0), .inr (5, [.ref (a1 0), .ref (a2 0), .ref (a3 0), .ref (a4 0), .ref (a5 0), .ref p8, .ref s8])), ((a1 0), .inr (4, [.ref (a1 1), .int (s1.1 0), .int (s1.1 1), .int (s1.1 2), .int (s1.1 3), .int (s1.1 4), .int (s1.1 5)])), ((a1 1), .inl (q 0, 400, .inl s1.2)), ((a2 0), .inr (0, [.int (s2.1 0), .int (s2.1 1), .int (s2.1 2), .int (s2.1 3), .int (s2.1 4), .int (s2.1 5), .ref (a2 1), .ref (a2 2), .ref (a2 3), .ref (a2 4), .ref (a2 5), .ref (a2 6), .ref (a2 7), .ref (a2 8), .ref (a2 9), .ref (a2 10), .ref (a2 11), .ref (a2 12)])), ((a2 1), .inl (q 0, 4, .inl (s2.2.1 0))), ((a2 2), .inl (q 0, 4, .inl (s2.2.1 1))), ((a2 3), .inl (q 0, 160, .inl (s2.2.1 2))), ((a2 4), .inl (q 0, 40, .inl (s2.2.1 3))), ((a2 5), .inl (q 0, 40, .inl (s2.2.1 4))), ((a2 6), .inl (q 0, 40, .inl (s2.2.1 5))), ((a2 7), .inl (q 0, 40, .inl (s2.2.1 6))), ((a2 8), .inl (q 0, 40, .inl (s2.2.1 7))), ((a2 9), .inl (q 0, 40, .inl (s2.2.1 8))), ((a2 10), .inl (q 0, 40, .inl (s2.2.1 9))), ((a2 11), .inl (q 1, 40, .inr (.inl s2.2.2.1))), ((a2 12), .inl (q 0, s2.2.2.2.1, .inl s2.2.2.2.2)), ((a4 0), .inr (1, [.ref (a4 1), .ref (a4 2), .ref (a4 3), .int (u_14.1 0), .int (u_14.1 1), .int (u_14.1 2), .int (u_14.1 3), .int (u_14.1 4), .int (u_14.1 5), .int (u_14.1 6), .int (u_14.1 7), .int (u_14.1 8)])), ((a4 1), .inl (q 0, 40, .inl (u_14.2 0))), ((a4 2), .inl (q 0, 40, .inl (u_14.2 1))), ((a4 3), .inl (q 0, 40, .inl (u_14.2 2))), (p8, .inr (2, [.ref p9, .int (s6.1 0), .int (s6.1 1)])), (s8, .inl (q 4, 2, .inr (.inr (.inr (.inr (pf_f AA z7))))))]) [0, 1, 2, 9, 10, 11, 12, 13, 14, 15, 16, 17, 18, 19, 20, 21, 5, 6, 7, 8, 3, 4] (by decide) rfl
    exact mt_iret (u_14, s6) hx hb hr hk h hP hD hS dX6_count_131
  replace h := h.2 k_12
  refine lv_tableOut (tgt := 132) hx hb dX6_count_1 (by have g0 := k_1; have g1 := k_2; have g2 := k_3; have g3 := k_6; have g4 := k_7; have g5 := k_8; have g6 := k_9; have g7 := k_10; have g8 := k_12; (try simp only [lg_cmp_ge, lg_cmp_le, lg_cmp_gt, lg_cmp_lt, lg_cmp_eq] at g0 g1 g2 g3 g4 g5 g6 g7 g8); (try simp only [Int32.lt_iff_toInt_lt, Int32.le_iff_toInt_le, ← Int32.toInt_inj, Int32.reduceToInt, Int64.lt_iff_toInt_lt, Int64.le_iff_toInt_le, ← Int64.toInt_inj, Int64.reduceToInt, Int32.toInt_toInt64] at g0 g1 g2 g3 g4 g5 g6 g7 g8); omega) (by decide) ?_
  refine lv_iconst (v := (-1)) hx hb dX6_count_132 (by decide) ?_
  have hP := hP.sub (ws' := [((a0 0), .inr (5, [.ref (a1 0), .ref (a2 0), .ref (a3 0), .ref (a4 0), .ref (a5 0), .ref p8, .ref s8])), ((a1 0), .inr (4, [.ref (a1 1), .int (s1.1 0), .int (s1.1 1), .int (s1.1 2), .int (s1.1 3), .int (s1.1 4), .int (s1.1 5)])), ((a1 1), .inl (q 0, 400, .inl s1.2)), ((a2 0), .inr (0, [.int (s2.1 0), .int (s2.1 1), .int (s2.1 2), .int (s2.1 3), .int (s2.1 4), .int (s2.1 5), .ref (a2 1), .ref (a2 2), .ref (a2 3), .ref (a2 4), .ref (a2 5), .ref (a2 6), .ref (a2 7), .ref (a2 8), .ref (a2 9), .ref (a2 10), .ref (a2 11), .ref (a2 12)])), ((a2 1), .inl (q 0, 4, .inl (s2.2.1 0))), ((a2 2), .inl (q 0, 4, .inl (s2.2.1 1))), ((a2 3), .inl (q 0, 160, .inl (s2.2.1 2))), ((a2 4), .inl (q 0, 40, .inl (s2.2.1 3))), ((a2 5), .inl (q 0, 40, .inl (s2.2.1 4))), ((a2 6), .inl (q 0, 40, .inl (s2.2.1 5))), ((a2 7), .inl (q 0, 40, .inl (s2.2.1 6))), ((a2 8), .inl (q 0, 40, .inl (s2.2.1 7))), ((a2 9), .inl (q 0, 40, .inl (s2.2.1 8))), ((a2 10), .inl (q 0, 40, .inl (s2.2.1 9))), ((a2 11), .inl (q 1, 40, .inr (.inl s2.2.2.1))), ((a2 12), .inl (q 0, s2.2.2.2.1, .inl s2.2.2.2.2)), ((a4 0), .inr (1, [.ref (a4 1), .ref (a4 2), .ref (a4 3), .int (s4.1 0), .int (s4.1 1), .int (s4.1 2), .int (s4.1 3), .int (s4.1 4), .int (s4.1 5), .int (s4.1 6), .int (s4.1 7), .int (s4.1 8)])), ((a4 1), .inl (q 0, 40, .inl (s4.2 0))), ((a4 2), .inl (q 0, 40, .inl (s4.2 1))), ((a4 3), .inl (q 0, 40, .inl (s4.2 2))), (p8, .inr (2, [.ref p9, .int (s6.1 0), .int (s6.1 1)])), (s8, .inl (q 4, 2, .inr (.inr (.inr (.inr (pf_f AA z7))))))]) [0, 1, 2, 3, 4, 5, 6, 7, 8, 9, 10, 11, 12, 13, 14, 15, 16, 17, 18, 19, 20, 21] rfl
  have hD := hD.sub (ws' := [((a0 0), .inr (5, [.ref (a1 0), .ref (a2 0), .ref (a3 0), .ref (a4 0), .ref (a5 0), .ref p8, .ref s8])), ((a1 0), .inr (4, [.ref (a1 1), .int (s1.1 0), .int (s1.1 1), .int (s1.1 2), .int (s1.1 3), .int (s1.1 4), .int (s1.1 5)])), ((a1 1), .inl (q 0, 400, .inl s1.2)), ((a2 0), .inr (0, [.int (s2.1 0), .int (s2.1 1), .int (s2.1 2), .int (s2.1 3), .int (s2.1 4), .int (s2.1 5), .ref (a2 1), .ref (a2 2), .ref (a2 3), .ref (a2 4), .ref (a2 5), .ref (a2 6), .ref (a2 7), .ref (a2 8), .ref (a2 9), .ref (a2 10), .ref (a2 11), .ref (a2 12)])), ((a2 1), .inl (q 0, 4, .inl (s2.2.1 0))), ((a2 2), .inl (q 0, 4, .inl (s2.2.1 1))), ((a2 3), .inl (q 0, 160, .inl (s2.2.1 2))), ((a2 4), .inl (q 0, 40, .inl (s2.2.1 3))), ((a2 5), .inl (q 0, 40, .inl (s2.2.1 4))), ((a2 6), .inl (q 0, 40, .inl (s2.2.1 5))), ((a2 7), .inl (q 0, 40, .inl (s2.2.1 6))), ((a2 8), .inl (q 0, 40, .inl (s2.2.1 7))), ((a2 9), .inl (q 0, 40, .inl (s2.2.1 8))), ((a2 10), .inl (q 0, 40, .inl (s2.2.1 9))), ((a2 11), .inl (q 1, 40, .inr (.inl s2.2.2.1))), ((a2 12), .inl (q 0, s2.2.2.2.1, .inl s2.2.2.2.2)), ((a4 0), .inr (1, [.ref (a4 1), .ref (a4 2), .ref (a4 3), .int (s4.1 0), .int (s4.1 1), .int (s4.1 2), .int (s4.1 3), .int (s4.1 4), .int (s4.1 5), .int (s4.1 6), .int (s4.1 7), .int (s4.1 8)])), ((a4 1), .inl (q 0, 40, .inl (s4.2 0))), ((a4 2), .inl (q 0, 40, .inl (s4.2 1))), ((a4 3), .inl (q 0, 40, .inl (s4.2 2))), (p8, .inr (2, [.ref p9, .int (s6.1 0), .int (s6.1 1)])), (s8, .inl (q 4, 2, .inr (.inr (.inr (.inr (pf_f AA z7))))))]) [0, 1, 2, 3, 4, 5, 6, 7, 8, 9, 10, 11, 12, 13, 14, 15, 16, 17, 18, 19, 20, 21] (by decide) rfl
  exact mt_iret (s4, s6) hx hb hr hk h hP hD hS dX6_count_133

/-! A call whose world is some of our blocks, in any order: by members. -/
theorem jn_perm {A : Nat → Prop} {D : va_G} {cl : List vw_C} {ws wc wr w1 : va_W} {H H1 : Heap} (hp : List.Perm ws (wc ++ wr)) (hP : va_P D cl ws H) (hD : va_D A ws) (hk : ∀ x : Nat, x < H.size → ¬ va_A wc H.size x → H1[x]? = H[x]?) (hF : ∀ x, va_A wc H.size x → A x) (hP1 : va_P D cl w1 H1) (hD1 : va_D (va_A wc H.size) w1) : va_P D cl (w1 ++ wr) H1 ∧ va_D A (w1 ++ wr) := by
  have hP2 := vp_iff.mp (vp_perm hp hP)
  have hD2 := vd_iff.mp (vd_perm hp hD)
  have hn := hD2.1
  rw [List.map_append, List.nodup_append] at hn
  have apart : ∀ x ∈ wr, x.1 < H.size ∧ ¬ va_A wc H.size x.1 := by
    intro x hx
    have hl := (hP2 x (List.mem_append_right _ hx)).lt
    refine ⟨hl, fun h => ?_⟩
    rcases vA_iff.mp h with ⟨e, he⟩ | h
    · exact hn.2.2 x.1 (List.mem_map.mpr ⟨(x.1, e), he, rfl⟩) x.1 (List.mem_map.mpr ⟨x, hx, rfl⟩) rfl
    · omega
  have h1 := vd_iff.mp hD1
  refine ⟨vp_iff.mpr (fun x hx => ?_), vd_iff.mpr ⟨?_, fun x hx => ?_⟩⟩
  · rcases List.mem_append.mp hx with h | h
    · exact vp_iff.mp hP1 x h
    · obtain ⟨g1, g2⟩ := apart x h
      exact (hP2 x (List.mem_append_right _ h)).kept (hk x.1 g1 g2)
  · rw [List.map_append, List.nodup_append]
    refine ⟨h1.1, hn.2.1, ?_⟩
    intro a ha b hb e
    obtain ⟨x, hx, rfl⟩ := List.mem_map.mp ha
    obtain ⟨y, hy, rfl⟩ := List.mem_map.mp hb
    exact (apart y hy).2 (e ▸ h1.2 x hx)
  · rcases List.mem_append.mp hx with h | h
    · exact hF x.1 (h1.2 x h)
    · exact hD2.2 x (List.mem_append_right _ h)
section RC
variable {p : Program} {l : Launch} {e : Env} {R : Room} {s : State} {m : MethodId} {args : Array Value} {below : List Frame} {meth : Method} {c : Code} {H : Heap} {locs : List Loc} {cells slots : Nat} {Q : State → Prop}
variable {pc : Nat} {ls : Array Slot} {rest st : List Value} {D : va_G} {ws wc wr : va_W} {A : Nat → Prop} {H0 : Heap}
theorem fr_R (hp : List.Perm ws (wc ++ wr)) (hD : va_D A ws) (hS : va_S A H0 H locs) (hA : ∀ x : Nat, H0.size ≤ x → A x) : ∀ x, va_A wc H.size x → A x := by
  intro x h
  rcases vA_iff.mp h with ⟨e, he⟩ | h
  · exact (vd_iff.mp hD).2 (x, e) (hp.mem_iff.mpr (List.mem_append_left _ he))
  · exact hA x (Nat.le_trans hS.1 h)
theorem mt_goiR {S : Type} {post : Int32 → S → Prop} {w2 : S → va_W} {mc ms : Nat} {av : Array Value} (hp : List.Perm ws (wc ++ wr)) (hr : va_Run p l e R s m args below meth c H locs cells slots mc ms (F0 m pc ls st) rest (va_Qi post (mt_B D wc H.size w2) (va_A wc H.size) av) (va_A wc H.size)) (hP : va_P D vwCl ws H) (hD : va_D A ws) (hS : va_S A H0 H locs) (hA : ∀ x : Nat, H0.size ≤ x → A x)
    (kk : ∀ (r : Int32) (u : S) (H1 : Heap) (locs1 : List Loc), post r u → va_P D vwCl (w2 u ++ wr) H1 → va_D A (w2 u ++ wr) → va_S A H0 H1 locs1 → W p l e R s m args below meth c H1 locs1 (cells + mc) (slots + ms) Q (F0 m (pc + 3) ls (.int r :: rest))) : W p l e R s m args below meth c H locs cells slots Q (F0 m pc ls st) := by
  have hF := fr_R hp hD hS hA
  refine va_calli hr hS (fun x _ h => hF x h) hF (fun r u t H1 locs1 ht hvm hw hB hz1 hk1 hS1 => ?_)
  obtain ⟨hP1, hD1⟩ := hB
  rw [ht] at hP1
  obtain ⟨hP2, hD2⟩ := jn_perm hp hP hD hk1 hF hP1 hD1
  exact kk r u H1 locs1 hw hP2 hD2 hS1
end RC

/-! Blocks: a world as a list of worlds; a permutation of blocks by their places. -/
theorem fl_perm {L L2 : List va_W} (h : List.Perm L L2) : List.Perm L.flatten L2.flatten := by
  induction h with
  | nil => exact List.Perm.refl _
  | cons x _ ih =>
    rw [List.flatten_cons, List.flatten_cons]
    exact ih.append_left x
  | swap x y l =>
    rw [List.flatten_cons, List.flatten_cons, List.flatten_cons, List.flatten_cons, ← List.append_assoc, ← List.append_assoc]
    exact (List.perm_append_comm).append_right _
  | trans _ _ ih1 ih2 => exact ih1.trans ih2
theorem bk_perm {L L2 : List va_W} (i : List Nat) (hi : List.Perm i (List.range L.length)) (h1 : (List.range L.length).filterMap (fun k => L[k]?) = L) (h2 : i.filterMap (fun k => L[k]?) = L2) : List.Perm L.flatten L2.flatten := by
  refine fl_perm ?_
  have h := hi.filterMap (fun k => L[k]?)
  rw [h1, h2] at h
  exact h.symm

/-! Numbers of the machine as integers; rows of bounded numbers. -/
theorem bm32 (x : Int) : Int.bmod x (2 ^ 32) = (x + 2147483648) % 4294967296 - 2147483648 := by
  have e : (2 ^ 32 : Nat) = 4294967296 := by decide
  rw [e]
  unfold Int.bmod
  dsimp only
  split <;> omega
theorem tq_add (a b : Int32) : (a + b).toInt = (a.toInt + b.toInt + 2147483648) % 4294967296 - 2147483648 := by rw [Int32.toInt_add, bm32]
theorem tq_sub (a b : Int32) : (a - b).toInt = (a.toInt - b.toInt + 2147483648) % 4294967296 - 2147483648 := by rw [Int32.toInt_sub, bm32]
theorem tq_mul (a b : Int32) : (a * b).toInt = (a.toInt * b.toInt + 2147483648) % 4294967296 - 2147483648 := by rw [Int32.toInt_mul, bm32]
theorem tq_mulc {c : Int32} {k : Int} (h : c.toInt = k) (x : Int32) : (c * x).toInt = (k * x.toInt + 2147483648) % 4294967296 - 2147483648 := by rw [tq_mul, h]
theorem tq_mulr {c : Int32} {k : Int} (h : c.toInt = k) (x : Int32) : (x * c).toInt = (x.toInt * k + 2147483648) % 4294967296 - 2147483648 := by rw [tq_mul, h]
theorem tq_64 (x : Int32) : (Int32.toInt64 x).toInt = x.toInt := Int32.toInt_toInt64 x
theorem tq_32 (y : Int64) : (Int64.toInt32 y).toInt = (y.toInt + 2147483648) % 4294967296 - 2147483648 := by rw [Int64.toInt_toInt32, bm32]
theorem tq_r (a : Int32) : -2147483648 ≤ a.toInt ∧ a.toInt < 2147483648 := by
  have h1 := Int32.le_toInt a
  have h2 := Int32.toInt_lt a
  omega
theorem tq_ofn {n : Nat} (h : n ≤ 68960) : (Int32.ofNat n).toInt = (n : Int) := Int32.toInt_ofNat_of_lt (by omega)
theorem q_le {a b : Int32} (h : a ≤ b) : a.toInt ≤ b.toInt := Int32.le_iff_toInt_le.mp h
theorem q_lt {a b : Int32} (h : a < b) : a.toInt < b.toInt := Int32.lt_iff_toInt_lt.mp h
theorem q_nle {a b : Int32} (h : ¬ a ≤ b) : b.toInt < a.toInt := by
  have : ¬ a.toInt ≤ b.toInt := fun g => h (Int32.le_iff_toInt_le.mpr g)
  omega
theorem q_nlt {a b : Int32} (h : ¬ a < b) : b.toInt ≤ a.toInt := by
  have : ¬ a.toInt < b.toInt := fun g => h (Int32.lt_iff_toInt_lt.mpr g)
  omega
theorem q_eq {a b : Int32} (h : a = b) : a.toInt = b.toInt := congrArg Int32.toInt h
theorem q_neq {a b : Int32} (h : ¬ a = b) : ¬ a.toInt = b.toInt := fun g => h (Int32.toInt_inj.mp g)
theorem z_ne {a b : Int32} (h : ¬ a.toInt = b.toInt) : ¬ a = b := fun g => h (congrArg Int32.toInt g)
theorem z_nlt {a b : Int32} (h : b.toInt ≤ a.toInt) : ¬ a < b := fun g => by
  have := q_lt g
  omega
theorem tq_ite {a b x y : Int32} : (a.toInt < b.toInt ∧ (if a < b then x else y).toInt = x.toInt) ∨ (b.toInt ≤ a.toInt ∧ (if a < b then x else y).toInt = y.toInt) := by
  by_cases h : a < b
  · rw [if_pos h]
    exact Or.inl ⟨q_lt h, rfl⟩
  · rw [if_neg h]
    exact Or.inr ⟨q_nlt h, rfl⟩
theorem vi {i : Int32} {n : Nat} (h1 : 0 ≤ i.toInt) (h2 : i.toInt < (n : Int)) : vp_in i n := by
  unfold vp_in
  rintro (h | h)
  · have := q_lt h
    have e : (0 : Int32).toInt = 0 := rfl
    omega
  · have e : i.toNatClampNeg = i.toInt.toNat := rfl
    omega
theorem vi_b {i : Int32} {n : Nat} (h : vp_in i n) : 0 ≤ i.toInt ∧ i.toInt < (n : Int) := by
  unfold vp_in at h
  have e : i.toNatClampNeg = i.toInt.toNat := rfl
  have e0 : (0 : Int32).toInt = 0 := rfl
  have h1 : ¬ i < 0 := fun g => h (Or.inl g)
  have h2 : ¬ n ≤ i.toNatClampNeg := fun g => h (Or.inr g)
  have := q_nlt h1
  omega
theorem tn_i (i : Int32) : i.toNatClampNeg = i.toInt.toNat := rfl
theorem nb_b {r : Int32} (h : r.toInt = 0 ∨ r.toInt = 1) : narrow .boolean (.int r) = .int r := by
  rcases h with h | h
  · have e : r = 0 := Int32.toInt_inj.mp h
    subst e
    rfl
  · have e : r = 1 := Int32.toInt_inj.mp h
    subst e
    rfl
theorem tn_le {r : Int32} {n : Nat} (h : r.toInt ≤ (n : Int)) : Int32.toNatClampNeg r ≤ n := by
  rw [tn_i]
  omega
theorem tn_0 {r : Int32} {n : Nat} (h : r.toInt ≤ (n : Int)) : Int32.toNatClampNeg 0 + Int32.toNatClampNeg r ≤ n := by
  rw [tn_i, tn_i]
  have e : (0 : Int32).toInt = 0 := rfl
  omega
theorem tn_0n {r q : Int32} (h : r.toInt ≤ q.toInt) : Int32.toNatClampNeg 0 + Int32.toNatClampNeg r ≤ Int32.toNatClampNeg q := by
  rw [tn_i, tn_i, tn_i]
  have e : (0 : Int32).toInt = 0 := rfl
  omega
def ar (n : Nat) (lo hi : Int) (f : Nat → Int32) : Prop := ∀ k, k < n → lo ≤ (f k).toInt ∧ (f k).toInt ≤ hi
theorem ar_at {n : Nat} {lo hi : Int} {f : Nat → Int32} {x : Int32} (h : ar n lo hi f) (hx : vp_in x n) : lo ≤ (f (Int32.toNatClampNeg x)).toInt ∧ (f (Int32.toNatClampNeg x)).toInt ≤ hi := by
  refine h _ ?_
  have := vi_b hx
  rw [tn_i]
  omega
theorem ar_upd {n : Nat} {lo hi : Int} {f : Nat → Int32} {i : Nat} {v : Int32} (h : ar n lo hi f) (h1 : lo ≤ v.toInt) (h2 : v.toInt ≤ hi) : ar n lo hi (upd f i v) := by
  intro k hk
  unfold upd
  by_cases e : k = i
  · rw [if_pos e]
    exact ⟨h1, h2⟩
  · rw [if_neg e]
    exact h k hk
theorem ar_cpy {n m p : Nat} {lo hi : Int} {f g : Nat → Int32} (h : ar n lo hi f) (h2 : ar n lo hi g) : ar n lo hi (va_cpy f g p p m) := by
  intro k hk
  unfold va_cpy
  by_cases e : p ≤ k ∧ k < p + m
  · rw [if_pos e]
    have : p + (k - p) = k := by omega
    rw [this]
    exact h k hk
  · rw [if_neg e]
    exact h2 k hk
theorem ar_fill {n m : Nat} {lo hi : Int} {f : Nat → Int32} {v : Int32} (h : ar n lo hi f) (h1 : lo ≤ v.toInt) (h2 : v.toInt ≤ hi) : ar n lo hi (fl_f m v f) := by
  intro k hk
  unfold fl_f
  by_cases e : k < m
  · rw [if_pos e]
    exact ⟨h1, h2⟩
  · rw [if_neg e]
    exact h k hk
theorem rw_l {a b : Int32} {R W : Int} (hb : b.toInt = W) (h : 0 ≤ a.toInt ∧ a.toInt < R) (p : 0 ≤ W ∧ R * W ≤ 40) : 0 ≤ (a * b).toInt ∧ (a * b).toInt + W ≤ R * W := by
  have e := tq_mul a b
  rw [hb] at e
  have h1 : 0 ≤ a.toInt * W := Int.mul_nonneg h.1 p.1
  have h2 : (a.toInt + 1) * W ≤ R * W := Int.mul_le_mul_of_nonneg_right (by omega) p.1
  rw [Int.add_mul, Int.one_mul] at h2
  have := p.2
  omega
theorem rw_r {a b : Int32} {R W : Int} (hb : b.toInt = W) (h : 0 ≤ a.toInt ∧ a.toInt < R) (p : 0 ≤ W ∧ R * W ≤ 40) : 0 ≤ (b * a).toInt ∧ (b * a).toInt + W ≤ R * W := by
  have e : b * a = a * b := Int32.mul_comm b a
  rw [e]
  exact rw_l hb h p
theorem sq_b {a : Int32} (h1 : 0 ≤ a.toInt) (h2 : a.toInt ≤ 40) : 0 ≤ (a * a).toInt ∧ (a * a).toInt ≤ 1600 := by
  have e := tq_mul a a
  have g1 : 0 ≤ a.toInt * a.toInt := Int.mul_nonneg h1 h1
  have g2 : a.toInt * a.toInt ≤ 40 * 40 := Int.mul_le_mul h2 h2 h1 (by omega)
  omega
theorem upd_i (f : Nat → Int32) (i : Nat) (v : Int32) : (upd f i v i).toInt = v.toInt := by
  unfold upd
  rw [if_pos rfl]
theorem fu_e (K : Nat) : ∃ n : Nat, n = K := ⟨K, rfl⟩
theorem tq_addr {c : Int32} {k : Int} (h : c.toInt = k) (x : Int32) : (x + c).toInt = (x.toInt + k + 2147483648) % 4294967296 - 2147483648 := by rw [tq_add, h]
theorem tq_addc {c : Int32} {k : Int} (h : c.toInt = k) (x : Int32) : (c + x).toInt = (k + x.toInt + 2147483648) % 4294967296 - 2147483648 := by rw [tq_add, h]
theorem tq_subr {c : Int32} {k : Int} (h : c.toInt = k) (x : Int32) : (x - c).toInt = (x.toInt - k + 2147483648) % 4294967296 - 2147483648 := by rw [tq_sub, h]
theorem nw {a y : Int} (e : a = (y + 2147483648) % 4294967296 - 2147483648) (h : -2147483648 ≤ y ∧ y < 2147483648) : a = y := by
  rw [Int.emod_eq_of_lt (by omega) (by omega)] at e
  omega

theorem li_m8 : (-8 : Int32).toInt = -8 := rfl
theorem li_m2 : (-2 : Int32).toInt = -2 := rfl
theorem li_m1 : (-1 : Int32).toInt = -1 := rfl
theorem li_0 : (0 : Int32).toInt = 0 := rfl
theorem li_1 : (1 : Int32).toInt = 1 := rfl
theorem li_2 : (2 : Int32).toInt = 2 := rfl
theorem li_3 : (3 : Int32).toInt = 3 := rfl
theorem li_4 : (4 : Int32).toInt = 4 := rfl
theorem li_5 : (5 : Int32).toInt = 5 := rfl
theorem li_6 : (6 : Int32).toInt = 6 := rfl
theorem li_7 : (7 : Int32).toInt = 7 := rfl
theorem li_8 : (8 : Int32).toInt = 8 := rfl
theorem li_9 : (9 : Int32).toInt = 9 := rfl
theorem li_10 : (10 : Int32).toInt = 10 := rfl
theorem li_11 : (11 : Int32).toInt = 11 := rfl
theorem li_12 : (12 : Int32).toInt = 12 := rfl
theorem li_20 : (20 : Int32).toInt = 20 := rfl
theorem li_24 : (24 : Int32).toInt = 24 := rfl
theorem li_32 : (32 : Int32).toInt = 32 := rfl
theorem li_39 : (39 : Int32).toInt = 39 := rfl
theorem li_40 : (40 : Int32).toInt = 40 := rfl
theorem li_41 : (41 : Int32).toInt = 41 := rfl
theorem li_42 : (42 : Int32).toInt = 42 := rfl
theorem li_47 : (47 : Int32).toInt = 47 := rfl
theorem li_48 : (48 : Int32).toInt = 48 := rfl
theorem li_57 : (57 : Int32).toInt = 57 := rfl
theorem li_59 : (59 : Int32).toInt = 59 := rfl
theorem li_64 : (64 : Int32).toInt = 64 := rfl
theorem li_80 : (80 : Int32).toInt = 80 := rfl
theorem li_97 : (97 : Int32).toInt = 97 := rfl
theorem li_99 : (99 : Int32).toInt = 99 := rfl
theorem li_122 : (122 : Int32).toInt = 122 := rfl
theorem li_126 : (126 : Int32).toInt = 126 := rfl
theorem li_127 : (127 : Int32).toInt = 127 := rfl
theorem li_200 : (200 : Int32).toInt = 200 := rfl
theorem li_380 : (380 : Int32).toInt = 380 := rfl
theorem li_400 : (400 : Int32).toInt = 400 := rfl
theorem li_496 : (496 : Int32).toInt = 496 := rfl
theorem li_6896 : (6896 : Int32).toInt = 6896 := rfl
theorem li_9999 : (9999 : Int32).toInt = 9999 := rfl
theorem li_10000 : (10000 : Int32).toInt = 10000 := rfl
theorem lj_0 : (0 : Int64).toInt = 0 := rfl
theorem lj_1 : (1 : Int64).toInt = 1 := rfl
theorem lj_2 : (2 : Int64).toInt = 2 := rfl
theorem lj_3 : (3 : Int64).toInt = 3 := rfl
theorem lj_4 : (4 : Int64).toInt = 4 := rfl
theorem lj_5 : (5 : Int64).toInt = 5 := rfl
theorem lj_9 : (9 : Int64).toInt = 9 := rfl
theorem lj_32 : (32 : Int64).toInt = 32 := rfl
theorem lj_48 : (48 : Int64).toInt = 48 := rfl
theorem lj_57 : (57 : Int64).toInt = 57 := rfl
theorem lj_99 : (99 : Int64).toInt = 99 := rfl
theorem lj_126 : (126 : Int64).toInt = 126 := rfl
def bi (R W : Int) (s : Bd) : Prop := (s.1 0).toInt = R ∧ (s.1 1).toInt = W ∧ (0 ≤ (s.1 3).toInt ∧ (s.1 3).toInt ≤ 4) ∧ (0 ≤ R ∧ R ≤ 6 ∧ 0 ≤ W ∧ W ≤ 10 ∧ 0 ≤ R * W ∧ R * W ≤ 40) ∧ ar 4 (0) (40) (s.2.1 1) ∧ ar 40 (0) (3) (s.2.1 3) ∧ ar 40 (0) (39) (s.2.1 4) ∧ ar 40 (0) (39) (s.2.1 5) ∧ ar 40 (0) (39) (s.2.1 6) ∧ s.2.2.2.1 ≤ 6400
def ob (o : Option Bd) : Prop := ∀ B, o = some B → ∃ R W, bi R W B
def tz (N : Int) (s : Tp) : Prop := (s.1 0).toInt = N ∧ (0 ≤ N ∧ N ≤ 400)
def tj (N : Int) (s : Tp) : Prop := (s.1 0).toInt = N ∧ (0 ≤ (s.1 1).toInt ∧ (s.1 1).toInt ≤ N ∧ 0 ≤ (s.1 2).toInt ∧ (s.1 2).toInt ≤ (s.1 1).toInt ∧ 0 ≤ (s.1 5).toInt ∧ (s.1 5).toInt ≤ 5000) ∧ (0 ≤ N ∧ N ≤ 400)
def tk (N : Int) (s : Tp) : Prop := (s.1 0).toInt = N ∧ (0 ≤ (s.1 1).toInt ∧ (s.1 1).toInt ≤ N + 1 ∧ 0 ≤ (s.1 2).toInt ∧ (s.1 2).toInt ≤ (s.1 1).toInt ∧ ((s.1 5).toInt ≠ 0 ∨ (s.1 1).toInt ≤ N) ∧ 0 ≤ (s.1 5).toInt ∧ (s.1 5).toInt ≤ 5000) ∧ (0 ≤ N ∧ N ≤ 400)
def mo (s : Mo) : Prop := (0 ≤ (s.1 0).toInt ∧ (s.1 0).toInt ≤ 40) ∧ ar 40 (-1) (39) (s.2 0) ∧ ar 40 (-1) (39) (s.2 1) ∧ ar 40 (0) (39) (s.2 2)
def pg (R : Int) (s : Pg) : Prop := (0 ≤ (s.1 0).toInt ∧ (s.1 0).toInt ≤ 3 ∧ 0 ≤ (s.1 1).toInt ∧ (s.1 1).toInt ≤ 80) ∧ ar 80 (0) (99) (s.2 1) ∧ (∀ k : Nat, (k : Int) < (s.1 1).toInt → (s.2 0 k).toInt = 6 ∨ (s.2 0 k).toInt = 9 → (s.2 1 k).toInt < R)
def pz (s : Pg) : Prop := (0 ≤ (s.1 0).toInt ∧ (s.1 0).toInt ≤ 3 ∧ 0 ≤ (s.1 1).toInt ∧ (s.1 1).toInt ≤ 80) ∧ ar 80 (0) (99) (s.2 1)
def pa (s : Pa) : Prop := (0 ≤ (s.1 0).toInt ∧ (s.1 0).toInt ≤ 10 ∧ 0 ≤ (s.1 1).toInt ∧ (s.1 1).toInt ≤ 9) ∧ (∀ k : Nat, ob (s.2 k))
theorem bi_c {R W : Int} {s : Bd} (h : bi R W s) : ((s.1 0) * (s.1 1)).toInt = R * W := by
  have e := tq_mul (s.1 0) (s.1 1)
  rw [h.1, h.2.1] at e
  have p := h.2.2.2.1
  omega

theorem wq_X0_makeCell {post : Bd → Prop} {s0 : Bd} {x1 : Int32} {x2 : Int32} {R W : Int} (h1 : bi (R) (W) s0) (h2 : 0 ≤ (x1).toInt ∧ (x1).toInt < 40) (h3 : 0 ≤ (x2).toInt ∧ (x2).toInt ≤ 3) (k : ∀ (u : Bd), bi (R) (W) u → post u) : wp_X0_makeCell post s0 x1 x2 := by
  unfold wp_X0_makeCell
  have := h1.1
  have := h1.2.1
  have := h1.2.2.1
  have := h1.2.2.2.1
  have := h1.2.2.2.2.2.2.2.2.2
  have v4 : vp_in x1 40 := vi (by omega) (by omega)
  refine ⟨v4, ?_⟩
  refine ⟨v4, ?_⟩
  refine ⟨v4, ?_⟩
  refine ⟨v4, ?_⟩
  refine ⟨v4, ?_⟩
  refine ⟨v4, ?_⟩
  refine ⟨v4, ?_⟩
  refine ⟨v4, ?_⟩
  have p5 : (s0.1 0).toInt = R := by omega
  have p6 : (s0.1 1).toInt = W := by omega
  have p7 : 0 ≤ (s0.1 3).toInt ∧ (s0.1 3).toInt ≤ 4 := by omega
  have p8 : 0 ≤ R ∧ R ≤ 6 ∧ 0 ≤ W ∧ W ≤ 10 ∧ 0 ≤ R * W ∧ R * W ≤ 40 := by omega
  have p9 : ar 4 (0) (40) (s0.2.1 1) := h1.2.2.2.2.1
  have p10 : ar 40 (0) (3) (upd (s0.2.1 3) (Int32.toNatClampNeg x1) x2) := (ar_upd h1.2.2.2.2.2.1 (by omega) (by omega))
  have p11 : ar 40 (0) (39) (upd (s0.2.1 4) (Int32.toNatClampNeg x1) 0) := (ar_upd h1.2.2.2.2.2.2.1 (by decide) (by decide))
  have p12 : ar 40 (0) (39) (upd (s0.2.1 5) (Int32.toNatClampNeg x1) 0) := (ar_upd h1.2.2.2.2.2.2.2.1 (by decide) (by decide))
  have p13 : ar 40 (0) (39) (upd (s0.2.1 6) (Int32.toNatClampNeg x1) 0) := (ar_upd h1.2.2.2.2.2.2.2.2.1 (by decide) (by decide))
  have p14 : s0.2.2.2.1 ≤ 6400 := by omega
  have B15 : bi (R) (W) (s0.1, (va_up (va_up (va_up (va_up (va_up (va_up (va_up s0.2.1 3 (upd (s0.2.1 3) (Int32.toNatClampNeg x1) x2)) 4 (upd (s0.2.1 4) (Int32.toNatClampNeg x1) 0)) 5 (upd (s0.2.1 5) (Int32.toNatClampNeg x1) 0)) 6 (upd (s0.2.1 6) (Int32.toNatClampNeg x1) 0)) 7 (upd (s0.2.1 7) (Int32.toNatClampNeg x1) 0)) 8 (upd (s0.2.1 8) (Int32.toNatClampNeg x1) 0)) 9 (upd (s0.2.1 9) (Int32.toNatClampNeg x1) 0)), (vp_updL s0.2.2.1 (Int32.toNatClampNeg x1) 0), s0.2.2.2.1, s0.2.2.2.2) := ⟨p5, p6, p7, p8, p9, p10, p11, p12, p13, p14⟩
  exact k _ B15
theorem wq_X0_clear_L32 {post : Bd → Prop} {e50 : Bd → Int32 → Prop} (ke50 : ∀ (t0 : Bd) (z1 : Int32), bi ((0 : Int)) ((0 : Int)) t0 → 0 ≤ (z1).toInt ∧ (z1).toInt ≤ 40 → e50 t0 z1) : ∀ (n : Nat) (t0 : Bd) (z1 : Int32), bi ((0 : Int)) ((0 : Int)) t0 → 0 ≤ (z1).toInt ∧ (z1).toInt ≤ 40 → 40 - (z1).toInt < (n : Int) → wp_X0_clear_L32 post e50 n t0 z1 := by
  intro n
  induction n with
  | zero =>
    intro t0 z1 i16 i17 i18
    have := i16.1
    have := i16.2.1
    have := i16.2.2.1
    have := i16.2.2.2.1
    have := i16.2.2.2.2.2.2.2.2.2
    exfalso
    omega
  | succ n ih =>
    intro t0 z1 i16 i17 i18
    unfold wp_X0_clear_L32
    have := i16.1
    have := i16.2.1
    have := i16.2.2.1
    have := i16.2.2.2.1
    have := i16.2.2.2.2.2.2.2.2.2
    refine ⟨fun c19 => ?_, fun c20 => ?_⟩
    · replace c19 := q_le c19
      rw [li_40] at c19
      have p21 : 0 ≤ (z1).toInt ∧ (z1).toInt ≤ 40 := by omega
      exact ke50 _ _ i16 p21
    · replace c20 := q_nle c20
      rw [li_40] at c20
      have p22 : 0 ≤ (z1).toInt ∧ (z1).toInt < 40 := by omega
      have p23 : 0 ≤ ((0 : Int32)).toInt ∧ ((0 : Int32)).toInt ≤ 3 := by (have := li_0; omega)
      refine wq_X0_makeCell i16 p22 p23 (fun u_3 q24 => ?_)
      have := q24.1
      have := q24.2.1
      have := q24.2.2.1
      have := q24.2.2.2.2.2.2.2.2.2
      have e25 := tq_addr li_1 z1
      try rw [Int.emod_eq_of_lt (show 0 ≤ (z1).toInt + 1 + 2147483648 by omega) (show (z1).toInt + 1 + 2147483648 < 4294967296 by omega)] at e25
      have p26 : 0 ≤ (z1 + 1).toInt ∧ (z1 + 1).toInt ≤ 40 := by omega
      have p27 : 40 - (z1 + 1).toInt < ((n : Nat) : Int) := by (omega)
      exact ih _ _ q24 p26 p27
theorem wq_X0_clear {post : Bd → Prop} {s0 : Bd} {R W : Int} (h28 : bi (R) (W) s0) (k : ∀ (u : Bd), bi ((0 : Int)) ((0 : Int)) u → post u) : wp_X0_clear post s0 := by
  unfold wp_X0_clear
  have := h28.1
  have := h28.2.1
  have := h28.2.2.1
  have := h28.2.2.2.1
  have := h28.2.2.2.2.2.2.2.2.2
  have p29 : (0 : Int32).toInt = (0 : Int) := by (have := li_0; omega)
  have p30 : (0 : Int32).toInt = (0 : Int) := by (have := li_0; omega)
  have p31 : 0 ≤ (0 : Int32).toInt ∧ (0 : Int32).toInt ≤ 4 := by (have := li_0; omega)
  have p32 : 0 ≤ (0 : Int) ∧ (0 : Int) ≤ 6 ∧ 0 ≤ (0 : Int) ∧ (0 : Int) ≤ 10 ∧ 0 ≤ (0 : Int) * (0 : Int) ∧ (0 : Int) * (0 : Int) ≤ 40 := by omega
  have p33 : ar 4 (0) (40) (s0.2.1 1) := h28.2.2.2.2.1
  have p34 : ar 40 (0) (3) (s0.2.1 3) := h28.2.2.2.2.2.1
  have p35 : ar 40 (0) (39) (s0.2.1 4) := h28.2.2.2.2.2.2.1
  have p36 : ar 40 (0) (39) (s0.2.1 5) := h28.2.2.2.2.2.2.2.1
  have p37 : ar 40 (0) (39) (s0.2.1 6) := h28.2.2.2.2.2.2.2.2.1
  have p38 : s0.2.2.2.1 ≤ 6400 := by omega
  have B39 : bi ((0 : Int)) ((0 : Int)) ((va_up (va_up (va_up (va_up (va_up (va_up s0.1 0 0) 1 0) 2 0) 3 0) 4 0) 5 0), s0.2.1, s0.2.2.1, s0.2.2.2.1, s0.2.2.2.2) := ⟨p29, p30, p31, p32, p33, p34, p35, p36, p37, p38⟩
  have p40 : 0 ≤ (0 : Int32).toInt ∧ (0 : Int32).toInt ≤ 40 := by (have := li_0; omega)
  obtain ⟨f41, g42⟩ := fu_e 50
  have p43 : 40 - (0 : Int32).toInt < (f41 : Int) := by (have := li_0; omega)
  refine ⟨f41, wq_X0_clear_L32 (fun t0 z1 q44 q45 => ?_) f41 _ _ B39 p40 p43⟩
  have := q44.1
  have := q44.2.1
  have := q44.2.2.1
  have := q44.2.2.2.1
  have := q44.2.2.2.2.2.2.2.2.2
  exact k _ q44
theorem wq_X0_cells {post : Int32 → Prop} {s0 : Bd} {R W : Int} (h46 : bi (R) (W) s0) (k : ∀ (r : Int32), (r).toInt = R * W → post r) : wp_X0_cells post s0 := by
  unfold wp_X0_cells
  have := h46.1
  have := h46.2.1
  have := h46.2.2.1
  have := h46.2.2.2.1
  have := h46.2.2.2.2.2.2.2.2.2
  have := bi_c h46
  have p47 : ((s0.1 0) * (s0.1 1)).toInt = R * W := by omega
  exact k _ p47
theorem wq_X0_hasCell {post : Int32 → Prop} {s0 : Bd} {x1 : Int32} {R W : Int} (h48 : bi (R) (W) s0) (k : ∀ (r : Int32), ((r).toInt = 1 ∧ 0 ≤ (x1).toInt ∧ (x1).toInt < R * W) ∨ ((r).toInt = 0 ∧ ((x1).toInt < 0 ∨ R * W ≤ (x1).toInt)) → post r) : wp_X0_hasCell post s0 x1 := by
  unfold wp_X0_hasCell
  have := h48.1
  have := h48.2.1
  have := h48.2.2.1
  have := h48.2.2.2.1
  have := h48.2.2.2.2.2.2.2.2.2
  refine ⟨fun c49 => ?_, fun c50 => ?_⟩
  · replace c49 := q_lt c49
    rw [li_0] at c49
    have p51 : ((0 : Int32).toInt = 1 ∧ 0 ≤ (x1).toInt ∧ (x1).toInt < R * W) ∨ ((0 : Int32).toInt = 0 ∧ ((x1).toInt < 0 ∨ R * W ≤ (x1).toInt)) := by (have := li_0; omega)
    exact k _ p51
  · replace c50 := q_nlt c50
    rw [li_0] at c50
    refine wq_X0_cells h48 (fun r_2 q52 => ?_)
    refine ⟨fun c53 => ?_, fun c54 => ?_⟩
    · replace c53 := q_le c53
      have p55 : ((0 : Int32).toInt = 1 ∧ 0 ≤ (x1).toInt ∧ (x1).toInt < R * W) ∨ ((0 : Int32).toInt = 0 ∧ ((x1).toInt < 0 ∨ R * W ≤ (x1).toInt)) := by (have := li_0; omega)
      exact k _ p55
    · replace c54 := q_nle c54
      have p56 : ((1 : Int32).toInt = 1 ∧ 0 ≤ (x1).toInt ∧ (x1).toInt < R * W) ∨ ((1 : Int32).toInt = 0 ∧ ((x1).toInt < 0 ∨ R * W ≤ (x1).toInt)) := by (have := li_1; omega)
      exact k _ p56
theorem wq_X0_setLost {post : Bd → Prop} {s0 : Bd} {x1 : Int32} {x2 : Int32} {R W : Int} (h57 : bi (R) (W) s0) (k : ∀ (u : Bd), bi (R) (W) u → post u) : wp_X0_setLost post s0 x1 x2 := by
  unfold wp_X0_setLost
  have := h57.1
  have := h57.2.1
  have := h57.2.2.1
  have := h57.2.2.2.1
  have := h57.2.2.2.2.2.2.2.2.2
  refine wq_X0_hasCell h57 (fun r_1 q58 => ?_)
  refine ⟨fun c59 => ?_, fun c60 => ?_⟩
  · replace c59 := q_eq c59
    rw [li_0] at c59
    exact k _ h57
  · replace c60 := q_neq c60
    rw [li_0] at c60
    have v61 : vp_in x1 40 := vi (by omega) (by omega)
    refine ⟨v61, ?_⟩
    have p62 : (s0.1 0).toInt = R := by omega
    have p63 : (s0.1 1).toInt = W := by omega
    have p64 : 0 ≤ (s0.1 3).toInt ∧ (s0.1 3).toInt ≤ 4 := by omega
    have p65 : 0 ≤ R ∧ R ≤ 6 ∧ 0 ≤ W ∧ W ≤ 10 ∧ 0 ≤ R * W ∧ R * W ≤ 40 := by omega
    have p66 : ar 4 (0) (40) (s0.2.1 1) := h57.2.2.2.2.1
    have p67 : ar 40 (0) (3) (s0.2.1 3) := h57.2.2.2.2.2.1
    have p68 : ar 40 (0) (39) (s0.2.1 4) := h57.2.2.2.2.2.2.1
    have p69 : ar 40 (0) (39) (s0.2.1 5) := h57.2.2.2.2.2.2.2.1
    have p70 : ar 40 (0) (39) (s0.2.1 6) := h57.2.2.2.2.2.2.2.2.1
    have p71 : s0.2.2.2.1 ≤ 6400 := by omega
    have B72 : bi (R) (W) (s0.1, (va_up s0.2.1 7 (upd (s0.2.1 7) (Int32.toNatClampNeg x1) x2)), s0.2.2.1, s0.2.2.2.1, s0.2.2.2.2) := ⟨p62, p63, p64, p65, p66, p67, p68, p69, p70, p71⟩
    exact k _ B72
theorem wq_X5_byteAt {post : Int32 → Prop} {s0 : Tp} {x1 : Int32} {N : Int} (h73 : tz (N) s0) (k : ∀ (r : Int32), post r) : wp_X5_byteAt post s0 x1 := by
  unfold wp_X5_byteAt
  have := h73.1
  have := h73.2
  refine ⟨fun c74 => ?_, fun c75 => ?_⟩
  · replace c74 := q_lt c74
    rw [li_0] at c74
    exact k _
  · replace c75 := q_nlt c75
    rw [li_0] at c75
    refine ⟨fun c76 => ?_, fun c77 => ?_⟩
    · replace c76 := q_le c76
      exact k _
    · replace c77 := q_nle c77
      have v78 : vp_in x1 400 := vi (by omega) (by omega)
      refine ⟨v78, ?_⟩
      exact k _
theorem wq_X0_addDrum_L40 {s1 : Tp} {post : Bd → Prop} {e76 : Bd → Int32 → Int32 → Int32 → Int32 → Prop} {N R W : Int} (h79 : tz (N) s1) (ke76 : ∀ (t0 : Bd) (z1 : Int32) (z3 : Int32) (z4 : Int32) (z5 : Int32), bi (R) (W) t0 → (t0.1 3).toInt < 4 → 0 ≤ (z5).toInt ∧ (z5).toInt ≤ (z4).toInt ∧ (z4).toInt ≤ 40 → e76 t0 z1 z3 z4 z5) : ∀ (n : Nat) (t0 : Bd) (z1 : Int32) (z3 : Int32) (z4 : Int32) (z5 : Int32), bi (R) (W) t0 → (t0.1 3).toInt < 4 → 0 ≤ (z5).toInt ∧ (z5).toInt ≤ (z4).toInt ∧ (z4).toInt ≤ 40 → (z4).toInt - (z5).toInt < (n : Int) → wp_X0_addDrum_L40 s1 post e76 n t0 z1 z3 z4 z5 := by
  have := h79.1
  have := h79.2
  intro n
  induction n with
  | zero =>
    intro t0 z1 z3 z4 z5 i80 i81 i82 i83
    have := i80.1
    have := i80.2.1
    have := i80.2.2.1
    have := i80.2.2.2.1
    have := i80.2.2.2.2.2.2.2.2.2
    exfalso
    omega
  | succ n ih =>
    intro t0 z1 z3 z4 z5 i80 i81 i82 i83
    unfold wp_X0_addDrum_L40
    have := i80.1
    have := i80.2.1
    have := i80.2.2.1
    have := i80.2.2.2.1
    have := i80.2.2.2.2.2.2.2.2.2
    refine ⟨fun c84 => ?_, fun c85 => ?_⟩
    · replace c84 := q_le c84
      have p86 : (t0.1 3).toInt < 4 := by omega
      have p87 : 0 ≤ (z5).toInt ∧ (z5).toInt ≤ (z4).toInt ∧ (z4).toInt ≤ 40 := by omega
      exact ke76 _ _ _ _ _ i80 p86 p87
    · replace c85 := q_nle c85
      refine wq_X5_byteAt h79 (fun r_6 => ?_)
      have e88 := tq_mulr li_40 (t0.1 3)
      try rw [Int.emod_eq_of_lt (show 0 ≤ (t0.1 3).toInt * 40 + 2147483648 by omega) (show (t0.1 3).toInt * 40 + 2147483648 < 4294967296 by omega)] at e88
      have e89 := tq_add ((t0.1 3) * 40) z5
      try rw [Int.emod_eq_of_lt (show 0 ≤ ((t0.1 3) * 40).toInt + (z5).toInt + 2147483648 by omega) (show ((t0.1 3) * 40).toInt + (z5).toInt + 2147483648 < 4294967296 by omega)] at e89
      have v90 : vp_in (((t0.1 3) * 40) + z5) 160 := vi (by omega) (by omega)
      refine ⟨v90, ?_⟩
      have p91 : (t0.1 0).toInt = R := by omega
      have p92 : (t0.1 1).toInt = W := by omega
      have p93 : 0 ≤ (t0.1 3).toInt ∧ (t0.1 3).toInt ≤ 4 := by omega
      have p94 : 0 ≤ R ∧ R ≤ 6 ∧ 0 ≤ W ∧ W ≤ 10 ∧ 0 ≤ R * W ∧ R * W ≤ 40 := by omega
      have p95 : ar 4 (0) (40) (t0.2.1 1) := i80.2.2.2.2.1
      have p96 : ar 40 (0) (3) (t0.2.1 3) := i80.2.2.2.2.2.1
      have p97 : ar 40 (0) (39) (t0.2.1 4) := i80.2.2.2.2.2.2.1
      have p98 : ar 40 (0) (39) (t0.2.1 5) := i80.2.2.2.2.2.2.2.1
      have p99 : ar 40 (0) (39) (t0.2.1 6) := i80.2.2.2.2.2.2.2.2.1
      have p100 : t0.2.2.2.1 ≤ 6400 := by omega
      have B101 : bi (R) (W) (t0.1, (va_up t0.2.1 2 (upd (t0.2.1 2) (Int32.toNatClampNeg (((t0.1 3) * 40) + z5)) r_6)), t0.2.2.1, t0.2.2.2.1, t0.2.2.2.2) := ⟨p91, p92, p93, p94, p95, p96, p97, p98, p99, p100⟩
      have p102 : (t0.1 3).toInt < 4 := by omega
      have e103 := tq_addr li_1 z5
      try rw [Int.emod_eq_of_lt (show 0 ≤ (z5).toInt + 1 + 2147483648 by omega) (show (z5).toInt + 1 + 2147483648 < 4294967296 by omega)] at e103
      have p104 : 0 ≤ (z5 + 1).toInt ∧ (z5 + 1).toInt ≤ (z4).toInt ∧ (z4).toInt ≤ 40 := by omega
      have p105 : (z4).toInt - (z5 + 1).toInt < ((n : Nat) : Int) := by (omega)
      exact ih _ _ _ _ _ B101 p102 p104 p105
theorem wq_X0_addDrum {post : Bd → Prop} {s0 : Bd} {s1 : Tp} {x1 : Int32} {x3 : Int32} {x4 : Int32} {R W N : Int} (h106 : bi (R) (W) s0) (h107 : tz (N) s1) (h108 : 0 ≤ (x4).toInt) (k : ∀ (u : Bd), bi (R) (W) u → post u) : wp_X0_addDrum post s0 s1 x1 x3 x4 := by
  unfold wp_X0_addDrum
  have := h106.1
  have := h106.2.1
  have := h106.2.2.1
  have := h106.2.2.2.1
  have := h106.2.2.2.2.2.2.2.2.2
  have := h107.1
  have := h107.2
  refine ⟨fun c109 => ?_, fun c110 => ?_⟩
  · replace c109 := q_le c109
    rw [li_4] at c109
    exact k _ h106
  · replace c110 := q_nle c110
    rw [li_4] at c110
    refine ⟨fun c111 => ?_, fun c112 => ?_⟩
    · replace c111 := q_le c111
      rw [li_40] at c111
      have v113 : vp_in (s0.1 3) 4 := vi (by omega) (by omega)
      refine ⟨v113, ?_⟩
      refine ⟨v113, ?_⟩
      have p114 : (s0.1 0).toInt = R := by omega
      have p115 : (s0.1 1).toInt = W := by omega
      have p116 : 0 ≤ (s0.1 3).toInt ∧ (s0.1 3).toInt ≤ 4 := by omega
      have p117 : 0 ≤ R ∧ R ≤ 6 ∧ 0 ≤ W ∧ W ≤ 10 ∧ 0 ≤ R * W ∧ R * W ≤ 40 := by omega
      have p118 : ar 4 (0) (40) (upd (s0.2.1 1) (Int32.toNatClampNeg (s0.1 3)) x4) := (ar_upd h106.2.2.2.2.1 (by omega) (by omega))
      have p119 : ar 40 (0) (3) (s0.2.1 3) := h106.2.2.2.2.2.1
      have p120 : ar 40 (0) (39) (s0.2.1 4) := h106.2.2.2.2.2.2.1
      have p121 : ar 40 (0) (39) (s0.2.1 5) := h106.2.2.2.2.2.2.2.1
      have p122 : ar 40 (0) (39) (s0.2.1 6) := h106.2.2.2.2.2.2.2.2.1
      have p123 : s0.2.2.2.1 ≤ 6400 := by omega
      have B124 : bi (R) (W) (s0.1, (va_up (va_up s0.2.1 0 (upd (s0.2.1 0) (Int32.toNatClampNeg (s0.1 3)) x1)) 1 (upd (s0.2.1 1) (Int32.toNatClampNeg (s0.1 3)) x4)), s0.2.2.1, s0.2.2.2.1, s0.2.2.2.2) := ⟨p114, p115, p116, p117, p118, p119, p120, p121, p122, p123⟩
      have p125 : (s0.1 3).toInt < 4 := by omega
      have p126 : 0 ≤ (0 : Int32).toInt ∧ (0 : Int32).toInt ≤ (x4).toInt ∧ (x4).toInt ≤ 40 := by (have := li_0; omega)
      obtain ⟨f127, g128⟩ := fu_e 50
      have p129 : (x4).toInt - (0 : Int32).toInt < (f127 : Int) := by (have := li_0; omega)
      refine ⟨f127, wq_X0_addDrum_L40 h107 (fun t0 z1 z3 z4 z5 q130 q131 q132 => ?_) f127 _ _ _ _ _ B124 p125 p126 p129⟩
      have := q130.1
      have := q130.2.1
      have := q130.2.2.1
      have := q130.2.2.2.2.2.2.2.2.2
      have p133 : (t0.1 0).toInt = R := by omega
      have p134 : (t0.1 1).toInt = W := by omega
      have e135 := tq_addr li_1 (t0.1 3)
      try rw [Int.emod_eq_of_lt (show 0 ≤ (t0.1 3).toInt + 1 + 2147483648 by omega) (show (t0.1 3).toInt + 1 + 2147483648 < 4294967296 by omega)] at e135
      have p136 : 0 ≤ ((t0.1 3) + 1).toInt ∧ ((t0.1 3) + 1).toInt ≤ 4 := by omega
      have p137 : 0 ≤ R ∧ R ≤ 6 ∧ 0 ≤ W ∧ W ≤ 10 ∧ 0 ≤ R * W ∧ R * W ≤ 40 := by omega
      have p138 : ar 4 (0) (40) (t0.2.1 1) := q130.2.2.2.2.1
      have p139 : ar 40 (0) (3) (t0.2.1 3) := q130.2.2.2.2.2.1
      have p140 : ar 40 (0) (39) (t0.2.1 4) := q130.2.2.2.2.2.2.1
      have p141 : ar 40 (0) (39) (t0.2.1 5) := q130.2.2.2.2.2.2.2.1
      have p142 : ar 40 (0) (39) (t0.2.1 6) := q130.2.2.2.2.2.2.2.2.1
      have p143 : t0.2.2.2.1 ≤ 6400 := by omega
      have B144 : bi (R) (W) ((va_up t0.1 3 ((t0.1 3) + 1)), t0.2.1, t0.2.2.1, t0.2.2.2.1, t0.2.2.2.2) := ⟨p133, p134, p136, p137, p138, p139, p140, p141, p142, p143⟩
      exact k _ B144
    · replace c112 := q_nle c112
      rw [li_40] at c112
      exact k _ h106
theorem wq_X0_copyAllButLog {post : Bd → Prop} {s0 : Bd} {s1 : Bd} {R W R2 W2 : Int} (h145 : bi (R) (W) s0) (h146 : bi (R2) (W2) s1) (k : ∀ (u : Bd), bi (R2) (W2) u → u.2.2.2.1 = s0.2.2.2.1 → post u) : wp_X0_copyAllButLog post s0 s1 := by
  unfold wp_X0_copyAllButLog
  have := h145.1
  have := h145.2.1
  have := h145.2.2.1
  have := h145.2.2.2.1
  have := h145.2.2.2.2.2.2.2.2.2
  have := h146.1
  have := h146.2.1
  have := h146.2.2.1
  have := h146.2.2.2.1
  have := h146.2.2.2.2.2.2.2.2.2
  refine wq_X0_cells h146 (fun r_1 q147 => ?_)
  refine ⟨(z_nlt (by have := li_0; omega)), ?_⟩
  refine ⟨(tn_0 (by omega)), ?_⟩
  refine ⟨(tn_0 (by omega)), ?_⟩
  refine ⟨(z_nlt (by have := li_0; omega)), ?_⟩
  refine ⟨(tn_0 (by omega)), ?_⟩
  refine ⟨(tn_0 (by omega)), ?_⟩
  refine ⟨(z_nlt (by have := li_0; omega)), ?_⟩
  refine ⟨(tn_0 (by omega)), ?_⟩
  refine ⟨(tn_0 (by omega)), ?_⟩
  refine ⟨(z_nlt (by have := li_0; omega)), ?_⟩
  refine ⟨(tn_0 (by omega)), ?_⟩
  refine ⟨(tn_0 (by omega)), ?_⟩
  refine ⟨(z_nlt (by have := li_0; omega)), ?_⟩
  refine ⟨(tn_0 (by omega)), ?_⟩
  refine ⟨(tn_0 (by omega)), ?_⟩
  refine ⟨(z_nlt (by have := li_0; omega)), ?_⟩
  refine ⟨(tn_0 (by omega)), ?_⟩
  refine ⟨(tn_0 (by omega)), ?_⟩
  refine ⟨(z_nlt (by have := li_0; omega)), ?_⟩
  refine ⟨(tn_0 (by omega)), ?_⟩
  refine ⟨(tn_0 (by omega)), ?_⟩
  refine ⟨(z_nlt (by have := li_0; omega)), ?_⟩
  refine ⟨(tn_0 (by omega)), ?_⟩
  refine ⟨(tn_0 (by omega)), ?_⟩
  have p148 : (s1.1 0).toInt = R2 := by omega
  have p149 : (s1.1 1).toInt = W2 := by omega
  have p150 : 0 ≤ (s1.1 3).toInt ∧ (s1.1 3).toInt ≤ 4 := by omega
  have p151 : 0 ≤ R2 ∧ R2 ≤ 6 ∧ 0 ≤ W2 ∧ W2 ≤ 10 ∧ 0 ≤ R2 * W2 ∧ R2 * W2 ≤ 40 := by omega
  have p152 : ar 4 (0) (40) (va_cpy (s1.2.1 1) (s0.2.1 1) (Int32.toNatClampNeg 0) (Int32.toNatClampNeg 0) (Int32.toNatClampNeg 4)) := (ar_cpy h146.2.2.2.2.1 h145.2.2.2.2.1)
  have p153 : ar 40 (0) (3) (va_cpy (s1.2.1 3) (s0.2.1 3) (Int32.toNatClampNeg 0) (Int32.toNatClampNeg 0) (Int32.toNatClampNeg r_1)) := (ar_cpy h146.2.2.2.2.2.1 h145.2.2.2.2.2.1)
  have p154 : ar 40 (0) (39) (va_cpy (s1.2.1 4) (s0.2.1 4) (Int32.toNatClampNeg 0) (Int32.toNatClampNeg 0) (Int32.toNatClampNeg r_1)) := (ar_cpy h146.2.2.2.2.2.2.1 h145.2.2.2.2.2.2.1)
  have p155 : ar 40 (0) (39) (va_cpy (s1.2.1 5) (s0.2.1 5) (Int32.toNatClampNeg 0) (Int32.toNatClampNeg 0) (Int32.toNatClampNeg r_1)) := (ar_cpy h146.2.2.2.2.2.2.2.1 h145.2.2.2.2.2.2.2.1)
  have p156 : ar 40 (0) (39) (va_cpy (s1.2.1 6) (s0.2.1 6) (Int32.toNatClampNeg 0) (Int32.toNatClampNeg 0) (Int32.toNatClampNeg r_1)) := (ar_cpy h146.2.2.2.2.2.2.2.2.1 h145.2.2.2.2.2.2.2.2.1)
  have p157 : s0.2.2.2.1 ≤ 6400 := by omega
  have B158 : bi (R2) (W2) ((va_up (va_up (va_up (va_up (va_up (va_up s0.1 0 (s1.1 0)) 1 (s1.1 1)) 2 (s1.1 2)) 3 (s1.1 3)) 4 (s1.1 4)) 5 (s1.1 5)), (va_up (va_up (va_up (va_up (va_up (va_up (va_up (va_up (va_up (va_up s0.2.1 0 (va_cpy (s1.2.1 0) (s0.2.1 0) (Int32.toNatClampNeg 0) (Int32.toNatClampNeg 0) (Int32.toNatClampNeg 4))) 1 (va_cpy (s1.2.1 1) (s0.2.1 1) (Int32.toNatClampNeg 0) (Int32.toNatClampNeg 0) (Int32.toNatClampNeg 4))) 2 (va_cpy (s1.2.1 2) (s0.2.1 2) (Int32.toNatClampNeg 0) (Int32.toNatClampNeg 0) (Int32.toNatClampNeg 160))) 3 (va_cpy (s1.2.1 3) (s0.2.1 3) (Int32.toNatClampNeg 0) (Int32.toNatClampNeg 0) (Int32.toNatClampNeg r_1))) 4 (va_cpy (s1.2.1 4) (s0.2.1 4) (Int32.toNatClampNeg 0) (Int32.toNatClampNeg 0) (Int32.toNatClampNeg r_1))) 5 (va_cpy (s1.2.1 5) (s0.2.1 5) (Int32.toNatClampNeg 0) (Int32.toNatClampNeg 0) (Int32.toNatClampNeg r_1))) 6 (va_cpy (s1.2.1 6) (s0.2.1 6) (Int32.toNatClampNeg 0) (Int32.toNatClampNeg 0) (Int32.toNatClampNeg r_1))) 7 (va_cpy (s1.2.1 7) (s0.2.1 7) (Int32.toNatClampNeg 0) (Int32.toNatClampNeg 0) (Int32.toNatClampNeg r_1))) 8 (va_cpy (s1.2.1 8) (s0.2.1 8) (Int32.toNatClampNeg 0) (Int32.toNatClampNeg 0) (Int32.toNatClampNeg r_1))) 9 (va_cpy (s1.2.1 9) (s0.2.1 9) (Int32.toNatClampNeg 0) (Int32.toNatClampNeg 0) (Int32.toNatClampNeg r_1))), (va_cpy s1.2.2.1 s0.2.2.1 (Int32.toNatClampNeg 0) (Int32.toNatClampNeg 0) (Int32.toNatClampNeg r_1)), s0.2.2.2.1, s0.2.2.2.2) := ⟨p148, p149, p150, p151, p152, p153, p154, p155, p156, p157⟩
  have p159 : s0.2.2.2.1 = s0.2.2.2.1 := by omega
  exact k _ B158 p159

theorem wq_X0_entryStart_L4 {s0 : Bd} {post : Int32 → Prop} {e39 : Int32 → Int32 → Int32 → Prop} {R W : Int} (h160 : bi (R) (W) s0) (ke39 : ∀ (z1 : Int32) (z2 : Int32) (z3 : Int32), 0 ≤ (z3).toInt ∧ (z3).toInt ≤ 4 → 0 ≤ (z2).toInt ∧ (z2).toInt ≤ 1600 * (z3).toInt → e39 z1 z2 z3) : ∀ (n : Nat) (z1 : Int32) (z2 : Int32) (z3 : Int32), 0 ≤ (z3).toInt ∧ (z3).toInt ≤ 4 → 0 ≤ (z2).toInt ∧ (z2).toInt ≤ 1600 * (z3).toInt → 4 - (z3).toInt < (n : Int) → wp_X0_entryStart_L4 s0 post e39 n z1 z2 z3 := by
  have := h160.1
  have := h160.2.1
  have := h160.2.2.1
  have := h160.2.2.2.1
  have := h160.2.2.2.2.2.2.2.2.2
  intro n
  induction n with
  | zero =>
    intro z1 z2 z3 i161 i162 i163
    exfalso
    omega
  | succ n ih =>
    intro z1 z2 z3 i161 i162 i163
    unfold wp_X0_entryStart_L4
    refine ⟨fun c164 => ?_, fun c165 => ?_⟩
    · replace c164 := q_le c164
      have p166 : 0 ≤ (z3).toInt ∧ (z3).toInt ≤ 4 := by omega
      have p167 : 0 ≤ (z2).toInt ∧ (z2).toInt ≤ 1600 * (z3).toInt := by omega
      exact ke39 _ _ _ p166 p167
    · replace c165 := q_nle c165
      refine ⟨fun c168 => ?_, fun c169 => ?_⟩
      · replace c168 := q_le c168
        have p170 : 0 ≤ (z3).toInt ∧ (z3).toInt ≤ 4 := by omega
        have p171 : 0 ≤ (z2).toInt ∧ (z2).toInt ≤ 1600 * (z3).toInt := by omega
        exact ke39 _ _ _ p170 p171
      · replace c169 := q_nle c169
        have v172 : vp_in z3 4 := vi (by omega) (by omega)
        refine ⟨v172, ?_⟩
        refine ⟨v172, ?_⟩
        have e173 := tq_addr li_1 z3
        try rw [Int.emod_eq_of_lt (show 0 ≤ (z3).toInt + 1 + 2147483648 by omega) (show (z3).toInt + 1 + 2147483648 < 4294967296 by omega)] at e173
        have p174 : 0 ≤ (z3 + 1).toInt ∧ (z3 + 1).toInt ≤ 4 := by omega
        have := ar_at (h160.2.2.2.2.1) v172
        have := sq_b (a := (s0.2.1 1 (Int32.toNatClampNeg z3))) (by omega) (by omega)
        have e175 := tq_add z2 ((s0.2.1 1 (Int32.toNatClampNeg z3)) * (s0.2.1 1 (Int32.toNatClampNeg z3)))
        try rw [Int.emod_eq_of_lt (show 0 ≤ (z2).toInt + ((s0.2.1 1 (Int32.toNatClampNeg z3)) * (s0.2.1 1 (Int32.toNatClampNeg z3))).toInt + 2147483648 by omega) (show (z2).toInt + ((s0.2.1 1 (Int32.toNatClampNeg z3)) * (s0.2.1 1 (Int32.toNatClampNeg z3))).toInt + 2147483648 < 4294967296 by omega)] at e175
        have p176 : 0 ≤ (z2 + ((s0.2.1 1 (Int32.toNatClampNeg z3)) * (s0.2.1 1 (Int32.toNatClampNeg z3)))).toInt ∧ (z2 + ((s0.2.1 1 (Int32.toNatClampNeg z3)) * (s0.2.1 1 (Int32.toNatClampNeg z3)))).toInt ≤ 1600 * (z3 + 1).toInt := by omega
        have p177 : 4 - (z3 + 1).toInt < ((n : Nat) : Int) := by (omega)
        exact ih _ _ _ p174 p176 p177
theorem wq_X0_entryStart {post : Int32 → Prop} {s0 : Bd} {x1 : Int32} {R W : Int} (h178 : bi (R) (W) s0) (k : ∀ (r : Int32), 0 ≤ (r).toInt ∧ (r).toInt ≤ 6400 → post r) : wp_X0_entryStart post s0 x1 := by
  unfold wp_X0_entryStart
  have := h178.1
  have := h178.2.1
  have := h178.2.2.1
  have := h178.2.2.2.1
  have := h178.2.2.2.2.2.2.2.2.2
  have p179 : 0 ≤ (0 : Int32).toInt ∧ (0 : Int32).toInt ≤ 4 := by (have := li_0; omega)
  have p180 : 0 ≤ (0 : Int32).toInt ∧ (0 : Int32).toInt ≤ 1600 * (0 : Int32).toInt := by (have := li_0; omega)
  obtain ⟨f181, g182⟩ := fu_e 50
  have p183 : 4 - (0 : Int32).toInt < (f181 : Int) := by (have := li_0; omega)
  refine ⟨f181, wq_X0_entryStart_L4 h178 (fun z1 z2 z3 q184 q185 => ?_) f181 _ _ _ p179 p180 p183⟩
  have p186 : 0 ≤ (z2).toInt ∧ (z2).toInt ≤ 6400 := by omega
  exact k _ p186
theorem wq_X0_entryCount {post : Int32 → Prop} {s0 : Bd} {R W : Int} (h187 : bi (R) (W) s0) (k : ∀ (r : Int32), 0 ≤ (r).toInt ∧ (r).toInt ≤ 6400 → post r) : wp_X0_entryCount post s0 := by
  unfold wp_X0_entryCount
  have := h187.1
  have := h187.2.1
  have := h187.2.2.1
  have := h187.2.2.2.1
  have := h187.2.2.2.2.2.2.2.2.2
  refine wq_X0_entryStart h187 (fun r_1 q188 => ?_)
  have p189 : 0 ≤ (r_1).toInt ∧ (r_1).toInt ≤ 6400 := by omega
  exact k _ p189
theorem wq_X0_copyAll {post : Bd → Prop} {s0 : Bd} {s1 : Bd} {R W R2 W2 : Int} (h190 : bi (R) (W) s0) (h191 : bi (R2) (W2) s1) (k : ∀ (u : Bd), bi (R2) (W2) u → post u) : wp_X0_copyAll post s0 s1 := by
  unfold wp_X0_copyAll
  have := h190.1
  have := h190.2.1
  have := h190.2.2.1
  have := h190.2.2.2.1
  have := h190.2.2.2.2.2.2.2.2.2
  have := h191.1
  have := h191.2.1
  have := h191.2.2.1
  have := h191.2.2.2.1
  have := h191.2.2.2.2.2.2.2.2.2
  refine wq_X0_copyAllButLog h190 h191 (fun u_2 q192 q193 => ?_)
  have := q192.1
  have := q192.2.1
  have := q192.2.2.1
  have := q192.2.2.2.2.2.2.2.2.2
  refine wq_X0_entryCount h191 (fun r_3 q194 => ?_)
  refine ⟨fun c195 => ?_, fun c196 => ?_⟩
  · replace c195 := q_le c195
    have := tq_ofn (n := u_2.2.2.2.1) (by omega)
    have := tq_ofn (n := s1.2.2.2.1) (by omega)
    have e197 := tq_ite (a := (Int32.ofNat s1.2.2.2.1)) (b := r_3) (x := (Int32.ofNat s1.2.2.2.1)) (y := r_3)
    refine ⟨(z_nlt (by have := li_0; omega)), ?_⟩
    refine ⟨(tn_0 (by omega)), ?_⟩
    refine ⟨(tn_0 (by omega)), ?_⟩
    have p198 : (u_2.1 0).toInt = R2 := by omega
    have p199 : (u_2.1 1).toInt = W2 := by omega
    have p200 : 0 ≤ (u_2.1 3).toInt ∧ (u_2.1 3).toInt ≤ 4 := by omega
    have p201 : 0 ≤ R2 ∧ R2 ≤ 6 ∧ 0 ≤ W2 ∧ W2 ≤ 10 ∧ 0 ≤ R2 * W2 ∧ R2 * W2 ≤ 40 := by omega
    have p202 : ar 4 (0) (40) (u_2.2.1 1) := q192.2.2.2.2.1
    have p203 : ar 40 (0) (3) (u_2.2.1 3) := q192.2.2.2.2.2.1
    have p204 : ar 40 (0) (39) (u_2.2.1 4) := q192.2.2.2.2.2.2.1
    have p205 : ar 40 (0) (39) (u_2.2.1 5) := q192.2.2.2.2.2.2.2.1
    have p206 : ar 40 (0) (39) (u_2.2.1 6) := q192.2.2.2.2.2.2.2.2.1
    have p207 : u_2.2.2.2.1 ≤ 6400 := by omega
    have B208 : bi (R2) (W2) (u_2.1, u_2.2.1, u_2.2.2.1, u_2.2.2.2.1, (va_cpy s1.2.2.2.2 u_2.2.2.2.2 (Int32.toNatClampNeg 0) (Int32.toNatClampNeg 0) (Int32.toNatClampNeg (if ((Int32.ofNat s1.2.2.2.1) < r_3) then (Int32.ofNat s1.2.2.2.1) else r_3)))) := ⟨p198, p199, p200, p201, p202, p203, p204, p205, p206, p207⟩
    exact k _ B208
  · replace c196 := q_nle c196
    have := tq_ofn (n := u_2.2.2.2.1) (by omega)
    refine ⟨(z_nlt (by have := li_0; omega)), ?_⟩
    refine ⟨(tn_le (by omega)), ?_⟩
    have := tq_ofn (n := s1.2.2.2.1) (by omega)
    have e209 := tq_ite (a := (Int32.ofNat s1.2.2.2.1)) (b := r_3) (x := (Int32.ofNat s1.2.2.2.1)) (y := r_3)
    refine ⟨(z_nlt (by have := li_0; omega)), ?_⟩
    refine ⟨(tn_0 (by omega)), ?_⟩
    refine ⟨(tn_0n (by omega)), ?_⟩
    have p210 : (u_2.1 0).toInt = R2 := by omega
    have p211 : (u_2.1 1).toInt = W2 := by omega
    have p212 : 0 ≤ (u_2.1 3).toInt ∧ (u_2.1 3).toInt ≤ 4 := by omega
    have p213 : 0 ≤ R2 ∧ R2 ≤ 6 ∧ 0 ≤ W2 ∧ W2 ≤ 10 ∧ 0 ≤ R2 * W2 ∧ R2 * W2 ≤ 40 := by omega
    have p214 : ar 4 (0) (40) (u_2.2.1 1) := q192.2.2.2.2.1
    have p215 : ar 40 (0) (3) (u_2.2.1 3) := q192.2.2.2.2.2.1
    have p216 : ar 40 (0) (39) (u_2.2.1 4) := q192.2.2.2.2.2.2.1
    have p217 : ar 40 (0) (39) (u_2.2.1 5) := q192.2.2.2.2.2.2.2.1
    have p218 : ar 40 (0) (39) (u_2.2.1 6) := q192.2.2.2.2.2.2.2.2.1
    have p219 : (Int32.toNatClampNeg r_3) ≤ 6400 := tn_le (by omega)
    have B220 : bi (R2) (W2) (u_2.1, u_2.2.1, u_2.2.2.1, (Int32.toNatClampNeg r_3), (va_cpy s1.2.2.2.2 (fun _ => 0) (Int32.toNatClampNeg 0) (Int32.toNatClampNeg 0) (Int32.toNatClampNeg (if ((Int32.ofNat s1.2.2.2.1) < r_3) then (Int32.ofNat s1.2.2.2.1) else r_3)))) := ⟨p210, p211, p212, p213, p214, p215, p216, p217, p218, p219⟩
    exact k _ B220
theorem wq_X0_isThere {post : Int32 → Prop} {s0 : Bd} {R W : Int} (h221 : bi (R) (W) s0) (k : ∀ (r : Int32), ((r).toInt = 1 ∧ 0 < R) ∨ ((r).toInt = 0 ∧ R ≤ 0) → post r) : wp_X0_isThere post s0 := by
  unfold wp_X0_isThere
  have := h221.1
  have := h221.2.1
  have := h221.2.2.1
  have := h221.2.2.2.1
  have := h221.2.2.2.2.2.2.2.2.2
  refine ⟨fun c222 => ?_, fun c223 => ?_⟩
  · replace c222 := q_le c222
    rw [li_0] at c222
    have p224 : ((0 : Int32).toInt = 1 ∧ 0 < R) ∨ ((0 : Int32).toInt = 0 ∧ R ≤ 0) := by (have := li_0; omega)
    exact k _ p224
  · replace c223 := q_nle c223
    rw [li_0] at c223
    have p225 : ((1 : Int32).toInt = 1 ∧ 0 < R) ∨ ((1 : Int32).toInt = 0 ∧ R ≤ 0) := by (have := li_1; omega)
    exact k _ p225
theorem wq_X0_hasRow {post : Int32 → Prop} {s0 : Bd} {x1 : Int32} {R W : Int} (h226 : bi (R) (W) s0) (k : ∀ (r : Int32), ((r).toInt = 1 ∧ 0 ≤ (x1).toInt ∧ (x1).toInt < R) ∨ ((r).toInt = 0 ∧ ((x1).toInt < 0 ∨ R ≤ (x1).toInt)) → post r) : wp_X0_hasRow post s0 x1 := by
  unfold wp_X0_hasRow
  have := h226.1
  have := h226.2.1
  have := h226.2.2.1
  have := h226.2.2.2.1
  have := h226.2.2.2.2.2.2.2.2.2
  refine ⟨fun c227 => ?_, fun c228 => ?_⟩
  · replace c227 := q_lt c227
    rw [li_0] at c227
    have p229 : ((0 : Int32).toInt = 1 ∧ 0 ≤ (x1).toInt ∧ (x1).toInt < R) ∨ ((0 : Int32).toInt = 0 ∧ ((x1).toInt < 0 ∨ R ≤ (x1).toInt)) := by (have := li_0; omega)
    exact k _ p229
  · replace c228 := q_nlt c228
    rw [li_0] at c228
    refine ⟨fun c230 => ?_, fun c231 => ?_⟩
    · replace c230 := q_le c230
      have p232 : ((0 : Int32).toInt = 1 ∧ 0 ≤ (x1).toInt ∧ (x1).toInt < R) ∨ ((0 : Int32).toInt = 0 ∧ ((x1).toInt < 0 ∨ R ≤ (x1).toInt)) := by (have := li_0; omega)
      exact k _ p232
    · replace c231 := q_nle c231
      have p233 : ((1 : Int32).toInt = 1 ∧ 0 ≤ (x1).toInt ∧ (x1).toInt < R) ∨ ((1 : Int32).toInt = 0 ∧ ((x1).toInt < 0 ∨ R ≤ (x1).toInt)) := by (have := li_1; omega)
      exact k _ p233
theorem wq_X0_hasDrum {post : Int32 → Prop} {s0 : Bd} {x1 : Int32} {R W : Int} (h234 : bi (R) (W) s0) (k : ∀ (r : Int32), ((r).toInt = 1 ∧ 0 ≤ (x1).toInt ∧ (x1).toInt < (s0.1 3).toInt) ∨ ((r).toInt = 0 ∧ ((x1).toInt < 0 ∨ (s0.1 3).toInt ≤ (x1).toInt)) → post r) : wp_X0_hasDrum post s0 x1 := by
  unfold wp_X0_hasDrum
  have := h234.1
  have := h234.2.1
  have := h234.2.2.1
  have := h234.2.2.2.1
  have := h234.2.2.2.2.2.2.2.2.2
  refine ⟨fun c235 => ?_, fun c236 => ?_⟩
  · replace c235 := q_lt c235
    rw [li_0] at c235
    have p237 : ((0 : Int32).toInt = 1 ∧ 0 ≤ (x1).toInt ∧ (x1).toInt < (s0.1 3).toInt) ∨ ((0 : Int32).toInt = 0 ∧ ((x1).toInt < 0 ∨ (s0.1 3).toInt ≤ (x1).toInt)) := by (have := li_0; omega)
    exact k _ p237
  · replace c236 := q_nlt c236
    rw [li_0] at c236
    refine ⟨fun c238 => ?_, fun c239 => ?_⟩
    · replace c238 := q_le c238
      have p240 : ((0 : Int32).toInt = 1 ∧ 0 ≤ (x1).toInt ∧ (x1).toInt < (s0.1 3).toInt) ∨ ((0 : Int32).toInt = 0 ∧ ((x1).toInt < 0 ∨ (s0.1 3).toInt ≤ (x1).toInt)) := by (have := li_0; omega)
      exact k _ p240
    · replace c239 := q_nle c239
      have p241 : ((1 : Int32).toInt = 1 ∧ 0 ≤ (x1).toInt ∧ (x1).toInt < (s0.1 3).toInt) ∨ ((1 : Int32).toInt = 0 ∧ ((x1).toInt < 0 ∨ (s0.1 3).toInt ≤ (x1).toInt)) := by (have := li_1; omega)
      exact k _ p241
theorem wq_X0_flapsOf {post : Int32 → Prop} {s0 : Bd} {x1 : Int32} {R W : Int} (h242 : bi (R) (W) s0) (h243 : 0 ≤ (x1).toInt ∧ (x1).toInt < 40) (k : ∀ (r : Int32), 0 ≤ (r).toInt ∧ (r).toInt ≤ 40 → post r) : wp_X0_flapsOf post s0 x1 := by
  unfold wp_X0_flapsOf
  have := h242.1
  have := h242.2.1
  have := h242.2.2.1
  have := h242.2.2.2.1
  have := h242.2.2.2.2.2.2.2.2.2
  have v244 : vp_in x1 40 := vi (by omega) (by omega)
  refine ⟨v244, ?_⟩
  refine ⟨fun c245 => ?_, fun c246 => ?_⟩
  · replace c245 := q_lt c245
    rw [li_0] at c245
    have := ar_at (h242.2.2.2.2.2.1) v244
    have p247 : 0 ≤ (0 : Int32).toInt ∧ (0 : Int32).toInt ≤ 40 := by (have := li_0; omega)
    exact k _ p247
  · replace c246 := q_nlt c246
    rw [li_0] at c246
    have := ar_at (h242.2.2.2.2.2.1) v244
    refine ⟨fun c248 => ?_, fun c249 => ?_⟩
    · replace c248 := q_le c248
      have p250 : 0 ≤ (0 : Int32).toInt ∧ (0 : Int32).toInt ≤ 40 := by (have := li_0; omega)
      exact k _ p250
    · replace c249 := q_nle c249
      have v251 : vp_in (s0.2.1 3 (Int32.toNatClampNeg x1)) 4 := vi (by omega) (by omega)
      refine ⟨v251, ?_⟩
      have := ar_at (h242.2.2.2.2.1) v251
      have p252 : 0 ≤ (s0.2.1 1 (Int32.toNatClampNeg (s0.2.1 3 (Int32.toNatClampNeg x1)))).toInt ∧ (s0.2.1 1 (Int32.toNatClampNeg (s0.2.1 3 (Int32.toNatClampNeg x1)))).toInt ≤ 40 := by omega
      exact k _ p252
theorem wq_X0_hasFlap {post : Int32 → Prop} {s0 : Bd} {x1 : Int32} {x2 : Int32} {R W : Int} (h253 : bi (R) (W) s0) (k : ∀ (r : Int32), (r).toInt = 0 ∨ ((r).toInt = 1 ∧ 0 ≤ (x1).toInt ∧ (x1).toInt < R * W ∧ 0 ≤ (x2).toInt ∧ (x2).toInt < 40) → post r) : wp_X0_hasFlap post s0 x1 x2 := by
  unfold wp_X0_hasFlap
  have := h253.1
  have := h253.2.1
  have := h253.2.2.1
  have := h253.2.2.2.1
  have := h253.2.2.2.2.2.2.2.2.2
  refine wq_X0_hasCell h253 (fun r_1 q254 => ?_)
  refine ⟨fun c255 => ?_, fun c256 => ?_⟩
  · replace c255 := q_eq c255
    rw [li_0] at c255
    have p257 : (0 : Int32).toInt = 0 ∨ ((0 : Int32).toInt = 1 ∧ 0 ≤ (x1).toInt ∧ (x1).toInt < R * W ∧ 0 ≤ (x2).toInt ∧ (x2).toInt < 40) := by (have := li_0; omega)
    exact k _ p257
  · replace c256 := q_neq c256
    rw [li_0] at c256
    refine ⟨fun c258 => ?_, fun c259 => ?_⟩
    · replace c258 := q_lt c258
      rw [li_0] at c258
      have p260 : (0 : Int32).toInt = 0 ∨ ((0 : Int32).toInt = 1 ∧ 0 ≤ (x1).toInt ∧ (x1).toInt < R * W ∧ 0 ≤ (x2).toInt ∧ (x2).toInt < 40) := by (have := li_0; omega)
      exact k _ p260
    · replace c259 := q_nlt c259
      rw [li_0] at c259
      have p261 : 0 ≤ (x1).toInt ∧ (x1).toInt < 40 := by omega
      refine wq_X0_flapsOf h253 p261 (fun r_5 q262 => ?_)
      refine ⟨fun c263 => ?_, fun c264 => ?_⟩
      · replace c263 := q_le c263
        have p265 : (0 : Int32).toInt = 0 ∨ ((0 : Int32).toInt = 1 ∧ 0 ≤ (x1).toInt ∧ (x1).toInt < R * W ∧ 0 ≤ (x2).toInt ∧ (x2).toInt < 40) := by (have := li_0; omega)
        exact k _ p265
      · replace c264 := q_nle c264
        have p266 : (1 : Int32).toInt = 0 ∨ ((1 : Int32).toInt = 1 ∧ 0 ≤ (x1).toInt ∧ (x1).toInt < R * W ∧ 0 ≤ (x2).toInt ∧ (x2).toInt < 40) := by (have := li_1; omega)
        exact k _ p266
theorem wq_X0_flapsOn {post : Int32 → Prop} {s0 : Bd} {x1 : Int32} {R W : Int} (h267 : bi (R) (W) s0) (k : ∀ (r : Int32), 0 ≤ (r).toInt ∧ (r).toInt ≤ 40 → (r).toInt = 0 ∨ (0 ≤ (x1).toInt ∧ (x1).toInt < 4) → post r) : wp_X0_flapsOn post s0 x1 := by
  unfold wp_X0_flapsOn
  have := h267.1
  have := h267.2.1
  have := h267.2.2.1
  have := h267.2.2.2.1
  have := h267.2.2.2.2.2.2.2.2.2
  refine ⟨fun c268 => ?_, fun c269 => ?_⟩
  · replace c268 := q_lt c268
    rw [li_0] at c268
    have p270 : 0 ≤ (0 : Int32).toInt ∧ (0 : Int32).toInt ≤ 40 := by (have := li_0; omega)
    have p271 : (0 : Int32).toInt = 0 ∨ (0 ≤ (x1).toInt ∧ (x1).toInt < 4) := by (have := li_0; omega)
    exact k _ p270 p271
  · replace c269 := q_nlt c269
    rw [li_0] at c269
    refine ⟨fun c272 => ?_, fun c273 => ?_⟩
    · replace c272 := q_le c272
      have p274 : 0 ≤ (0 : Int32).toInt ∧ (0 : Int32).toInt ≤ 40 := by (have := li_0; omega)
      have p275 : (0 : Int32).toInt = 0 ∨ (0 ≤ (x1).toInt ∧ (x1).toInt < 4) := by (have := li_0; omega)
      exact k _ p274 p275
    · replace c273 := q_nle c273
      have v276 : vp_in x1 4 := vi (by omega) (by omega)
      refine ⟨v276, ?_⟩
      have := ar_at (h267.2.2.2.2.1) v276
      have p277 : 0 ≤ (s0.2.1 1 (Int32.toNatClampNeg x1)).toInt ∧ (s0.2.1 1 (Int32.toNatClampNeg x1)).toInt ≤ 40 := by omega
      have p278 : (s0.2.1 1 (Int32.toNatClampNeg x1)).toInt = 0 ∨ (0 ≤ (x1).toInt ∧ (x1).toInt < 4) := by omega
      exact k _ p277 p278

theorem wq_X0_isMovable {post : Int32 → Prop} {s0 : Bd} {x1 : Int32} {x2 : Int32} {R W : Int} (h279 : bi (R) (W) s0) (k : ∀ (r : Int32), (r).toInt = 0 ∨ ((r).toInt = 1 ∧ 0 ≤ (x1).toInt ∧ (x1).toInt < 4 ∧ 0 < (x2).toInt ∧ (x2).toInt < 40) → post r) : wp_X0_isMovable post s0 x1 x2 := by
  unfold wp_X0_isMovable
  have := h279.1
  have := h279.2.1
  have := h279.2.2.1
  have := h279.2.2.2.1
  have := h279.2.2.2.2.2.2.2.2.2
  refine ⟨fun c280 => ?_, fun c281 => ?_⟩
  · replace c280 := q_le c280
    rw [li_0] at c280
    have p282 : (0 : Int32).toInt = 0 ∨ ((0 : Int32).toInt = 1 ∧ 0 ≤ (x1).toInt ∧ (x1).toInt < 4 ∧ 0 < (x2).toInt ∧ (x2).toInt < 40) := by (have := li_0; omega)
    exact k _ p282
  · replace c281 := q_nle c281
    rw [li_0] at c281
    refine wq_X0_flapsOn h279 (fun r_2 q283 q284 => ?_)
    refine ⟨fun c285 => ?_, fun c286 => ?_⟩
    · replace c285 := q_le c285
      have p287 : (0 : Int32).toInt = 0 ∨ ((0 : Int32).toInt = 1 ∧ 0 ≤ (x1).toInt ∧ (x1).toInt < 4 ∧ 0 < (x2).toInt ∧ (x2).toInt < 40) := by (have := li_0; omega)
      exact k _ p287
    · replace c286 := q_nle c286
      have p288 : (1 : Int32).toInt = 0 ∨ ((1 : Int32).toInt = 1 ∧ 0 ≤ (x1).toInt ∧ (x1).toInt < 4 ∧ 0 < (x2).toInt ∧ (x2).toInt < 40) := by (have := li_1; omega)
      exact k _ p288
theorem wq_X0_currentOf {post : Int32 → Prop} {s0 : Bd} {x1 : Int32} {R W : Int} (h289 : bi (R) (W) s0) (h290 : 0 ≤ (x1).toInt ∧ (x1).toInt < 40) (k : ∀ (r : Int32), post r) : wp_X0_currentOf post s0 x1 := by
  unfold wp_X0_currentOf
  have := h289.1
  have := h289.2.1
  have := h289.2.2.1
  have := h289.2.2.2.1
  have := h289.2.2.2.2.2.2.2.2.2
  have v291 : vp_in x1 40 := vi (by omega) (by omega)
  refine ⟨v291, ?_⟩
  refine ⟨fun c292 => ?_, fun c293 => ?_⟩
  · replace c292 := q_lt c292
    rw [li_0] at c292
    have := ar_at (h289.2.2.2.2.2.1) v291
    exact k _
  · replace c293 := q_nlt c293
    rw [li_0] at c293
    have := ar_at (h289.2.2.2.2.2.1) v291
    refine ⟨fun c294 => ?_, fun c295 => ?_⟩
    · replace c294 := q_le c294
      exact k _
    · replace c295 := q_nle c295
      have v296 : vp_in (s0.2.1 3 (Int32.toNatClampNeg x1)) 4 := vi (by omega) (by omega)
      refine ⟨v296, ?_⟩
      exact k _
theorem wq_X0_signOf {post : Int32 → Prop} {s0 : Bd} {x1 : Int32} {x2 : Int32} {R W : Int} (h297 : bi (R) (W) s0) (k : ∀ (r : Int32), post r) : wp_X0_signOf post s0 x1 x2 := by
  unfold wp_X0_signOf
  have := h297.1
  have := h297.2.1
  have := h297.2.2.1
  have := h297.2.2.2.1
  have := h297.2.2.2.2.2.2.2.2.2
  refine ⟨fun c298 => ?_, fun c299 => ?_⟩
  · replace c298 := q_lt c298
    rw [li_0] at c298
    exact k _
  · replace c299 := q_nlt c299
    rw [li_0] at c299
    refine ⟨fun c300 => ?_, fun c301 => ?_⟩
    · replace c300 := q_le c300
      exact k _
    · replace c301 := q_nle c301
      refine ⟨fun c302 => ?_, fun c303 => ?_⟩
      · replace c302 := q_lt c302
        rw [li_0] at c302
        exact k _
      · replace c303 := q_nlt c303
        rw [li_0] at c303
        have v304 : vp_in x1 4 := vi (by omega) (by omega)
        refine ⟨v304, ?_⟩
        refine ⟨fun c305 => ?_, fun c306 => ?_⟩
        · replace c305 := q_lt c305
          have := ar_at (h297.2.2.2.2.1) v304
          have e307 := tq_mulr li_40 x1
          try rw [Int.emod_eq_of_lt (show 0 ≤ (x1).toInt * 40 + 2147483648 by omega) (show (x1).toInt * 40 + 2147483648 < 4294967296 by omega)] at e307
          have e308 := tq_add (x1 * 40) x2
          try rw [Int.emod_eq_of_lt (show 0 ≤ (x1 * 40).toInt + (x2).toInt + 2147483648 by omega) (show (x1 * 40).toInt + (x2).toInt + 2147483648 < 4294967296 by omega)] at e308
          have v309 : vp_in ((x1 * 40) + x2) 160 := vi (by omega) (by omega)
          refine ⟨v309, ?_⟩
          exact k _
        · replace c306 := q_nlt c306
          have := ar_at (h297.2.2.2.2.1) v304
          exact k _
theorem wq_X0_signOn {post : Int32 → Prop} {s0 : Bd} {x1 : Int32} {x2 : Int32} {R W : Int} (h310 : bi (R) (W) s0) (h311 : 0 ≤ (x1).toInt ∧ (x1).toInt < 40) (k : ∀ (r : Int32), post r) : wp_X0_signOn post s0 x1 x2 := by
  unfold wp_X0_signOn
  have := h310.1
  have := h310.2.1
  have := h310.2.2.1
  have := h310.2.2.2.1
  have := h310.2.2.2.2.2.2.2.2.2
  have v312 : vp_in x1 40 := vi (by omega) (by omega)
  refine ⟨v312, ?_⟩
  refine wq_X0_signOf h310 (fun r_2 => ?_)
  exact k _
theorem wq_X0_wantedSign {post : Int32 → Prop} {s0 : Bd} {x1 : Int32} {R W : Int} (h313 : bi (R) (W) s0) (h314 : 0 ≤ (x1).toInt ∧ (x1).toInt < 40) (k : ∀ (r : Int32), post r) : wp_X0_wantedSign post s0 x1 := by
  unfold wp_X0_wantedSign
  have := h313.1
  have := h313.2.1
  have := h313.2.2.1
  have := h313.2.2.2.1
  have := h313.2.2.2.2.2.2.2.2.2
  have v315 : vp_in x1 40 := vi (by omega) (by omega)
  refine ⟨v315, ?_⟩
  have p316 : 0 ≤ (x1).toInt ∧ (x1).toInt < 40 := by omega
  refine wq_X0_signOn h313 p316 (fun r_2 => ?_)
  exact k _
theorem wq_X0_showsWrong {post : Int32 → Prop} {s0 : Bd} {x1 : Int32} {R W : Int} (h317 : bi (R) (W) s0) (h318 : 0 ≤ (x1).toInt ∧ (x1).toInt < 40) (k : ∀ (r : Int32), (r).toInt = 0 ∨ (r).toInt = 1 → post r) : wp_X0_showsWrong post s0 x1 := by
  unfold wp_X0_showsWrong
  have := h317.1
  have := h317.2.1
  have := h317.2.2.1
  have := h317.2.2.2.1
  have := h317.2.2.2.2.2.2.2.2.2
  have v319 : vp_in x1 40 := vi (by omega) (by omega)
  refine ⟨v319, ?_⟩
  have p320 : 0 ≤ (x1).toInt ∧ (x1).toInt < 40 := by omega
  refine wq_X0_signOn h317 p320 (fun r_2 => ?_)
  have p321 : 0 ≤ (x1).toInt ∧ (x1).toInt < 40 := by omega
  refine wq_X0_wantedSign h317 p321 (fun r_4 => ?_)
  refine ⟨fun c322 => ?_, fun c323 => ?_⟩
  · replace c322 := q_eq c322
    have p324 : (0 : Int32).toInt = 0 ∨ (0 : Int32).toInt = 1 := by (have := li_0; omega)
    exact k _ p324
  · replace c323 := q_neq c323
    have p325 : (1 : Int32).toInt = 0 ∨ (1 : Int32).toInt = 1 := by (have := li_1; omega)
    exact k _ p325
theorem wq_X0_wrongCount_L4 {s0 : Bd} {post : Int32 → Prop} {e29 : Int32 → Int32 → Prop} {R W : Int} (h326 : bi (R) (W) s0) (ke29 : ∀ (z1 : Int32) (z2 : Int32), 0 ≤ (z2).toInt ∧ (z2).toInt ≤ R * W → e29 z1 z2) : ∀ (n : Nat) (z1 : Int32) (z2 : Int32), 0 ≤ (z2).toInt ∧ (z2).toInt ≤ R * W → R * W - (z2).toInt < (n : Int) → wp_X0_wrongCount_L4 s0 post e29 n z1 z2 := by
  have := h326.1
  have := h326.2.1
  have := h326.2.2.1
  have := h326.2.2.2.1
  have := h326.2.2.2.2.2.2.2.2.2
  intro n
  induction n with
  | zero =>
    intro z1 z2 i327 i328
    exfalso
    omega
  | succ n ih =>
    intro z1 z2 i327 i328
    unfold wp_X0_wrongCount_L4
    refine wq_X0_cells h326 (fun r_1 q329 => ?_)
    refine ⟨fun c330 => ?_, fun c331 => ?_⟩
    · replace c330 := q_le c330
      have p332 : 0 ≤ (z2).toInt ∧ (z2).toInt ≤ R * W := by omega
      exact ke29 _ _ p332
    · replace c331 := q_nle c331
      have p333 : 0 ≤ (z2).toInt ∧ (z2).toInt < 40 := by omega
      refine wq_X0_showsWrong h326 p333 (fun r_4 q334 => ?_)
      refine ⟨fun c335 => ?_, fun c336 => ?_⟩
      · replace c335 := q_eq c335
        rw [li_0] at c335
        have e337 := tq_addr li_1 z2
        try rw [Int.emod_eq_of_lt (show 0 ≤ (z2).toInt + 1 + 2147483648 by omega) (show (z2).toInt + 1 + 2147483648 < 4294967296 by omega)] at e337
        have p338 : 0 ≤ (z2 + 1).toInt ∧ (z2 + 1).toInt ≤ R * W := by omega
        have p339 : R * W - (z2 + 1).toInt < ((n : Nat) : Int) := by (omega)
        exact ih _ _ p338 p339
      · replace c336 := q_neq c336
        rw [li_0] at c336
        have e340 := tq_addr li_1 z2
        try rw [Int.emod_eq_of_lt (show 0 ≤ (z2).toInt + 1 + 2147483648 by omega) (show (z2).toInt + 1 + 2147483648 < 4294967296 by omega)] at e340
        have p341 : 0 ≤ (z2 + 1).toInt ∧ (z2 + 1).toInt ≤ R * W := by omega
        have p342 : R * W - (z2 + 1).toInt < ((n : Nat) : Int) := by (omega)
        exact ih _ _ p341 p342
theorem wq_X0_wrongCount {post : Int32 → Prop} {s0 : Bd} {R W : Int} (h343 : bi (R) (W) s0) (k : ∀ (r : Int32), post r) : wp_X0_wrongCount post s0 := by
  unfold wp_X0_wrongCount
  have := h343.1
  have := h343.2.1
  have := h343.2.2.1
  have := h343.2.2.2.1
  have := h343.2.2.2.2.2.2.2.2.2
  have p344 : 0 ≤ (0 : Int32).toInt ∧ (0 : Int32).toInt ≤ R * W := by (have := li_0; omega)
  obtain ⟨f345, g346⟩ := fu_e 50
  have p347 : R * W - (0 : Int32).toInt < (f345 : Int) := by (have := li_0; omega)
  refine ⟨f345, wq_X0_wrongCount_L4 h343 (fun z1 z2 q348 => ?_) f345 _ _ p344 p347⟩
  exact k _
theorem wq_X0_sumOf_8_L4 {s0 : Bd} {post : Int32 → Prop} {e30 : Int32 → Int32 → Prop} {R W : Int} (h349 : bi (R) (W) s0) (ke30 : ∀ (z2 : Int32) (z3 : Int32), 0 ≤ (z3).toInt ∧ (z3).toInt ≤ R * W → e30 z2 z3) : ∀ (n : Nat) (z2 : Int32) (z3 : Int32), 0 ≤ (z3).toInt ∧ (z3).toInt ≤ R * W → R * W - (z3).toInt < (n : Int) → wp_X0_sumOf_8_L4 s0 post e30 n z2 z3 := by
  have := h349.1
  have := h349.2.1
  have := h349.2.2.1
  have := h349.2.2.2.1
  have := h349.2.2.2.2.2.2.2.2.2
  intro n
  induction n with
  | zero =>
    intro z2 z3 i350 i351
    exfalso
    omega
  | succ n ih =>
    intro z2 z3 i350 i351
    unfold wp_X0_sumOf_8_L4
    refine wq_X0_cells h349 (fun r_1 q352 => ?_)
    refine ⟨fun c353 => ?_, fun c354 => ?_⟩
    · replace c353 := q_le c353
      have p355 : 0 ≤ (z3).toInt ∧ (z3).toInt ≤ R * W := by omega
      exact ke30 _ _ p355
    · replace c354 := q_nle c354
      refine ⟨fun c356 => ?_, fun c357 => ?_⟩
      · replace c356 := q_le c356
        rw [li_40] at c356
        have p358 : 0 ≤ (z3).toInt ∧ (z3).toInt ≤ R * W := by omega
        exact ke30 _ _ p358
      · replace c357 := q_nle c357
        rw [li_40] at c357
        have v359 : vp_in z3 40 := vi (by omega) (by omega)
        refine ⟨v359, ?_⟩
        have e360 := tq_addr li_1 z3
        try rw [Int.emod_eq_of_lt (show 0 ≤ (z3).toInt + 1 + 2147483648 by omega) (show (z3).toInt + 1 + 2147483648 < 4294967296 by omega)] at e360
        have p361 : 0 ≤ (z3 + 1).toInt ∧ (z3 + 1).toInt ≤ R * W := by omega
        have p362 : R * W - (z3 + 1).toInt < ((n : Nat) : Int) := by (omega)
        exact ih _ _ p361 p362
theorem wq_X0_sumOf_8 {post : Int32 → Prop} {s0 : Bd} {R W : Int} (h363 : bi (R) (W) s0) (k : ∀ (r : Int32), post r) : wp_X0_sumOf_8 post s0 := by
  unfold wp_X0_sumOf_8
  have := h363.1
  have := h363.2.1
  have := h363.2.2.1
  have := h363.2.2.2.1
  have := h363.2.2.2.2.2.2.2.2.2
  have p364 : 0 ≤ (0 : Int32).toInt ∧ (0 : Int32).toInt ≤ R * W := by (have := li_0; omega)
  obtain ⟨f365, g366⟩ := fu_e 50
  have p367 : R * W - (0 : Int32).toInt < (f365 : Int) := by (have := li_0; omega)
  refine ⟨f365, wq_X0_sumOf_8_L4 h363 (fun z2 z3 q368 => ?_) f365 _ _ p364 p367⟩
  exact k _

theorem wq_X0_sumOf_9_L4 {s0 : Bd} {post : Int32 → Prop} {e30 : Int32 → Int32 → Prop} {R W : Int} (h369 : bi (R) (W) s0) (ke30 : ∀ (z2 : Int32) (z3 : Int32), 0 ≤ (z3).toInt ∧ (z3).toInt ≤ R * W → e30 z2 z3) : ∀ (n : Nat) (z2 : Int32) (z3 : Int32), 0 ≤ (z3).toInt ∧ (z3).toInt ≤ R * W → R * W - (z3).toInt < (n : Int) → wp_X0_sumOf_9_L4 s0 post e30 n z2 z3 := by
  have := h369.1
  have := h369.2.1
  have := h369.2.2.1
  have := h369.2.2.2.1
  have := h369.2.2.2.2.2.2.2.2.2
  intro n
  induction n with
  | zero =>
    intro z2 z3 i370 i371
    exfalso
    omega
  | succ n ih =>
    intro z2 z3 i370 i371
    unfold wp_X0_sumOf_9_L4
    refine wq_X0_cells h369 (fun r_1 q372 => ?_)
    refine ⟨fun c373 => ?_, fun c374 => ?_⟩
    · replace c373 := q_le c373
      have p375 : 0 ≤ (z3).toInt ∧ (z3).toInt ≤ R * W := by omega
      exact ke30 _ _ p375
    · replace c374 := q_nle c374
      refine ⟨fun c376 => ?_, fun c377 => ?_⟩
      · replace c376 := q_le c376
        rw [li_40] at c376
        have p378 : 0 ≤ (z3).toInt ∧ (z3).toInt ≤ R * W := by omega
        exact ke30 _ _ p378
      · replace c377 := q_nle c377
        rw [li_40] at c377
        have v379 : vp_in z3 40 := vi (by omega) (by omega)
        refine ⟨v379, ?_⟩
        have e380 := tq_addr li_1 z3
        try rw [Int.emod_eq_of_lt (show 0 ≤ (z3).toInt + 1 + 2147483648 by omega) (show (z3).toInt + 1 + 2147483648 < 4294967296 by omega)] at e380
        have p381 : 0 ≤ (z3 + 1).toInt ∧ (z3 + 1).toInt ≤ R * W := by omega
        have p382 : R * W - (z3 + 1).toInt < ((n : Nat) : Int) := by (omega)
        exact ih _ _ p381 p382
theorem wq_X0_sumOf_9 {post : Int32 → Prop} {s0 : Bd} {R W : Int} (h383 : bi (R) (W) s0) (k : ∀ (r : Int32), post r) : wp_X0_sumOf_9 post s0 := by
  unfold wp_X0_sumOf_9
  have := h383.1
  have := h383.2.1
  have := h383.2.2.1
  have := h383.2.2.2.1
  have := h383.2.2.2.2.2.2.2.2.2
  have p384 : 0 ≤ (0 : Int32).toInt ∧ (0 : Int32).toInt ≤ R * W := by (have := li_0; omega)
  obtain ⟨f385, g386⟩ := fu_e 50
  have p387 : R * W - (0 : Int32).toInt < (f385 : Int) := by (have := li_0; omega)
  refine ⟨f385, wq_X0_sumOf_9_L4 h383 (fun z2 z3 q388 => ?_) f385 _ _ p384 p387⟩
  exact k _
theorem wq_X0_swapSigns {post : Bd → Prop} {s0 : Bd} {x1 : Int32} {x2 : Int32} {x3 : Int32} {R W : Int} (h389 : bi (R) (W) s0) (k : ∀ (u : Bd), bi (R) (W) u → post u) : wp_X0_swapSigns post s0 x1 x2 x3 := by
  unfold wp_X0_swapSigns
  have := h389.1
  have := h389.2.1
  have := h389.2.2.1
  have := h389.2.2.2.1
  have := h389.2.2.2.2.2.2.2.2.2
  refine wq_X0_isMovable h389 (fun r_1 q390 => ?_)
  refine ⟨fun c391 => ?_, fun c392 => ?_⟩
  · replace c391 := q_eq c391
    rw [li_0] at c391
    exact k _ h389
  · replace c392 := q_neq c392
    rw [li_0] at c392
    refine wq_X0_isMovable h389 (fun r_4 q393 => ?_)
    refine ⟨fun c394 => ?_, fun c395 => ?_⟩
    · replace c394 := q_neq c394
      rw [li_0] at c394
      have e396 := tq_mulr li_40 x1
      try rw [Int.emod_eq_of_lt (show 0 ≤ (x1).toInt * 40 + 2147483648 by omega) (show (x1).toInt * 40 + 2147483648 < 4294967296 by omega)] at e396
      have e397 := tq_add (x1 * 40) x2
      try rw [Int.emod_eq_of_lt (show 0 ≤ (x1 * 40).toInt + (x2).toInt + 2147483648 by omega) (show (x1 * 40).toInt + (x2).toInt + 2147483648 < 4294967296 by omega)] at e397
      have v398 : vp_in ((x1 * 40) + x2) 160 := vi (by omega) (by omega)
      refine ⟨v398, ?_⟩
      have e399 := tq_add (x1 * 40) x3
      try rw [Int.emod_eq_of_lt (show 0 ≤ (x1 * 40).toInt + (x3).toInt + 2147483648 by omega) (show (x1 * 40).toInt + (x3).toInt + 2147483648 < 4294967296 by omega)] at e399
      have v400 : vp_in ((x1 * 40) + x3) 160 := vi (by omega) (by omega)
      refine ⟨v400, ?_⟩
      refine ⟨v398, ?_⟩
      refine ⟨v400, ?_⟩
      have p401 : (s0.1 0).toInt = R := by omega
      have p402 : (s0.1 1).toInt = W := by omega
      have p403 : 0 ≤ (s0.1 3).toInt ∧ (s0.1 3).toInt ≤ 4 := by omega
      have p404 : 0 ≤ R ∧ R ≤ 6 ∧ 0 ≤ W ∧ W ≤ 10 ∧ 0 ≤ R * W ∧ R * W ≤ 40 := by omega
      have p405 : ar 4 (0) (40) (s0.2.1 1) := h389.2.2.2.2.1
      have p406 : ar 40 (0) (3) (s0.2.1 3) := h389.2.2.2.2.2.1
      have p407 : ar 40 (0) (39) (s0.2.1 4) := h389.2.2.2.2.2.2.1
      have p408 : ar 40 (0) (39) (s0.2.1 5) := h389.2.2.2.2.2.2.2.1
      have p409 : ar 40 (0) (39) (s0.2.1 6) := h389.2.2.2.2.2.2.2.2.1
      have p410 : s0.2.2.2.1 ≤ 6400 := by omega
      have B411 : bi (R) (W) (s0.1, (va_up s0.2.1 2 (upd (upd (s0.2.1 2) (Int32.toNatClampNeg ((x1 * 40) + x2)) (s0.2.1 2 (Int32.toNatClampNeg ((x1 * 40) + x3)))) (Int32.toNatClampNeg ((x1 * 40) + x3)) (s0.2.1 2 (Int32.toNatClampNeg ((x1 * 40) + x2))))), s0.2.2.1, s0.2.2.2.1, s0.2.2.2.2) := ⟨p401, p402, p403, p404, p405, p406, p407, p408, p409, p410⟩
      exact k _ B411
    · replace c395 := q_eq c395
      rw [li_0] at c395
      exact k _ h389
theorem wq_X0_cellsWith_L4 {s0 : Bd} {post : Int32 → Prop} {e31 : Int32 → Int32 → Int32 → Prop} {R W : Int} (h412 : bi (R) (W) s0) (ke31 : ∀ (z1 : Int32) (z2 : Int32) (z3 : Int32), 0 ≤ (z3).toInt ∧ (z3).toInt ≤ R * W → e31 z1 z2 z3) : ∀ (n : Nat) (z1 : Int32) (z2 : Int32) (z3 : Int32), 0 ≤ (z3).toInt ∧ (z3).toInt ≤ R * W → R * W - (z3).toInt < (n : Int) → wp_X0_cellsWith_L4 s0 post e31 n z1 z2 z3 := by
  have := h412.1
  have := h412.2.1
  have := h412.2.2.1
  have := h412.2.2.2.1
  have := h412.2.2.2.2.2.2.2.2.2
  intro n
  induction n with
  | zero =>
    intro z1 z2 z3 i413 i414
    exfalso
    omega
  | succ n ih =>
    intro z1 z2 z3 i413 i414
    unfold wp_X0_cellsWith_L4
    refine wq_X0_cells h412 (fun r_1 q415 => ?_)
    refine ⟨fun c416 => ?_, fun c417 => ?_⟩
    · replace c416 := q_le c416
      have p418 : 0 ≤ (z3).toInt ∧ (z3).toInt ≤ R * W := by omega
      exact ke31 _ _ _ p418
    · replace c417 := q_nle c417
      have v419 : vp_in z3 40 := vi (by omega) (by omega)
      refine ⟨v419, ?_⟩
      refine ⟨fun c420 => ?_, fun c421 => ?_⟩
      · replace c420 := q_neq c420
        have := ar_at (h412.2.2.2.2.2.1) v419
        have e422 := tq_addr li_1 z3
        try rw [Int.emod_eq_of_lt (show 0 ≤ (z3).toInt + 1 + 2147483648 by omega) (show (z3).toInt + 1 + 2147483648 < 4294967296 by omega)] at e422
        have p423 : 0 ≤ (z3 + 1).toInt ∧ (z3 + 1).toInt ≤ R * W := by omega
        have p424 : R * W - (z3 + 1).toInt < ((n : Nat) : Int) := by (omega)
        exact ih _ _ _ p423 p424
      · replace c421 := q_eq c421
        have := ar_at (h412.2.2.2.2.2.1) v419
        have e425 := tq_addr li_1 z3
        try rw [Int.emod_eq_of_lt (show 0 ≤ (z3).toInt + 1 + 2147483648 by omega) (show (z3).toInt + 1 + 2147483648 < 4294967296 by omega)] at e425
        have p426 : 0 ≤ (z3 + 1).toInt ∧ (z3 + 1).toInt ≤ R * W := by omega
        have p427 : R * W - (z3 + 1).toInt < ((n : Nat) : Int) := by (omega)
        exact ih _ _ _ p426 p427
theorem wq_X0_cellsWith {post : Int32 → Prop} {s0 : Bd} {x1 : Int32} {R W : Int} (h428 : bi (R) (W) s0) (k : ∀ (r : Int32), post r) : wp_X0_cellsWith post s0 x1 := by
  unfold wp_X0_cellsWith
  have := h428.1
  have := h428.2.1
  have := h428.2.2.1
  have := h428.2.2.2.1
  have := h428.2.2.2.2.2.2.2.2.2
  have p429 : 0 ≤ (0 : Int32).toInt ∧ (0 : Int32).toInt ≤ R * W := by (have := li_0; omega)
  obtain ⟨f430, g431⟩ := fu_e 50
  have p432 : R * W - (0 : Int32).toInt < (f430 : Int) := by (have := li_0; omega)
  refine ⟨f430, wq_X0_cellsWith_L4 h428 (fun z1 z2 z3 q433 => ?_) f430 _ _ _ p429 p432⟩
  exact k _
theorem wq_X0_flapsWith_L19 {s0 : Bd} {post : Int32 → Prop} {e49 : Int32 → Int32 → Int32 → Int32 → Int32 → Int32 → Int32 → Prop} {R W : Int} (h434 : bi (R) (W) s0) (ke49 : ∀ (z1 : Int32) (z2 : Int32) (z3 : Int32) (z4 : Int32) (z5 : Int32) (z6 : Int32) (z7 : Int32), 0 ≤ (z7).toInt ∧ (z7).toInt ≤ 41 → (z5).toInt ≤ 40 → (z5).toInt ≤ (z7).toInt ∨ (0 ≤ (z4).toInt ∧ (z4).toInt ≤ 120) → e49 z1 z2 z3 z4 z5 z6 z7) : ∀ (n : Nat) (z1 : Int32) (z2 : Int32) (z3 : Int32) (z4 : Int32) (z5 : Int32) (z6 : Int32) (z7 : Int32), 0 ≤ (z7).toInt ∧ (z7).toInt ≤ 41 → (z5).toInt ≤ 40 → (z5).toInt ≤ (z7).toInt ∨ (0 ≤ (z4).toInt ∧ (z4).toInt ≤ 120) → 41 - (z7).toInt < (n : Int) → wp_X0_flapsWith_L19 s0 post e49 n z1 z2 z3 z4 z5 z6 z7 := by
  have := h434.1
  have := h434.2.1
  have := h434.2.2.1
  have := h434.2.2.2.1
  have := h434.2.2.2.2.2.2.2.2.2
  intro n
  induction n with
  | zero =>
    intro z1 z2 z3 z4 z5 z6 z7 i435 i436 i437 i438
    exfalso
    omega
  | succ n ih =>
    intro z1 z2 z3 z4 z5 z6 z7 i435 i436 i437 i438
    unfold wp_X0_flapsWith_L19
    refine ⟨fun c439 => ?_, fun c440 => ?_⟩
    · replace c439 := q_le c439
      have p441 : 0 ≤ (z7).toInt ∧ (z7).toInt ≤ 41 := by omega
      have p442 : (z5).toInt ≤ 40 := by omega
      have p443 : (z5).toInt ≤ (z7).toInt ∨ (0 ≤ (z4).toInt ∧ (z4).toInt ≤ 120) := by omega
      exact ke49 _ _ _ _ _ _ _ p441 p442 p443
    · replace c440 := q_nle c440
      have e444 := tq_add z4 z7
      try rw [Int.emod_eq_of_lt (show 0 ≤ (z4).toInt + (z7).toInt + 2147483648 by omega) (show (z4).toInt + (z7).toInt + 2147483648 < 4294967296 by omega)] at e444
      have v445 : vp_in (z4 + z7) 160 := vi (by omega) (by omega)
      refine ⟨v445, ?_⟩
      refine ⟨fun c446 => ?_, fun c447 => ?_⟩
      · replace c446 := q_neq c446
        have e448 := tq_addr li_1 z7
        try rw [Int.emod_eq_of_lt (show 0 ≤ (z7).toInt + 1 + 2147483648 by omega) (show (z7).toInt + 1 + 2147483648 < 4294967296 by omega)] at e448
        have p449 : 0 ≤ (z7 + 1).toInt ∧ (z7 + 1).toInt ≤ 41 := by omega
        have p450 : (z5).toInt ≤ 40 := by omega
        have p451 : (z5).toInt ≤ (z7 + 1).toInt ∨ (0 ≤ (z4).toInt ∧ (z4).toInt ≤ 120) := by omega
        have p452 : 41 - (z7 + 1).toInt < ((n : Nat) : Int) := by (omega)
        exact ih _ _ _ _ _ _ _ p449 p450 p451 p452
      · replace c447 := q_eq c447
        have e453 := tq_addr li_1 z7
        try rw [Int.emod_eq_of_lt (show 0 ≤ (z7).toInt + 1 + 2147483648 by omega) (show (z7).toInt + 1 + 2147483648 < 4294967296 by omega)] at e453
        have p454 : 0 ≤ (z7 + 1).toInt ∧ (z7 + 1).toInt ≤ 41 := by omega
        have p455 : (z5).toInt ≤ 40 := by omega
        have p456 : (z5).toInt ≤ (z7 + 1).toInt ∨ (0 ≤ (z4).toInt ∧ (z4).toInt ≤ 120) := by omega
        have p457 : 41 - (z7 + 1).toInt < ((n : Nat) : Int) := by (omega)
        exact ih _ _ _ _ _ _ _ p454 p455 p456 p457
theorem wq_X0_flapsWith {post : Int32 → Prop} {s0 : Bd} {x1 x2 x3 : Int32} {R W : Int} (h1 : bi R W s0) (h2 : 0 ≤ x3.toInt ∧ x3.toInt ≤ 40) (k : ∀ r : Int32, post r) : wp_X0_flapsWith post s0 x1 x2 x3 := by
  unfold wp_X0_flapsWith
  have e40 : (40 : Int32).toInt = 40 := rfl
  refine wq_X0_flapsOn h1 (fun r q1 q2 => ?_)
  have hx : r.toInt ≤ x3.toInt ∨ (0 ≤ (x1 * 40).toInt ∧ (x1 * 40).toInt ≤ 120) := by
    rcases q2 with g | g
    · left
      omega
    · right
      have e := tq_mulr e40 x1
      rw [Int.emod_eq_of_lt (by omega) (by omega)] at e
      omega
  obtain ⟨nf, hf⟩ := fu_e 50
  exact ⟨nf, wq_X0_flapsWith_L19 h1 (fun _ _ _ _ _ _ _ _ _ _ => k _) nf _ _ _ _ _ _ _ (by omega) (by omega) hx (by omega)⟩
theorem wq_X0_drumHas {post : Int32 → Prop} {s0 : Bd} {x1 : Int32} {x2 : Int32} {R W : Int} (h458 : bi (R) (W) s0) (k : ∀ (r : Int32), (r).toInt = 0 ∨ (r).toInt = 1 → post r) : wp_X0_drumHas post s0 x1 x2 := by
  unfold wp_X0_drumHas
  have := h458.1
  have := h458.2.1
  have := h458.2.2.1
  have := h458.2.2.2.1
  have := h458.2.2.2.2.2.2.2.2.2
  have p459 : 0 ≤ ((0 : Int32)).toInt ∧ ((0 : Int32)).toInt ≤ 40 := by (have := li_0; omega)
  refine wq_X0_flapsWith h458 p459 (fun r_1 => ?_)
  refine ⟨fun c460 => ?_, fun c461 => ?_⟩
  · replace c460 := q_le c460
    rw [li_0] at c460
    have p462 : (0 : Int32).toInt = 0 ∨ (0 : Int32).toInt = 1 := by (have := li_0; omega)
    exact k _ p462
  · replace c461 := q_nle c461
    rw [li_0] at c461
    have p463 : (1 : Int32).toInt = 0 ∨ (1 : Int32).toInt = 1 := by (have := li_1; omega)
    exact k _ p463
theorem wq_X0_someDrumHas_L2 {s0 : Bd} {post : Int32 → Prop} {e27 : Int32 → Int32 → Prop} {R W : Int} (h464 : bi (R) (W) s0) (ke27 : ∀ (z1 : Int32) (z2 : Int32), 0 ≤ (z2).toInt ∧ (z2).toInt ≤ 4 → e27 z1 z2) (k : ∀ (r : Int32), (r).toInt = 0 ∨ (r).toInt = 1 → post r) : ∀ (n : Nat) (z1 : Int32) (z2 : Int32), 0 ≤ (z2).toInt ∧ (z2).toInt ≤ 4 → 4 - (z2).toInt < (n : Int) → wp_X0_someDrumHas_L2 s0 post e27 n z1 z2 := by
  have := h464.1
  have := h464.2.1
  have := h464.2.2.1
  have := h464.2.2.2.1
  have := h464.2.2.2.2.2.2.2.2.2
  intro n
  induction n with
  | zero =>
    intro z1 z2 i465 i466
    exfalso
    omega
  | succ n ih =>
    intro z1 z2 i465 i466
    unfold wp_X0_someDrumHas_L2
    refine ⟨fun c467 => ?_, fun c468 => ?_⟩
    · replace c467 := q_le c467
      have p469 : 0 ≤ (z2).toInt ∧ (z2).toInt ≤ 4 := by omega
      exact ke27 _ _ p469
    · replace c468 := q_nle c468
      refine wq_X0_drumHas h464 (fun r_2 q470 => ?_)
      refine ⟨fun c471 => ?_, fun c472 => ?_⟩
      · replace c471 := q_eq c471
        rw [li_0] at c471
        have e473 := tq_addr li_1 z2
        try rw [Int.emod_eq_of_lt (show 0 ≤ (z2).toInt + 1 + 2147483648 by omega) (show (z2).toInt + 1 + 2147483648 < 4294967296 by omega)] at e473
        have p474 : 0 ≤ (z2 + 1).toInt ∧ (z2 + 1).toInt ≤ 4 := by omega
        have p475 : 4 - (z2 + 1).toInt < ((n : Nat) : Int) := by (omega)
        exact ih _ _ p474 p475
      · replace c472 := q_neq c472
        rw [li_0] at c472
        have p476 : (1 : Int32).toInt = 0 ∨ (1 : Int32).toInt = 1 := by (have := li_1; omega)
        exact k _ p476
theorem wq_X0_someDrumHas {post : Int32 → Prop} {s0 : Bd} {x1 : Int32} {R W : Int} (h477 : bi (R) (W) s0) (k : ∀ (r : Int32), (r).toInt = 0 ∨ (r).toInt = 1 → post r) : wp_X0_someDrumHas post s0 x1 := by
  unfold wp_X0_someDrumHas
  have := h477.1
  have := h477.2.1
  have := h477.2.2.1
  have := h477.2.2.2.1
  have := h477.2.2.2.2.2.2.2.2.2
  have p478 : 0 ≤ (0 : Int32).toInt ∧ (0 : Int32).toInt ≤ 4 := by (have := li_0; omega)
  obtain ⟨f479, g480⟩ := fu_e 50
  have p481 : 4 - (0 : Int32).toInt < (f479 : Int) := by (have := li_0; omega)
  refine ⟨f479, wq_X0_someDrumHas_L2 h477 (fun z1 z2 q482 => ?_) k f479 _ _ p478 p481⟩
  have p483 : (0 : Int32).toInt = 0 ∨ (0 : Int32).toInt = 1 := by (have := li_0; omega)
  exact k _ p483

theorem wq_X0_isLastOfSign {post : Int32 → Prop} {s0 : Bd} {x1 : Int32} {x2 : Int32} {R W : Int} (h484 : bi (R) (W) s0) (h485 : 0 ≤ (x2).toInt ∧ (x2).toInt ≤ 39) (k : ∀ (r : Int32), (r).toInt = 0 ∨ (r).toInt = 1 → post r) : wp_X0_isLastOfSign post s0 x1 x2 := by
  unfold wp_X0_isLastOfSign
  have := h484.1
  have := h484.2.1
  have := h484.2.2.1
  have := h484.2.2.2.1
  have := h484.2.2.2.2.2.2.2.2.2
  refine wq_X0_signOf h484 (fun r_1 => ?_)
  have e486 := tq_addr li_1 x2
  try rw [Int.emod_eq_of_lt (show 0 ≤ (x2).toInt + 1 + 2147483648 by omega) (show (x2).toInt + 1 + 2147483648 < 4294967296 by omega)] at e486
  have p487 : 0 ≤ (x2 + 1).toInt ∧ (x2 + 1).toInt ≤ 40 := by omega
  refine wq_X0_flapsWith h484 p487 (fun r_3 => ?_)
  refine ⟨fun c488 => ?_, fun c489 => ?_⟩
  · replace c488 := q_neq c488
    rw [li_0] at c488
    have p490 : (0 : Int32).toInt = 0 ∨ (0 : Int32).toInt = 1 := by (have := li_0; omega)
    exact k _ p490
  · replace c489 := q_eq c489
    rw [li_0] at c489
    have p491 : (1 : Int32).toInt = 0 ∨ (1 : Int32).toInt = 1 := by (have := li_1; omega)
    exact k _ p491
theorem wq_X0_nearest_L60 {s0 : Bd} {post : Int32 → Prop} {e121 : Int32 → Int32 → Int32 → Int32 → Int32 → Int64 → Int32 → Int32 → Prop} {R W : Int} (h492 : bi (R) (W) s0) (ke121 : ∀ (z1 : Int32) (z2 : Int32) (z3 : Int32) (z4 : Int32) (z5 : Int32) (w6 : Int64) (z8 : Int32) (z9 : Int32), e121 z1 z2 z3 z4 z5 w6 z8 z9) (k : ∀ (r : Int32), -1 ≤ (r).toInt ∧ (r).toInt ≤ 39 → post r) : ∀ (n : Nat) (z1 : Int32) (z2 : Int32) (z3 : Int32) (z4 : Int32) (z5 : Int32) (w6 : Int64) (z8 : Int32) (z9 : Int32), 0 ≤ (z9).toInt ∧ (z9).toInt ≤ (z4).toInt ∧ (z4).toInt ≤ 40 → 0 ≤ (z8).toInt ∧ (z8).toInt ≤ 39 → 0 ≤ (z5).toInt ∧ (z5).toInt ≤ 120 → (z4).toInt - (z9).toInt < (n : Int) → wp_X0_nearest_L60 s0 post e121 n z1 z2 z3 z4 z5 w6 z8 z9 := by
  have := h492.1
  have := h492.2.1
  have := h492.2.2.1
  have := h492.2.2.2.1
  have := h492.2.2.2.2.2.2.2.2.2
  intro n
  induction n with
  | zero =>
    intro z1 z2 z3 z4 z5 w6 z8 z9 i493 i494 i495 i496
    exfalso
    omega
  | succ n ih =>
    intro z1 z2 z3 z4 z5 w6 z8 z9 i493 i494 i495 i496
    unfold wp_X0_nearest_L60
    refine ⟨fun c497 => ?_, fun c498 => ?_⟩
    · replace c497 := q_le c497
      exact ke121 _ _ _ _ _ _ _ _
    · replace c498 := q_nle c498
      have e499 := tq_add z5 z8
      try rw [Int.emod_eq_of_lt (show 0 ≤ (z5).toInt + (z8).toInt + 2147483648 by omega) (show (z5).toInt + (z8).toInt + 2147483648 < 4294967296 by omega)] at e499
      have v500 : vp_in (z5 + z8) 160 := vi (by omega) (by omega)
      refine ⟨v500, ?_⟩
      refine ⟨fun c501 => ?_, fun c502 => ?_⟩
      · replace c501 := q_neq c501
        refine ⟨fun c503 => ?_, fun c504 => ?_⟩
        · replace c503 := q_le c503
          have e505 := tq_addr li_1 z8
          try rw [Int.emod_eq_of_lt (show 0 ≤ (z8).toInt + 1 + 2147483648 by omega) (show (z8).toInt + 1 + 2147483648 < 4294967296 by omega)] at e505
          have e506 := tq_addr li_1 z9
          try rw [Int.emod_eq_of_lt (show 0 ≤ (z9).toInt + 1 + 2147483648 by omega) (show (z9).toInt + 1 + 2147483648 < 4294967296 by omega)] at e506
          have p507 : 0 ≤ (z9 + 1).toInt ∧ (z9 + 1).toInt ≤ (z4).toInt ∧ (z4).toInt ≤ 40 := by omega
          have p508 : 0 ≤ (0 : Int32).toInt ∧ (0 : Int32).toInt ≤ 39 := by (have := li_0; omega)
          have p509 : 0 ≤ (z5).toInt ∧ (z5).toInt ≤ 120 := by omega
          have p510 : (z4).toInt - (z9 + 1).toInt < ((n : Nat) : Int) := by (omega)
          exact ih _ _ _ _ _ _ _ _ p507 p508 p509 p510
        · replace c504 := q_nle c504
          have e511 := tq_addr li_1 z8
          try rw [Int.emod_eq_of_lt (show 0 ≤ (z8).toInt + 1 + 2147483648 by omega) (show (z8).toInt + 1 + 2147483648 < 4294967296 by omega)] at e511
          have e512 := tq_addr li_1 z9
          try rw [Int.emod_eq_of_lt (show 0 ≤ (z9).toInt + 1 + 2147483648 by omega) (show (z9).toInt + 1 + 2147483648 < 4294967296 by omega)] at e512
          have p513 : 0 ≤ (z9 + 1).toInt ∧ (z9 + 1).toInt ≤ (z4).toInt ∧ (z4).toInt ≤ 40 := by omega
          have p514 : 0 ≤ (z8 + 1).toInt ∧ (z8 + 1).toInt ≤ 39 := by omega
          have p515 : 0 ≤ (z5).toInt ∧ (z5).toInt ≤ 120 := by omega
          have p516 : (z4).toInt - (z9 + 1).toInt < ((n : Nat) : Int) := by (omega)
          exact ih _ _ _ _ _ _ _ _ p513 p514 p515 p516
      · replace c502 := q_eq c502
        refine ⟨fun c517 => ?_, fun c518 => ?_⟩
        · refine ⟨fun c519 => ?_, fun c520 => ?_⟩
          · replace c519 := q_le c519
            have e521 := tq_addr li_1 z8
            try rw [Int.emod_eq_of_lt (show 0 ≤ (z8).toInt + 1 + 2147483648 by omega) (show (z8).toInt + 1 + 2147483648 < 4294967296 by omega)] at e521
            have e522 := tq_addr li_1 z9
            try rw [Int.emod_eq_of_lt (show 0 ≤ (z9).toInt + 1 + 2147483648 by omega) (show (z9).toInt + 1 + 2147483648 < 4294967296 by omega)] at e522
            have p523 : 0 ≤ (z9 + 1).toInt ∧ (z9 + 1).toInt ≤ (z4).toInt ∧ (z4).toInt ≤ 40 := by omega
            have p524 : 0 ≤ (0 : Int32).toInt ∧ (0 : Int32).toInt ≤ 39 := by (have := li_0; omega)
            have p525 : 0 ≤ (z5).toInt ∧ (z5).toInt ≤ 120 := by omega
            have p526 : (z4).toInt - (z9 + 1).toInt < ((n : Nat) : Int) := by (omega)
            exact ih _ _ _ _ _ _ _ _ p523 p524 p525 p526
          · replace c520 := q_nle c520
            have e527 := tq_addr li_1 z8
            try rw [Int.emod_eq_of_lt (show 0 ≤ (z8).toInt + 1 + 2147483648 by omega) (show (z8).toInt + 1 + 2147483648 < 4294967296 by omega)] at e527
            have e528 := tq_addr li_1 z9
            try rw [Int.emod_eq_of_lt (show 0 ≤ (z9).toInt + 1 + 2147483648 by omega) (show (z9).toInt + 1 + 2147483648 < 4294967296 by omega)] at e528
            have p529 : 0 ≤ (z9 + 1).toInt ∧ (z9 + 1).toInt ≤ (z4).toInt ∧ (z4).toInt ≤ 40 := by omega
            have p530 : 0 ≤ (z8 + 1).toInt ∧ (z8 + 1).toInt ≤ 39 := by omega
            have p531 : 0 ≤ (z5).toInt ∧ (z5).toInt ≤ 120 := by omega
            have p532 : (z4).toInt - (z9 + 1).toInt < ((n : Nat) : Int) := by (omega)
            exact ih _ _ _ _ _ _ _ _ p529 p530 p531 p532
        · have p533 : -1 ≤ (z8).toInt ∧ (z8).toInt ≤ 39 := by omega
          exact k _ p533
theorem wq_X0_nearest {post : Int32 → Prop} {s0 : Bd} {x1 : Int32} {x2 : Int32} {R W : Int} (h534 : bi (R) (W) s0) (h535 : 0 ≤ (x1).toInt ∧ (x1).toInt < 40) (k : ∀ (r : Int32), -1 ≤ (r).toInt ∧ (r).toInt ≤ 39 → post r) : wp_X0_nearest post s0 x1 x2 := by
  unfold wp_X0_nearest
  have := h534.1
  have := h534.2.1
  have := h534.2.2.1
  have := h534.2.2.2.1
  have := h534.2.2.2.2.2.2.2.2.2
  have v536 : vp_in x1 40 := vi (by omega) (by omega)
  refine ⟨v536, ?_⟩
  refine ⟨fun c537 => ?_, fun c538 => ?_⟩
  · replace c537 := q_lt c537
    rw [li_0] at c537
    have := ar_at (h534.2.2.2.2.2.1) v536
    refine ⟨v536, ?_⟩
    refine ⟨v536, ?_⟩
    have p539 : 0 ≤ (0 : Int32).toInt ∧ (0 : Int32).toInt ≤ (0 : Int32).toInt ∧ (0 : Int32).toInt ≤ 40 := by (have := li_0; omega)
    have := ar_at (h534.2.2.2.2.2.2.2.1) v536
    have p540 : 0 ≤ (s0.2.1 5 (Int32.toNatClampNeg x1)).toInt ∧ (s0.2.1 5 (Int32.toNatClampNeg x1)).toInt ≤ 39 := by omega
    have e541 := tq_mulr li_40 (s0.2.1 3 (Int32.toNatClampNeg x1))
    try rw [Int.emod_eq_of_lt (show 0 ≤ (s0.2.1 3 (Int32.toNatClampNeg x1)).toInt * 40 + 2147483648 by omega) (show (s0.2.1 3 (Int32.toNatClampNeg x1)).toInt * 40 + 2147483648 < 4294967296 by omega)] at e541
    have p542 : 0 ≤ ((s0.2.1 3 (Int32.toNatClampNeg x1)) * 40).toInt ∧ ((s0.2.1 3 (Int32.toNatClampNeg x1)) * 40).toInt ≤ 120 := by omega
    obtain ⟨f543, g544⟩ := fu_e 50
    have p545 : (0 : Int32).toInt - (0 : Int32).toInt < (f543 : Int) := by (have := li_0; omega)
    refine ⟨f543, wq_X0_nearest_L60 h534 (fun z1 z2 z3 z4 z5 w6 z8 z9 => ?_) k f543 _ _ _ _ _ _ _ _ p539 p540 p542 p545⟩
    have p546 : -1 ≤ (-1 : Int32).toInt ∧ (-1 : Int32).toInt ≤ 39 := by (have := li_m1; omega)
    exact k _ p546
  · replace c538 := q_nlt c538
    rw [li_0] at c538
    have := ar_at (h534.2.2.2.2.2.1) v536
    refine ⟨fun c547 => ?_, fun c548 => ?_⟩
    · replace c547 := q_le c547
      refine ⟨v536, ?_⟩
      refine ⟨v536, ?_⟩
      have p549 : 0 ≤ (0 : Int32).toInt ∧ (0 : Int32).toInt ≤ (0 : Int32).toInt ∧ (0 : Int32).toInt ≤ 40 := by (have := li_0; omega)
      have := ar_at (h534.2.2.2.2.2.2.2.1) v536
      have p550 : 0 ≤ (s0.2.1 5 (Int32.toNatClampNeg x1)).toInt ∧ (s0.2.1 5 (Int32.toNatClampNeg x1)).toInt ≤ 39 := by omega
      have e551 := tq_mulr li_40 (s0.2.1 3 (Int32.toNatClampNeg x1))
      try rw [Int.emod_eq_of_lt (show 0 ≤ (s0.2.1 3 (Int32.toNatClampNeg x1)).toInt * 40 + 2147483648 by omega) (show (s0.2.1 3 (Int32.toNatClampNeg x1)).toInt * 40 + 2147483648 < 4294967296 by omega)] at e551
      have p552 : 0 ≤ ((s0.2.1 3 (Int32.toNatClampNeg x1)) * 40).toInt ∧ ((s0.2.1 3 (Int32.toNatClampNeg x1)) * 40).toInt ≤ 120 := by omega
      obtain ⟨f553, g554⟩ := fu_e 50
      have p555 : (0 : Int32).toInt - (0 : Int32).toInt < (f553 : Int) := by (have := li_0; omega)
      refine ⟨f553, wq_X0_nearest_L60 h534 (fun z1 z2 z3 z4 z5 w6 z8 z9 => ?_) k f553 _ _ _ _ _ _ _ _ p549 p550 p552 p555⟩
      have p556 : -1 ≤ (-1 : Int32).toInt ∧ (-1 : Int32).toInt ≤ 39 := by (have := li_m1; omega)
      exact k _ p556
    · replace c548 := q_nle c548
      have v557 : vp_in (s0.2.1 3 (Int32.toNatClampNeg x1)) 4 := vi (by omega) (by omega)
      refine ⟨v557, ?_⟩
      refine ⟨v536, ?_⟩
      refine ⟨v536, ?_⟩
      have := ar_at (h534.2.2.2.2.1) v557
      have p558 : 0 ≤ (0 : Int32).toInt ∧ (0 : Int32).toInt ≤ (s0.2.1 1 (Int32.toNatClampNeg (s0.2.1 3 (Int32.toNatClampNeg x1)))).toInt ∧ (s0.2.1 1 (Int32.toNatClampNeg (s0.2.1 3 (Int32.toNatClampNeg x1)))).toInt ≤ 40 := by (have := li_0; omega)
      have := ar_at (h534.2.2.2.2.2.2.2.1) v536
      have p559 : 0 ≤ (s0.2.1 5 (Int32.toNatClampNeg x1)).toInt ∧ (s0.2.1 5 (Int32.toNatClampNeg x1)).toInt ≤ 39 := by omega
      have e560 := tq_mulr li_40 (s0.2.1 3 (Int32.toNatClampNeg x1))
      try rw [Int.emod_eq_of_lt (show 0 ≤ (s0.2.1 3 (Int32.toNatClampNeg x1)).toInt * 40 + 2147483648 by omega) (show (s0.2.1 3 (Int32.toNatClampNeg x1)).toInt * 40 + 2147483648 < 4294967296 by omega)] at e560
      have p561 : 0 ≤ ((s0.2.1 3 (Int32.toNatClampNeg x1)) * 40).toInt ∧ ((s0.2.1 3 (Int32.toNatClampNeg x1)) * 40).toInt ≤ 120 := by omega
      obtain ⟨f562, g563⟩ := fu_e 50
      have p564 : (s0.2.1 1 (Int32.toNatClampNeg (s0.2.1 3 (Int32.toNatClampNeg x1)))).toInt - (0 : Int32).toInt < (f562 : Int) := by (have := li_0; omega)
      refine ⟨f562, wq_X0_nearest_L60 h534 (fun z1 z2 z3 z4 z5 w6 z8 z9 => ?_) k f562 _ _ _ _ _ _ _ _ p558 p559 p561 p564⟩
      have p565 : -1 ≤ (-1 : Int32).toInt ∧ (-1 : Int32).toInt ≤ 39 := by (have := li_m1; omega)
      exact k _ p565
theorem wq_X0_missedOfOwn_L12 {s0 : Bd} {post : Int32 → Prop} {e57 : Int32 → Int32 → Int32 → Int32 → Prop} {R W : Int} (h566 : bi (R) (W) s0) (ke57 : ∀ (z1 : Int32) (z2 : Int32) (z3 : Int32) (z4 : Int32), 0 ≤ (z4).toInt ∧ (z4).toInt ≤ 40 → 0 ≤ (z1).toInt ∧ (z1).toInt < 40 → e57 z1 z2 z3 z4) : ∀ (n : Nat) (z1 : Int32) (z2 : Int32) (z3 : Int32) (z4 : Int32), 0 ≤ (z4).toInt ∧ (z4).toInt ≤ 40 → 0 ≤ (z1).toInt ∧ (z1).toInt < 40 → 40 - (z4).toInt < (n : Int) → wp_X0_missedOfOwn_L12 s0 post e57 n z1 z2 z3 z4 := by
  have := h566.1
  have := h566.2.1
  have := h566.2.2.1
  have := h566.2.2.2.1
  have := h566.2.2.2.2.2.2.2.2.2
  intro n
  induction n with
  | zero =>
    intro z1 z2 z3 z4 i567 i568 i569
    exfalso
    omega
  | succ n ih =>
    intro z1 z2 z3 z4 i567 i568 i569
    unfold wp_X0_missedOfOwn_L12
    refine wq_X0_flapsOn h566 (fun r_2 q570 q571 => ?_)
    refine ⟨fun c572 => ?_, fun c573 => ?_⟩
    · replace c572 := q_le c572
      have p574 : 0 ≤ (z4).toInt ∧ (z4).toInt ≤ 40 := by omega
      have p575 : 0 ≤ (z1).toInt ∧ (z1).toInt < 40 := by omega
      exact ke57 _ _ _ _ p574 p575
    · replace c573 := q_nle c573
      have p576 : 0 ≤ (z4).toInt ∧ (z4).toInt ≤ 39 := by omega
      refine wq_X0_isLastOfSign h566 p576 (fun r_5 q577 => ?_)
      refine ⟨fun c578 => ?_, fun c579 => ?_⟩
      · replace c578 := q_eq c578
        rw [li_0] at c578
        have e580 := tq_addr li_1 z4
        try rw [Int.emod_eq_of_lt (show 0 ≤ (z4).toInt + 1 + 2147483648 by omega) (show (z4).toInt + 1 + 2147483648 < 4294967296 by omega)] at e580
        have p581 : 0 ≤ (z4 + 1).toInt ∧ (z4 + 1).toInt ≤ 40 := by omega
        have p582 : 0 ≤ (z1).toInt ∧ (z1).toInt < 40 := by omega
        have p583 : 40 - (z4 + 1).toInt < ((n : Nat) : Int) := by (omega)
        exact ih _ _ _ _ p581 p582 p583
      · replace c579 := q_neq c579
        rw [li_0] at c579
        refine wq_X0_signOf h566 (fun r_8 => ?_)
        have p584 : 0 ≤ (z1).toInt ∧ (z1).toInt < 40 := by omega
        refine wq_X0_nearest h566 p584 (fun r_10 q585 => ?_)
        refine ⟨fun c586 => ?_, fun c587 => ?_⟩
        · replace c586 := q_neq c586
          rw [li_m1] at c586
          have e588 := tq_addr li_1 z4
          try rw [Int.emod_eq_of_lt (show 0 ≤ (z4).toInt + 1 + 2147483648 by omega) (show (z4).toInt + 1 + 2147483648 < 4294967296 by omega)] at e588
          have p589 : 0 ≤ (z4 + 1).toInt ∧ (z4 + 1).toInt ≤ 40 := by omega
          have p590 : 0 ≤ (z1).toInt ∧ (z1).toInt < 40 := by omega
          have p591 : 40 - (z4 + 1).toInt < ((n : Nat) : Int) := by (omega)
          exact ih _ _ _ _ p589 p590 p591
        · replace c587 := q_eq c587
          rw [li_m1] at c587
          have e592 := tq_addr li_1 z4
          try rw [Int.emod_eq_of_lt (show 0 ≤ (z4).toInt + 1 + 2147483648 by omega) (show (z4).toInt + 1 + 2147483648 < 4294967296 by omega)] at e592
          have p593 : 0 ≤ (z4 + 1).toInt ∧ (z4 + 1).toInt ≤ 40 := by omega
          have p594 : 0 ≤ (z1).toInt ∧ (z1).toInt < 40 := by omega
          have p595 : 40 - (z4 + 1).toInt < ((n : Nat) : Int) := by (omega)
          exact ih _ _ _ _ p593 p594 p595
theorem wq_X0_missedOfOwn {post : Int32 → Prop} {s0 : Bd} {x1 : Int32} {R W : Int} (h596 : bi (R) (W) s0) (h597 : 0 ≤ (x1).toInt ∧ (x1).toInt < 40) (k : ∀ (r : Int32), post r) : wp_X0_missedOfOwn post s0 x1 := by
  unfold wp_X0_missedOfOwn
  have := h596.1
  have := h596.2.1
  have := h596.2.2.1
  have := h596.2.2.2.1
  have := h596.2.2.2.2.2.2.2.2.2
  have v598 : vp_in x1 40 := vi (by omega) (by omega)
  refine ⟨v598, ?_⟩
  have p599 : 0 ≤ (0 : Int32).toInt ∧ (0 : Int32).toInt ≤ 40 := by (have := li_0; omega)
  have p600 : 0 ≤ (x1).toInt ∧ (x1).toInt < 40 := by omega
  obtain ⟨f601, g602⟩ := fu_e 50
  have p603 : 40 - (0 : Int32).toInt < (f601 : Int) := by (have := li_0; omega)
  refine ⟨f601, wq_X0_missedOfOwn_L12 h596 (fun z1 z2 z3 z4 q604 q605 => ?_) f601 _ _ _ _ p599 p600 p603⟩
  exact k _
theorem wq_X0_signsOfOthers_L5 {s0 : Bd} {post : Int32 → Prop} {e37 : Int32 → Int32 → Int32 → Prop} {R W : Int} (h606 : bi (R) (W) s0) (ke37 : ∀ (z1 : Int32) (z2 : Int32) (z3 : Int32), 32 ≤ (z3).toInt ∧ (z3).toInt ≤ 127 → e37 z1 z2 z3) : ∀ (n : Nat) (z1 : Int32) (z2 : Int32) (z3 : Int32), 32 ≤ (z3).toInt ∧ (z3).toInt ≤ 127 → 127 - (z3).toInt < (n : Int) → wp_X0_signsOfOthers_L5 s0 post e37 n z1 z2 z3 := by
  have := h606.1
  have := h606.2.1
  have := h606.2.2.1
  have := h606.2.2.2.1
  have := h606.2.2.2.2.2.2.2.2.2
  intro n
  induction n with
  | zero =>
    intro z1 z2 z3 i607 i608
    exfalso
    omega
  | succ n ih =>
    intro z1 z2 z3 i607 i608
    unfold wp_X0_signsOfOthers_L5
    refine ⟨fun c609 => ?_, fun c610 => ?_⟩
    · replace c609 := q_lt c609
      rw [li_126] at c609
      have p611 : 32 ≤ (z3).toInt ∧ (z3).toInt ≤ 127 := by omega
      exact ke37 _ _ _ p611
    · replace c610 := q_nlt c610
      rw [li_126] at c610
      refine wq_X0_someDrumHas h606 (fun r_2 q612 => ?_)
      refine ⟨fun c613 => ?_, fun c614 => ?_⟩
      · replace c613 := q_eq c613
        rw [li_0] at c613
        have e615 := tq_addr li_1 z3
        try rw [Int.emod_eq_of_lt (show 0 ≤ (z3).toInt + 1 + 2147483648 by omega) (show (z3).toInt + 1 + 2147483648 < 4294967296 by omega)] at e615
        have p616 : 32 ≤ (z3 + 1).toInt ∧ (z3 + 1).toInt ≤ 127 := by omega
        have p617 : 127 - (z3 + 1).toInt < ((n : Nat) : Int) := by (omega)
        exact ih _ _ _ p616 p617
      · replace c614 := q_neq c614
        rw [li_0] at c614
        refine wq_X0_drumHas h606 (fun r_5 q618 => ?_)
        refine ⟨fun c619 => ?_, fun c620 => ?_⟩
        · replace c619 := q_neq c619
          rw [li_0] at c619
          have e621 := tq_addr li_1 z3
          try rw [Int.emod_eq_of_lt (show 0 ≤ (z3).toInt + 1 + 2147483648 by omega) (show (z3).toInt + 1 + 2147483648 < 4294967296 by omega)] at e621
          have p622 : 32 ≤ (z3 + 1).toInt ∧ (z3 + 1).toInt ≤ 127 := by omega
          have p623 : 127 - (z3 + 1).toInt < ((n : Nat) : Int) := by (omega)
          exact ih _ _ _ p622 p623
        · replace c620 := q_eq c620
          rw [li_0] at c620
          have e624 := tq_addr li_1 z3
          try rw [Int.emod_eq_of_lt (show 0 ≤ (z3).toInt + 1 + 2147483648 by omega) (show (z3).toInt + 1 + 2147483648 < 4294967296 by omega)] at e624
          have p625 : 32 ≤ (z3 + 1).toInt ∧ (z3 + 1).toInt ≤ 127 := by omega
          have p626 : 127 - (z3 + 1).toInt < ((n : Nat) : Int) := by (omega)
          exact ih _ _ _ p625 p626
theorem wq_X0_signsOfOthers {post : Int32 → Prop} {s0 : Bd} {x1 : Int32} {R W : Int} (h627 : bi (R) (W) s0) (k : ∀ (r : Int32), post r) : wp_X0_signsOfOthers post s0 x1 := by
  unfold wp_X0_signsOfOthers
  have := h627.1
  have := h627.2.1
  have := h627.2.2.1
  have := h627.2.2.2.1
  have := h627.2.2.2.2.2.2.2.2.2
  have p628 : 32 ≤ (32 : Int32).toInt ∧ (32 : Int32).toInt ≤ 127 := by (have := li_32; omega)
  obtain ⟨f629, g630⟩ := fu_e 200
  have p631 : 127 - (32 : Int32).toInt < (f629 : Int) := by (have := li_32; omega)
  refine ⟨f629, wq_X0_signsOfOthers_L5 h627 (fun z1 z2 z3 q632 => ?_) f629 _ _ _ p628 p631⟩
  exact k _
theorem wq_X0_unlikeSigns_L4 {s0 : Bd} {post : Int32 → Prop} {e31 : Int32 → Int32 → Int32 → Prop} {R W : Int} (h633 : bi (R) (W) s0) (ke31 : ∀ (z1 : Int32) (z2 : Int32) (z3 : Int32), 0 ≤ (z3).toInt ∧ (z3).toInt ≤ 40 → e31 z1 z2 z3) : ∀ (n : Nat) (z1 : Int32) (z2 : Int32) (z3 : Int32), 0 ≤ (z3).toInt ∧ (z3).toInt ≤ 40 → 40 - (z3).toInt < (n : Int) → wp_X0_unlikeSigns_L4 s0 post e31 n z1 z2 z3 := by
  have := h633.1
  have := h633.2.1
  have := h633.2.2.1
  have := h633.2.2.2.1
  have := h633.2.2.2.2.2.2.2.2.2
  intro n
  induction n with
  | zero =>
    intro z1 z2 z3 i634 i635
    exfalso
    omega
  | succ n ih =>
    intro z1 z2 z3 i634 i635
    unfold wp_X0_unlikeSigns_L4
    refine wq_X0_flapsOn h633 (fun r_1 q636 q637 => ?_)
    refine ⟨fun c638 => ?_, fun c639 => ?_⟩
    · replace c638 := q_le c638
      have p640 : 0 ≤ (z3).toInt ∧ (z3).toInt ≤ 40 := by omega
      exact ke31 _ _ _ p640
    · replace c639 := q_nle c639
      have p641 : 0 ≤ (z3).toInt ∧ (z3).toInt ≤ 39 := by omega
      refine wq_X0_isLastOfSign h633 p641 (fun r_4 q642 => ?_)
      refine ⟨fun c643 => ?_, fun c644 => ?_⟩
      · replace c643 := q_eq c643
        rw [li_0] at c643
        have e645 := tq_addr li_1 z3
        try rw [Int.emod_eq_of_lt (show 0 ≤ (z3).toInt + 1 + 2147483648 by omega) (show (z3).toInt + 1 + 2147483648 < 4294967296 by omega)] at e645
        have p646 : 0 ≤ (z3 + 1).toInt ∧ (z3 + 1).toInt ≤ 40 := by omega
        have p647 : 40 - (z3 + 1).toInt < ((n : Nat) : Int) := by (omega)
        exact ih _ _ _ p646 p647
      · replace c644 := q_neq c644
        rw [li_0] at c644
        have e648 := tq_addr li_1 z3
        try rw [Int.emod_eq_of_lt (show 0 ≤ (z3).toInt + 1 + 2147483648 by omega) (show (z3).toInt + 1 + 2147483648 < 4294967296 by omega)] at e648
        have p649 : 0 ≤ (z3 + 1).toInt ∧ (z3 + 1).toInt ≤ 40 := by omega
        have p650 : 40 - (z3 + 1).toInt < ((n : Nat) : Int) := by (omega)
        exact ih _ _ _ p649 p650
theorem wq_X0_unlikeSigns {post : Int32 → Prop} {s0 : Bd} {x1 : Int32} {R W : Int} (h651 : bi (R) (W) s0) (k : ∀ (r : Int32), post r) : wp_X0_unlikeSigns post s0 x1 := by
  unfold wp_X0_unlikeSigns
  have := h651.1
  have := h651.2.1
  have := h651.2.2.1
  have := h651.2.2.2.1
  have := h651.2.2.2.2.2.2.2.2.2
  have p652 : 0 ≤ (0 : Int32).toInt ∧ (0 : Int32).toInt ≤ 40 := by (have := li_0; omega)
  obtain ⟨f653, g654⟩ := fu_e 50
  have p655 : 40 - (0 : Int32).toInt < (f653 : Int) := by (have := li_0; omega)
  refine ⟨f653, wq_X0_unlikeSigns_L4 h651 (fun z1 z2 z3 q656 => ?_) f653 _ _ _ p652 p655⟩
  exact k _
theorem wq_X0_mostOfOneSign_L4 {s0 : Bd} {post : Int32 → Prop} {e36 : Int32 → Int32 → Int32 → Prop} {R W : Int} (h657 : bi (R) (W) s0) (ke36 : ∀ (z1 : Int32) (z2 : Int32) (z3 : Int32), 0 ≤ (z3).toInt ∧ (z3).toInt ≤ 40 → e36 z1 z2 z3) : ∀ (n : Nat) (z1 : Int32) (z2 : Int32) (z3 : Int32), 0 ≤ (z3).toInt ∧ (z3).toInt ≤ 40 → 40 - (z3).toInt < (n : Int) → wp_X0_mostOfOneSign_L4 s0 post e36 n z1 z2 z3 := by
  have := h657.1
  have := h657.2.1
  have := h657.2.2.1
  have := h657.2.2.2.1
  have := h657.2.2.2.2.2.2.2.2.2
  intro n
  induction n with
  | zero =>
    intro z1 z2 z3 i658 i659
    exfalso
    omega
  | succ n ih =>
    intro z1 z2 z3 i658 i659
    unfold wp_X0_mostOfOneSign_L4
    refine wq_X0_flapsOn h657 (fun r_1 q660 q661 => ?_)
    refine ⟨fun c662 => ?_, fun c663 => ?_⟩
    · replace c662 := q_le c662
      have p664 : 0 ≤ (z3).toInt ∧ (z3).toInt ≤ 40 := by omega
      exact ke36 _ _ _ p664
    · replace c663 := q_nle c663
      refine wq_X0_signOf h657 (fun r_4 => ?_)
      have p665 : 0 ≤ (z3).toInt ∧ (z3).toInt ≤ 40 := by omega
      refine wq_X0_flapsWith h657 p665 (fun r_6 => ?_)
      have e666 := tq_addr li_1 z3
      try rw [Int.emod_eq_of_lt (show 0 ≤ (z3).toInt + 1 + 2147483648 by omega) (show (z3).toInt + 1 + 2147483648 < 4294967296 by omega)] at e666
      have p667 : 0 ≤ (z3 + 1).toInt ∧ (z3 + 1).toInt ≤ 40 := by omega
      have p668 : 40 - (z3 + 1).toInt < ((n : Nat) : Int) := by (omega)
      exact ih _ _ _ p667 p668

theorem wq_X0_mostOfOneSign {post : Int32 → Prop} {s0 : Bd} {x1 : Int32} {R W : Int} (h669 : bi (R) (W) s0) (k : ∀ (r : Int32), post r) : wp_X0_mostOfOneSign post s0 x1 := by
  unfold wp_X0_mostOfOneSign
  have := h669.1
  have := h669.2.1
  have := h669.2.2.1
  have := h669.2.2.2.1
  have := h669.2.2.2.2.2.2.2.2.2
  have p670 : 0 ≤ (0 : Int32).toInt ∧ (0 : Int32).toInt ≤ 40 := by (have := li_0; omega)
  obtain ⟨f671, g672⟩ := fu_e 50
  have p673 : 40 - (0 : Int32).toInt < (f671 : Int) := by (have := li_0; omega)
  refine ⟨f671, wq_X0_mostOfOneSign_L4 h669 (fun z1 z2 z3 q674 => ?_) f671 _ _ _ p670 p673⟩
  exact k _
theorem wq_X0_isWorn {post : Int32 → Prop} {s0 : Bd} {x1 : Int32} {x2 : Int32} {R W : Int} (h675 : bi (R) (W) s0) (h676 : 0 ≤ (x1).toInt ∧ (x1).toInt < 40) (k : ∀ (r : Int32), (r).toInt = 0 ∨ (r).toInt = 1 → post r) : wp_X0_isWorn post s0 x1 x2 := by
  unfold wp_X0_isWorn
  have := h675.1
  have := h675.2.1
  have := h675.2.2.1
  have := h675.2.2.2.1
  have := h675.2.2.2.2.2.2.2.2.2
  have v677 : vp_in x1 40 := vi (by omega) (by omega)
  refine ⟨v677, ?_⟩
  refine ⟨fun c678 => ?_, fun c679 => ?_⟩
  · have p680 : (0 : Int32).toInt = 0 ∨ (0 : Int32).toInt = 1 := by (have := li_0; omega)
    exact k _ p680
  · have p681 : (1 : Int32).toInt = 0 ∨ (1 : Int32).toInt = 1 := by (have := li_1; omega)
    exact k _ p681
theorem wq_J13_bitCount_95d88 {post : Int32 → Prop} {y0 : Int64} (k : ∀ (r : Int32), post r) : wp_J13_bitCount_95d88 post y0 := by
  unfold wp_J13_bitCount_95d88
  exact k _
theorem wq_X0_wornCount {post : Int32 → Prop} {s0 : Bd} {x1 : Int32} {R W : Int} (h682 : bi (R) (W) s0) (h683 : 0 ≤ (x1).toInt ∧ (x1).toInt < 40) (k : ∀ (r : Int32), post r) : wp_X0_wornCount post s0 x1 := by
  unfold wp_X0_wornCount
  have := h682.1
  have := h682.2.1
  have := h682.2.2.1
  have := h682.2.2.2.1
  have := h682.2.2.2.2.2.2.2.2.2
  have v684 : vp_in x1 40 := vi (by omega) (by omega)
  refine ⟨v684, ?_⟩
  refine wq_J13_bitCount_95d88 (fun r_2 => ?_)
  exact k _
theorem wq_X0_wearFlap {post : Bd → Prop} {s0 : Bd} {x1 : Int32} {x2 : Int32} {R W : Int} (h685 : bi (R) (W) s0) (h686 : 0 ≤ (x1).toInt ∧ (x1).toInt < 40) (k : ∀ (u : Bd), bi (R) (W) u → post u) : wp_X0_wearFlap post s0 x1 x2 := by
  unfold wp_X0_wearFlap
  have := h685.1
  have := h685.2.1
  have := h685.2.2.1
  have := h685.2.2.2.1
  have := h685.2.2.2.2.2.2.2.2.2
  have v687 : vp_in x1 40 := vi (by omega) (by omega)
  refine ⟨v687, ?_⟩
  refine ⟨v687, ?_⟩
  refine ⟨v687, ?_⟩
  refine ⟨fun c688 => ?_, fun c689 => ?_⟩
  · replace c688 := q_neq c688
    have := ar_at (h685.2.2.2.2.2.2.2.2.1) v687
    have p690 : (s0.1 0).toInt = R := by omega
    have p691 : (s0.1 1).toInt = W := by omega
    have p692 : 0 ≤ (s0.1 3).toInt ∧ (s0.1 3).toInt ≤ 4 := by omega
    have p693 : 0 ≤ R ∧ R ≤ 6 ∧ 0 ≤ W ∧ W ≤ 10 ∧ 0 ≤ R * W ∧ R * W ≤ 40 := by omega
    have p694 : ar 4 (0) (40) (s0.2.1 1) := h685.2.2.2.2.1
    have p695 : ar 40 (0) (3) (s0.2.1 3) := h685.2.2.2.2.2.1
    have p696 : ar 40 (0) (39) (s0.2.1 4) := h685.2.2.2.2.2.2.1
    have p697 : ar 40 (0) (39) (s0.2.1 5) := h685.2.2.2.2.2.2.2.1
    have p698 : ar 40 (0) (39) (s0.2.1 6) := h685.2.2.2.2.2.2.2.2.1
    have p699 : s0.2.2.2.1 ≤ 6400 := by omega
    have B700 : bi (R) (W) (s0.1, s0.2.1, (vp_updL s0.2.2.1 (Int32.toNatClampNeg x1) ((s0.2.2.1 (Int32.toNatClampNeg x1)) ||| ((1 : Int64) <<< ((Int32.toInt64 x2) &&& 63)))), s0.2.2.2.1, s0.2.2.2.2) := ⟨p690, p691, p692, p693, p694, p695, p696, p697, p698, p699⟩
    exact k _ B700
  · replace c689 := q_eq c689
    have := ar_at (h685.2.2.2.2.2.2.2.2.1) v687
    refine ⟨v687, ?_⟩
    have p701 : (s0.1 0).toInt = R := by omega
    have p702 : (s0.1 1).toInt = W := by omega
    have p703 : 0 ≤ (s0.1 3).toInt ∧ (s0.1 3).toInt ≤ 4 := by omega
    have p704 : 0 ≤ R ∧ R ≤ 6 ∧ 0 ≤ W ∧ W ≤ 10 ∧ 0 ≤ R * W ∧ R * W ≤ 40 := by omega
    have p705 : ar 4 (0) (40) (s0.2.1 1) := h685.2.2.2.2.1
    have p706 : ar 40 (0) (3) (s0.2.1 3) := h685.2.2.2.2.2.1
    have p707 : ar 40 (0) (39) (s0.2.1 4) := h685.2.2.2.2.2.2.1
    have p708 : ar 40 (0) (39) (s0.2.1 5) := h685.2.2.2.2.2.2.2.1
    have p709 : ar 40 (0) (39) (upd (s0.2.1 6) (Int32.toNatClampNeg x1) 0) := (ar_upd h685.2.2.2.2.2.2.2.2.1 (by decide) (by decide))
    have p710 : s0.2.2.2.1 ≤ 6400 := by omega
    have B711 : bi (R) (W) (s0.1, (va_up s0.2.1 6 (upd (s0.2.1 6) (Int32.toNatClampNeg x1) 0)), (vp_updL s0.2.2.1 (Int32.toNatClampNeg x1) ((s0.2.2.1 (Int32.toNatClampNeg x1)) ||| ((1 : Int64) <<< ((Int32.toInt64 x2) &&& 63)))), s0.2.2.2.1, s0.2.2.2.2) := ⟨p701, p702, p703, p704, p705, p706, p707, p708, p709, p710⟩
    exact k _ B711
theorem wq_X0_mendFlap {post : Bd → Prop} {s0 : Bd} {x1 : Int32} {x2 : Int32} {R W : Int} (h712 : bi (R) (W) s0) (h713 : 0 ≤ (x1).toInt ∧ (x1).toInt < 40) (k : ∀ (u : Bd), bi (R) (W) u → post u) : wp_X0_mendFlap post s0 x1 x2 := by
  unfold wp_X0_mendFlap
  have := h712.1
  have := h712.2.1
  have := h712.2.2.1
  have := h712.2.2.2.1
  have := h712.2.2.2.2.2.2.2.2.2
  have v714 : vp_in x1 40 := vi (by omega) (by omega)
  refine ⟨v714, ?_⟩
  refine ⟨v714, ?_⟩
  have p715 : (s0.1 0).toInt = R := by omega
  have p716 : (s0.1 1).toInt = W := by omega
  have p717 : 0 ≤ (s0.1 3).toInt ∧ (s0.1 3).toInt ≤ 4 := by omega
  have p718 : 0 ≤ R ∧ R ≤ 6 ∧ 0 ≤ W ∧ W ≤ 10 ∧ 0 ≤ R * W ∧ R * W ≤ 40 := by omega
  have p719 : ar 4 (0) (40) (s0.2.1 1) := h712.2.2.2.2.1
  have p720 : ar 40 (0) (3) (s0.2.1 3) := h712.2.2.2.2.2.1
  have p721 : ar 40 (0) (39) (s0.2.1 4) := h712.2.2.2.2.2.2.1
  have p722 : ar 40 (0) (39) (s0.2.1 5) := h712.2.2.2.2.2.2.2.1
  have p723 : ar 40 (0) (39) (s0.2.1 6) := h712.2.2.2.2.2.2.2.2.1
  have p724 : s0.2.2.2.1 ≤ 6400 := by omega
  have B725 : bi (R) (W) (s0.1, s0.2.1, (vp_updL s0.2.2.1 (Int32.toNatClampNeg x1) ((s0.2.2.1 (Int32.toNatClampNeg x1)) &&& (((1 : Int64) <<< ((Int32.toInt64 x2) &&& 63)) ^^^ (-1)))), s0.2.2.2.1, s0.2.2.2.2) := ⟨p715, p716, p717, p718, p719, p720, p721, p722, p723, p724⟩
  exact k _ B725
theorem wq_X6_onFrom {post : Int32 → Prop} {x0 : Int32} {x1 : Int32} {x2 : Int32} (k : ∀ (r : Int32), post r) : wp_X6_onFrom post x0 x1 x2 := by
  unfold wp_X6_onFrom
  refine ⟨fun c726 => ?_, fun c727 => ?_⟩
  · replace c726 := q_lt c726
    exact k _
  · replace c727 := q_nlt c727
    exact k _
theorem wq_X0_flapsOnTo {post : Int32 → Prop} {s0 : Bd} {x1 : Int32} {x2 : Int32} {R W : Int} (h728 : bi (R) (W) s0) (h729 : 0 ≤ (x1).toInt ∧ (x1).toInt < 40) (k : ∀ (r : Int32), post r) : wp_X0_flapsOnTo post s0 x1 x2 := by
  unfold wp_X0_flapsOnTo
  have := h728.1
  have := h728.2.1
  have := h728.2.2.1
  have := h728.2.2.2.1
  have := h728.2.2.2.2.2.2.2.2.2
  have v730 : vp_in x1 40 := vi (by omega) (by omega)
  refine ⟨v730, ?_⟩
  have p731 : 0 ≤ (x1).toInt ∧ (x1).toInt < 40 := by omega
  refine wq_X0_flapsOf h728 p731 (fun r_2 q732 => ?_)
  refine wq_X6_onFrom (fun r_4 => ?_)
  exact k _
theorem wq_X0_leftOf {post : Int32 → Prop} {s0 : Bd} {x1 : Int32} {R W : Int} (h733 : bi (R) (W) s0) (h734 : 0 ≤ (x1).toInt ∧ (x1).toInt < 40) (k : ∀ (r : Int32), post r) : wp_X0_leftOf post s0 x1 := by
  unfold wp_X0_leftOf
  have := h733.1
  have := h733.2.1
  have := h733.2.2.1
  have := h733.2.2.2.1
  have := h733.2.2.2.2.2.2.2.2.2
  have v735 : vp_in x1 40 := vi (by omega) (by omega)
  refine ⟨v735, ?_⟩
  refine ⟨v735, ?_⟩
  refine ⟨v735, ?_⟩
  refine ⟨fun c736 => ?_, fun c737 => ?_⟩
  · replace c736 := q_le c736
    rw [li_0] at c736
    have := ar_at (h733.2.2.2.2.2.2.2.2.1) v735
    have := ar_at (h733.2.2.2.2.2.2.2.1) v735
    have e738 := tq_sub (s0.2.1 6 (Int32.toNatClampNeg x1)) (s0.2.1 5 (Int32.toNatClampNeg x1))
    try rw [Int.emod_eq_of_lt (show 0 ≤ (s0.2.1 6 (Int32.toNatClampNeg x1)).toInt - (s0.2.1 5 (Int32.toNatClampNeg x1)).toInt + 2147483648 by omega) (show (s0.2.1 6 (Int32.toNatClampNeg x1)).toInt - (s0.2.1 5 (Int32.toNatClampNeg x1)).toInt + 2147483648 < 4294967296 by omega)] at e738
    exact k _
  · replace c737 := q_nle c737
    rw [li_0] at c737
    have := ar_at (h733.2.2.2.2.2.2.2.2.1) v735
    have := ar_at (h733.2.2.2.2.2.2.2.1) v735
    have e739 := tq_sub (s0.2.1 6 (Int32.toNatClampNeg x1)) (s0.2.1 5 (Int32.toNatClampNeg x1))
    try rw [Int.emod_eq_of_lt (show 0 ≤ (s0.2.1 6 (Int32.toNatClampNeg x1)).toInt - (s0.2.1 5 (Int32.toNatClampNeg x1)).toInt + 2147483648 by omega) (show (s0.2.1 6 (Int32.toNatClampNeg x1)).toInt - (s0.2.1 5 (Int32.toNatClampNeg x1)).toInt + 2147483648 < 4294967296 by omega)] at e739
    refine ⟨fun c740 => ?_, fun c741 => ?_⟩
    · replace c740 := q_lt c740
      rw [li_0] at c740
      have := ar_at (h733.2.2.2.2.2.1) v735
      exact k _
    · replace c741 := q_nlt c741
      rw [li_0] at c741
      have := ar_at (h733.2.2.2.2.2.1) v735
      refine ⟨fun c742 => ?_, fun c743 => ?_⟩
      · replace c742 := q_le c742
        exact k _
      · replace c743 := q_nle c743
        have v744 : vp_in (s0.2.1 3 (Int32.toNatClampNeg x1)) 4 := vi (by omega) (by omega)
        refine ⟨v744, ?_⟩
        exact k _
theorem wq_X0_flapFor {post : Int32 → Prop} {s0 : Bd} {s1 : Tp} {x1 : Int32} {x2 : Int32} {x4 : Int32} {x5 : Int32} {R W N : Int} (h745 : bi (R) (W) s0) (h746 : tz (N) s1) (h747 : 0 ≤ (x1).toInt ∧ (x1).toInt < 40) (k : ∀ (r : Int32), -1 ≤ (r).toInt ∧ (r).toInt ≤ 39 → post r) : wp_X0_flapFor post s0 s1 x1 x2 x4 x5 := by
  unfold wp_X0_flapFor
  have := h745.1
  have := h745.2.1
  have := h745.2.2.1
  have := h745.2.2.2.1
  have := h745.2.2.2.2.2.2.2.2.2
  have := h746.1
  have := h746.2
  refine ⟨fun c748 => ?_, fun c749 => ?_⟩
  · replace c748 := q_lt c748
    rw [li_0] at c748
    have p750 : -1 ≤ (0 : Int32).toInt ∧ (0 : Int32).toInt ≤ 39 := by (have := li_0; omega)
    exact k _ p750
  · replace c749 := q_nlt c749
    rw [li_0] at c749
    refine ⟨fun c751 => ?_, fun c752 => ?_⟩
    · replace c751 := q_le c751
      have p753 : -1 ≤ (0 : Int32).toInt ∧ (0 : Int32).toInt ≤ 39 := by (have := li_0; omega)
      exact k _ p753
    · replace c752 := q_nle c752
      refine wq_X5_byteAt h746 (fun r_3 => ?_)
      have p754 : 0 ≤ (x1).toInt ∧ (x1).toInt < 40 := by omega
      refine wq_X0_nearest h745 p754 (fun r_5 q755 => ?_)
      have p756 : -1 ≤ (r_5).toInt ∧ (r_5).toInt ≤ 39 := by omega
      exact k _ p756

theorem wq_X0_costOf_L6 {s0 : Bd} {s1 : Tp} {post : Int32 → Prop} {e72 : Int32 → Int32 → Int32 → Int32 → Int32 → Int32 → Prop} {R W N : Int} (h757 : bi (R) (W) s0) (h758 : tz (N) s1) (ke72 : ∀ (z1 : Int32) (z2 : Int32) (z4 : Int32) (z5 : Int32) (z6 : Int32) (z7 : Int32), 0 ≤ (z1).toInt ∧ (z1).toInt < R → 0 ≤ (z7).toInt ∧ (z7).toInt ≤ W → e72 z1 z2 z4 z5 z6 z7) : ∀ (n : Nat) (z1 : Int32) (z2 : Int32) (z4 : Int32) (z5 : Int32) (z6 : Int32) (z7 : Int32), 0 ≤ (z1).toInt ∧ (z1).toInt < R → 0 ≤ (z7).toInt ∧ (z7).toInt ≤ W → W - (z7).toInt < (n : Int) → wp_X0_costOf_L6 s0 s1 post e72 n z1 z2 z4 z5 z6 z7 := by
  have := h757.1
  have := h757.2.1
  have := h757.2.2.1
  have := h757.2.2.2.1
  have := h757.2.2.2.2.2.2.2.2.2
  have := h758.1
  have := h758.2
  intro n
  induction n with
  | zero =>
    intro z1 z2 z4 z5 z6 z7 i759 i760 i761
    exfalso
    omega
  | succ n ih =>
    intro z1 z2 z4 z5 z6 z7 i759 i760 i761
    unfold wp_X0_costOf_L6
    refine ⟨fun c762 => ?_, fun c763 => ?_⟩
    · replace c762 := q_le c762
      have p764 : 0 ≤ (z1).toInt ∧ (z1).toInt < R := by omega
      have p765 : 0 ≤ (z7).toInt ∧ (z7).toInt ≤ W := by omega
      exact ke72 _ _ _ _ _ _ p764 p765
    · replace c763 := q_nle c763
      have := rw_l (a := z1) (b := (s0.1 1)) (R := R) (W := W) (by omega) (by omega) (by omega)
      have e766 := tq_add (z1 * (s0.1 1)) z7
      try rw [Int.emod_eq_of_lt (show 0 ≤ (z1 * (s0.1 1)).toInt + (z7).toInt + 2147483648 by omega) (show (z1 * (s0.1 1)).toInt + (z7).toInt + 2147483648 < 4294967296 by omega)] at e766
      have p767 : 0 ≤ ((z1 * (s0.1 1)) + z7).toInt ∧ ((z1 * (s0.1 1)) + z7).toInt < 40 := by omega
      refine wq_X0_flapFor h757 h758 p767 (fun r_2 q768 => ?_)
      refine ⟨fun c769 => ?_, fun c770 => ?_⟩
      · replace c769 := q_neq c769
        rw [li_m1] at c769
        have p771 : 0 ≤ ((z1 * (s0.1 1)) + z7).toInt ∧ ((z1 * (s0.1 1)) + z7).toInt < 40 := by omega
        refine wq_X0_flapsOnTo h757 p771 (fun r_5 => ?_)
        have p772 : 0 ≤ (z1).toInt ∧ (z1).toInt < R := by omega
        have e773 := tq_addr li_1 z7
        try rw [Int.emod_eq_of_lt (show 0 ≤ (z7).toInt + 1 + 2147483648 by omega) (show (z7).toInt + 1 + 2147483648 < 4294967296 by omega)] at e773
        have p774 : 0 ≤ (z7 + 1).toInt ∧ (z7 + 1).toInt ≤ W := by omega
        have p775 : W - (z7 + 1).toInt < ((n : Nat) : Int) := by (omega)
        exact ih _ _ _ _ _ _ p772 p774 p775
      · replace c770 := q_eq c770
        rw [li_m1] at c770
        have p776 : 0 ≤ (z1).toInt ∧ (z1).toInt < R := by omega
        have e777 := tq_addr li_1 z7
        try rw [Int.emod_eq_of_lt (show 0 ≤ (z7).toInt + 1 + 2147483648 by omega) (show (z7).toInt + 1 + 2147483648 < 4294967296 by omega)] at e777
        have p778 : 0 ≤ (z7 + 1).toInt ∧ (z7 + 1).toInt ≤ W := by omega
        have p779 : W - (z7 + 1).toInt < ((n : Nat) : Int) := by (omega)
        exact ih _ _ _ _ _ _ p776 p778 p779
theorem wq_X0_missesOf_L6 {s0 : Bd} {s1 : Tp} {post : Int32 → Prop} {e50 : Int32 → Int32 → Int32 → Int32 → Int32 → Int32 → Prop} {R W N : Int} (h780 : bi (R) (W) s0) (h781 : tz (N) s1) (ke50 : ∀ (z1 : Int32) (z2 : Int32) (z4 : Int32) (z5 : Int32) (z6 : Int32) (z7 : Int32), 0 ≤ (z1).toInt ∧ (z1).toInt < R → 0 ≤ (z7).toInt ∧ (z7).toInt ≤ W → e50 z1 z2 z4 z5 z6 z7) : ∀ (n : Nat) (z1 : Int32) (z2 : Int32) (z4 : Int32) (z5 : Int32) (z6 : Int32) (z7 : Int32), 0 ≤ (z1).toInt ∧ (z1).toInt < R → 0 ≤ (z7).toInt ∧ (z7).toInt ≤ W → W - (z7).toInt < (n : Int) → wp_X0_missesOf_L6 s0 s1 post e50 n z1 z2 z4 z5 z6 z7 := by
  have := h780.1
  have := h780.2.1
  have := h780.2.2.1
  have := h780.2.2.2.1
  have := h780.2.2.2.2.2.2.2.2.2
  have := h781.1
  have := h781.2
  intro n
  induction n with
  | zero =>
    intro z1 z2 z4 z5 z6 z7 i782 i783 i784
    exfalso
    omega
  | succ n ih =>
    intro z1 z2 z4 z5 z6 z7 i782 i783 i784
    unfold wp_X0_missesOf_L6
    refine ⟨fun c785 => ?_, fun c786 => ?_⟩
    · replace c785 := q_le c785
      have p787 : 0 ≤ (z1).toInt ∧ (z1).toInt < R := by omega
      have p788 : 0 ≤ (z7).toInt ∧ (z7).toInt ≤ W := by omega
      exact ke50 _ _ _ _ _ _ p787 p788
    · replace c786 := q_nle c786
      have := rw_l (a := z1) (b := (s0.1 1)) (R := R) (W := W) (by omega) (by omega) (by omega)
      have e789 := tq_add (z1 * (s0.1 1)) z7
      try rw [Int.emod_eq_of_lt (show 0 ≤ (z1 * (s0.1 1)).toInt + (z7).toInt + 2147483648 by omega) (show (z1 * (s0.1 1)).toInt + (z7).toInt + 2147483648 < 4294967296 by omega)] at e789
      have p790 : 0 ≤ ((z1 * (s0.1 1)) + z7).toInt ∧ ((z1 * (s0.1 1)) + z7).toInt < 40 := by omega
      refine wq_X0_flapFor h780 h781 p790 (fun r_2 q791 => ?_)
      refine ⟨fun c792 => ?_, fun c793 => ?_⟩
      · replace c792 := q_neq c792
        rw [li_m1] at c792
        have p794 : 0 ≤ (z1).toInt ∧ (z1).toInt < R := by omega
        have e795 := tq_addr li_1 z7
        try rw [Int.emod_eq_of_lt (show 0 ≤ (z7).toInt + 1 + 2147483648 by omega) (show (z7).toInt + 1 + 2147483648 < 4294967296 by omega)] at e795
        have p796 : 0 ≤ (z7 + 1).toInt ∧ (z7 + 1).toInt ≤ W := by omega
        have p797 : W - (z7 + 1).toInt < ((n : Nat) : Int) := by (omega)
        exact ih _ _ _ _ _ _ p794 p796 p797
      · replace c793 := q_eq c793
        rw [li_m1] at c793
        have p798 : 0 ≤ (z1).toInt ∧ (z1).toInt < R := by omega
        have e799 := tq_addr li_1 z7
        try rw [Int.emod_eq_of_lt (show 0 ≤ (z7).toInt + 1 + 2147483648 by omega) (show (z7).toInt + 1 + 2147483648 < 4294967296 by omega)] at e799
        have p800 : 0 ≤ (z7 + 1).toInt ∧ (z7 + 1).toInt ≤ W := by omega
        have p801 : W - (z7 + 1).toInt < ((n : Nat) : Int) := by (omega)
        exact ih _ _ _ _ _ _ p798 p800 p801
theorem wq_X0_costOf {post : Int32 → Prop} {s0 : Bd} {s1 : Tp} {x1 : Int32} {x2 : Int32} {x4 : Int32} {x5 : Int32} {R W N : Int} (h802 : bi (R) (W) s0) (h803 : tz (N) s1) (h804 : 0 ≤ (x1).toInt ∧ (x1).toInt < R) (k : ∀ (r : Int32), post r) : wp_X0_costOf post s0 s1 x1 x2 x4 x5 := by
  unfold wp_X0_costOf
  have := h802.1
  have := h802.2.1
  have := h802.2.2.1
  have := h802.2.2.2.1
  have := h802.2.2.2.2.2.2.2.2.2
  have := h803.1
  have := h803.2
  have p805 : 0 ≤ (x1).toInt ∧ (x1).toInt < R := by omega
  have p806 : 0 ≤ (0 : Int32).toInt ∧ (0 : Int32).toInt ≤ W := by (have := li_0; omega)
  obtain ⟨f807, g808⟩ := fu_e 50
  have p809 : W - (0 : Int32).toInt < (f807 : Int) := by (have := li_0; omega)
  refine ⟨f807, wq_X0_costOf_L6 h802 h803 (fun z1 z2 z4 z5 z6 z7 q810 q811 => ?_) f807 _ _ _ _ _ _ p805 p806 p809⟩
  exact k _
theorem wq_X0_missesOf {post : Int32 → Prop} {s0 : Bd} {s1 : Tp} {x1 : Int32} {x2 : Int32} {x4 : Int32} {x5 : Int32} {R W N : Int} (h812 : bi (R) (W) s0) (h813 : tz (N) s1) (h814 : 0 ≤ (x1).toInt ∧ (x1).toInt < R) (k : ∀ (r : Int32), post r) : wp_X0_missesOf post s0 s1 x1 x2 x4 x5 := by
  unfold wp_X0_missesOf
  have := h812.1
  have := h812.2.1
  have := h812.2.2.1
  have := h812.2.2.2.1
  have := h812.2.2.2.2.2.2.2.2.2
  have := h813.1
  have := h813.2
  have p815 : 0 ≤ (x1).toInt ∧ (x1).toInt < R := by omega
  have p816 : 0 ≤ (0 : Int32).toInt ∧ (0 : Int32).toInt ≤ W := by (have := li_0; omega)
  obtain ⟨f817, g818⟩ := fu_e 50
  have p819 : W - (0 : Int32).toInt < (f817 : Int) := by (have := li_0; omega)
  refine ⟨f817, wq_X0_missesOf_L6 h812 h813 (fun z1 z2 z4 z5 z6 z7 q820 q821 => ?_) f817 _ _ _ _ _ _ p815 p816 p819⟩
  exact k _
theorem wq_X0_wantFlap {post : Int32 → Bd → Prop} {s0 : Bd} {x1 : Int32} {x2 : Int32} {R W : Int} (h822 : bi (R) (W) s0) (h823 : 0 ≤ (x1).toInt ∧ (x1).toInt < 40) (h824 : -1 ≤ (x2).toInt ∧ (x2).toInt ≤ 39) (k : ∀ (r : Int32) (u : Bd), bi (R) (W) u → post r u) : wp_X0_wantFlap post s0 x1 x2 := by
  unfold wp_X0_wantFlap
  have := h822.1
  have := h822.2.1
  have := h822.2.2.1
  have := h822.2.2.2.1
  have := h822.2.2.2.2.2.2.2.2.2
  refine ⟨fun c825 => ?_, fun c826 => ?_⟩
  · replace c825 := q_neq c825
    rw [li_m1] at c825
    have v827 : vp_in x1 40 := vi (by omega) (by omega)
    refine ⟨v827, ?_⟩
    refine ⟨v827, ?_⟩
    refine ⟨v827, ?_⟩
    have p828 : (s0.1 0).toInt = R := by omega
    have p829 : (s0.1 1).toInt = W := by omega
    have p830 : 0 ≤ (s0.1 3).toInt ∧ (s0.1 3).toInt ≤ 4 := by omega
    have p831 : 0 ≤ R ∧ R ≤ 6 ∧ 0 ≤ W ∧ W ≤ 10 ∧ 0 ≤ R * W ∧ R * W ≤ 40 := by omega
    have p832 : ar 4 (0) (40) (s0.2.1 1) := h822.2.2.2.2.1
    have p833 : ar 40 (0) (3) (s0.2.1 3) := h822.2.2.2.2.2.1
    have p834 : ar 40 (0) (39) (s0.2.1 4) := h822.2.2.2.2.2.2.1
    have p835 : ar 40 (0) (39) (s0.2.1 5) := h822.2.2.2.2.2.2.2.1
    have p836 : ar 40 (0) (39) (upd (s0.2.1 6) (Int32.toNatClampNeg x1) x2) := (ar_upd h822.2.2.2.2.2.2.2.2.1 (by omega) (by omega))
    have p837 : s0.2.2.2.1 ≤ 6400 := by omega
    have B838 : bi (R) (W) (s0.1, (va_up s0.2.1 6 (upd (s0.2.1 6) (Int32.toNatClampNeg x1) x2)), s0.2.2.1, s0.2.2.2.1, s0.2.2.2.2) := ⟨p828, p829, p830, p831, p832, p833, p834, p835, p836, p837⟩
    refine wq_X0_entryStart B838 (fun r_5 q839 => ?_)
    replace q839 : 0 ≤ (r_5).toInt ∧ (r_5).toInt ≤ 6400 := q839
    have p840 : 0 ≤ (x1).toInt ∧ (x1).toInt < 40 := by omega
    refine wq_X0_flapsOf B838 p840 (fun r_7 q841 => ?_)
    replace q841 : 0 ≤ (r_7).toInt ∧ (r_7).toInt ≤ 40 := q841
    refine ⟨fun c842 => ?_, fun c843 => ?_⟩
    · replace c842 := q_eq c842
      have := ar_at (h822.2.2.2.2.2.2.2.1) v827
      exact k _ _ B838
    · replace c843 := q_neq c843
      have := ar_at (h822.2.2.2.2.2.2.2.1) v827
      refine ⟨fun c844 => ?_, fun c845 => ?_⟩
      · replace c844 := q_lt c844
        rw [li_0] at c844
        have e846 := tq_add r_5 ((s0.2.1 5 (Int32.toNatClampNeg x1)) * r_7)
        try rw [Int.emod_eq_of_lt (show 0 ≤ (r_5).toInt + ((s0.2.1 5 (Int32.toNatClampNeg x1)) * r_7).toInt + 2147483648 by omega) (show (r_5).toInt + ((s0.2.1 5 (Int32.toNatClampNeg x1)) * r_7).toInt + 2147483648 < 4294967296 by omega)] at e846
        have e847 := tq_add (r_5 + ((s0.2.1 5 (Int32.toNatClampNeg x1)) * r_7)) x2
        try rw [Int.emod_eq_of_lt (show 0 ≤ (r_5 + ((s0.2.1 5 (Int32.toNatClampNeg x1)) * r_7)).toInt + (x2).toInt + 2147483648 by omega) (show (r_5 + ((s0.2.1 5 (Int32.toNatClampNeg x1)) * r_7)).toInt + (x2).toInt + 2147483648 < 4294967296 by omega)] at e847
        exact k _ _ B838
      · replace c845 := q_nlt c845
        rw [li_0] at c845
        have e848 := tq_add r_5 ((s0.2.1 5 (Int32.toNatClampNeg x1)) * r_7)
        try rw [Int.emod_eq_of_lt (show 0 ≤ (r_5).toInt + ((s0.2.1 5 (Int32.toNatClampNeg x1)) * r_7).toInt + 2147483648 by omega) (show (r_5).toInt + ((s0.2.1 5 (Int32.toNatClampNeg x1)) * r_7).toInt + 2147483648 < 4294967296 by omega)] at e848
        have e849 := tq_add (r_5 + ((s0.2.1 5 (Int32.toNatClampNeg x1)) * r_7)) x2
        try rw [Int.emod_eq_of_lt (show 0 ≤ (r_5 + ((s0.2.1 5 (Int32.toNatClampNeg x1)) * r_7)).toInt + (x2).toInt + 2147483648 by omega) (show (r_5 + ((s0.2.1 5 (Int32.toNatClampNeg x1)) * r_7)).toInt + (x2).toInt + 2147483648 < 4294967296 by omega)] at e849
        refine ⟨fun c850 => ?_, fun c851 => ?_⟩
        · replace c850 := q_le c850
          have := tq_ofn (n := s0.2.2.2.1) (by omega)
          exact k _ _ B838
        · replace c851 := q_nle c851
          have := tq_ofn (n := s0.2.2.2.1) (by omega)
          have v852 : vp_in ((r_5 + ((s0.2.1 5 (Int32.toNatClampNeg x1)) * r_7)) + x2) s0.2.2.2.1 := vi (by omega) (by omega)
          refine ⟨v852, ?_⟩
          refine ⟨v852, ?_⟩
          have p853 : (s0.1 0).toInt = R := by omega
          have p854 : (s0.1 1).toInt = W := by omega
          have p855 : 0 ≤ (s0.1 3).toInt ∧ (s0.1 3).toInt ≤ 4 := by omega
          have p856 : 0 ≤ R ∧ R ≤ 6 ∧ 0 ≤ W ∧ W ≤ 10 ∧ 0 ≤ R * W ∧ R * W ≤ 40 := by omega
          have p857 : ar 4 (0) (40) (s0.2.1 1) := h822.2.2.2.2.1
          have p858 : ar 40 (0) (3) (s0.2.1 3) := h822.2.2.2.2.2.1
          have p859 : ar 40 (0) (39) (s0.2.1 4) := h822.2.2.2.2.2.2.1
          have p860 : ar 40 (0) (39) (s0.2.1 5) := h822.2.2.2.2.2.2.2.1
          have p861 : ar 40 (0) (39) (upd (s0.2.1 6) (Int32.toNatClampNeg x1) x2) := (ar_upd h822.2.2.2.2.2.2.2.2.1 (by omega) (by omega))
          have p862 : s0.2.2.2.1 ≤ 6400 := by omega
          have B863 : bi (R) (W) (s0.1, (va_up s0.2.1 6 (upd (s0.2.1 6) (Int32.toNatClampNeg x1) x2)), s0.2.2.1, s0.2.2.2.1, (upd s0.2.2.2.2 (Int32.toNatClampNeg ((r_5 + ((s0.2.1 5 (Int32.toNatClampNeg x1)) * r_7)) + x2)) ((s0.2.2.2.2 (Int32.toNatClampNeg ((r_5 + ((s0.2.1 5 (Int32.toNatClampNeg x1)) * r_7)) + x2))) + 1))) := ⟨p853, p854, p855, p856, p857, p858, p859, p860, p861, p862⟩
          exact k _ _ B863
  · replace c826 := q_eq c826
    rw [li_m1] at c826
    exact k _ _ h822
theorem wq_X0_wantSigns_L6 {s1 : Tp} {post : Int32 → Bd → Prop} {e55 : Bd → Int32 → Int32 → Int32 → Int32 → Int32 → Prop} {N R W : Int} (h864 : tz (N) s1) (ke55 : ∀ (t0 : Bd) (z1 : Int32) (z3 : Int32) (z4 : Int32) (z5 : Int32) (z6 : Int32), bi (R) (W) t0 → 0 ≤ (z1).toInt ∧ (z1).toInt < R → 0 ≤ (z6).toInt ∧ (z6).toInt ≤ W → e55 t0 z1 z3 z4 z5 z6) : ∀ (n : Nat) (t0 : Bd) (z1 : Int32) (z3 : Int32) (z4 : Int32) (z5 : Int32) (z6 : Int32), bi (R) (W) t0 → 0 ≤ (z1).toInt ∧ (z1).toInt < R → 0 ≤ (z6).toInt ∧ (z6).toInt ≤ W → W - (z6).toInt < (n : Int) → wp_X0_wantSigns_L6 s1 post e55 n t0 z1 z3 z4 z5 z6 := by
  have := h864.1
  have := h864.2
  intro n
  induction n with
  | zero =>
    intro t0 z1 z3 z4 z5 z6 i865 i866 i867 i868
    have := i865.1
    have := i865.2.1
    have := i865.2.2.1
    have := i865.2.2.2.1
    have := i865.2.2.2.2.2.2.2.2.2
    exfalso
    omega
  | succ n ih =>
    intro t0 z1 z3 z4 z5 z6 i865 i866 i867 i868
    unfold wp_X0_wantSigns_L6
    have := i865.1
    have := i865.2.1
    have := i865.2.2.1
    have := i865.2.2.2.1
    have := i865.2.2.2.2.2.2.2.2.2
    refine ⟨fun c869 => ?_, fun c870 => ?_⟩
    · replace c869 := q_le c869
      have p871 : 0 ≤ (z1).toInt ∧ (z1).toInt < R := by omega
      have p872 : 0 ≤ (z6).toInt ∧ (z6).toInt ≤ W := by omega
      exact ke55 _ _ _ _ _ _ i865 p871 p872
    · replace c870 := q_nle c870
      have := rw_l (a := z1) (b := (t0.1 1)) (R := R) (W := W) (by omega) (by omega) (by omega)
      have e873 := tq_add (z1 * (t0.1 1)) z6
      try rw [Int.emod_eq_of_lt (show 0 ≤ (z1 * (t0.1 1)).toInt + (z6).toInt + 2147483648 by omega) (show (z1 * (t0.1 1)).toInt + (z6).toInt + 2147483648 < 4294967296 by omega)] at e873
      have p874 : 0 ≤ ((z1 * (t0.1 1)) + z6).toInt ∧ ((z1 * (t0.1 1)) + z6).toInt < 40 := by omega
      refine wq_X0_flapFor i865 h864 p874 (fun r_2 q875 => ?_)
      have p876 : 0 ≤ ((z1 * (t0.1 1)) + z6).toInt ∧ ((z1 * (t0.1 1)) + z6).toInt < 40 := by omega
      have p877 : -1 ≤ (r_2).toInt ∧ (r_2).toInt ≤ 39 := by omega
      refine wq_X0_wantFlap i865 p876 p877 (fun r_4 u_5 q878 => ?_)
      have := q878.1
      have := q878.2.1
      have := q878.2.2.1
      have := q878.2.2.2.2.2.2.2.2.2
      have p879 : 0 ≤ (z1).toInt ∧ (z1).toInt < R := by omega
      have e880 := tq_addr li_1 z6
      try rw [Int.emod_eq_of_lt (show 0 ≤ (z6).toInt + 1 + 2147483648 by omega) (show (z6).toInt + 1 + 2147483648 < 4294967296 by omega)] at e880
      have p881 : 0 ≤ (z6 + 1).toInt ∧ (z6 + 1).toInt ≤ W := by omega
      have p882 : W - (z6 + 1).toInt < ((n : Nat) : Int) := by (omega)
      exact ih _ _ _ _ _ _ q878 p879 p881 p882
theorem wq_X0_wantSigns {post : Int32 → Bd → Prop} {s0 : Bd} {s1 : Tp} {x1 : Int32} {x3 : Int32} {x4 : Int32} {R W N : Int} (h883 : bi (R) (W) s0) (h884 : tz (N) s1) (h885 : 0 ≤ (x1).toInt ∧ (x1).toInt < R) (k : ∀ (r : Int32) (u : Bd), bi (R) (W) u → post r u) : wp_X0_wantSigns post s0 s1 x1 x3 x4 := by
  unfold wp_X0_wantSigns
  have := h883.1
  have := h883.2.1
  have := h883.2.2.1
  have := h883.2.2.2.1
  have := h883.2.2.2.2.2.2.2.2.2
  have := h884.1
  have := h884.2
  have p886 : 0 ≤ (x1).toInt ∧ (x1).toInt < R := by omega
  have p887 : 0 ≤ (0 : Int32).toInt ∧ (0 : Int32).toInt ≤ W := by (have := li_0; omega)
  obtain ⟨f888, g889⟩ := fu_e 50
  have p890 : W - (0 : Int32).toInt < (f888 : Int) := by (have := li_0; omega)
  refine ⟨f888, wq_X0_wantSigns_L6 h884 (fun t0 z1 z3 z4 z5 z6 q891 q892 q893 => ?_) f888 _ _ _ _ _ _ h883 p886 p887 p890⟩
  have := q891.1
  have := q891.2.1
  have := q891.2.2.1
  have := q891.2.2.2.2.2.2.2.2.2
  exact k _ _ q891
theorem wq_X0_scrollUp_L6 {s1 : Tp} {post : Int32 → Bd → Prop} {e54 : Bd → Int32 → Int32 → Int32 → Int32 → Prop} {N R W : Int} (h894 : tz (N) s1) (ke54 : ∀ (t0 : Bd) (z2 : Int32) (z3 : Int32) (z4 : Int32) (z5 : Int32), bi (R) (W) t0 → 0 ≤ (z5).toInt ∧ (z5).toInt ≤ R * W → 1 ≤ R → e54 t0 z2 z3 z4 z5) : ∀ (n : Nat) (t0 : Bd) (z2 : Int32) (z3 : Int32) (z4 : Int32) (z5 : Int32), bi (R) (W) t0 → 0 ≤ (z5).toInt ∧ (z5).toInt ≤ R * W → 1 ≤ R → R * W - (z5).toInt < (n : Int) → wp_X0_scrollUp_L6 s1 post e54 n t0 z2 z3 z4 z5 := by
  have := h894.1
  have := h894.2
  intro n
  induction n with
  | zero =>
    intro t0 z2 z3 z4 z5 i895 i896 i897 i898
    have := i895.1
    have := i895.2.1
    have := i895.2.2.1
    have := i895.2.2.2.1
    have := i895.2.2.2.2.2.2.2.2.2
    exfalso
    omega
  | succ n ih =>
    intro t0 z2 z3 z4 z5 i895 i896 i897 i898
    unfold wp_X0_scrollUp_L6
    have := i895.1
    have := i895.2.1
    have := i895.2.2.1
    have := i895.2.2.2.1
    have := i895.2.2.2.2.2.2.2.2.2
    refine wq_X0_cells i895 (fun r_1 q899 => ?_)
    refine ⟨fun c900 => ?_, fun c901 => ?_⟩
    · replace c900 := q_le c900
      have e902 := tq_sub r_1 (t0.1 1)
      try rw [Int.emod_eq_of_lt (show 0 ≤ (r_1).toInt - (t0.1 1).toInt + 2147483648 by omega) (show (r_1).toInt - (t0.1 1).toInt + 2147483648 < 4294967296 by omega)] at e902
      have p903 : 0 ≤ (z5).toInt ∧ (z5).toInt ≤ R * W := by omega
      have p904 : 1 ≤ R := by omega
      exact ke54 _ _ _ _ _ i895 p903 p904
    · replace c901 := q_nle c901
      have e905 := tq_sub r_1 (t0.1 1)
      try rw [Int.emod_eq_of_lt (show 0 ≤ (r_1).toInt - (t0.1 1).toInt + 2147483648 by omega) (show (r_1).toInt - (t0.1 1).toInt + 2147483648 < 4294967296 by omega)] at e905
      have e906 := tq_add z5 (t0.1 1)
      try rw [Int.emod_eq_of_lt (show 0 ≤ (z5).toInt + (t0.1 1).toInt + 2147483648 by omega) (show (z5).toInt + (t0.1 1).toInt + 2147483648 < 4294967296 by omega)] at e906
      have p907 : 0 ≤ (z5 + (t0.1 1)).toInt ∧ (z5 + (t0.1 1)).toInt < 40 := by omega
      refine wq_X0_wantedSign i895 p907 (fun r_4 => ?_)
      have p908 : 0 ≤ (z5).toInt ∧ (z5).toInt < 40 := by omega
      refine wq_X0_nearest i895 p908 (fun r_6 q909 => ?_)
      have p910 : 0 ≤ (z5).toInt ∧ (z5).toInt < 40 := by omega
      have p911 : -1 ≤ (r_6).toInt ∧ (r_6).toInt ≤ 39 := by omega
      refine wq_X0_wantFlap i895 p910 p911 (fun r_8 u_9 q912 => ?_)
      have := q912.1
      have := q912.2.1
      have := q912.2.2.1
      have := q912.2.2.2.2.2.2.2.2.2
      have e913 := tq_addr li_1 z5
      try rw [Int.emod_eq_of_lt (show 0 ≤ (z5).toInt + 1 + 2147483648 by omega) (show (z5).toInt + 1 + 2147483648 < 4294967296 by omega)] at e913
      have p914 : 0 ≤ (z5 + 1).toInt ∧ (z5 + 1).toInt ≤ R * W := by omega
      have p915 : 1 ≤ R := by omega
      have p916 : R * W - (z5 + 1).toInt < ((n : Nat) : Int) := by (omega)
      exact ih _ _ _ _ _ q912 p914 p915 p916
theorem wq_X0_scrollUp {post : Int32 → Bd → Prop} {s0 : Bd} {s1 : Tp} {x2 : Int32} {x3 : Int32} {R W N : Int} (h917 : bi (R) (W) s0) (h918 : tz (N) s1) (h919 : 1 ≤ R) (k : ∀ (r : Int32) (u : Bd), bi (R) (W) u → post r u) : wp_X0_scrollUp post s0 s1 x2 x3 := by
  unfold wp_X0_scrollUp
  have := h917.1
  have := h917.2.1
  have := h917.2.2.1
  have := h917.2.2.2.1
  have := h917.2.2.2.2.2.2.2.2.2
  have := h918.1
  have := h918.2
  have p920 : 0 ≤ (0 : Int32).toInt ∧ (0 : Int32).toInt ≤ R * W := by (have := li_0; omega)
  have p921 : 1 ≤ R := by omega
  obtain ⟨f922, g923⟩ := fu_e 50
  have p924 : R * W - (0 : Int32).toInt < (f922 : Int) := by (have := li_0; omega)
  refine ⟨f922, wq_X0_scrollUp_L6 h918 (fun t0 z2 z3 z4 z5 q925 q926 q927 => ?_) f922 _ _ _ _ _ h917 p920 p921 p924⟩
  have := q925.1
  have := q925.2.1
  have := q925.2.2.1
  have := q925.2.2.2.2.2.2.2.2.2
  have e928 := tq_subr li_1 (t0.1 0)
  try rw [Int.emod_eq_of_lt (show 0 ≤ (t0.1 0).toInt - 1 + 2147483648 by omega) (show (t0.1 0).toInt - 1 + 2147483648 < 4294967296 by omega)] at e928
  have p929 : 0 ≤ ((t0.1 0) - 1).toInt ∧ ((t0.1 0) - 1).toInt < R := by omega
  refine wq_X0_wantSigns q925 h918 p929 (fun r_10 u_11 q930 => ?_)
  have := q930.1
  have := q930.2.1
  have := q930.2.2.1
  have := q930.2.2.2.2.2.2.2.2.2
  exact k _ _ q930
theorem wq_X0_wantHome_L2 {post : Bd → Prop} {e30 : Bd → Int32 → Int32 → Prop} {R W : Int} (ke30 : ∀ (t0 : Bd) (z1 : Int32) (z2 : Int32), bi (R) (W) t0 → 0 ≤ (z1).toInt ∧ (z1).toInt < R → 0 ≤ (z2).toInt ∧ (z2).toInt ≤ W → e30 t0 z1 z2) : ∀ (n : Nat) (t0 : Bd) (z1 : Int32) (z2 : Int32), bi (R) (W) t0 → 0 ≤ (z1).toInt ∧ (z1).toInt < R → 0 ≤ (z2).toInt ∧ (z2).toInt ≤ W → W - (z2).toInt < (n : Int) → wp_X0_wantHome_L2 post e30 n t0 z1 z2 := by
  intro n
  induction n with
  | zero =>
    intro t0 z1 z2 i931 i932 i933 i934
    have := i931.1
    have := i931.2.1
    have := i931.2.2.1
    have := i931.2.2.2.1
    have := i931.2.2.2.2.2.2.2.2.2
    exfalso
    omega
  | succ n ih =>
    intro t0 z1 z2 i931 i932 i933 i934
    unfold wp_X0_wantHome_L2
    have := i931.1
    have := i931.2.1
    have := i931.2.2.1
    have := i931.2.2.2.1
    have := i931.2.2.2.2.2.2.2.2.2
    refine ⟨fun c935 => ?_, fun c936 => ?_⟩
    · replace c935 := q_le c935
      have p937 : 0 ≤ (z1).toInt ∧ (z1).toInt < R := by omega
      have p938 : 0 ≤ (z2).toInt ∧ (z2).toInt ≤ W := by omega
      exact ke30 _ _ _ i931 p937 p938
    · replace c936 := q_nle c936
      have := rw_l (a := z1) (b := (t0.1 1)) (R := R) (W := W) (by omega) (by omega) (by omega)
      have e939 := tq_add (z1 * (t0.1 1)) z2
      try rw [Int.emod_eq_of_lt (show 0 ≤ (z1 * (t0.1 1)).toInt + (z2).toInt + 2147483648 by omega) (show (z1 * (t0.1 1)).toInt + (z2).toInt + 2147483648 < 4294967296 by omega)] at e939
      have v940 : vp_in ((z1 * (t0.1 1)) + z2) 40 := vi (by omega) (by omega)
      refine ⟨v940, ?_⟩
      have p941 : (t0.1 0).toInt = R := by omega
      have p942 : (t0.1 1).toInt = W := by omega
      have p943 : 0 ≤ (t0.1 3).toInt ∧ (t0.1 3).toInt ≤ 4 := by omega
      have p944 : 0 ≤ R ∧ R ≤ 6 ∧ 0 ≤ W ∧ W ≤ 10 ∧ 0 ≤ R * W ∧ R * W ≤ 40 := by omega
      have p945 : ar 4 (0) (40) (t0.2.1 1) := i931.2.2.2.2.1
      have p946 : ar 40 (0) (3) (t0.2.1 3) := i931.2.2.2.2.2.1
      have p947 : ar 40 (0) (39) (t0.2.1 4) := i931.2.2.2.2.2.2.1
      have p948 : ar 40 (0) (39) (t0.2.1 5) := i931.2.2.2.2.2.2.2.1
      have p949 : ar 40 (0) (39) (upd (t0.2.1 6) (Int32.toNatClampNeg ((z1 * (t0.1 1)) + z2)) 0) := (ar_upd i931.2.2.2.2.2.2.2.2.1 (by decide) (by decide))
      have p950 : t0.2.2.2.1 ≤ 6400 := by omega
      have B951 : bi (R) (W) (t0.1, (va_up t0.2.1 6 (upd (t0.2.1 6) (Int32.toNatClampNeg ((z1 * (t0.1 1)) + z2)) 0)), t0.2.2.1, t0.2.2.2.1, t0.2.2.2.2) := ⟨p941, p942, p943, p944, p945, p946, p947, p948, p949, p950⟩
      have p952 : 0 ≤ (z1).toInt ∧ (z1).toInt < R := by omega
      have e953 := tq_addr li_1 z2
      try rw [Int.emod_eq_of_lt (show 0 ≤ (z2).toInt + 1 + 2147483648 by omega) (show (z2).toInt + 1 + 2147483648 < 4294967296 by omega)] at e953
      have p954 : 0 ≤ (z2 + 1).toInt ∧ (z2 + 1).toInt ≤ W := by omega
      have p955 : W - (z2 + 1).toInt < ((n : Nat) : Int) := by (omega)
      exact ih _ _ _ B951 p952 p954 p955

theorem wq_X0_wantHome {post : Bd → Prop} {s0 : Bd} {x1 : Int32} {R W : Int} (h956 : bi (R) (W) s0) (h957 : 0 ≤ (x1).toInt ∧ (x1).toInt < R) (k : ∀ (u : Bd), bi (R) (W) u → post u) : wp_X0_wantHome post s0 x1 := by
  unfold wp_X0_wantHome
  have := h956.1
  have := h956.2.1
  have := h956.2.2.1
  have := h956.2.2.2.1
  have := h956.2.2.2.2.2.2.2.2.2
  have p958 : 0 ≤ (x1).toInt ∧ (x1).toInt < R := by omega
  have p959 : 0 ≤ (0 : Int32).toInt ∧ (0 : Int32).toInt ≤ W := by (have := li_0; omega)
  obtain ⟨f960, g961⟩ := fu_e 50
  have p962 : W - (0 : Int32).toInt < (f960 : Int) := by (have := li_0; omega)
  refine ⟨f960, wq_X0_wantHome_L2 (fun t0 z1 z2 q963 q964 q965 => ?_) f960 _ _ _ h956 p958 p959 p962⟩
  have := q963.1
  have := q963.2.1
  have := q963.2.2.1
  have := q963.2.2.2.2.2.2.2.2.2
  exact k _ q963
theorem wq_X0_showSigns_L3 {s1 : Tp} {post : Bd → Prop} {e86 : Bd → Int32 → Int32 → Int32 → Int32 → Prop} {N R W : Int} (h966 : tz (N) s1) (ke86 : ∀ (t0 : Bd) (z1 : Int32) (z3 : Int32) (z4 : Int32) (z5 : Int32), bi (R) (W) t0 → 0 ≤ (z1).toInt ∧ (z1).toInt < R → 0 ≤ (z5).toInt ∧ (z5).toInt ≤ W → e86 t0 z1 z3 z4 z5) : ∀ (n : Nat) (t0 : Bd) (z1 : Int32) (z3 : Int32) (z4 : Int32) (z5 : Int32), bi (R) (W) t0 → 0 ≤ (z1).toInt ∧ (z1).toInt < R → 0 ≤ (z5).toInt ∧ (z5).toInt ≤ W → W - (z5).toInt < (n : Int) → wp_X0_showSigns_L3 s1 post e86 n t0 z1 z3 z4 z5 := by
  have := h966.1
  have := h966.2
  intro n
  induction n with
  | zero =>
    intro t0 z1 z3 z4 z5 i967 i968 i969 i970
    have := i967.1
    have := i967.2.1
    have := i967.2.2.1
    have := i967.2.2.2.1
    have := i967.2.2.2.2.2.2.2.2.2
    exfalso
    omega
  | succ n ih =>
    intro t0 z1 z3 z4 z5 i967 i968 i969 i970
    unfold wp_X0_showSigns_L3
    have := i967.1
    have := i967.2.1
    have := i967.2.2.1
    have := i967.2.2.2.1
    have := i967.2.2.2.2.2.2.2.2.2
    refine ⟨fun c971 => ?_, fun c972 => ?_⟩
    · replace c971 := q_le c971
      have p973 : 0 ≤ (z1).toInt ∧ (z1).toInt < R := by omega
      have p974 : 0 ≤ (z5).toInt ∧ (z5).toInt ≤ W := by omega
      exact ke86 _ _ _ _ _ i967 p973 p974
    · replace c972 := q_nle c972
      have := rw_l (a := z1) (b := (t0.1 1)) (R := R) (W := W) (by omega) (by omega) (by omega)
      have e975 := tq_add (z1 * (t0.1 1)) z5
      try rw [Int.emod_eq_of_lt (show 0 ≤ (z1 * (t0.1 1)).toInt + (z5).toInt + 2147483648 by omega) (show (z1 * (t0.1 1)).toInt + (z5).toInt + 2147483648 < 4294967296 by omega)] at e975
      have p976 : 0 ≤ ((z1 * (t0.1 1)) + z5).toInt ∧ ((z1 * (t0.1 1)) + z5).toInt < 40 := by omega
      refine wq_X0_flapFor i967 h966 p976 (fun r_2 q977 => ?_)
      refine ⟨fun c978 => ?_, fun c979 => ?_⟩
      · replace c978 := q_eq c978
        rw [li_m1] at c978
        have v980 : vp_in ((z1 * (t0.1 1)) + z5) 40 := vi (by omega) (by omega)
        refine ⟨v980, ?_⟩
        refine ⟨v980, ?_⟩
        refine ⟨v980, ?_⟩
        refine ⟨v980, ?_⟩
        have p981 : (t0.1 0).toInt = R := by omega
        have p982 : (t0.1 1).toInt = W := by omega
        have p983 : 0 ≤ (t0.1 3).toInt ∧ (t0.1 3).toInt ≤ 4 := by omega
        have p984 : 0 ≤ R ∧ R ≤ 6 ∧ 0 ≤ W ∧ W ≤ 10 ∧ 0 ≤ R * W ∧ R * W ≤ 40 := by omega
        have p985 : ar 4 (0) (40) (t0.2.1 1) := i967.2.2.2.2.1
        have p986 : ar 40 (0) (3) (t0.2.1 3) := i967.2.2.2.2.2.1
        have := ar_at (i967.2.2.2.2.2.2.2.2.1) v980
        have p987 : ar 40 (0) (39) (upd (t0.2.1 4) (Int32.toNatClampNeg ((z1 * (t0.1 1)) + z5)) (t0.2.1 6 (Int32.toNatClampNeg ((z1 * (t0.1 1)) + z5)))) := (ar_upd i967.2.2.2.2.2.2.1 (by omega) (by omega))
        have p988 : ar 40 (0) (39) (upd (t0.2.1 5) (Int32.toNatClampNeg ((z1 * (t0.1 1)) + z5)) (t0.2.1 6 (Int32.toNatClampNeg ((z1 * (t0.1 1)) + z5)))) := (ar_upd i967.2.2.2.2.2.2.2.1 (by omega) (by omega))
        have p989 : ar 40 (0) (39) (t0.2.1 6) := i967.2.2.2.2.2.2.2.2.1
        have p990 : t0.2.2.2.1 ≤ 6400 := by omega
        have B991 : bi (R) (W) (t0.1, (va_up (va_up t0.2.1 4 (upd (t0.2.1 4) (Int32.toNatClampNeg ((z1 * (t0.1 1)) + z5)) (t0.2.1 6 (Int32.toNatClampNeg ((z1 * (t0.1 1)) + z5))))) 5 (upd (t0.2.1 5) (Int32.toNatClampNeg ((z1 * (t0.1 1)) + z5)) (t0.2.1 6 (Int32.toNatClampNeg ((z1 * (t0.1 1)) + z5))))), t0.2.2.1, t0.2.2.2.1, t0.2.2.2.2) := ⟨p981, p982, p983, p984, p985, p986, p987, p988, p989, p990⟩
        have p992 : 0 ≤ (z1).toInt ∧ (z1).toInt < R := by omega
        have e993 := tq_addr li_1 z5
        try rw [Int.emod_eq_of_lt (show 0 ≤ (z5).toInt + 1 + 2147483648 by omega) (show (z5).toInt + 1 + 2147483648 < 4294967296 by omega)] at e993
        have p994 : 0 ≤ (z5 + 1).toInt ∧ (z5 + 1).toInt ≤ W := by omega
        have p995 : W - (z5 + 1).toInt < ((n : Nat) : Int) := by (omega)
        exact ih _ _ _ _ _ B991 p992 p994 p995
      · replace c979 := q_neq c979
        rw [li_m1] at c979
        have v996 : vp_in ((z1 * (t0.1 1)) + z5) 40 := vi (by omega) (by omega)
        refine ⟨v996, ?_⟩
        refine ⟨v996, ?_⟩
        refine ⟨v996, ?_⟩
        refine ⟨v996, ?_⟩
        refine ⟨v996, ?_⟩
        have p997 : (t0.1 0).toInt = R := by omega
        have p998 : (t0.1 1).toInt = W := by omega
        have p999 : 0 ≤ (t0.1 3).toInt ∧ (t0.1 3).toInt ≤ 4 := by omega
        have p1000 : 0 ≤ R ∧ R ≤ 6 ∧ 0 ≤ W ∧ W ≤ 10 ∧ 0 ≤ R * W ∧ R * W ≤ 40 := by omega
        have p1001 : ar 4 (0) (40) (t0.2.1 1) := i967.2.2.2.2.1
        have p1002 : ar 40 (0) (3) (t0.2.1 3) := i967.2.2.2.2.2.1
        have := upd_i (t0.2.1 6) (Int32.toNatClampNeg ((z1 * (t0.1 1)) + z5)) r_2
        have p1003 : ar 40 (0) (39) (upd (t0.2.1 4) (Int32.toNatClampNeg ((z1 * (t0.1 1)) + z5)) (upd (t0.2.1 6) (Int32.toNatClampNeg ((z1 * (t0.1 1)) + z5)) r_2 (Int32.toNatClampNeg ((z1 * (t0.1 1)) + z5)))) := (ar_upd i967.2.2.2.2.2.2.1 (by omega) (by omega))
        have p1004 : ar 40 (0) (39) (upd (t0.2.1 5) (Int32.toNatClampNeg ((z1 * (t0.1 1)) + z5)) (upd (t0.2.1 6) (Int32.toNatClampNeg ((z1 * (t0.1 1)) + z5)) r_2 (Int32.toNatClampNeg ((z1 * (t0.1 1)) + z5)))) := (ar_upd i967.2.2.2.2.2.2.2.1 (by omega) (by omega))
        have p1005 : ar 40 (0) (39) (upd (t0.2.1 6) (Int32.toNatClampNeg ((z1 * (t0.1 1)) + z5)) r_2) := (ar_upd i967.2.2.2.2.2.2.2.2.1 (by omega) (by omega))
        have p1006 : t0.2.2.2.1 ≤ 6400 := by omega
        have B1007 : bi (R) (W) (t0.1, (va_up (va_up (va_up t0.2.1 4 (upd (t0.2.1 4) (Int32.toNatClampNeg ((z1 * (t0.1 1)) + z5)) (upd (t0.2.1 6) (Int32.toNatClampNeg ((z1 * (t0.1 1)) + z5)) r_2 (Int32.toNatClampNeg ((z1 * (t0.1 1)) + z5))))) 5 (upd (t0.2.1 5) (Int32.toNatClampNeg ((z1 * (t0.1 1)) + z5)) (upd (t0.2.1 6) (Int32.toNatClampNeg ((z1 * (t0.1 1)) + z5)) r_2 (Int32.toNatClampNeg ((z1 * (t0.1 1)) + z5))))) 6 (upd (t0.2.1 6) (Int32.toNatClampNeg ((z1 * (t0.1 1)) + z5)) r_2)), t0.2.2.1, t0.2.2.2.1, t0.2.2.2.2) := ⟨p997, p998, p999, p1000, p1001, p1002, p1003, p1004, p1005, p1006⟩
        have p1008 : 0 ≤ (z1).toInt ∧ (z1).toInt < R := by omega
        have e1009 := tq_addr li_1 z5
        try rw [Int.emod_eq_of_lt (show 0 ≤ (z5).toInt + 1 + 2147483648 by omega) (show (z5).toInt + 1 + 2147483648 < 4294967296 by omega)] at e1009
        have p1010 : 0 ≤ (z5 + 1).toInt ∧ (z5 + 1).toInt ≤ W := by omega
        have p1011 : W - (z5 + 1).toInt < ((n : Nat) : Int) := by (omega)
        exact ih _ _ _ _ _ B1007 p1008 p1010 p1011
theorem wq_X0_showSigns {post : Bd → Prop} {s0 : Bd} {s1 : Tp} {x1 : Int32} {x3 : Int32} {x4 : Int32} {R W N : Int} (h1012 : bi (R) (W) s0) (h1013 : tz (N) s1) (h1014 : 0 ≤ (x1).toInt ∧ (x1).toInt < R) (k : ∀ (u : Bd), bi (R) (W) u → post u) : wp_X0_showSigns post s0 s1 x1 x3 x4 := by
  unfold wp_X0_showSigns
  have := h1012.1
  have := h1012.2.1
  have := h1012.2.2.1
  have := h1012.2.2.2.1
  have := h1012.2.2.2.2.2.2.2.2.2
  have := h1013.1
  have := h1013.2
  have p1015 : 0 ≤ (x1).toInt ∧ (x1).toInt < R := by omega
  have p1016 : 0 ≤ (0 : Int32).toInt ∧ (0 : Int32).toInt ≤ W := by (have := li_0; omega)
  obtain ⟨f1017, g1018⟩ := fu_e 50
  have p1019 : W - (0 : Int32).toInt < (f1017 : Int) := by (have := li_0; omega)
  refine ⟨f1017, wq_X0_showSigns_L3 h1013 (fun t0 z1 z3 z4 z5 q1020 q1021 q1022 => ?_) f1017 _ _ _ _ _ h1012 p1015 p1016 p1019⟩
  have := q1020.1
  have := q1020.2.1
  have := q1020.2.2.1
  have := q1020.2.2.2.2.2.2.2.2.2
  exact k _ q1020
theorem wq_X6_behind {post : Int32 → Prop} {x0 : Int32} {x1 : Int32} (h1023 : -1 ≤ (x0).toInt ∧ (x0).toInt ≤ 1000) (k : ∀ (r : Int32), (r).toInt = 0 ∨ ((r).toInt = (x0).toInt + 1 ∧ (x0).toInt + 1 < (x1).toInt) → post r) : wp_X6_behind post x0 x1 := by
  unfold wp_X6_behind
  refine ⟨fun c1024 => ?_, fun c1025 => ?_⟩
  · replace c1024 := q_le c1024
    have e1026 := tq_addr li_1 x0
    try rw [Int.emod_eq_of_lt (show 0 ≤ (x0).toInt + 1 + 2147483648 by omega) (show (x0).toInt + 1 + 2147483648 < 4294967296 by omega)] at e1026
    have p1027 : (0 : Int32).toInt = 0 ∨ ((0 : Int32).toInt = (x0).toInt + 1 ∧ (x0).toInt + 1 < (x1).toInt) := by (have := li_0; omega)
    exact k _ p1027
  · replace c1025 := q_nle c1025
    have e1028 := tq_addr li_1 x0
    try rw [Int.emod_eq_of_lt (show 0 ≤ (x0).toInt + 1 + 2147483648 by omega) (show (x0).toInt + 1 + 2147483648 < 4294967296 by omega)] at e1028
    have p1029 : (x0 + 1).toInt = 0 ∨ ((x0 + 1).toInt = (x0).toInt + 1 ∧ (x0).toInt + 1 < (x1).toInt) := by omega
    exact k _ p1029
theorem wq_X0_stepOn {post : Int32 → Bd → Prop} {s0 : Bd} {x1 : Int32} {R W : Int} (h1030 : bi (R) (W) s0) (h1031 : 0 ≤ (x1).toInt ∧ (x1).toInt < 40) (k : ∀ (r : Int32) (u : Bd), bi (R) (W) u → post r u) : wp_X0_stepOn post s0 x1 := by
  unfold wp_X0_stepOn
  have := h1030.1
  have := h1030.2.1
  have := h1030.2.2.1
  have := h1030.2.2.2.1
  have := h1030.2.2.2.2.2.2.2.2.2
  have p1032 : 0 ≤ (x1).toInt ∧ (x1).toInt < 40 := by omega
  refine wq_X0_flapsOf h1030 p1032 (fun r_1 q1033 => ?_)
  have v1034 : vp_in x1 40 := vi (by omega) (by omega)
  refine ⟨v1034, ?_⟩
  have := ar_at (h1030.2.2.2.2.2.2.2.1) v1034
  have p1035 : -1 ≤ (s0.2.1 5 (Int32.toNatClampNeg x1)).toInt ∧ (s0.2.1 5 (Int32.toNatClampNeg x1)).toInt ≤ 1000 := by omega
  refine wq_X6_behind p1035 (fun r_4 q1036 => ?_)
  refine ⟨v1034, ?_⟩
  refine ⟨fun c1037 => ?_, fun c1038 => ?_⟩
  · replace c1037 := q_le c1037
    rw [li_0] at c1037
    refine ⟨v1034, ?_⟩
    have := ar_at (h1030.2.2.2.2.2.2.1) v1034
    have p1039 : -1 ≤ (s0.2.1 4 (Int32.toNatClampNeg x1)).toInt ∧ (s0.2.1 4 (Int32.toNatClampNeg x1)).toInt ≤ 1000 := by omega
    refine wq_X6_behind p1039 (fun r_9 q1040 => ?_)
    refine ⟨v1034, ?_⟩
    refine ⟨v1034, ?_⟩
    refine ⟨fun c1041 => ?_, fun c1042 => ?_⟩
    · replace c1041 := q_neq c1041
      rw [li_0] at c1041
      have := upd_i (s0.2.1 4) (Int32.toNatClampNeg x1) r_9
      refine ⟨v1034, ?_⟩
      refine ⟨v1034, ?_⟩
      refine ⟨v1034, ?_⟩
      refine ⟨v1034, ?_⟩
      refine ⟨v1034, ?_⟩
      have p1043 : (s0.1 0).toInt = R := by omega
      have p1044 : (s0.1 1).toInt = W := by omega
      have p1045 : 0 ≤ (s0.1 3).toInt ∧ (s0.1 3).toInt ≤ 4 := by omega
      have p1046 : 0 ≤ R ∧ R ≤ 6 ∧ 0 ≤ W ∧ W ≤ 10 ∧ 0 ≤ R * W ∧ R * W ≤ 40 := by omega
      have p1047 : ar 4 (0) (40) (s0.2.1 1) := h1030.2.2.2.2.1
      have p1048 : ar 40 (0) (3) (s0.2.1 3) := h1030.2.2.2.2.2.1
      have p1049 : ar 40 (0) (39) (upd (s0.2.1 4) (Int32.toNatClampNeg x1) r_9) := (ar_upd h1030.2.2.2.2.2.2.1 (by omega) (by omega))
      have p1050 : ar 40 (0) (39) (upd (s0.2.1 5) (Int32.toNatClampNeg x1) r_4) := (ar_upd h1030.2.2.2.2.2.2.2.1 (by omega) (by omega))
      have p1051 : ar 40 (0) (39) (s0.2.1 6) := h1030.2.2.2.2.2.2.2.2.1
      have p1052 : s0.2.2.2.1 ≤ 6400 := by omega
      have B1053 : bi (R) (W) (s0.1, (va_up (va_up (va_up (va_up s0.2.1 4 (upd (s0.2.1 4) (Int32.toNatClampNeg x1) r_9)) 5 (upd (s0.2.1 5) (Int32.toNatClampNeg x1) r_4)) 8 (upd (s0.2.1 8) (Int32.toNatClampNeg x1) ((s0.2.1 8 (Int32.toNatClampNeg x1)) + 1))) 9 (upd (s0.2.1 9) (Int32.toNatClampNeg x1) ((s0.2.1 9 (Int32.toNatClampNeg x1)) + 0))), s0.2.2.1, s0.2.2.2.1, s0.2.2.2.2) := ⟨p1043, p1044, p1045, p1046, p1047, p1048, p1049, p1050, p1051, p1052⟩
      exact k _ _ B1053
    · replace c1042 := q_eq c1042
      rw [li_0] at c1042
      have := upd_i (s0.2.1 4) (Int32.toNatClampNeg x1) r_9
      refine ⟨v1034, ?_⟩
      refine ⟨v1034, ?_⟩
      refine ⟨v1034, ?_⟩
      refine ⟨v1034, ?_⟩
      refine ⟨v1034, ?_⟩
      have p1054 : (s0.1 0).toInt = R := by omega
      have p1055 : (s0.1 1).toInt = W := by omega
      have p1056 : 0 ≤ (s0.1 3).toInt ∧ (s0.1 3).toInt ≤ 4 := by omega
      have p1057 : 0 ≤ R ∧ R ≤ 6 ∧ 0 ≤ W ∧ W ≤ 10 ∧ 0 ≤ R * W ∧ R * W ≤ 40 := by omega
      have p1058 : ar 4 (0) (40) (s0.2.1 1) := h1030.2.2.2.2.1
      have p1059 : ar 40 (0) (3) (s0.2.1 3) := h1030.2.2.2.2.2.1
      have p1060 : ar 40 (0) (39) (upd (s0.2.1 4) (Int32.toNatClampNeg x1) r_9) := (ar_upd h1030.2.2.2.2.2.2.1 (by omega) (by omega))
      have p1061 : ar 40 (0) (39) (upd (s0.2.1 5) (Int32.toNatClampNeg x1) 0) := (ar_upd h1030.2.2.2.2.2.2.2.1 (by decide) (by decide))
      have p1062 : ar 40 (0) (39) (s0.2.1 6) := h1030.2.2.2.2.2.2.2.2.1
      have p1063 : s0.2.2.2.1 ≤ 6400 := by omega
      have B1064 : bi (R) (W) (s0.1, (va_up (va_up (va_up (va_up s0.2.1 4 (upd (s0.2.1 4) (Int32.toNatClampNeg x1) r_9)) 5 (upd (s0.2.1 5) (Int32.toNatClampNeg x1) 0)) 8 (upd (s0.2.1 8) (Int32.toNatClampNeg x1) ((s0.2.1 8 (Int32.toNatClampNeg x1)) + 1))) 9 (upd (s0.2.1 9) (Int32.toNatClampNeg x1) ((s0.2.1 9 (Int32.toNatClampNeg x1)) + r_4))), s0.2.2.1, s0.2.2.2.1, s0.2.2.2.2) := ⟨p1054, p1055, p1056, p1057, p1058, p1059, p1060, p1061, p1062, p1063⟩
      exact k _ _ B1064
  · replace c1038 := q_nle c1038
    rw [li_0] at c1038
    refine ⟨v1034, ?_⟩
    refine ⟨v1034, ?_⟩
    refine ⟨v1034, ?_⟩
    refine ⟨v1034, ?_⟩
    refine ⟨v1034, ?_⟩
    refine ⟨v1034, ?_⟩
    refine ⟨v1034, ?_⟩
    have p1065 : (s0.1 0).toInt = R := by omega
    have p1066 : (s0.1 1).toInt = W := by omega
    have p1067 : 0 ≤ (s0.1 3).toInt ∧ (s0.1 3).toInt ≤ 4 := by omega
    have p1068 : 0 ≤ R ∧ R ≤ 6 ∧ 0 ≤ W ∧ W ≤ 10 ∧ 0 ≤ R * W ∧ R * W ≤ 40 := by omega
    have p1069 : ar 4 (0) (40) (s0.2.1 1) := h1030.2.2.2.2.1
    have p1070 : ar 40 (0) (3) (s0.2.1 3) := h1030.2.2.2.2.2.1
    have p1071 : ar 40 (0) (39) (s0.2.1 4) := h1030.2.2.2.2.2.2.1
    have p1072 : ar 40 (0) (39) (upd (s0.2.1 5) (Int32.toNatClampNeg x1) r_4) := (ar_upd h1030.2.2.2.2.2.2.2.1 (by omega) (by omega))
    have p1073 : ar 40 (0) (39) (s0.2.1 6) := h1030.2.2.2.2.2.2.2.2.1
    have p1074 : s0.2.2.2.1 ≤ 6400 := by omega
    have B1075 : bi (R) (W) (s0.1, (va_up (va_up (va_up (va_up s0.2.1 5 (upd (s0.2.1 5) (Int32.toNatClampNeg x1) r_4)) 7 (upd (s0.2.1 7) (Int32.toNatClampNeg x1) ((s0.2.1 7 (Int32.toNatClampNeg x1)) - 1))) 8 (upd (s0.2.1 8) (Int32.toNatClampNeg x1) ((s0.2.1 8 (Int32.toNatClampNeg x1)) + 1))) 9 (upd (s0.2.1 9) (Int32.toNatClampNeg x1) ((s0.2.1 9 (Int32.toNatClampNeg x1)) + 0))), s0.2.2.1, s0.2.2.2.1, s0.2.2.2.2) := ⟨p1065, p1066, p1067, p1068, p1069, p1070, p1071, p1072, p1073, p1074⟩
    exact k _ _ B1075
theorem wq_X0_leftOfAll_L4 {s0 : Bd} {post : Int32 → Prop} {e40 : Int32 → Int32 → Int32 → Prop} {R W : Int} (h1076 : bi (R) (W) s0) (ke40 : ∀ (z1 : Int32) (z2 : Int32) (z3 : Int32), 0 ≤ (z3).toInt ∧ (z3).toInt ≤ R * W → e40 z1 z2 z3) : ∀ (n : Nat) (z1 : Int32) (z2 : Int32) (z3 : Int32), 0 ≤ (z3).toInt ∧ (z3).toInt ≤ R * W → R * W - (z3).toInt < (n : Int) → wp_X0_leftOfAll_L4 s0 post e40 n z1 z2 z3 := by
  have := h1076.1
  have := h1076.2.1
  have := h1076.2.2.1
  have := h1076.2.2.2.1
  have := h1076.2.2.2.2.2.2.2.2.2
  intro n
  induction n with
  | zero =>
    intro z1 z2 z3 i1077 i1078
    exfalso
    omega
  | succ n ih =>
    intro z1 z2 z3 i1077 i1078
    unfold wp_X0_leftOfAll_L4
    refine wq_X0_cells h1076 (fun r_1 q1079 => ?_)
    refine ⟨fun c1080 => ?_, fun c1081 => ?_⟩
    · replace c1080 := q_le c1080
      have p1082 : 0 ≤ (z3).toInt ∧ (z3).toInt ≤ R * W := by omega
      exact ke40 _ _ _ p1082
    · replace c1081 := q_nle c1081
      have p1083 : 0 ≤ (z3).toInt ∧ (z3).toInt < 40 := by omega
      refine wq_X0_leftOf h1076 p1083 (fun r_4 => ?_)
      refine ⟨fun c1084 => ?_, fun c1085 => ?_⟩
      · replace c1084 := q_eq c1084
        rw [li_0] at c1084
        have e1086 := tq_addr li_1 z3
        try rw [Int.emod_eq_of_lt (show 0 ≤ (z3).toInt + 1 + 2147483648 by omega) (show (z3).toInt + 1 + 2147483648 < 4294967296 by omega)] at e1086
        have p1087 : 0 ≤ (z3 + 1).toInt ∧ (z3 + 1).toInt ≤ R * W := by omega
        have p1088 : R * W - (z3 + 1).toInt < ((n : Nat) : Int) := by (omega)
        exact ih _ _ _ p1087 p1088
      · replace c1085 := q_neq c1085
        rw [li_0] at c1085
        have p1089 : 0 ≤ (z3).toInt ∧ (z3).toInt < 40 := by omega
        refine wq_X0_currentOf h1076 p1089 (fun r_7 => ?_)
        have e1090 := tq_addr li_1 z3
        try rw [Int.emod_eq_of_lt (show 0 ≤ (z3).toInt + 1 + 2147483648 by omega) (show (z3).toInt + 1 + 2147483648 < 4294967296 by omega)] at e1090
        have p1091 : 0 ≤ (z3 + 1).toInt ∧ (z3 + 1).toInt ≤ R * W := by omega
        have p1092 : R * W - (z3 + 1).toInt < ((n : Nat) : Int) := by (omega)
        exact ih _ _ _ p1091 p1092
theorem wq_X0_leftOfAll {post : Int32 → Prop} {s0 : Bd} {x1 : Int32} {R W : Int} (h1093 : bi (R) (W) s0) (k : ∀ (r : Int32), post r) : wp_X0_leftOfAll post s0 x1 := by
  unfold wp_X0_leftOfAll
  have := h1093.1
  have := h1093.2.1
  have := h1093.2.2.1
  have := h1093.2.2.2.1
  have := h1093.2.2.2.2.2.2.2.2.2
  have p1094 : 0 ≤ (0 : Int32).toInt ∧ (0 : Int32).toInt ≤ R * W := by (have := li_0; omega)
  obtain ⟨f1095, g1096⟩ := fu_e 50
  have p1097 : R * W - (0 : Int32).toInt < (f1095 : Int) := by (have := li_0; omega)
  refine ⟨f1095, wq_X0_leftOfAll_L4 h1093 (fun z1 z2 z3 q1098 => ?_) f1095 _ _ _ p1094 p1097⟩
  exact k _
theorem wq_X0_mostLeft_L4 {s0 : Bd} {post : Int32 → Prop} {e28 : Int32 → Int32 → Prop} {R W : Int} (h1099 : bi (R) (W) s0) (ke28 : ∀ (z1 : Int32) (z2 : Int32), 0 ≤ (z2).toInt ∧ (z2).toInt ≤ R * W → e28 z1 z2) : ∀ (n : Nat) (z1 : Int32) (z2 : Int32), 0 ≤ (z2).toInt ∧ (z2).toInt ≤ R * W → R * W - (z2).toInt < (n : Int) → wp_X0_mostLeft_L4 s0 post e28 n z1 z2 := by
  have := h1099.1
  have := h1099.2.1
  have := h1099.2.2.1
  have := h1099.2.2.2.1
  have := h1099.2.2.2.2.2.2.2.2.2
  intro n
  induction n with
  | zero =>
    intro z1 z2 i1100 i1101
    exfalso
    omega
  | succ n ih =>
    intro z1 z2 i1100 i1101
    unfold wp_X0_mostLeft_L4
    refine wq_X0_cells h1099 (fun r_1 q1102 => ?_)
    refine ⟨fun c1103 => ?_, fun c1104 => ?_⟩
    · replace c1103 := q_le c1103
      have p1105 : 0 ≤ (z2).toInt ∧ (z2).toInt ≤ R * W := by omega
      exact ke28 _ _ p1105
    · replace c1104 := q_nle c1104
      have p1106 : 0 ≤ (z2).toInt ∧ (z2).toInt < 40 := by omega
      refine wq_X0_leftOf h1099 p1106 (fun r_4 => ?_)
      have e1107 := tq_addr li_1 z2
      try rw [Int.emod_eq_of_lt (show 0 ≤ (z2).toInt + 1 + 2147483648 by omega) (show (z2).toInt + 1 + 2147483648 < 4294967296 by omega)] at e1107
      have p1108 : 0 ≤ (z2 + 1).toInt ∧ (z2 + 1).toInt ≤ R * W := by omega
      have p1109 : R * W - (z2 + 1).toInt < ((n : Nat) : Int) := by (omega)
      exact ih _ _ p1108 p1109
theorem wq_X0_mostLeft {post : Int32 → Prop} {s0 : Bd} {R W : Int} (h1110 : bi (R) (W) s0) (k : ∀ (r : Int32), post r) : wp_X0_mostLeft post s0 := by
  unfold wp_X0_mostLeft
  have := h1110.1
  have := h1110.2.1
  have := h1110.2.2.1
  have := h1110.2.2.2.1
  have := h1110.2.2.2.2.2.2.2.2.2
  have p1111 : 0 ≤ (0 : Int32).toInt ∧ (0 : Int32).toInt ≤ R * W := by (have := li_0; omega)
  obtain ⟨f1112, g1113⟩ := fu_e 50
  have p1114 : R * W - (0 : Int32).toInt < (f1112 : Int) := by (have := li_0; omega)
  refine ⟨f1112, wq_X0_mostLeft_L4 h1110 (fun z1 z2 q1115 => ?_) f1112 _ _ p1111 p1114⟩
  exact k _
theorem wq_X0_emptyLog {post : Bd → Prop} {s0 : Bd} {R W : Int} (h1116 : bi (R) (W) s0) (k : ∀ (u : Bd), bi (R) (W) u → post u) : wp_X0_emptyLog post s0 := by
  unfold wp_X0_emptyLog
  have := h1116.1
  have := h1116.2.1
  have := h1116.2.2.1
  have := h1116.2.2.2.1
  have := h1116.2.2.2.2.2.2.2.2.2
  refine wq_X0_entryCount h1116 (fun r_1 q1117 => ?_)
  refine ⟨fun c1118 => ?_, fun c1119 => ?_⟩
  · replace c1118 := q_le c1118
    have := tq_ofn (n := s0.2.2.2.1) (by omega)
    refine ⟨(by omega), ?_⟩
    have p1120 : (s0.1 0).toInt = R := by omega
    have p1121 : (s0.1 1).toInt = W := by omega
    have p1122 : 0 ≤ (s0.1 3).toInt ∧ (s0.1 3).toInt ≤ 4 := by omega
    have p1123 : 0 ≤ R ∧ R ≤ 6 ∧ 0 ≤ W ∧ W ≤ 10 ∧ 0 ≤ R * W ∧ R * W ≤ 40 := by omega
    have p1124 : ar 4 (0) (40) (s0.2.1 1) := h1116.2.2.2.2.1
    have p1125 : ar 40 (0) (3) (s0.2.1 3) := h1116.2.2.2.2.2.1
    have p1126 : ar 40 (0) (39) (s0.2.1 4) := h1116.2.2.2.2.2.2.1
    have p1127 : ar 40 (0) (39) (s0.2.1 5) := h1116.2.2.2.2.2.2.2.1
    have p1128 : ar 40 (0) (39) (s0.2.1 6) := h1116.2.2.2.2.2.2.2.2.1
    have p1129 : s0.2.2.2.1 ≤ 6400 := by omega
    have B1130 : bi (R) (W) (s0.1, s0.2.1, s0.2.2.1, s0.2.2.2.1, (fl_f s0.2.2.2.1 0 s0.2.2.2.2)) := ⟨p1120, p1121, p1122, p1123, p1124, p1125, p1126, p1127, p1128, p1129⟩
    exact k _ B1130
  · replace c1119 := q_nle c1119
    have := tq_ofn (n := s0.2.2.2.1) (by omega)
    refine ⟨(z_nlt (by have := li_0; omega)), ?_⟩
    refine ⟨(tn_le (by omega)), ?_⟩
    have p1131 : (s0.1 0).toInt = R := by omega
    have p1132 : (s0.1 1).toInt = W := by omega
    have p1133 : 0 ≤ (s0.1 3).toInt ∧ (s0.1 3).toInt ≤ 4 := by omega
    have p1134 : 0 ≤ R ∧ R ≤ 6 ∧ 0 ≤ W ∧ W ≤ 10 ∧ 0 ≤ R * W ∧ R * W ≤ 40 := by omega
    have p1135 : ar 4 (0) (40) (s0.2.1 1) := h1116.2.2.2.2.1
    have p1136 : ar 40 (0) (3) (s0.2.1 3) := h1116.2.2.2.2.2.1
    have p1137 : ar 40 (0) (39) (s0.2.1 4) := h1116.2.2.2.2.2.2.1
    have p1138 : ar 40 (0) (39) (s0.2.1 5) := h1116.2.2.2.2.2.2.2.1
    have p1139 : ar 40 (0) (39) (s0.2.1 6) := h1116.2.2.2.2.2.2.2.2.1
    have p1140 : (Int32.toNatClampNeg r_1) ≤ 6400 := tn_le (by omega)
    have B1141 : bi (R) (W) (s0.1, s0.2.1, s0.2.2.1, (Int32.toNatClampNeg r_1), (fun _ => 0)) := ⟨p1131, p1132, p1133, p1134, p1135, p1136, p1137, p1138, p1139, p1140⟩
    exact k _ B1141

theorem wq_X0_entryAt {post : Int32 → Prop} {s0 : Bd} {x1 : Int32} {x2 : Int32} {x3 : Int32} {x4 : Int32} {R W : Int} (h1142 : bi (R) (W) s0) (k : ∀ (r : Int32), post r) : wp_X0_entryAt post s0 x1 x2 x3 x4 := by
  unfold wp_X0_entryAt
  have := h1142.1
  have := h1142.2.1
  have := h1142.2.2.1
  have := h1142.2.2.2.1
  have := h1142.2.2.2.2.2.2.2.2.2
  refine ⟨fun c1143 => ?_, fun c1144 => ?_⟩
  · replace c1143 := q_lt c1143
    rw [li_0] at c1143
    have e1145 := tq_add x1 (x3 * x2)
    try rw [Int.emod_eq_of_lt (show 0 ≤ (x1).toInt + (x3 * x2).toInt + 2147483648 by omega) (show (x1).toInt + (x3 * x2).toInt + 2147483648 < 4294967296 by omega)] at e1145
    have e1146 := tq_add (x1 + (x3 * x2)) x4
    try rw [Int.emod_eq_of_lt (show 0 ≤ (x1 + (x3 * x2)).toInt + (x4).toInt + 2147483648 by omega) (show (x1 + (x3 * x2)).toInt + (x4).toInt + 2147483648 < 4294967296 by omega)] at e1146
    exact k _
  · replace c1144 := q_nlt c1144
    rw [li_0] at c1144
    have e1147 := tq_add x1 (x3 * x2)
    try rw [Int.emod_eq_of_lt (show 0 ≤ (x1).toInt + (x3 * x2).toInt + 2147483648 by omega) (show (x1).toInt + (x3 * x2).toInt + 2147483648 < 4294967296 by omega)] at e1147
    have e1148 := tq_add (x1 + (x3 * x2)) x4
    try rw [Int.emod_eq_of_lt (show 0 ≤ (x1 + (x3 * x2)).toInt + (x4).toInt + 2147483648 by omega) (show (x1 + (x3 * x2)).toInt + (x4).toInt + 2147483648 < 4294967296 by omega)] at e1148
    refine ⟨fun c1149 => ?_, fun c1150 => ?_⟩
    · replace c1149 := q_le c1149
      have := tq_ofn (n := s0.2.2.2.1) (by omega)
      exact k _
    · replace c1150 := q_nle c1150
      have := tq_ofn (n := s0.2.2.2.1) (by omega)
      have v1151 : vp_in ((x1 + (x3 * x2)) + x4) s0.2.2.2.1 := vi (by omega) (by omega)
      refine ⟨v1151, ?_⟩
      exact k _
theorem wq_X0_journey_L27 {s0 : Bd} {post : Int32 → Prop} {e63 : Int32 → Int32 → Int32 → Int32 → Int32 → Int32 → Prop} {R W Z Y : Int} (h1152 : bi (R) (W) s0) (ke63 : ∀ (z1 : Int32) (z2 : Int32) (z3 : Int32) (z4 : Int32) (z5 : Int32) (z6 : Int32), (z5).toInt = Z → (z3).toInt = Y → e63 z1 z2 z3 z4 z5 z6) : ∀ (n : Nat) (z1 : Int32) (z2 : Int32) (z3 : Int32) (z4 : Int32) (z5 : Int32) (z6 : Int32), 0 ≤ (z6).toInt ∧ (z6).toInt ≤ (z3).toInt ∧ (z3).toInt ≤ 40 → (z5).toInt = Z → (z3).toInt = Y → (z3).toInt - (z6).toInt < (n : Int) → wp_X0_journey_L27 s0 post e63 n z1 z2 z3 z4 z5 z6 := by
  have := h1152.1
  have := h1152.2.1
  have := h1152.2.2.1
  have := h1152.2.2.2.1
  have := h1152.2.2.2.2.2.2.2.2.2
  intro n
  induction n with
  | zero =>
    intro z1 z2 z3 z4 z5 z6 i1153 i1154 i1155 i1156
    exfalso
    omega
  | succ n ih =>
    intro z1 z2 z3 z4 z5 z6 i1153 i1154 i1155 i1156
    unfold wp_X0_journey_L27
    refine ⟨fun c1157 => ?_, fun c1158 => ?_⟩
    · replace c1157 := q_le c1157
      have p1159 : (z5).toInt = Z := by omega
      have p1160 : (z3).toInt = Y := by omega
      exact ke63 _ _ _ _ _ _ p1159 p1160
    · replace c1158 := q_nle c1158
      refine wq_X0_entryAt h1152 (fun r_7 => ?_)
      refine wq_X6_onFrom (fun r_9 => ?_)
      have e1161 := tq_addr li_1 z6
      try rw [Int.emod_eq_of_lt (show 0 ≤ (z6).toInt + 1 + 2147483648 by omega) (show (z6).toInt + 1 + 2147483648 < 4294967296 by omega)] at e1161
      have p1162 : 0 ≤ (z6 + 1).toInt ∧ (z6 + 1).toInt ≤ (z3).toInt ∧ (z3).toInt ≤ 40 := by omega
      have p1163 : (z5).toInt = Z := by omega
      have p1164 : (z3).toInt = Y := by omega
      have p1165 : (z3).toInt - (z6 + 1).toInt < ((n : Nat) : Int) := by (omega)
      exact ih _ _ _ _ _ _ p1162 p1163 p1164 p1165
theorem wq_X0_journey_L18 {s0 : Bd} {post : Int32 → Prop} {e69 : Int32 → Int32 → Int32 → Int32 → Int32 → Prop} {R W : Int} (h1166 : bi (R) (W) s0) (ke69 : ∀ (z1 : Int32) (z2 : Int32) (z3 : Int32) (z4 : Int32) (z5 : Int32), 0 ≤ (z5).toInt ∧ (z5).toInt ≤ (z3).toInt ∧ (z3).toInt ≤ 40 → e69 z1 z2 z3 z4 z5) : ∀ (n : Nat) (z1 : Int32) (z2 : Int32) (z3 : Int32) (z4 : Int32) (z5 : Int32), 0 ≤ (z5).toInt ∧ (z5).toInt ≤ (z3).toInt ∧ (z3).toInt ≤ 40 → (z3).toInt - (z5).toInt < (n : Int) → wp_X0_journey_L18 s0 post e69 n z1 z2 z3 z4 z5 := by
  have := h1166.1
  have := h1166.2.1
  have := h1166.2.2.1
  have := h1166.2.2.2.1
  have := h1166.2.2.2.2.2.2.2.2.2
  intro n
  induction n with
  | zero =>
    intro z1 z2 z3 z4 z5 i1167 i1168
    exfalso
    omega
  | succ n ih =>
    intro z1 z2 z3 z4 z5 i1167 i1168
    unfold wp_X0_journey_L18
    refine ⟨fun c1169 => ?_, fun c1170 => ?_⟩
    · replace c1169 := q_le c1169
      have p1171 : 0 ≤ (z5).toInt ∧ (z5).toInt ≤ (z3).toInt ∧ (z3).toInt ≤ 40 := by omega
      exact ke69 _ _ _ _ _ p1171
    · replace c1170 := q_nle c1170
      have p1172 : 0 ≤ (0 : Int32).toInt ∧ (0 : Int32).toInt ≤ (z3).toInt ∧ (z3).toInt ≤ 40 := by (have := li_0; omega)
      have p1173 : (z5).toInt = ((z5).toInt) := by omega
      have p1174 : (z3).toInt = ((z3).toInt) := by omega
      obtain ⟨f1175, g1176⟩ := fu_e 50
      have p1177 : (z3).toInt - (0 : Int32).toInt < (f1175 : Int) := by (have := li_0; omega)
      refine ⟨f1175, wq_X0_journey_L27 h1166 (fun z1_1178 z2_1179 z3_1180 z4_1181 z5_1182 z6 q1183 q1184 => ?_) f1175 _ _ _ _ _ _ p1172 p1173 p1174 p1177⟩
      have e1185 := tq_addr li_1 z5_1182
      try rw [Int.emod_eq_of_lt (show 0 ≤ (z5_1182).toInt + 1 + 2147483648 by omega) (show (z5_1182).toInt + 1 + 2147483648 < 4294967296 by omega)] at e1185
      have p1186 : 0 ≤ (z5_1182 + 1).toInt ∧ (z5_1182 + 1).toInt ≤ (z3_1180).toInt ∧ (z3_1180).toInt ≤ 40 := by omega
      have p1187 : (z3_1180).toInt - (z5_1182 + 1).toInt < ((n : Nat) : Int) := by (omega)
      exact ih _ _ _ _ _ p1186 p1187
theorem wq_X0_journey {post : Int32 → Prop} {s0 : Bd} {x1 : Int32} {R W : Int} (h1188 : bi (R) (W) s0) (k : ∀ (r : Int32), post r) : wp_X0_journey post s0 x1 := by
  unfold wp_X0_journey
  have := h1188.1
  have := h1188.2.1
  have := h1188.2.2.1
  have := h1188.2.2.2.1
  have := h1188.2.2.2.2.2.2.2.2.2
  refine wq_X0_entryStart h1188 (fun r_1 q1189 => ?_)
  refine wq_X0_flapsOn h1188 (fun r_3 q1190 q1191 => ?_)
  have p1192 : 0 ≤ (0 : Int32).toInt ∧ (0 : Int32).toInt ≤ (r_3).toInt ∧ (r_3).toInt ≤ 40 := by (have := li_0; omega)
  obtain ⟨f1193, g1194⟩ := fu_e 50
  have p1195 : (r_3).toInt - (0 : Int32).toInt < (f1193 : Int) := by (have := li_0; omega)
  refine ⟨f1193, wq_X0_journey_L18 h1188 (fun z1 z2 z3 z4 z5 q1196 => ?_) f1193 _ _ _ _ _ p1192 p1195⟩
  exact k _
theorem wq_X0_entriesOf_L20 {s0 : Bd} {post : Int32 → Prop} {e67 : Int32 → Int32 → Int32 → Int32 → Int32 → Int32 → Int32 → Prop} {R W : Int} (h1197 : bi (R) (W) s0) (ke67 : ∀ (z1 : Int32) (z2 : Int32) (z3 : Int32) (z4 : Int32) (z5 : Int32) (z6 : Int32) (z7 : Int32), 0 ≤ (z7).toInt ∧ (z7).toInt ≤ (z5).toInt ∧ (z5).toInt ≤ 40 → e67 z1 z2 z3 z4 z5 z6 z7) : ∀ (n : Nat) (z1 : Int32) (z2 : Int32) (z3 : Int32) (z4 : Int32) (z5 : Int32) (z6 : Int32) (z7 : Int32), 0 ≤ (z7).toInt ∧ (z7).toInt ≤ (z5).toInt ∧ (z5).toInt ≤ 40 → (z5).toInt - (z7).toInt < (n : Int) → wp_X0_entriesOf_L20 s0 post e67 n z1 z2 z3 z4 z5 z6 z7 := by
  have := h1197.1
  have := h1197.2.1
  have := h1197.2.2.1
  have := h1197.2.2.2.1
  have := h1197.2.2.2.2.2.2.2.2.2
  intro n
  induction n with
  | zero =>
    intro z1 z2 z3 z4 z5 z6 z7 i1198 i1199
    exfalso
    omega
  | succ n ih =>
    intro z1 z2 z3 z4 z5 z6 z7 i1198 i1199
    unfold wp_X0_entriesOf_L20
    refine ⟨fun c1200 => ?_, fun c1201 => ?_⟩
    · replace c1200 := q_le c1200
      have p1202 : 0 ≤ (z7).toInt ∧ (z7).toInt ≤ (z5).toInt ∧ (z5).toInt ≤ 40 := by omega
      exact ke67 _ _ _ _ _ _ _ p1202
    · replace c1201 := q_nle c1201
      refine ⟨fun c1203 => ?_, fun c1204 => ?_⟩
      · replace c1203 := q_eq c1203
        rw [li_0] at c1203
        refine wq_X0_entryAt h1197 (fun r_7 => ?_)
        have e1205 := tq_addr li_1 z7
        try rw [Int.emod_eq_of_lt (show 0 ≤ (z7).toInt + 1 + 2147483648 by omega) (show (z7).toInt + 1 + 2147483648 < 4294967296 by omega)] at e1205
        have p1206 : 0 ≤ (z7 + 1).toInt ∧ (z7 + 1).toInt ≤ (z5).toInt ∧ (z5).toInt ≤ 40 := by omega
        have p1207 : (z5).toInt - (z7 + 1).toInt < ((n : Nat) : Int) := by (omega)
        exact ih _ _ _ _ _ _ _ p1206 p1207
      · replace c1204 := q_neq c1204
        rw [li_0] at c1204
        refine wq_X0_entryAt h1197 (fun r_9 => ?_)
        have e1208 := tq_addr li_1 z7
        try rw [Int.emod_eq_of_lt (show 0 ≤ (z7).toInt + 1 + 2147483648 by omega) (show (z7).toInt + 1 + 2147483648 < 4294967296 by omega)] at e1208
        have p1209 : 0 ≤ (z7 + 1).toInt ∧ (z7 + 1).toInt ≤ (z5).toInt ∧ (z5).toInt ≤ 40 := by omega
        have p1210 : (z5).toInt - (z7 + 1).toInt < ((n : Nat) : Int) := by (omega)
        exact ih _ _ _ _ _ _ _ p1209 p1210
theorem wq_X0_entriesOf {post : Int32 → Prop} {s0 : Bd} {x1 : Int32} {x2 : Int32} {x3 : Int32} {R W : Int} (h1211 : bi (R) (W) s0) (k : ∀ (r : Int32), post r) : wp_X0_entriesOf post s0 x1 x2 x3 := by
  unfold wp_X0_entriesOf
  have := h1211.1
  have := h1211.2.1
  have := h1211.2.2.1
  have := h1211.2.2.2.1
  have := h1211.2.2.2.2.2.2.2.2.2
  refine wq_X0_entryStart h1211 (fun r_1 q1212 => ?_)
  refine wq_X0_flapsOn h1211 (fun r_3 q1213 q1214 => ?_)
  have p1215 : 0 ≤ (0 : Int32).toInt ∧ (0 : Int32).toInt ≤ (r_3).toInt ∧ (r_3).toInt ≤ 40 := by (have := li_0; omega)
  obtain ⟨f1216, g1217⟩ := fu_e 50
  have p1218 : (r_3).toInt - (0 : Int32).toInt < (f1216 : Int) := by (have := li_0; omega)
  refine ⟨f1216, wq_X0_entriesOf_L20 h1211 (fun z1 z2 z3 z4 z5 z6 z7 q1219 => ?_) f1216 _ _ _ _ _ _ _ p1215 p1218⟩
  exact k _
theorem wq_X0_logSize_L4 {s0 : Bd} {post : Int32 → Prop} {e29 : Int32 → Int32 → Int32 → Prop} {R W : Int} (h1220 : bi (R) (W) s0) (ke29 : ∀ (z1 : Int32) (z2 : Int32) (z3 : Int32), 0 ≤ (z3).toInt ∧ (z3).toInt ≤ 40 → e29 z1 z2 z3) : ∀ (n : Nat) (z1 : Int32) (z2 : Int32) (z3 : Int32), 0 ≤ (z3).toInt ∧ (z3).toInt ≤ 40 → 40 - (z3).toInt < (n : Int) → wp_X0_logSize_L4 s0 post e29 n z1 z2 z3 := by
  have := h1220.1
  have := h1220.2.1
  have := h1220.2.2.1
  have := h1220.2.2.2.1
  have := h1220.2.2.2.2.2.2.2.2.2
  intro n
  induction n with
  | zero =>
    intro z1 z2 z3 i1221 i1222
    exfalso
    omega
  | succ n ih =>
    intro z1 z2 z3 i1221 i1222
    unfold wp_X0_logSize_L4
    refine wq_X0_flapsOn h1220 (fun r_1 q1223 q1224 => ?_)
    refine ⟨fun c1225 => ?_, fun c1226 => ?_⟩
    · replace c1225 := q_le c1225
      have p1227 : 0 ≤ (z3).toInt ∧ (z3).toInt ≤ 40 := by omega
      exact ke29 _ _ _ p1227
    · replace c1226 := q_nle c1226
      refine wq_X0_entriesOf h1220 (fun r_4 => ?_)
      have e1228 := tq_addr li_1 z3
      try rw [Int.emod_eq_of_lt (show 0 ≤ (z3).toInt + 1 + 2147483648 by omega) (show (z3).toInt + 1 + 2147483648 < 4294967296 by omega)] at e1228
      have p1229 : 0 ≤ (z3 + 1).toInt ∧ (z3 + 1).toInt ≤ 40 := by omega
      have p1230 : 40 - (z3 + 1).toInt < ((n : Nat) : Int) := by (omega)
      exact ih _ _ _ p1229 p1230
theorem wq_X0_logSize {post : Int32 → Prop} {s0 : Bd} {x1 : Int32} {R W : Int} (h1231 : bi (R) (W) s0) (k : ∀ (r : Int32), post r) : wp_X0_logSize post s0 x1 := by
  unfold wp_X0_logSize
  have := h1231.1
  have := h1231.2.1
  have := h1231.2.2.1
  have := h1231.2.2.2.1
  have := h1231.2.2.2.2.2.2.2.2.2
  have p1232 : 0 ≤ (0 : Int32).toInt ∧ (0 : Int32).toInt ≤ 40 := by (have := li_0; omega)
  obtain ⟨f1233, g1234⟩ := fu_e 50
  have p1235 : 40 - (0 : Int32).toInt < (f1233 : Int) := by (have := li_0; omega)
  refine ⟨f1233, wq_X0_logSize_L4 h1231 (fun z1 z2 z3 q1236 => ?_) f1233 _ _ _ p1232 p1235⟩
  exact k _
theorem wq_X0_unlikeEntries_L27 {s0 : Bd} {post : Int32 → Prop} {e55 : Int32 → Int32 → Int32 → Int32 → Int32 → Int32 → Prop} {R W Z Y : Int} (h1237 : bi (R) (W) s0) (ke55 : ∀ (z1 : Int32) (z2 : Int32) (z3 : Int32) (z4 : Int32) (z5 : Int32) (z6 : Int32), (z5).toInt = Z → (z3).toInt = Y → e55 z1 z2 z3 z4 z5 z6) : ∀ (n : Nat) (z1 : Int32) (z2 : Int32) (z3 : Int32) (z4 : Int32) (z5 : Int32) (z6 : Int32), 0 ≤ (z6).toInt ∧ (z6).toInt ≤ (z3).toInt ∧ (z3).toInt ≤ 40 → (z5).toInt = Z → (z3).toInt = Y → (z3).toInt - (z6).toInt < (n : Int) → wp_X0_unlikeEntries_L27 s0 post e55 n z1 z2 z3 z4 z5 z6 := by
  have := h1237.1
  have := h1237.2.1
  have := h1237.2.2.1
  have := h1237.2.2.2.1
  have := h1237.2.2.2.2.2.2.2.2.2
  intro n
  induction n with
  | zero =>
    intro z1 z2 z3 z4 z5 z6 i1238 i1239 i1240 i1241
    exfalso
    omega
  | succ n ih =>
    intro z1 z2 z3 z4 z5 z6 i1238 i1239 i1240 i1241
    unfold wp_X0_unlikeEntries_L27
    refine ⟨fun c1242 => ?_, fun c1243 => ?_⟩
    · replace c1242 := q_le c1242
      have p1244 : (z5).toInt = Z := by omega
      have p1245 : (z3).toInt = Y := by omega
      exact ke55 _ _ _ _ _ _ p1244 p1245
    · replace c1243 := q_nle c1243
      refine wq_X0_entryAt h1237 (fun r_7 => ?_)
      refine ⟨fun c1246 => ?_, fun c1247 => ?_⟩
      · replace c1246 := q_le c1246
        rw [li_0] at c1246
        have e1248 := tq_addr li_1 z6
        try rw [Int.emod_eq_of_lt (show 0 ≤ (z6).toInt + 1 + 2147483648 by omega) (show (z6).toInt + 1 + 2147483648 < 4294967296 by omega)] at e1248
        have p1249 : 0 ≤ (z6 + 1).toInt ∧ (z6 + 1).toInt ≤ (z3).toInt ∧ (z3).toInt ≤ 40 := by omega
        have p1250 : (z5).toInt = Z := by omega
        have p1251 : (z3).toInt = Y := by omega
        have p1252 : (z3).toInt - (z6 + 1).toInt < ((n : Nat) : Int) := by (omega)
        exact ih _ _ _ _ _ _ p1249 p1250 p1251 p1252
      · replace c1247 := q_nle c1247
        rw [li_0] at c1247
        have e1253 := tq_addr li_1 z6
        try rw [Int.emod_eq_of_lt (show 0 ≤ (z6).toInt + 1 + 2147483648 by omega) (show (z6).toInt + 1 + 2147483648 < 4294967296 by omega)] at e1253
        have p1254 : 0 ≤ (z6 + 1).toInt ∧ (z6 + 1).toInt ≤ (z3).toInt ∧ (z3).toInt ≤ 40 := by omega
        have p1255 : (z5).toInt = Z := by omega
        have p1256 : (z3).toInt = Y := by omega
        have p1257 : (z3).toInt - (z6 + 1).toInt < ((n : Nat) : Int) := by (omega)
        exact ih _ _ _ _ _ _ p1254 p1255 p1256 p1257
theorem wq_X0_unlikeEntries_L18 {s0 : Bd} {post : Int32 → Prop} {e61 : Int32 → Int32 → Int32 → Int32 → Int32 → Prop} {R W : Int} (h1258 : bi (R) (W) s0) (ke61 : ∀ (z1 : Int32) (z2 : Int32) (z3 : Int32) (z4 : Int32) (z5 : Int32), 0 ≤ (z5).toInt ∧ (z5).toInt ≤ (z3).toInt ∧ (z3).toInt ≤ 40 → e61 z1 z2 z3 z4 z5) : ∀ (n : Nat) (z1 : Int32) (z2 : Int32) (z3 : Int32) (z4 : Int32) (z5 : Int32), 0 ≤ (z5).toInt ∧ (z5).toInt ≤ (z3).toInt ∧ (z3).toInt ≤ 40 → (z3).toInt - (z5).toInt < (n : Int) → wp_X0_unlikeEntries_L18 s0 post e61 n z1 z2 z3 z4 z5 := by
  have := h1258.1
  have := h1258.2.1
  have := h1258.2.2.1
  have := h1258.2.2.2.1
  have := h1258.2.2.2.2.2.2.2.2.2
  intro n
  induction n with
  | zero =>
    intro z1 z2 z3 z4 z5 i1259 i1260
    exfalso
    omega
  | succ n ih =>
    intro z1 z2 z3 z4 z5 i1259 i1260
    unfold wp_X0_unlikeEntries_L18
    refine ⟨fun c1261 => ?_, fun c1262 => ?_⟩
    · replace c1261 := q_le c1261
      have p1263 : 0 ≤ (z5).toInt ∧ (z5).toInt ≤ (z3).toInt ∧ (z3).toInt ≤ 40 := by omega
      exact ke61 _ _ _ _ _ p1263
    · replace c1262 := q_nle c1262
      have p1264 : 0 ≤ (0 : Int32).toInt ∧ (0 : Int32).toInt ≤ (z3).toInt ∧ (z3).toInt ≤ 40 := by (have := li_0; omega)
      have p1265 : (z5).toInt = ((z5).toInt) := by omega
      have p1266 : (z3).toInt = ((z3).toInt) := by omega
      obtain ⟨f1267, g1268⟩ := fu_e 50
      have p1269 : (z3).toInt - (0 : Int32).toInt < (f1267 : Int) := by (have := li_0; omega)
      refine ⟨f1267, wq_X0_unlikeEntries_L27 h1258 (fun z1_1270 z2_1271 z3_1272 z4_1273 z5_1274 z6 q1275 q1276 => ?_) f1267 _ _ _ _ _ _ p1264 p1265 p1266 p1269⟩
      have e1277 := tq_addr li_1 z5_1274
      try rw [Int.emod_eq_of_lt (show 0 ≤ (z5_1274).toInt + 1 + 2147483648 by omega) (show (z5_1274).toInt + 1 + 2147483648 < 4294967296 by omega)] at e1277
      have p1278 : 0 ≤ (z5_1274 + 1).toInt ∧ (z5_1274 + 1).toInt ≤ (z3_1272).toInt ∧ (z3_1272).toInt ≤ 40 := by omega
      have p1279 : (z3_1272).toInt - (z5_1274 + 1).toInt < ((n : Nat) : Int) := by (omega)
      exact ih _ _ _ _ _ p1278 p1279

theorem wq_X0_unlikeEntries {post : Int32 → Prop} {s0 : Bd} {x1 : Int32} {R W : Int} (h1280 : bi (R) (W) s0) (k : ∀ (r : Int32), post r) : wp_X0_unlikeEntries post s0 x1 := by
  unfold wp_X0_unlikeEntries
  have := h1280.1
  have := h1280.2.1
  have := h1280.2.2.1
  have := h1280.2.2.2.1
  have := h1280.2.2.2.2.2.2.2.2.2
  refine wq_X0_entryStart h1280 (fun r_1 q1281 => ?_)
  refine wq_X0_flapsOn h1280 (fun r_3 q1282 q1283 => ?_)
  have p1284 : 0 ≤ (0 : Int32).toInt ∧ (0 : Int32).toInt ≤ (r_3).toInt ∧ (r_3).toInt ≤ 40 := by (have := li_0; omega)
  obtain ⟨f1285, g1286⟩ := fu_e 50
  have p1287 : (r_3).toInt - (0 : Int32).toInt < (f1285 : Int) := by (have := li_0; omega)
  refine ⟨f1285, wq_X0_unlikeEntries_L18 h1280 (fun z1 z2 z3 z4 z5 q1288 => ?_) f1285 _ _ _ _ _ p1284 p1287⟩
  exact k _
theorem wq_X0_journeyChange_L60 {s0 : Bd} {post : Int32 → Prop} {e185 : Int32 → Int32 → Int32 → Int32 → Int32 → Int32 → Int32 → Int32 → Prop} {R W : Int} (h1289 : bi (R) (W) s0) (ke185 : ∀ (z1 : Int32) (z2 : Int32) (z3 : Int32) (z4 : Int32) (z5 : Int32) (z6 : Int32) (z7 : Int32) (z8 : Int32), 0 ≤ (z8).toInt ∧ (z8).toInt ≤ (z5).toInt ∧ (z5).toInt ≤ 40 → e185 z1 z2 z3 z4 z5 z6 z7 z8) : ∀ (n : Nat) (z1 : Int32) (z2 : Int32) (z3 : Int32) (z4 : Int32) (z5 : Int32) (z6 : Int32) (z7 : Int32) (z8 : Int32), 0 ≤ (z8).toInt ∧ (z8).toInt ≤ (z5).toInt ∧ (z5).toInt ≤ 40 → (z5).toInt - (z8).toInt < (n : Int) → wp_X0_journeyChange_L60 s0 post e185 n z1 z2 z3 z4 z5 z6 z7 z8 := by
  have := h1289.1
  have := h1289.2.1
  have := h1289.2.2.1
  have := h1289.2.2.2.1
  have := h1289.2.2.2.2.2.2.2.2.2
  intro n
  induction n with
  | zero =>
    intro z1 z2 z3 z4 z5 z6 z7 z8 i1290 i1291
    exfalso
    omega
  | succ n ih =>
    intro z1 z2 z3 z4 z5 z6 z7 z8 i1290 i1291
    unfold wp_X0_journeyChange_L60
    refine ⟨fun c1292 => ?_, fun c1293 => ?_⟩
    · replace c1292 := q_le c1292
      have p1294 : 0 ≤ (z8).toInt ∧ (z8).toInt ≤ (z5).toInt ∧ (z5).toInt ≤ 40 := by omega
      exact ke185 _ _ _ _ _ _ _ _ p1294
    · replace c1293 := q_nle c1293
      refine ⟨fun c1295 => ?_, fun c1296 => ?_⟩
      · replace c1295 := q_eq c1295
        have e1297 := tq_addr li_1 z8
        try rw [Int.emod_eq_of_lt (show 0 ≤ (z8).toInt + 1 + 2147483648 by omega) (show (z8).toInt + 1 + 2147483648 < 4294967296 by omega)] at e1297
        have p1298 : 0 ≤ (z8 + 1).toInt ∧ (z8 + 1).toInt ≤ (z5).toInt ∧ (z5).toInt ≤ 40 := by omega
        have p1299 : (z5).toInt - (z8 + 1).toInt < ((n : Nat) : Int) := by (omega)
        exact ih _ _ _ _ _ _ _ _ p1298 p1299
      · replace c1296 := q_neq c1296
        refine ⟨fun c1300 => ?_, fun c1301 => ?_⟩
        · replace c1300 := q_eq c1300
          have e1302 := tq_addr li_1 z8
          try rw [Int.emod_eq_of_lt (show 0 ≤ (z8).toInt + 1 + 2147483648 by omega) (show (z8).toInt + 1 + 2147483648 < 4294967296 by omega)] at e1302
          have p1303 : 0 ≤ (z8 + 1).toInt ∧ (z8 + 1).toInt ≤ (z5).toInt ∧ (z5).toInt ≤ 40 := by omega
          have p1304 : (z5).toInt - (z8 + 1).toInt < ((n : Nat) : Int) := by (omega)
          exact ih _ _ _ _ _ _ _ _ p1303 p1304
        · replace c1301 := q_neq c1301
          refine wq_X0_entryAt h1289 (fun r_16 => ?_)
          refine wq_X0_entryAt h1289 (fun r_18 => ?_)
          refine wq_X0_entryAt h1289 (fun r_20 => ?_)
          refine wq_X0_entryAt h1289 (fun r_22 => ?_)
          refine wq_X6_onFrom (fun r_24 => ?_)
          refine wq_X6_onFrom (fun r_26 => ?_)
          refine wq_X6_onFrom (fun r_28 => ?_)
          refine wq_X6_onFrom (fun r_30 => ?_)
          have e1305 := tq_addr li_1 z8
          try rw [Int.emod_eq_of_lt (show 0 ≤ (z8).toInt + 1 + 2147483648 by omega) (show (z8).toInt + 1 + 2147483648 < 4294967296 by omega)] at e1305
          have p1306 : 0 ≤ (z8 + 1).toInt ∧ (z8 + 1).toInt ≤ (z5).toInt ∧ (z5).toInt ≤ 40 := by omega
          have p1307 : (z5).toInt - (z8 + 1).toInt < ((n : Nat) : Int) := by (omega)
          exact ih _ _ _ _ _ _ _ _ p1306 p1307
theorem wq_X0_journeyChange {post : Int32 → Prop} {s0 : Bd} {x1 : Int32} {x2 : Int32} {x3 : Int32} {R W : Int} (h1308 : bi (R) (W) s0) (k : ∀ (r : Int32), post r) : wp_X0_journeyChange post s0 x1 x2 x3 := by
  unfold wp_X0_journeyChange
  have := h1308.1
  have := h1308.2.1
  have := h1308.2.2.1
  have := h1308.2.2.2.1
  have := h1308.2.2.2.2.2.2.2.2.2
  refine wq_X0_entryStart h1308 (fun r_1 q1309 => ?_)
  refine wq_X0_flapsOn h1308 (fun r_3 q1310 q1311 => ?_)
  refine wq_X0_entryAt h1308 (fun r_5 => ?_)
  refine wq_X0_entryAt h1308 (fun r_7 => ?_)
  refine wq_X6_onFrom (fun r_9 => ?_)
  refine wq_X6_onFrom (fun r_11 => ?_)
  have p1312 : 0 ≤ (0 : Int32).toInt ∧ (0 : Int32).toInt ≤ (r_3).toInt ∧ (r_3).toInt ≤ 40 := by (have := li_0; omega)
  obtain ⟨f1313, g1314⟩ := fu_e 50
  have p1315 : (r_3).toInt - (0 : Int32).toInt < (f1313 : Int) := by (have := li_0; omega)
  refine ⟨f1313, wq_X0_journeyChange_L60 h1308 (fun z1 z2 z3 z4 z5 z6 z7 z8 q1316 => ?_) f1313 _ _ _ _ _ _ _ _ p1312 p1315⟩
  exact k _

def ln (i : Nat) : Int := ((st_len.getD i 0 : Nat) : Int)
theorem st_le (i : Nat) : st_len.getD i 0 ≤ 6 := by
  by_cases h : i < 12
  · exact (show ∀ i, i < 12 → st_len.getD i 0 ≤ 6 by decide) i h
  · have e : st_len.getD i 0 = 0 := by
      rw [List.getD_eq_getElem?_getD, List.getElem?_eq_none (by show 12 ≤ i; omega)]
      rfl
    omega
theorem st_lt {i : Nat} (h : 0 < st_len.getD i 0) : i < 12 := by
  by_cases g : i < 12
  · exact g
  · have e : st_len.getD i 0 = 0 := by
      rw [List.getD_eq_getElem?_getD, List.getElem?_eq_none (by show 12 ≤ i; omega)]
      rfl
    omega
def chv (i j : Nat) : Int32 := UInt32.toInt32 (Int32.toUInt32 (((st_byt.getD i []).getD j 0) &&& 255) % 65536)
theorem ch_ok : ∀ i, i < 12 → ∀ j, j < 6 → (chv i j).toUInt32.toUInt16.toUInt32.toInt32 = chv i j := by decide +kernel
theorem wq_J0_length_8abf5 {post : Int32 → Prop} {i0 : Nat} (k : ∀ (r : Int32), r.toInt = ln i0 → 0 ≤ r.toInt ∧ r.toInt ≤ 9 → post r) : wp_J0_length_8abf5 post i0 := by
  unfold wp_J0_length_8abf5 wp_J0_coder_7d493
  show post (Int32.ofNat (st_len.getD i0 0) >>> ((0 : Int32) &&& 31))
  have e : ∀ n, n < 7 → (Int32.ofNat n) >>> ((0 : Int32) &&& 31) = Int32.ofNat n := by decide
  have l := st_le i0
  rw [e _ (by omega)]
  have t := tq_ofn (n := st_len.getD i0 0) (by omega)
  exact k _ t (by omega)
theorem wq_J0_charAt_5068e {post : Int32 → Prop} {i0 : Nat} {x1 : Int32} (h : 0 ≤ x1.toInt ∧ x1.toInt < ln i0) (k : ∀ r : Int32, post r) : wp_J0_charAt_5068e post i0 x1 := by
  unfold wp_J0_charAt_5068e wp_J0_isLatin1_aae02
  have l := st_le i0
  have h2 : x1.toInt < ((st_len.getD i0 0 : Nat) : Int) := h.2
  have t := tq_ofn (n := st_len.getD i0 0) (by omega)
  have g : i0 < 12 := st_lt (by omega)
  have hj : Int32.toNatClampNeg x1 < 6 := by
    rw [tn_i]
    omega
  have ch : narrow .char (.int (chv i0 (Int32.toNatClampNeg x1))) = .int (chv i0 (Int32.toNatClampNeg x1)) := congrArg (fun z => (.int z : Value)) (ch_ok i0 g _ hj)
  refine ⟨fun c => absurd c (by decide), fun _ => ?_⟩
  unfold wp_J1_charAt_3b067 wp_J0_checkIndex_df160 wp_J3_checkIndex_8e157_n
  refine ⟨fun c => ?_, fun c => ⟨fun d => ?_, fun d => ?_⟩⟩
  · have := q_lt c
    have e0 : (0 : Int32).toInt = 0 := rfl
    exfalso
    omega
  · exact ⟨vi h.1 h2, ch, ch, k _⟩
  · have := q_nlt d
    exfalso
    omega
def tp_b (s : Tp) : Int32 := if s.1 0 ≤ s.1 1 then -1 else s.2 (Int32.toNatClampNeg (s.1 1))
theorem wq_X5_peek_L0 {post : Int32 → Tp → Prop} {e38 : Tp → Prop} {N : Int} {s : Tp} (hs : tj N s) (ke : ∀ t : Tp, t.2 = s.2 → (∀ k, k ≠ 1 → t.1 k = s.1 k) → (s.1 1).toInt ≤ (t.1 1).toInt → (t.1 1).toInt ≤ N → (¬ tp_b s = 32 → t = s) → ¬ tp_b t = 32 → e38 t) : ∀ (n : Nat) (t : Tp), t.2 = s.2 → (∀ k, k ≠ 1 → t.1 k = s.1 k) → (s.1 1).toInt ≤ (t.1 1).toInt → (t.1 1).toInt ≤ N → (¬ tp_b s = 32 → t = s) → N - (t.1 1).toInt < (n : Int) → wp_X5_peek_L0 post e38 n t := by
  intro n
  induction n with
  | zero =>
    intro t _ _ _ _ _ hm
    exfalso
    omega
  | succ n ih =>
    intro t a1 a2 a3 a4 a5 hm
    unfold wp_X5_peek_L0
    have z0 : t.1 0 = s.1 0 := a2 0 (by decide)
    have s0 := hs.1
    have s1 := hs.2.1
    have s2 := hs.2.2
    refine ⟨fun c => ke t a1 a2 a3 a4 a5 ?_, fun c => ?_⟩
    · unfold tp_b
      rw [if_pos c]
      decide
    · have c2 := q_nle c
      rw [z0] at c2
      refine ⟨vi (by omega) (by omega), fun d => ke t a1 a2 a3 a4 a5 ?_, fun d => ?_⟩
      · unfold tp_b
        rw [if_neg c]
        exact d
      · have e1 : (1 : Int32).toInt = 1 := rfl
        have e2 := tq_add (t.1 1) 1
        have tt : tp_b t = 32 := by
          unfold tp_b
          rw [if_neg c]
          exact d
        refine ih _ a1 (fun k hk => ?_) ?_ ?_ (fun g => ?_) ?_
        · show (if k = 1 then _ else t.1 k) = _
          rw [if_neg hk]
          exact a2 k hk
        · show (s.1 1).toInt ≤ (t.1 1 + 1).toInt
          omega
        · show (t.1 1 + 1).toInt ≤ N
          omega
        · exfalso
          rw [a5 g] at tt
          exact g tt
        · show N - (t.1 1 + 1).toInt < (n : Int)
          omega
theorem wq_X5_peek {post : Int32 → Tp → Prop} {s0 : Tp} {N : Int} (h : tj N s0) (k : ∀ (r : Int32) (u : Tp), tj N u → (s0.1 1).toInt ≤ (u.1 1).toInt → (u.1 2).toInt = (s0.1 2).toInt → (u.1 3).toInt = (s0.1 3).toInt → (u.1 4).toInt = (s0.1 4).toInt → (u.1 5).toInt = (s0.1 5).toInt → (r.toInt = -1 ∨ (u.1 1).toInt < N) → r = tp_b u → ¬ tp_b u = 32 → (¬ tp_b s0 = 32 → u = s0) → post r u) : wp_X5_peek post s0 := by
  unfold wp_X5_peek
  have s1 := h.2.1
  have s2 := h.2.2
  obtain ⟨nf, hf⟩ := fu_e 500
  refine ⟨nf, wq_X5_peek_L0 h (fun t a1 a2 a3 a4 a5 a6 => ?_) nf s0 rfl (fun _ _ => rfl) (Int.le_refl _) s1.2.1 (fun _ => rfl) (by omega)⟩
  have z0 : t.1 0 = s0.1 0 := a2 0 (by decide)
  have z2 : t.1 2 = s0.1 2 := a2 2 (by decide)
  have z3 : t.1 3 = s0.1 3 := a2 3 (by decide)
  have z4 : t.1 4 = s0.1 4 := a2 4 (by decide)
  have z5 : t.1 5 = s0.1 5 := a2 5 (by decide)
  have n0 := h.1
  have tt : tj N t := ⟨by rw [z0]; exact n0, by rw [z2, z5]; omega, s2⟩
  have m1 : (-1 : Int32).toInt = -1 := rfl
  refine ⟨fun c => ?_, fun c => ?_⟩
  · exact k _ t tt a3 (by rw [z2]) (by rw [z3]) (by rw [z4]) (by rw [z5]) (Or.inl m1) (by unfold tp_b; rw [if_pos c]) a6 a5
  · have c2 := q_nle c
    rw [z0] at c2
    exact ⟨vi (by omega) (by omega), k _ t tt a3 (by rw [z2]) (by rw [z3]) (by rw [z4]) (by rw [z5]) (Or.inr (by omega)) (by unfold tp_b; rw [if_neg c]) a6 a5⟩

theorem wq_X5_startReading {post : Tp → Prop} {s0 : Tp} {N : Int} (h1317 : tz (N) s0) (k : ∀ (u : Tp), tj (N) u → (u.1 5).toInt = 0 → post u) : wp_X5_startReading post s0 := by
  unfold wp_X5_startReading
  have := h1317.1
  have := h1317.2
  have p1318 : (s0.1 0).toInt = N := by omega
  have p1319 : 0 ≤ (0 : Int32).toInt ∧ (0 : Int32).toInt ≤ N ∧ 0 ≤ (0 : Int32).toInt ∧ (0 : Int32).toInt ≤ (0 : Int32).toInt ∧ 0 ≤ (0 : Int32).toInt ∧ (0 : Int32).toInt ≤ 5000 := by (have := li_0; omega)
  have p1320 : 0 ≤ N ∧ N ≤ 400 := by omega
  have B1321 : tj (N) ((va_up (va_up (va_up (va_up (va_up s0.1 1 0) 2 0) 3 0) 4 0) 5 0), s0.2) := ⟨p1318, p1319, p1320⟩
  have p1322 : (0 : Int32).toInt = 0 := by (have := li_0; omega)
  exact k _ B1321 p1322
theorem wq_X5_isRead_L20 {s0 : Tp} {i1 : Nat} {post : Int32 → Prop} {e55 : Int32 → Prop} {N : Int} (h1323 : tj (N) s0) (ke55 : ∀ (z2 : Int32), 0 ≤ (z2).toInt ∧ (z2).toInt ≤ ln i1 → ln i1 = (s0.1 1).toInt - (s0.1 2).toInt → e55 z2) (k : ∀ (r : Int32), (r).toInt = 0 ∨ (r).toInt = 1 → post r) : ∀ (n : Nat) (z2 : Int32), 0 ≤ (z2).toInt ∧ (z2).toInt ≤ ln i1 → ln i1 = (s0.1 1).toInt - (s0.1 2).toInt → ln i1 - (z2).toInt < (n : Int) → wp_X5_isRead_L20 s0 i1 post e55 n z2 := by
  have := h1323.1
  have := h1323.2.1
  have := h1323.2.2
  intro n
  induction n with
  | zero =>
    intro z2 i1324 i1325 i1326
    exfalso
    omega
  | succ n ih =>
    intro z2 i1324 i1325 i1326
    unfold wp_X5_isRead_L20
    refine wq_J0_length_8abf5 (fun r_4 q1327 q1328 => ?_)
    refine ⟨fun c1329 => ?_, fun c1330 => ?_⟩
    · replace c1329 := q_le c1329
      have p1331 : 0 ≤ (z2).toInt ∧ (z2).toInt ≤ ln i1 := by omega
      have p1332 : ln i1 = (s0.1 1).toInt - (s0.1 2).toInt := by omega
      exact ke55 _ p1331 p1332
    · replace c1330 := q_nle c1330
      have p1333 : 0 ≤ (z2).toInt ∧ (z2).toInt < ln i1 := by omega
      refine wq_J0_charAt_5068e p1333 (fun r_7 => ?_)
      have e1334 := tq_add (s0.1 2) z2
      try rw [Int.emod_eq_of_lt (show 0 ≤ (s0.1 2).toInt + (z2).toInt + 2147483648 by omega) (show (s0.1 2).toInt + (z2).toInt + 2147483648 < 4294967296 by omega)] at e1334
      have v1335 : vp_in ((s0.1 2) + z2) 400 := vi (by omega) (by omega)
      refine ⟨v1335, ?_⟩
      refine ⟨fun c1336 => ?_, fun c1337 => ?_⟩
      · replace c1336 := q_eq c1336
        have e1338 := tq_addr li_1 z2
        try rw [Int.emod_eq_of_lt (show 0 ≤ (z2).toInt + 1 + 2147483648 by omega) (show (z2).toInt + 1 + 2147483648 < 4294967296 by omega)] at e1338
        have p1339 : 0 ≤ (z2 + 1).toInt ∧ (z2 + 1).toInt ≤ ln i1 := by omega
        have p1340 : ln i1 = (s0.1 1).toInt - (s0.1 2).toInt := by omega
        have p1341 : ln i1 - (z2 + 1).toInt < ((n : Nat) : Int) := by (omega)
        exact ih _ p1339 p1340 p1341
      · replace c1337 := q_neq c1337
        have p1342 : (0 : Int32).toInt = 0 ∨ (0 : Int32).toInt = 1 := by (have := li_0; omega)
        exact k _ p1342
theorem wq_X5_isRead {post : Int32 → Prop} {s0 : Tp} {i1 : Nat} {N : Int} (h1343 : tj (N) s0) (k : ∀ (r : Int32), (r).toInt = 0 ∨ (r).toInt = 1 → post r) : wp_X5_isRead post s0 i1 := by
  unfold wp_X5_isRead
  have := h1343.1
  have := h1343.2.1
  have := h1343.2.2
  refine wq_J0_length_8abf5 (fun r_1 q1344 q1345 => ?_)
  refine ⟨fun c1346 => ?_, fun c1347 => ?_⟩
  · replace c1346 := q_eq c1346
    have e1348 := tq_sub (s0.1 1) (s0.1 2)
    try rw [Int.emod_eq_of_lt (show 0 ≤ (s0.1 1).toInt - (s0.1 2).toInt + 2147483648 by omega) (show (s0.1 1).toInt - (s0.1 2).toInt + 2147483648 < 4294967296 by omega)] at e1348
    have p1349 : 0 ≤ (0 : Int32).toInt ∧ (0 : Int32).toInt ≤ ln i1 := by (have := li_0; omega)
    have p1350 : ln i1 = (s0.1 1).toInt - (s0.1 2).toInt := by omega
    obtain ⟨f1351, g1352⟩ := fu_e 50
    have p1353 : ln i1 - (0 : Int32).toInt < (f1351 : Int) := by (have := li_0; omega)
    refine ⟨f1351, wq_X5_isRead_L20 h1343 (fun z2 q1354 q1355 => ?_) k f1351 _ p1349 p1350 p1353⟩
    have p1356 : (1 : Int32).toInt = 0 ∨ (1 : Int32).toInt = 1 := by (have := li_1; omega)
    exact k _ p1356
  · replace c1347 := q_neq c1347
    have e1357 := tq_sub (s0.1 1) (s0.1 2)
    try rw [Int.emod_eq_of_lt (show 0 ≤ (s0.1 1).toInt - (s0.1 2).toInt + 2147483648 by omega) (show (s0.1 1).toInt - (s0.1 2).toInt + 2147483648 < 4294967296 by omega)] at e1357
    have p1358 : (0 : Int32).toInt = 0 ∨ (0 : Int32).toInt = 1 := by (have := li_0; omega)
    exact k _ p1358
theorem wq_X5_wordRead {post : Int32 → Prop} {s0 : Tp} {N : Int} (h1359 : tj (N) s0) (k : ∀ (r : Int32), 0 ≤ (r).toInt ∧ (r).toInt ≤ 12 → post r) : wp_X5_wordRead post s0 := by
  unfold wp_X5_wordRead
  have := h1359.1
  have := h1359.2.1
  have := h1359.2.2
  refine wq_X5_isRead h1359 (fun r_1 q1360 => ?_)
  refine ⟨fun c1361 => ?_, fun c1362 => ?_⟩
  · replace c1361 := q_eq c1361
    rw [li_0] at c1361
    refine wq_X5_isRead h1359 (fun r_4 q1363 => ?_)
    refine ⟨fun c1364 => ?_, fun c1365 => ?_⟩
    · replace c1364 := q_eq c1364
      rw [li_0] at c1364
      refine wq_X5_isRead h1359 (fun r_7 q1366 => ?_)
      refine ⟨fun c1367 => ?_, fun c1368 => ?_⟩
      · replace c1367 := q_eq c1367
        rw [li_0] at c1367
        refine wq_X5_isRead h1359 (fun r_10 q1369 => ?_)
        refine ⟨fun c1370 => ?_, fun c1371 => ?_⟩
        · replace c1370 := q_eq c1370
          rw [li_0] at c1370
          refine wq_X5_isRead h1359 (fun r_13 q1372 => ?_)
          refine ⟨fun c1373 => ?_, fun c1374 => ?_⟩
          · replace c1373 := q_eq c1373
            rw [li_0] at c1373
            refine wq_X5_isRead h1359 (fun r_16 q1375 => ?_)
            refine ⟨fun c1376 => ?_, fun c1377 => ?_⟩
            · replace c1376 := q_eq c1376
              rw [li_0] at c1376
              refine wq_X5_isRead h1359 (fun r_19 q1378 => ?_)
              refine ⟨fun c1379 => ?_, fun c1380 => ?_⟩
              · replace c1379 := q_eq c1379
                rw [li_0] at c1379
                refine wq_X5_isRead h1359 (fun r_22 q1381 => ?_)
                refine ⟨fun c1382 => ?_, fun c1383 => ?_⟩
                · replace c1382 := q_eq c1382
                  rw [li_0] at c1382
                  refine wq_X5_isRead h1359 (fun r_25 q1384 => ?_)
                  refine ⟨fun c1385 => ?_, fun c1386 => ?_⟩
                  · replace c1385 := q_eq c1385
                    rw [li_0] at c1385
                    refine wq_X5_isRead h1359 (fun r_28 q1387 => ?_)
                    refine ⟨fun c1388 => ?_, fun c1389 => ?_⟩
                    · replace c1388 := q_eq c1388
                      rw [li_0] at c1388
                      refine wq_X5_isRead h1359 (fun r_31 q1390 => ?_)
                      refine ⟨fun c1391 => ?_, fun c1392 => ?_⟩
                      · replace c1391 := q_eq c1391
                        rw [li_0] at c1391
                        refine wq_X5_isRead h1359 (fun r_34 q1393 => ?_)
                        refine ⟨fun c1394 => ?_, fun c1395 => ?_⟩
                        · replace c1394 := q_eq c1394
                          rw [li_0] at c1394
                          have p1396 : 0 ≤ (0 : Int32).toInt ∧ (0 : Int32).toInt ≤ 12 := by (have := li_0; omega)
                          exact k _ p1396
                        · replace c1395 := q_neq c1395
                          rw [li_0] at c1395
                          have p1397 : 0 ≤ (12 : Int32).toInt ∧ (12 : Int32).toInt ≤ 12 := by (have := li_12; omega)
                          exact k _ p1397
                      · replace c1392 := q_neq c1392
                        rw [li_0] at c1392
                        have p1398 : 0 ≤ (11 : Int32).toInt ∧ (11 : Int32).toInt ≤ 12 := by (have := li_11; omega)
                        exact k _ p1398
                    · replace c1389 := q_neq c1389
                      rw [li_0] at c1389
                      have p1399 : 0 ≤ (10 : Int32).toInt ∧ (10 : Int32).toInt ≤ 12 := by (have := li_10; omega)
                      exact k _ p1399
                  · replace c1386 := q_neq c1386
                    rw [li_0] at c1386
                    have p1400 : 0 ≤ (9 : Int32).toInt ∧ (9 : Int32).toInt ≤ 12 := by (have := li_9; omega)
                    exact k _ p1400
                · replace c1383 := q_neq c1383
                  rw [li_0] at c1383
                  have p1401 : 0 ≤ (8 : Int32).toInt ∧ (8 : Int32).toInt ≤ 12 := by (have := li_8; omega)
                  exact k _ p1401
              · replace c1380 := q_neq c1380
                rw [li_0] at c1380
                have p1402 : 0 ≤ (7 : Int32).toInt ∧ (7 : Int32).toInt ≤ 12 := by (have := li_7; omega)
                exact k _ p1402
            · replace c1377 := q_neq c1377
              rw [li_0] at c1377
              have p1403 : 0 ≤ (6 : Int32).toInt ∧ (6 : Int32).toInt ≤ 12 := by (have := li_6; omega)
              exact k _ p1403
          · replace c1374 := q_neq c1374
            rw [li_0] at c1374
            have p1404 : 0 ≤ (5 : Int32).toInt ∧ (5 : Int32).toInt ≤ 12 := by (have := li_5; omega)
            exact k _ p1404
        · replace c1371 := q_neq c1371
          rw [li_0] at c1371
          have p1405 : 0 ≤ (4 : Int32).toInt ∧ (4 : Int32).toInt ≤ 12 := by (have := li_4; omega)
          exact k _ p1405
      · replace c1368 := q_neq c1368
        rw [li_0] at c1368
        have p1406 : 0 ≤ (3 : Int32).toInt ∧ (3 : Int32).toInt ≤ 12 := by (have := li_3; omega)
        exact k _ p1406
    · replace c1365 := q_neq c1365
      rw [li_0] at c1365
      have p1407 : 0 ≤ (2 : Int32).toInt ∧ (2 : Int32).toInt ≤ 12 := by (have := li_2; omega)
      exact k _ p1407
  · replace c1362 := q_neq c1362
    rw [li_0] at c1362
    have p1408 : 0 ≤ (1 : Int32).toInt ∧ (1 : Int32).toInt ≤ 12 := by (have := li_1; omega)
    exact k _ p1408
theorem wq_X5_takeWord_L13 {post : Int32 → Tp → Prop} {e63 : Tp → Prop} {N F G : Int} (ke63 : ∀ (t0 : Tp), tj (N) t0 → (t0.1 5).toInt = F → G ≤ (t0.1 1).toInt → e63 t0) : ∀ (n : Nat) (t0 : Tp), tj (N) t0 → (t0.1 5).toInt = F → G ≤ (t0.1 1).toInt → N - (t0.1 1).toInt < (n : Int) → wp_X5_takeWord_L13 post e63 n t0 := by
  intro n
  induction n with
  | zero =>
    intro t0 i1409 i1410 i1411 i1412
    have := i1409.1
    have := i1409.2.1
    have := i1409.2.2
    exfalso
    omega
  | succ n ih =>
    intro t0 i1409 i1410 i1411 i1412
    unfold wp_X5_takeWord_L13
    have := i1409.1
    have := i1409.2.1
    have := i1409.2.2
    refine ⟨fun c1413 => ?_, fun c1414 => ?_⟩
    · replace c1413 := q_le c1413
      have p1415 : (t0.1 5).toInt = F := by omega
      have p1416 : G ≤ (t0.1 1).toInt := by omega
      exact ke63 _ i1409 p1415 p1416
    · replace c1414 := q_nle c1414
      have p1417 : (t0.1 0).toInt = N := by omega
      have p1418 : 0 ≤ N ∧ N ≤ 400 := by omega
      have B1419 : tz (N) t0 := ⟨p1417, p1418⟩
      refine wq_X5_byteAt B1419 (fun r_4 => ?_)
      refine ⟨fun c1420 => ?_, fun c1421 => ?_⟩
      · replace c1420 := q_lt c1420
        rw [li_97] at c1420
        have p1422 : (t0.1 5).toInt = F := by omega
        have p1423 : G ≤ (t0.1 1).toInt := by omega
        exact ke63 _ i1409 p1422 p1423
      · replace c1421 := q_nlt c1421
        rw [li_97] at c1421
        refine wq_X5_byteAt B1419 (fun r_7 => ?_)
        refine ⟨fun c1424 => ?_, fun c1425 => ?_⟩
        · replace c1424 := q_lt c1424
          rw [li_122] at c1424
          have p1426 : (t0.1 5).toInt = F := by omega
          have p1427 : G ≤ (t0.1 1).toInt := by omega
          exact ke63 _ i1409 p1426 p1427
        · replace c1425 := q_nlt c1425
          rw [li_122] at c1425
          have p1428 : (t0.1 0).toInt = N := by omega
          have e1429 := tq_addr li_1 (t0.1 1)
          try rw [Int.emod_eq_of_lt (show 0 ≤ (t0.1 1).toInt + 1 + 2147483648 by omega) (show (t0.1 1).toInt + 1 + 2147483648 < 4294967296 by omega)] at e1429
          have p1430 : 0 ≤ ((t0.1 1) + 1).toInt ∧ ((t0.1 1) + 1).toInt ≤ N ∧ 0 ≤ (t0.1 2).toInt ∧ (t0.1 2).toInt ≤ ((t0.1 1) + 1).toInt ∧ 0 ≤ (t0.1 5).toInt ∧ (t0.1 5).toInt ≤ 5000 := by omega
          have p1431 : 0 ≤ N ∧ N ≤ 400 := by omega
          have B1432 : tj (N) ((va_up t0.1 1 ((t0.1 1) + 1)), t0.2) := ⟨p1428, p1430, p1431⟩
          have p1433 : (t0.1 5).toInt = F := by omega
          have p1434 : G ≤ ((t0.1 1) + 1).toInt := by omega
          have p1435 : N - ((t0.1 1) + 1).toInt < ((n : Nat) : Int) := by (omega)
          exact ih _ B1432 p1433 p1434 p1435
theorem wq_X5_takeWord {post : Int32 → Tp → Prop} {s0 : Tp} {N : Int} (h1436 : tj (N) s0) (k : ∀ (r : Int32) (u : Tp), tj (N) u → (u.1 5).toInt = (s0.1 5).toInt → 0 ≤ (r).toInt ∧ (r).toInt ≤ 12 → (s0.1 1).toInt ≤ (u.1 1).toInt → post r u) : wp_X5_takeWord post s0 := by
  unfold wp_X5_takeWord
  have := h1436.1
  have := h1436.2.1
  have := h1436.2.2
  refine wq_X5_peek h1436 (fun r_1 u_2 q1437 q1438 q1439 q1440 q1441 q1442 q1443 q1444 q1445 q1446 => ?_)
  have := q1437.1
  have := q1437.2.1
  have p1447 : (u_2.1 0).toInt = N := by omega
  have p1448 : 0 ≤ (u_2.1 1).toInt ∧ (u_2.1 1).toInt ≤ N ∧ 0 ≤ (u_2.1 1).toInt ∧ (u_2.1 1).toInt ≤ (u_2.1 1).toInt ∧ 0 ≤ (u_2.1 5).toInt ∧ (u_2.1 5).toInt ≤ 5000 := by omega
  have p1449 : 0 ≤ N ∧ N ≤ 400 := by omega
  have B1450 : tj (N) ((va_up u_2.1 2 (u_2.1 1)), u_2.2) := ⟨p1447, p1448, p1449⟩
  have p1451 : (u_2.1 5).toInt = ((u_2.1 5).toInt) := by omega
  have p1452 : ((u_2.1 1).toInt) ≤ (u_2.1 1).toInt := by omega
  obtain ⟨f1453, g1454⟩ := fu_e 500
  have p1455 : N - (u_2.1 1).toInt < (f1453 : Int) := by (omega)
  refine ⟨f1453, wq_X5_takeWord_L13 (fun t0 q1456 q1457 q1458 => ?_) f1453 _ B1450 p1451 p1452 p1455⟩
  have := q1456.1
  have := q1456.2.1
  refine wq_X5_wordRead q1456 (fun r_10 q1459 => ?_)
  have p1460 : (t0.1 5).toInt = (s0.1 5).toInt := by omega
  have p1461 : 0 ≤ (r_10).toInt ∧ (r_10).toInt ≤ 12 := by omega
  have p1462 : (s0.1 1).toInt ≤ (t0.1 1).toInt := by omega
  exact k _ _ q1456 p1460 p1461 p1462

theorem wq_X5_blame {post : Tp → Prop} {s0 : Tp} {x1 : Int32} {x2 : Int32} {N : Int} (h1463 : tk (N) s0) (h1464 : 0 ≤ (x1).toInt ∧ (x1).toInt ≤ 500 ∧ 1 ≤ (x2).toInt ∧ (x2).toInt ≤ 4) (k : ∀ (u : Tp), tk (N) u → (u.1 1).toInt = (s0.1 1).toInt → (u.1 2).toInt = (s0.1 2).toInt → (u.1 3).toInt = (s0.1 3).toInt → (u.1 4).toInt = (s0.1 4).toInt → ¬ (u.1 5).toInt = 0 → post u) : wp_X5_blame post s0 x1 x2 := by
  unfold wp_X5_blame
  have := h1463.1
  have := h1463.2.1
  have := h1463.2.2
  refine ⟨fun c1465 => ?_, fun c1466 => ?_⟩
  · replace c1465 := q_neq c1465
    rw [li_0] at c1465
    have p1467 : (s0.1 1).toInt = (s0.1 1).toInt := by omega
    have p1468 : (s0.1 2).toInt = (s0.1 2).toInt := by omega
    have p1469 : (s0.1 3).toInt = (s0.1 3).toInt := by omega
    have p1470 : (s0.1 4).toInt = (s0.1 4).toInt := by omega
    have p1471 : ¬ (s0.1 5).toInt = 0 := by omega
    exact k _ h1463 p1467 p1468 p1469 p1470 p1471
  · replace c1466 := q_eq c1466
    rw [li_0] at c1466
    have p1472 : (s0.1 0).toInt = N := by omega
    have e1473 := tq_mulc li_8 x1
    try rw [Int.emod_eq_of_lt (show 0 ≤ 8 * (x1).toInt + 2147483648 by omega) (show 8 * (x1).toInt + 2147483648 < 4294967296 by omega)] at e1473
    have e1474 := tq_add (8 * x1) x2
    try rw [Int.emod_eq_of_lt (show 0 ≤ (8 * x1).toInt + (x2).toInt + 2147483648 by omega) (show (8 * x1).toInt + (x2).toInt + 2147483648 < 4294967296 by omega)] at e1474
    have p1475 : 0 ≤ (s0.1 1).toInt ∧ (s0.1 1).toInt ≤ N + 1 ∧ 0 ≤ (s0.1 2).toInt ∧ (s0.1 2).toInt ≤ (s0.1 1).toInt ∧ (((8 * x1) + x2).toInt ≠ 0 ∨ (s0.1 1).toInt ≤ N) ∧ 0 ≤ ((8 * x1) + x2).toInt ∧ ((8 * x1) + x2).toInt ≤ 5000 := by omega
    have p1476 : 0 ≤ N ∧ N ≤ 400 := by omega
    have B1477 : tk (N) ((va_up s0.1 5 ((8 * x1) + x2)), s0.2) := ⟨p1472, p1475, p1476⟩
    have p1478 : (s0.1 1).toInt = (s0.1 1).toInt := by omega
    have p1479 : (s0.1 2).toInt = (s0.1 2).toInt := by omega
    have p1480 : (s0.1 3).toInt = (s0.1 3).toInt := by omega
    have p1481 : (s0.1 4).toInt = (s0.1 4).toInt := by omega
    have p1482 : ¬ ((8 * x1) + x2).toInt = 0 := by omega
    exact k _ B1477 p1478 p1479 p1480 p1481 p1482
theorem wq_X5_takeThisWord {post : Tp → Prop} {s0 : Tp} {x1 : Int32} {N : Int} (h1483 : tj (N) s0) (k : ∀ (u : Tp), tj (N) u → (u.1 5).toInt ≠ 0 ∨ (s0.1 5).toInt = 0 → post u) : wp_X5_takeThisWord post s0 x1 := by
  unfold wp_X5_takeThisWord
  have := h1483.1
  have := h1483.2.1
  have := h1483.2.2
  refine wq_X5_takeWord h1483 (fun r_1 u_2 q1484 q1485 q1486 q1487 => ?_)
  have := q1484.1
  have := q1484.2.1
  refine ⟨fun c1488 => ?_, fun c1489 => ?_⟩
  · replace c1488 := q_eq c1488
    have p1490 : (u_2.1 5).toInt ≠ 0 ∨ (s0.1 5).toInt = 0 := by omega
    exact k _ q1484 p1490
  · replace c1489 := q_neq c1489
    have p1491 : (u_2.1 0).toInt = N := by omega
    have p1492 : 0 ≤ (u_2.1 1).toInt ∧ (u_2.1 1).toInt ≤ N + 1 ∧ 0 ≤ (u_2.1 2).toInt ∧ (u_2.1 2).toInt ≤ (u_2.1 1).toInt ∧ ((u_2.1 5).toInt ≠ 0 ∨ (u_2.1 1).toInt ≤ N) ∧ 0 ≤ (u_2.1 5).toInt ∧ (u_2.1 5).toInt ≤ 5000 := by omega
    have p1493 : 0 ≤ N ∧ N ≤ 400 := by omega
    have B1494 : tk (N) u_2 := ⟨p1491, p1492, p1493⟩
    have p1495 : 0 ≤ (u_2.1 2).toInt ∧ (u_2.1 2).toInt ≤ 500 ∧ 1 ≤ ((1 : Int32)).toInt ∧ ((1 : Int32)).toInt ≤ 4 := by (have := li_1; omega)
    refine wq_X5_blame B1494 p1495 (fun u_5 q1496 q1497 q1498 q1499 q1500 q1501 => ?_)
    have := q1496.1
    have := q1496.2.1
    have p1502 : (u_5.1 0).toInt = N := by omega
    have p1503 : 0 ≤ (u_5.1 1).toInt ∧ (u_5.1 1).toInt ≤ N ∧ 0 ≤ (u_5.1 2).toInt ∧ (u_5.1 2).toInt ≤ (u_5.1 1).toInt ∧ 0 ≤ (u_5.1 5).toInt ∧ (u_5.1 5).toInt ≤ 5000 := by omega
    have p1504 : 0 ≤ N ∧ N ≤ 400 := by omega
    have B1505 : tj (N) u_5 := ⟨p1502, p1503, p1504⟩
    have p1506 : (u_5.1 5).toInt ≠ 0 ∨ (s0.1 5).toInt = 0 := by omega
    exact k _ B1505 p1506
theorem wq_X5_takeNumber_L15 {post : Int32 → Tp → Prop} {e88 : Tp → Int32 → Int32 → Int32 → Prop} {N F Y Z : Int} (ke88 : ∀ (t0 : Tp) (z1 : Int32) (z2 : Int32) (z3 : Int32), tj (N) t0 → (t0.1 5).toInt = F → (z1).toInt = Y → (z2).toInt = Z → e88 t0 z1 z2 z3) : ∀ (n : Nat) (t0 : Tp) (z1 : Int32) (z2 : Int32) (z3 : Int32), tj (N) t0 → (t0.1 5).toInt = F → (z1).toInt = Y → (z2).toInt = Z → N - (t0.1 1).toInt < (n : Int) → wp_X5_takeNumber_L15 post e88 n t0 z1 z2 z3 := by
  intro n
  induction n with
  | zero =>
    intro t0 z1 z2 z3 i1507 i1508 i1509 i1510 i1511
    have := i1507.1
    have := i1507.2.1
    have := i1507.2.2
    exfalso
    omega
  | succ n ih =>
    intro t0 z1 z2 z3 i1507 i1508 i1509 i1510 i1511
    unfold wp_X5_takeNumber_L15
    have := i1507.1
    have := i1507.2.1
    have := i1507.2.2
    refine ⟨fun c1512 => ?_, fun c1513 => ?_⟩
    · replace c1512 := q_le c1512
      have p1514 : (t0.1 5).toInt = F := by omega
      have p1515 : (z1).toInt = Y := by omega
      have p1516 : (z2).toInt = Z := by omega
      exact ke88 _ _ _ _ i1507 p1514 p1515 p1516
    · replace c1513 := q_nle c1513
      have p1517 : (t0.1 0).toInt = N := by omega
      have p1518 : 0 ≤ N ∧ N ≤ 400 := by omega
      have B1519 : tz (N) t0 := ⟨p1517, p1518⟩
      refine wq_X5_byteAt B1519 (fun r_4 => ?_)
      refine ⟨fun c1520 => ?_, fun c1521 => ?_⟩
      · replace c1520 := q_lt c1520
        rw [li_48] at c1520
        have p1522 : (t0.1 5).toInt = F := by omega
        have p1523 : (z1).toInt = Y := by omega
        have p1524 : (z2).toInt = Z := by omega
        exact ke88 _ _ _ _ i1507 p1522 p1523 p1524
      · replace c1521 := q_nlt c1521
        rw [li_48] at c1521
        refine wq_X5_byteAt B1519 (fun r_7 => ?_)
        refine ⟨fun c1525 => ?_, fun c1526 => ?_⟩
        · replace c1525 := q_lt c1525
          rw [li_57] at c1525
          have p1527 : (t0.1 5).toInt = F := by omega
          have p1528 : (z1).toInt = Y := by omega
          have p1529 : (z2).toInt = Z := by omega
          exact ke88 _ _ _ _ i1507 p1527 p1528 p1529
        · replace c1526 := q_nlt c1526
          rw [li_57] at c1526
          refine wq_X5_byteAt B1519 (fun r_10 => ?_)
          have p1530 : (t0.1 0).toInt = N := by omega
          have e1531 := tq_addr li_1 (t0.1 1)
          try rw [Int.emod_eq_of_lt (show 0 ≤ (t0.1 1).toInt + 1 + 2147483648 by omega) (show (t0.1 1).toInt + 1 + 2147483648 < 4294967296 by omega)] at e1531
          have p1532 : 0 ≤ ((t0.1 1) + 1).toInt ∧ ((t0.1 1) + 1).toInt ≤ N ∧ 0 ≤ (t0.1 2).toInt ∧ (t0.1 2).toInt ≤ ((t0.1 1) + 1).toInt ∧ 0 ≤ (t0.1 5).toInt ∧ (t0.1 5).toInt ≤ 5000 := by omega
          have p1533 : 0 ≤ N ∧ N ≤ 400 := by omega
          have B1534 : tj (N) ((va_up t0.1 1 ((t0.1 1) + 1)), t0.2) := ⟨p1530, p1532, p1533⟩
          have p1535 : (t0.1 5).toInt = F := by omega
          have p1536 : (z1).toInt = Y := by omega
          have p1537 : (z2).toInt = Z := by omega
          have p1538 : N - ((t0.1 1) + 1).toInt < ((n : Nat) : Int) := by (omega)
          exact ih _ _ _ _ B1534 p1535 p1536 p1537 p1538
theorem wq_X5_takeNumber {post : Int32 → Tp → Prop} {s0 : Tp} {x1 : Int32} {x2 : Int32} {N : Int} (h1539 : tj (N) s0) (k : ∀ (r : Int32) (u : Tp), tj (N) u → (u.1 5).toInt ≠ 0 ∨ ((s0.1 5).toInt = 0 ∧ (x1).toInt ≤ (r).toInt ∧ (r).toInt ≤ (x2).toInt) → (r).toInt = (x1).toInt ∨ ((x1).toInt ≤ (r).toInt ∧ (r).toInt ≤ (x2).toInt) → post r u) : wp_X5_takeNumber post s0 x1 x2 := by
  unfold wp_X5_takeNumber
  have := h1539.1
  have := h1539.2.1
  have := h1539.2.2
  refine wq_X5_peek h1539 (fun r_1 u_2 q1540 q1541 q1542 q1543 q1544 q1545 q1546 q1547 q1548 q1549 => ?_)
  have := q1540.1
  have := q1540.2.1
  have p1550 : (u_2.1 0).toInt = N := by omega
  have p1551 : 0 ≤ (u_2.1 1).toInt ∧ (u_2.1 1).toInt ≤ N ∧ 0 ≤ (u_2.1 1).toInt ∧ (u_2.1 1).toInt ≤ (u_2.1 1).toInt ∧ 0 ≤ (u_2.1 5).toInt ∧ (u_2.1 5).toInt ≤ 5000 := by omega
  have p1552 : 0 ≤ N ∧ N ≤ 400 := by omega
  have B1553 : tj (N) ((va_up u_2.1 2 (u_2.1 1)), u_2.2) := ⟨p1550, p1551, p1552⟩
  have p1554 : (u_2.1 5).toInt = ((u_2.1 5).toInt) := by omega
  have p1555 : (x1).toInt = ((x1).toInt) := by omega
  have p1556 : (x2).toInt = ((x2).toInt) := by omega
  obtain ⟨f1557, g1558⟩ := fu_e 500
  have p1559 : N - (u_2.1 1).toInt < (f1557 : Int) := by (omega)
  refine ⟨f1557, wq_X5_takeNumber_L15 (fun t0 z1 z2 z3 q1560 q1561 q1562 q1563 => ?_) f1557 _ _ _ _ B1553 p1554 p1555 p1556 p1559⟩
  have := q1560.1
  have := q1560.2.1
  refine ⟨fun c1564 => ?_, fun c1565 => ?_⟩
  · replace c1564 := q_neq c1564
    refine ⟨fun c1566 => ?_, fun c1567 => ?_⟩
    · replace c1566 := q_lt c1566
      have p1568 : (t0.1 0).toInt = N := by omega
      have p1569 : 0 ≤ (t0.1 1).toInt ∧ (t0.1 1).toInt ≤ N + 1 ∧ 0 ≤ (t0.1 2).toInt ∧ (t0.1 2).toInt ≤ (t0.1 1).toInt ∧ ((t0.1 5).toInt ≠ 0 ∨ (t0.1 1).toInt ≤ N) ∧ 0 ≤ (t0.1 5).toInt ∧ (t0.1 5).toInt ≤ 5000 := by omega
      have p1570 : 0 ≤ N ∧ N ≤ 400 := by omega
      have B1571 : tk (N) t0 := ⟨p1568, p1569, p1570⟩
      have p1572 : 0 ≤ (t0.1 2).toInt ∧ (t0.1 2).toInt ≤ 500 ∧ 1 ≤ ((2 : Int32)).toInt ∧ ((2 : Int32)).toInt ≤ 4 := by (have := li_2; omega)
      refine wq_X5_blame B1571 p1572 (fun u_15 q1573 q1574 q1575 q1576 q1577 q1578 => ?_)
      have := q1573.1
      have := q1573.2.1
      have p1579 : (u_15.1 0).toInt = N := by omega
      have p1580 : 0 ≤ (u_15.1 1).toInt ∧ (u_15.1 1).toInt ≤ N ∧ 0 ≤ (u_15.1 2).toInt ∧ (u_15.1 2).toInt ≤ (u_15.1 1).toInt ∧ 0 ≤ (u_15.1 5).toInt ∧ (u_15.1 5).toInt ≤ 5000 := by omega
      have p1581 : 0 ≤ N ∧ N ≤ 400 := by omega
      have B1582 : tj (N) u_15 := ⟨p1579, p1580, p1581⟩
      have p1583 : (u_15.1 5).toInt ≠ 0 ∨ ((s0.1 5).toInt = 0 ∧ (x1).toInt ≤ (z1).toInt ∧ (z1).toInt ≤ (x2).toInt) := by omega
      have p1584 : (z1).toInt = (x1).toInt ∨ ((x1).toInt ≤ (z1).toInt ∧ (z1).toInt ≤ (x2).toInt) := by omega
      exact k _ _ B1582 p1583 p1584
    · replace c1567 := q_nlt c1567
      refine ⟨fun c1585 => ?_, fun c1586 => ?_⟩
      · replace c1585 := q_le c1585
        have p1587 : (t0.1 5).toInt ≠ 0 ∨ ((s0.1 5).toInt = 0 ∧ (x1).toInt ≤ (z3).toInt ∧ (z3).toInt ≤ (x2).toInt) := by omega
        have p1588 : (z3).toInt = (x1).toInt ∨ ((x1).toInt ≤ (z3).toInt ∧ (z3).toInt ≤ (x2).toInt) := by omega
        exact k _ _ q1560 p1587 p1588
      · replace c1586 := q_nle c1586
        have p1589 : (t0.1 0).toInt = N := by omega
        have p1590 : 0 ≤ (t0.1 1).toInt ∧ (t0.1 1).toInt ≤ N + 1 ∧ 0 ≤ (t0.1 2).toInt ∧ (t0.1 2).toInt ≤ (t0.1 1).toInt ∧ ((t0.1 5).toInt ≠ 0 ∨ (t0.1 1).toInt ≤ N) ∧ 0 ≤ (t0.1 5).toInt ∧ (t0.1 5).toInt ≤ 5000 := by omega
        have p1591 : 0 ≤ N ∧ N ≤ 400 := by omega
        have B1592 : tk (N) t0 := ⟨p1589, p1590, p1591⟩
        have p1593 : 0 ≤ (t0.1 2).toInt ∧ (t0.1 2).toInt ≤ 500 ∧ 1 ≤ ((2 : Int32)).toInt ∧ ((2 : Int32)).toInt ≤ 4 := by (have := li_2; omega)
        refine wq_X5_blame B1592 p1593 (fun u_18 q1594 q1595 q1596 q1597 q1598 q1599 => ?_)
        have := q1594.1
        have := q1594.2.1
        have p1600 : (u_18.1 0).toInt = N := by omega
        have p1601 : 0 ≤ (u_18.1 1).toInt ∧ (u_18.1 1).toInt ≤ N ∧ 0 ≤ (u_18.1 2).toInt ∧ (u_18.1 2).toInt ≤ (u_18.1 1).toInt ∧ 0 ≤ (u_18.1 5).toInt ∧ (u_18.1 5).toInt ≤ 5000 := by omega
        have p1602 : 0 ≤ N ∧ N ≤ 400 := by omega
        have B1603 : tj (N) u_18 := ⟨p1600, p1601, p1602⟩
        have p1604 : (u_18.1 5).toInt ≠ 0 ∨ ((s0.1 5).toInt = 0 ∧ (x1).toInt ≤ (z1).toInt ∧ (z1).toInt ≤ (x2).toInt) := by omega
        have p1605 : (z1).toInt = (x1).toInt ∨ ((x1).toInt ≤ (z1).toInt ∧ (z1).toInt ≤ (x2).toInt) := by omega
        exact k _ _ B1603 p1604 p1605
  · replace c1565 := q_eq c1565
    have p1606 : (t0.1 0).toInt = N := by omega
    have p1607 : 0 ≤ (t0.1 1).toInt ∧ (t0.1 1).toInt ≤ N + 1 ∧ 0 ≤ (t0.1 2).toInt ∧ (t0.1 2).toInt ≤ (t0.1 1).toInt ∧ ((t0.1 5).toInt ≠ 0 ∨ (t0.1 1).toInt ≤ N) ∧ 0 ≤ (t0.1 5).toInt ∧ (t0.1 5).toInt ≤ 5000 := by omega
    have p1608 : 0 ≤ N ∧ N ≤ 400 := by omega
    have B1609 : tk (N) t0 := ⟨p1606, p1607, p1608⟩
    have p1610 : 0 ≤ (t0.1 1).toInt ∧ (t0.1 1).toInt ≤ 500 ∧ 1 ≤ ((1 : Int32)).toInt ∧ ((1 : Int32)).toInt ≤ 4 := by (have := li_1; omega)
    refine wq_X5_blame B1609 p1610 (fun u_20 q1611 q1612 q1613 q1614 q1615 q1616 => ?_)
    have := q1611.1
    have := q1611.2.1
    have p1617 : (u_20.1 0).toInt = N := by omega
    have p1618 : 0 ≤ (u_20.1 1).toInt ∧ (u_20.1 1).toInt ≤ N ∧ 0 ≤ (u_20.1 2).toInt ∧ (u_20.1 2).toInt ≤ (u_20.1 1).toInt ∧ 0 ≤ (u_20.1 5).toInt ∧ (u_20.1 5).toInt ≤ 5000 := by omega
    have p1619 : 0 ≤ N ∧ N ≤ 400 := by omega
    have B1620 : tj (N) u_20 := ⟨p1617, p1618, p1619⟩
    have p1621 : (u_20.1 5).toInt ≠ 0 ∨ ((s0.1 5).toInt = 0 ∧ (x1).toInt ≤ (z1).toInt ∧ (z1).toInt ≤ (x2).toInt) := by omega
    have p1622 : (z1).toInt = (x1).toInt ∨ ((x1).toInt ≤ (z1).toInt ∧ (z1).toInt ≤ (x2).toInt) := by omega
    exact k _ _ B1620 p1621 p1622
theorem wq_X5_isSound {post : Int32 → Prop} {s0 : Tp} (k : ∀ (r : Int32), ((r).toInt = 1 ∧ (s0.1 5).toInt = 0) ∨ ((r).toInt = 0 ∧ (s0.1 5).toInt ≠ 0) → post r) : wp_X5_isSound post s0 := by
  unfold wp_X5_isSound
  refine ⟨fun c1623 => ?_, fun c1624 => ?_⟩
  · replace c1623 := q_neq c1623
    rw [li_0] at c1623
    have p1625 : ((0 : Int32).toInt = 1 ∧ (s0.1 5).toInt = 0) ∨ ((0 : Int32).toInt = 0 ∧ (s0.1 5).toInt ≠ 0) := by (have := li_0; omega)
    exact k _ p1625
  · replace c1624 := q_eq c1624
    rw [li_0] at c1624
    have p1626 : ((1 : Int32).toInt = 1 ∧ (s0.1 5).toInt = 0) ∨ ((1 : Int32).toInt = 0 ∧ (s0.1 5).toInt ≠ 0) := by (have := li_1; omega)
    exact k _ p1626
theorem wq_X6_isSign {post : Int32 → Prop} {x0 : Int32} (k : ∀ (r : Int32), (r).toInt = 0 ∨ (r).toInt = 1 → post r) : wp_X6_isSign post x0 := by
  unfold wp_X6_isSign
  refine ⟨fun c1627 => ?_, fun c1628 => ?_⟩
  · replace c1627 := q_lt c1627
    rw [li_32] at c1627
    have p1629 : (0 : Int32).toInt = 0 ∨ (0 : Int32).toInt = 1 := by (have := li_0; omega)
    exact k _ p1629
  · replace c1628 := q_nlt c1628
    rw [li_32] at c1628
    refine ⟨fun c1630 => ?_, fun c1631 => ?_⟩
    · replace c1630 := q_lt c1630
      rw [li_126] at c1630
      have p1632 : (0 : Int32).toInt = 0 ∨ (0 : Int32).toInt = 1 := by (have := li_0; omega)
      exact k _ p1632
    · replace c1631 := q_nlt c1631
      rw [li_126] at c1631
      refine ⟨fun c1633 => ?_, fun c1634 => ?_⟩
      · replace c1633 := q_eq c1633
        rw [li_39] at c1633
        have p1635 : (0 : Int32).toInt = 0 ∨ (0 : Int32).toInt = 1 := by (have := li_0; omega)
        exact k _ p1635
      · replace c1634 := q_neq c1634
        rw [li_39] at c1634
        have p1636 : (1 : Int32).toInt = 0 ∨ (1 : Int32).toInt = 1 := by (have := li_1; omega)
        exact k _ p1636
theorem wq_X5_takeByte {post : Tp → Prop} {s0 : Tp} {x1 : Int32} {N : Int} (h1 : tj N s0) (h2 : ¬ x1.toInt = -1) (k : ∀ u : Tp, tj N u → ((u.1 5).toInt ≠ 0 ∨ (s0.1 5).toInt = 0) → (s0.1 1).toInt ≤ (u.1 1).toInt → (¬ tp_b s0 = 32 → ¬ tp_b s0 = x1 → ¬ (u.1 5).toInt = 0) → post u) : wp_X5_takeByte post s0 x1 := by
  unfold wp_X5_takeByte
  refine wq_X5_peek h1 (fun r u hu a1 a2 a3 a4 a5 a6 a7 a8 a9 => ?_)
  have u0 := hu.1
  have u1 := hu.2.1
  have u2 := hu.2.2
  have e1 : (1 : Int32).toInt = 1 := rfl
  refine ⟨fun c => ?_, fun c => ?_⟩
  · refine wq_X5_blame (N := N) ⟨u0, by omega, u2⟩ (by omega) (fun v hv b1 b2 b3 b4 b5 => ?_)
    have v0 := hv.1
    have v1 := hv.2.1
    exact k v ⟨v0, by omega, u2⟩ (Or.inl b5) (by omega) (fun _ _ => b5)
  · have e2 := tq_add (u.1 1) 1
    have ne : u.1 1 + 1 = u.1 1 + 1 := rfl
    have lt : (u.1 1).toInt < N := by
      rcases a6 with g | g
      · rw [c] at g
        exact absurd g h2
      · exact g
    refine k _ ⟨u0, ?_, u2⟩ ?_ ?_ (fun g1 g2 => ?_)
    · show 0 ≤ (u.1 1 + 1).toInt ∧ (u.1 1 + 1).toInt ≤ N ∧ 0 ≤ (u.1 2).toInt ∧ (u.1 2).toInt ≤ (u.1 1 + 1).toInt ∧ 0 ≤ (u.1 5).toInt ∧ (u.1 5).toInt ≤ 5000
      omega
    · show (u.1 5).toInt ≠ 0 ∨ (s0.1 5).toInt = 0
      omega
    · show (s0.1 1).toInt ≤ (u.1 1 + 1).toInt
      omega
    · exfalso
      have e := a9 g1
      rw [e] at a7
      exact g2 (a7.symm.trans c)
theorem wq_X5_takeQuoted_L14 {post : Tp → Prop} {e106 : Tp → Int32 → Int32 → Prop} {N F : Int} (ke106 : ∀ (t0 : Tp) (z1 : Int32) (z2 : Int32), tj (N) t0 → 0 ≤ (t0.1 3).toInt ∧ (t0.1 3).toInt ≤ (t0.1 1).toInt → (t0.1 5).toInt ≠ 0 ∨ F = 0 → e106 t0 z1 z2) : ∀ (n : Nat) (t0 : Tp) (z1 : Int32) (z2 : Int32), tj (N) t0 → 0 ≤ (t0.1 3).toInt ∧ (t0.1 3).toInt ≤ (t0.1 1).toInt → (t0.1 5).toInt ≠ 0 ∨ F = 0 → N - (t0.1 1).toInt < (n : Int) → wp_X5_takeQuoted_L14 post e106 n t0 z1 z2 := by
  intro n
  induction n with
  | zero =>
    intro t0 z1 z2 i1637 i1638 i1639 i1640
    have := i1637.1
    have := i1637.2.1
    have := i1637.2.2
    exfalso
    omega
  | succ n ih =>
    intro t0 z1 z2 i1637 i1638 i1639 i1640
    unfold wp_X5_takeQuoted_L14
    have := i1637.1
    have := i1637.2.1
    have := i1637.2.2
    refine ⟨fun c1641 => ?_, fun c1642 => ?_⟩
    · replace c1641 := q_le c1641
      have p1643 : 0 ≤ (t0.1 3).toInt ∧ (t0.1 3).toInt ≤ (t0.1 1).toInt := by omega
      have p1644 : (t0.1 5).toInt ≠ 0 ∨ F = 0 := by omega
      exact ke106 _ _ _ i1637 p1643 p1644
    · replace c1642 := q_nle c1642
      refine wq_X5_isSound (fun r_4 q1645 => ?_)
      refine ⟨fun c1646 => ?_, fun c1647 => ?_⟩
      · replace c1646 := q_eq c1646
        rw [li_0] at c1646
        have p1648 : 0 ≤ (t0.1 3).toInt ∧ (t0.1 3).toInt ≤ (t0.1 1).toInt := by omega
        have p1649 : (t0.1 5).toInt ≠ 0 ∨ F = 0 := by omega
        exact ke106 _ _ _ i1637 p1648 p1649
      · replace c1647 := q_neq c1647
        rw [li_0] at c1647
        have p1650 : (t0.1 0).toInt = N := by omega
        have p1651 : 0 ≤ N ∧ N ≤ 400 := by omega
        have B1652 : tz (N) t0 := ⟨p1650, p1651⟩
        refine wq_X5_byteAt B1652 (fun r_7 => ?_)
        refine ⟨fun c1653 => ?_, fun c1654 => ?_⟩
        · replace c1653 := q_eq c1653
          rw [li_39] at c1653
          have p1655 : 0 ≤ (t0.1 3).toInt ∧ (t0.1 3).toInt ≤ (t0.1 1).toInt := by omega
          have p1656 : (t0.1 5).toInt ≠ 0 ∨ F = 0 := by omega
          exact ke106 _ _ _ i1637 p1655 p1656
        · replace c1654 := q_neq c1654
          rw [li_39] at c1654
          refine wq_X5_byteAt B1652 (fun r_10 => ?_)
          refine wq_X6_isSign (fun r_12 q1657 => ?_)
          refine ⟨fun c1658 => ?_, fun c1659 => ?_⟩
          · replace c1658 := q_neq c1658
            rw [li_0] at c1658
            refine ⟨fun c1660 => ?_, fun c1661 => ?_⟩
            · replace c1660 := q_lt c1660
              have e1662 := tq_sub (t0.1 1) (t0.1 3)
              try rw [Int.emod_eq_of_lt (show 0 ≤ (t0.1 1).toInt - (t0.1 3).toInt + 2147483648 by omega) (show (t0.1 1).toInt - (t0.1 3).toInt + 2147483648 < 4294967296 by omega)] at e1662
              have p1663 : (t0.1 0).toInt = N := by omega
              have e1664 := tq_addr li_1 (t0.1 1)
              try rw [Int.emod_eq_of_lt (show 0 ≤ (t0.1 1).toInt + 1 + 2147483648 by omega) (show (t0.1 1).toInt + 1 + 2147483648 < 4294967296 by omega)] at e1664
              have p1665 : 0 ≤ ((t0.1 1) + 1).toInt ∧ ((t0.1 1) + 1).toInt ≤ N ∧ 0 ≤ (t0.1 2).toInt ∧ (t0.1 2).toInt ≤ ((t0.1 1) + 1).toInt ∧ 0 ≤ (t0.1 5).toInt ∧ (t0.1 5).toInt ≤ 5000 := by omega
              have p1666 : 0 ≤ N ∧ N ≤ 400 := by omega
              have B1667 : tj (N) ((va_up t0.1 1 ((t0.1 1) + 1)), t0.2) := ⟨p1663, p1665, p1666⟩
              have p1668 : 0 ≤ (t0.1 3).toInt ∧ (t0.1 3).toInt ≤ ((t0.1 1) + 1).toInt := by omega
              have p1669 : (t0.1 5).toInt ≠ 0 ∨ F = 0 := by omega
              have p1670 : N - ((t0.1 1) + 1).toInt < ((n : Nat) : Int) := by (omega)
              exact ih _ _ _ B1667 p1668 p1669 p1670
            · replace c1661 := q_nlt c1661
              have e1671 := tq_sub (t0.1 1) (t0.1 3)
              try rw [Int.emod_eq_of_lt (show 0 ≤ (t0.1 1).toInt - (t0.1 3).toInt + 2147483648 by omega) (show (t0.1 1).toInt - (t0.1 3).toInt + 2147483648 < 4294967296 by omega)] at e1671
              have p1672 : (t0.1 0).toInt = N := by omega
              have p1673 : 0 ≤ (t0.1 1).toInt ∧ (t0.1 1).toInt ≤ N + 1 ∧ 0 ≤ (t0.1 2).toInt ∧ (t0.1 2).toInt ≤ (t0.1 1).toInt ∧ ((t0.1 5).toInt ≠ 0 ∨ (t0.1 1).toInt ≤ N) ∧ 0 ≤ (t0.1 5).toInt ∧ (t0.1 5).toInt ≤ 5000 := by omega
              have p1674 : 0 ≤ N ∧ N ≤ 400 := by omega
              have B1675 : tk (N) t0 := ⟨p1672, p1673, p1674⟩
              have p1676 : 0 ≤ (t0.1 1).toInt ∧ (t0.1 1).toInt ≤ 500 ∧ 1 ≤ ((2 : Int32)).toInt ∧ ((2 : Int32)).toInt ≤ 4 := by (have := li_2; omega)
              refine wq_X5_blame B1675 p1676 (fun u_17 q1677 q1678 q1679 q1680 q1681 q1682 => ?_)
              have := q1677.1
              have := q1677.2.1
              have p1683 : (u_17.1 0).toInt = N := by omega
              have e1684 := tq_addr li_1 (u_17.1 1)
              try rw [Int.emod_eq_of_lt (show 0 ≤ (u_17.1 1).toInt + 1 + 2147483648 by omega) (show (u_17.1 1).toInt + 1 + 2147483648 < 4294967296 by omega)] at e1684
              have p1685 : 0 ≤ ((u_17.1 1) + 1).toInt ∧ ((u_17.1 1) + 1).toInt ≤ N ∧ 0 ≤ (u_17.1 2).toInt ∧ (u_17.1 2).toInt ≤ ((u_17.1 1) + 1).toInt ∧ 0 ≤ (u_17.1 5).toInt ∧ (u_17.1 5).toInt ≤ 5000 := by omega
              have p1686 : 0 ≤ N ∧ N ≤ 400 := by omega
              have B1687 : tj (N) ((va_up u_17.1 1 ((u_17.1 1) + 1)), u_17.2) := ⟨p1683, p1685, p1686⟩
              have p1688 : 0 ≤ (u_17.1 3).toInt ∧ (u_17.1 3).toInt ≤ ((u_17.1 1) + 1).toInt := by omega
              have p1689 : (u_17.1 5).toInt ≠ 0 ∨ F = 0 := by omega
              have p1690 : N - ((u_17.1 1) + 1).toInt < ((n : Nat) : Int) := by (omega)
              exact ih _ _ _ B1687 p1688 p1689 p1690
          · replace c1659 := q_eq c1659
            rw [li_0] at c1659
            have p1691 : (t0.1 0).toInt = N := by omega
            have p1692 : 0 ≤ (t0.1 1).toInt ∧ (t0.1 1).toInt ≤ N + 1 ∧ 0 ≤ (t0.1 2).toInt ∧ (t0.1 2).toInt ≤ (t0.1 1).toInt ∧ ((t0.1 5).toInt ≠ 0 ∨ (t0.1 1).toInt ≤ N) ∧ 0 ≤ (t0.1 5).toInt ∧ (t0.1 5).toInt ≤ 5000 := by omega
            have p1693 : 0 ≤ N ∧ N ≤ 400 := by omega
            have B1694 : tk (N) t0 := ⟨p1691, p1692, p1693⟩
            have p1695 : 0 ≤ (t0.1 1).toInt ∧ (t0.1 1).toInt ≤ 500 ∧ 1 ≤ ((1 : Int32)).toInt ∧ ((1 : Int32)).toInt ≤ 4 := by (have := li_1; omega)
            refine wq_X5_blame B1694 p1695 (fun u_19 q1696 q1697 q1698 q1699 q1700 q1701 => ?_)
            have := q1696.1
            have := q1696.2.1
            have p1702 : (u_19.1 0).toInt = N := by omega
            have e1703 := tq_addr li_1 (u_19.1 1)
            try rw [Int.emod_eq_of_lt (show 0 ≤ (u_19.1 1).toInt + 1 + 2147483648 by omega) (show (u_19.1 1).toInt + 1 + 2147483648 < 4294967296 by omega)] at e1703
            have p1704 : 0 ≤ ((u_19.1 1) + 1).toInt ∧ ((u_19.1 1) + 1).toInt ≤ N ∧ 0 ≤ (u_19.1 2).toInt ∧ (u_19.1 2).toInt ≤ ((u_19.1 1) + 1).toInt ∧ 0 ≤ (u_19.1 5).toInt ∧ (u_19.1 5).toInt ≤ 5000 := by omega
            have p1705 : 0 ≤ N ∧ N ≤ 400 := by omega
            have B1706 : tj (N) ((va_up u_19.1 1 ((u_19.1 1) + 1)), u_19.2) := ⟨p1702, p1704, p1705⟩
            have p1707 : 0 ≤ (u_19.1 3).toInt ∧ (u_19.1 3).toInt ≤ ((u_19.1 1) + 1).toInt := by omega
            have p1708 : (u_19.1 5).toInt ≠ 0 ∨ F = 0 := by omega
            have p1709 : N - ((u_19.1 1) + 1).toInt < ((n : Nat) : Int) := by (omega)
            exact ih _ _ _ B1706 p1707 p1708 p1709
theorem wq_X5_takeQuoted {post : Tp → Prop} {s0 : Tp} {x1 : Int32} {x2 : Int32} {N : Int} (h1710 : tj (N) s0) (k : ∀ (u : Tp), tk (N) u → (u.1 5).toInt ≠ 0 ∨ (s0.1 5).toInt = 0 → 0 ≤ (u.1 4).toInt ∧ (u.1 4).toInt ≤ 400 → post u) : wp_X5_takeQuoted post s0 x1 x2 := by
  unfold wp_X5_takeQuoted
  have := h1710.1
  have := h1710.2.1
  have := h1710.2.2
  have p1711 : ¬ ((39 : Int32)).toInt = -1 := by (have := li_39; omega)
  refine wq_X5_takeByte h1710 p1711 (fun u_2 q1712 q1713 q1714 q1715 => ?_)
  have := q1712.1
  have := q1712.2.1
  have p1716 : (u_2.1 0).toInt = N := by omega
  have p1717 : 0 ≤ (u_2.1 1).toInt ∧ (u_2.1 1).toInt ≤ N ∧ 0 ≤ (u_2.1 2).toInt ∧ (u_2.1 2).toInt ≤ (u_2.1 1).toInt ∧ 0 ≤ (u_2.1 5).toInt ∧ (u_2.1 5).toInt ≤ 5000 := by omega
  have p1718 : 0 ≤ N ∧ N ≤ 400 := by omega
  have B1719 : tj (N) ((va_up u_2.1 3 (u_2.1 1)), u_2.2) := ⟨p1716, p1717, p1718⟩
  have p1720 : 0 ≤ (u_2.1 1).toInt ∧ (u_2.1 1).toInt ≤ (u_2.1 1).toInt := by omega
  have p1721 : (u_2.1 5).toInt ≠ 0 ∨ ((u_2.1 5).toInt) = 0 := by omega
  obtain ⟨f1722, g1723⟩ := fu_e 500
  have p1724 : N - (u_2.1 1).toInt < (f1722 : Int) := by (omega)
  refine ⟨f1722, wq_X5_takeQuoted_L14 (fun t0 z1 z2 q1725 q1726 q1727 => ?_) f1722 _ _ _ B1719 p1720 p1721 p1724⟩
  have := q1725.1
  have := q1725.2.1
  refine ⟨fun c1728 => ?_, fun c1729 => ?_⟩
  · replace c1728 := q_lt c1728
    refine ⟨fun c1730 => ?_, fun c1731 => ?_⟩
    · replace c1730 := q_le c1730
      have e1732 := tq_sub (t0.1 1) (t0.1 3)
      try rw [Int.emod_eq_of_lt (show 0 ≤ (t0.1 1).toInt - (t0.1 3).toInt + 2147483648 by omega) (show (t0.1 1).toInt - (t0.1 3).toInt + 2147483648 < 4294967296 by omega)] at e1732
      have p1733 : (t0.1 0).toInt = N := by omega
      have e1734 := tq_addr li_1 (t0.1 1)
      try rw [Int.emod_eq_of_lt (show 0 ≤ (t0.1 1).toInt + 1 + 2147483648 by omega) (show (t0.1 1).toInt + 1 + 2147483648 < 4294967296 by omega)] at e1734
      have p1735 : 0 ≤ ((t0.1 1) + 1).toInt ∧ ((t0.1 1) + 1).toInt ≤ N + 1 ∧ 0 ≤ (t0.1 2).toInt ∧ (t0.1 2).toInt ≤ ((t0.1 1) + 1).toInt ∧ ((t0.1 5).toInt ≠ 0 ∨ ((t0.1 1) + 1).toInt ≤ N) ∧ 0 ≤ (t0.1 5).toInt ∧ (t0.1 5).toInt ≤ 5000 := by omega
      have p1736 : 0 ≤ N ∧ N ≤ 400 := by omega
      have B1737 : tk (N) ((va_up (va_up t0.1 1 ((t0.1 1) + 1)) 4 ((t0.1 1) - (t0.1 3))), t0.2) := ⟨p1733, p1735, p1736⟩
      have p1738 : (t0.1 5).toInt ≠ 0 ∨ (s0.1 5).toInt = 0 := by omega
      have p1739 : 0 ≤ ((t0.1 1) - (t0.1 3)).toInt ∧ ((t0.1 1) - (t0.1 3)).toInt ≤ 400 := by omega
      exact k _ B1737 p1738 p1739
    · replace c1731 := q_nle c1731
      have e1740 := tq_sub (t0.1 1) (t0.1 3)
      try rw [Int.emod_eq_of_lt (show 0 ≤ (t0.1 1).toInt - (t0.1 3).toInt + 2147483648 by omega) (show (t0.1 1).toInt - (t0.1 3).toInt + 2147483648 < 4294967296 by omega)] at e1740
      have p1741 : (t0.1 0).toInt = N := by omega
      have p1742 : 0 ≤ (t0.1 1).toInt ∧ (t0.1 1).toInt ≤ N + 1 ∧ 0 ≤ (t0.1 2).toInt ∧ (t0.1 2).toInt ≤ (t0.1 1).toInt ∧ ((t0.1 5).toInt ≠ 0 ∨ (t0.1 1).toInt ≤ N) ∧ 0 ≤ (t0.1 5).toInt ∧ (t0.1 5).toInt ≤ 5000 := by omega
      have p1743 : 0 ≤ N ∧ N ≤ 400 := by omega
      have B1744 : tk (N) ((va_up t0.1 4 ((t0.1 1) - (t0.1 3))), t0.2) := ⟨p1741, p1742, p1743⟩
      have p1745 : 0 ≤ (t0.1 1).toInt ∧ (t0.1 1).toInt ≤ 500 ∧ 1 ≤ ((2 : Int32)).toInt ∧ ((2 : Int32)).toInt ≤ 4 := by (have := li_2; omega)
      refine wq_X5_blame B1744 p1745 (fun u_23 q1746 q1747 q1748 q1749 q1750 q1751 => ?_)
      have := q1746.1
      have := q1746.2.1
      replace q1747 : (u_23.1 1).toInt = (t0.1 1).toInt := q1747
      replace q1748 : (u_23.1 2).toInt = (t0.1 2).toInt := q1748
      replace q1749 : (u_23.1 3).toInt = (t0.1 3).toInt := q1749
      replace q1750 : (u_23.1 4).toInt = ((t0.1 1) - (t0.1 3)).toInt := q1750
      replace q1751 : ¬ (u_23.1 5).toInt = 0 := q1751
      have p1752 : (u_23.1 0).toInt = N := by omega
      have e1753 := tq_addr li_1 (u_23.1 1)
      try rw [Int.emod_eq_of_lt (show 0 ≤ (u_23.1 1).toInt + 1 + 2147483648 by omega) (show (u_23.1 1).toInt + 1 + 2147483648 < 4294967296 by omega)] at e1753
      have p1754 : 0 ≤ ((u_23.1 1) + 1).toInt ∧ ((u_23.1 1) + 1).toInt ≤ N + 1 ∧ 0 ≤ (u_23.1 2).toInt ∧ (u_23.1 2).toInt ≤ ((u_23.1 1) + 1).toInt ∧ ((u_23.1 5).toInt ≠ 0 ∨ ((u_23.1 1) + 1).toInt ≤ N) ∧ 0 ≤ (u_23.1 5).toInt ∧ (u_23.1 5).toInt ≤ 5000 := by omega
      have p1755 : 0 ≤ N ∧ N ≤ 400 := by omega
      have B1756 : tk (N) ((va_up u_23.1 1 ((u_23.1 1) + 1)), u_23.2) := ⟨p1752, p1754, p1755⟩
      have p1757 : (u_23.1 5).toInt ≠ 0 ∨ (s0.1 5).toInt = 0 := by omega
      have p1758 : 0 ≤ (u_23.1 4).toInt ∧ (u_23.1 4).toInt ≤ 400 := by omega
      exact k _ B1756 p1757 p1758
  · replace c1729 := q_nlt c1729
    have p1759 : (t0.1 0).toInt = N := by omega
    have p1760 : 0 ≤ (t0.1 1).toInt ∧ (t0.1 1).toInt ≤ N + 1 ∧ 0 ≤ (t0.1 2).toInt ∧ (t0.1 2).toInt ≤ (t0.1 1).toInt ∧ ((t0.1 5).toInt ≠ 0 ∨ (t0.1 1).toInt ≤ N) ∧ 0 ≤ (t0.1 5).toInt ∧ (t0.1 5).toInt ≤ 5000 := by omega
    have p1761 : 0 ≤ N ∧ N ≤ 400 := by omega
    have B1762 : tk (N) ((va_up t0.1 4 ((t0.1 1) - (t0.1 3))), t0.2) := ⟨p1759, p1760, p1761⟩
    have p1763 : 0 ≤ (t0.1 0).toInt ∧ (t0.1 0).toInt ≤ 500 ∧ 1 ≤ ((1 : Int32)).toInt ∧ ((1 : Int32)).toInt ≤ 4 := by (have := li_1; omega)
    refine wq_X5_blame B1762 p1763 (fun u_25 q1764 q1765 q1766 q1767 q1768 q1769 => ?_)
    have := q1764.1
    have := q1764.2.1
    replace q1765 : (u_25.1 1).toInt = (t0.1 1).toInt := q1765
    replace q1766 : (u_25.1 2).toInt = (t0.1 2).toInt := q1766
    replace q1767 : (u_25.1 3).toInt = (t0.1 3).toInt := q1767
    replace q1768 : (u_25.1 4).toInt = ((t0.1 1) - (t0.1 3)).toInt := q1768
    have e1770 := tq_sub (t0.1 1) (t0.1 3)
    try rw [Int.emod_eq_of_lt (show 0 ≤ (t0.1 1).toInt - (t0.1 3).toInt + 2147483648 by omega) (show (t0.1 1).toInt - (t0.1 3).toInt + 2147483648 < 4294967296 by omega)] at e1770
    replace q1769 : ¬ (u_25.1 5).toInt = 0 := q1769
    have p1771 : (u_25.1 0).toInt = N := by omega
    have e1772 := tq_addr li_1 (u_25.1 1)
    try rw [Int.emod_eq_of_lt (show 0 ≤ (u_25.1 1).toInt + 1 + 2147483648 by omega) (show (u_25.1 1).toInt + 1 + 2147483648 < 4294967296 by omega)] at e1772
    have p1773 : 0 ≤ ((u_25.1 1) + 1).toInt ∧ ((u_25.1 1) + 1).toInt ≤ N + 1 ∧ 0 ≤ (u_25.1 2).toInt ∧ (u_25.1 2).toInt ≤ ((u_25.1 1) + 1).toInt ∧ ((u_25.1 5).toInt ≠ 0 ∨ ((u_25.1 1) + 1).toInt ≤ N) ∧ 0 ≤ (u_25.1 5).toInt ∧ (u_25.1 5).toInt ≤ 5000 := by omega
    have p1774 : 0 ≤ N ∧ N ≤ 400 := by omega
    have B1775 : tk (N) ((va_up u_25.1 1 ((u_25.1 1) + 1)), u_25.2) := ⟨p1771, p1773, p1774⟩
    have p1776 : (u_25.1 5).toInt ≠ 0 ∨ (s0.1 5).toInt = 0 := by omega
    have p1777 : 0 ≤ (u_25.1 4).toInt ∧ (u_25.1 4).toInt ≤ 400 := by omega
    exact k _ B1775 p1776 p1777
theorem hd_b {a b : Int32} (h1 : 1 ≤ a.toInt ∧ a.toInt ≤ 6) (h2 : 1 ≤ b.toInt ∧ b.toInt ≤ (if (40 / a) < (10 : Int32) then (40 / a) else (10 : Int32)).toInt) : 0 ≤ a.toInt * b.toInt ∧ a.toInt * b.toInt ≤ 40 ∧ b.toInt ≤ 10 := by
  have cs : a = 1 ∨ a = 2 ∨ a = 3 ∨ a = 4 ∨ a = 5 ∨ a = 6 := by
    have f : ∀ n : Int32, a.toInt = n.toInt → a = n := fun n e => Int32.toInt_inj.mp e
    have l1 : (1 : Int32).toInt = 1 := rfl
    have l2 : (2 : Int32).toInt = 2 := rfl
    have l3 : (3 : Int32).toInt = 3 := rfl
    have l4 : (4 : Int32).toInt = 4 := rfl
    have l5 : (5 : Int32).toInt = 5 := rfl
    have l6 : (6 : Int32).toInt = 6 := rfl
    by_cases g1 : a.toInt = 1
    · exact Or.inl (f 1 (by omega))
    by_cases g2 : a.toInt = 2
    · exact Or.inr (Or.inl (f 2 (by omega)))
    by_cases g3 : a.toInt = 3
    · exact Or.inr (Or.inr (Or.inl (f 3 (by omega))))
    by_cases g4 : a.toInt = 4
    · exact Or.inr (Or.inr (Or.inr (Or.inl (f 4 (by omega)))))
    by_cases g5 : a.toInt = 5
    · exact Or.inr (Or.inr (Or.inr (Or.inr (Or.inl (f 5 (by omega))))))
    · exact Or.inr (Or.inr (Or.inr (Or.inr (Or.inr (f 6 (by omega))))))
  rcases cs with e | e | e | e | e | e <;> subst e
  · have m : (if (40 / (1 : Int32)) < (10 : Int32) then (40 / (1 : Int32)) else (10 : Int32)).toInt = 10 := by decide
    have l : (1 : Int32).toInt = 1 := rfl
    rw [m] at h2
    rw [l]
    omega
  · have m : (if (40 / (2 : Int32)) < (10 : Int32) then (40 / (2 : Int32)) else (10 : Int32)).toInt = 10 := by decide
    have l : (2 : Int32).toInt = 2 := rfl
    rw [m] at h2
    rw [l]
    omega
  · have m : (if (40 / (3 : Int32)) < (10 : Int32) then (40 / (3 : Int32)) else (10 : Int32)).toInt = 10 := by decide
    have l : (3 : Int32).toInt = 3 := rfl
    rw [m] at h2
    rw [l]
    omega
  · have m : (if (40 / (4 : Int32)) < (10 : Int32) then (40 / (4 : Int32)) else (10 : Int32)).toInt = 10 := by decide
    have l : (4 : Int32).toInt = 4 := rfl
    rw [m] at h2
    rw [l]
    omega
  · have m : (if (40 / (5 : Int32)) < (10 : Int32) then (40 / (5 : Int32)) else (10 : Int32)).toInt = 8 := by decide
    have l : (5 : Int32).toInt = 5 := rfl
    rw [m] at h2
    rw [l]
    omega
  · have m : (if (40 / (6 : Int32)) < (10 : Int32) then (40 / (6 : Int32)) else (10 : Int32)).toInt = 6 := by decide
    have l : (6 : Int32).toInt = 6 := rfl
    rw [m] at h2
    rw [l]
    omega

theorem wq_X1_readHead {post : Bd → Tp → Prop} {s0 : Bd} {s1 : Tp} {R W N : Int} (h1778 : bi (R) (W) s0) (h1779 : tj (N) s1) (k : ∀ (ua : Bd) (ub : Tp) (R2 W2 : Int), bi (R2) (W2) ua → tj (N) ub → post ua ub) : wp_X1_readHead post s0 s1 := by
  unfold wp_X1_readHead
  have := h1778.1
  have := h1778.2.1
  have := h1778.2.2.1
  have := h1778.2.2.2.1
  have := h1778.2.2.2.2.2.2.2.2.2
  have := h1779.1
  have := h1779.2.1
  have := h1779.2.2
  refine wq_X5_takeThisWord h1779 (fun u_2 q1780 q1781 => ?_)
  have := q1780.1
  have := q1780.2.1
  refine wq_X5_takeNumber q1780 (fun r_3 u_4 q1782 q1783 q1784 => ?_)
  have := q1782.1
  have := q1782.2.1
  try simp only [li_1, li_6] at q1783
  try simp only [li_1, li_6] at q1784
  refine ⟨fun c1785 => ?_, fun c1786 => ?_⟩
  · replace c1785 := q_le c1785
    rw [li_0] at c1785
    refine wq_X5_takeNumber q1782 (fun r_6 u_7 q1787 q1788 q1789 => ?_)
    have := q1787.1
    have := q1787.2.1
    try simp only [li_1, li_0] at q1788
    try simp only [li_1, li_0] at q1789
    refine wq_X5_takeThisWord q1787 (fun u_9 q1790 q1791 => ?_)
    have := q1790.1
    have := q1790.2.1
    refine wq_X5_takeNumber q1790 (fun r_10 u_11 q1792 q1793 q1794 => ?_)
    have := q1792.1
    have := q1792.2.1
    try simp only [li_1, li_99] at q1793
    try simp only [li_1, li_99] at q1794
    refine wq_X5_isSound (fun r_12 q1795 => ?_)
    refine ⟨fun c1796 => ?_, fun c1797 => ?_⟩
    · replace c1796 := q_eq c1796
      rw [li_0] at c1796
      exact k _ _ (R) (W) h1778 q1792
    · replace c1797 := q_neq c1797
      rw [li_0] at c1797
      have := hd_b (a := r_3) (b := r_6) (by omega) (by omega)
      have p1798 : (r_3).toInt = (r_3).toInt := by omega
      have p1799 : (r_6).toInt = (r_6).toInt := by omega
      have p1800 : 0 ≤ (s0.1 3).toInt ∧ (s0.1 3).toInt ≤ 4 := by omega
      have p1801 : 0 ≤ (r_3).toInt ∧ (r_3).toInt ≤ 6 ∧ 0 ≤ (r_6).toInt ∧ (r_6).toInt ≤ 10 ∧ 0 ≤ (r_3).toInt * (r_6).toInt ∧ (r_3).toInt * (r_6).toInt ≤ 40 := by omega
      have p1802 : ar 4 (0) (40) (s0.2.1 1) := h1778.2.2.2.2.1
      have p1803 : ar 40 (0) (3) (s0.2.1 3) := h1778.2.2.2.2.2.1
      have p1804 : ar 40 (0) (39) (s0.2.1 4) := h1778.2.2.2.2.2.2.1
      have p1805 : ar 40 (0) (39) (s0.2.1 5) := h1778.2.2.2.2.2.2.2.1
      have p1806 : ar 40 (0) (39) (s0.2.1 6) := h1778.2.2.2.2.2.2.2.2.1
      have p1807 : s0.2.2.2.1 ≤ 6400 := by omega
      have B1808 : bi ((r_3).toInt) ((r_6).toInt) ((va_up (va_up (va_up s0.1 0 r_3) 1 r_6) 2 r_10), s0.2.1, s0.2.2.1, s0.2.2.2.1, s0.2.2.2.2) := ⟨p1798, p1799, p1800, p1801, p1802, p1803, p1804, p1805, p1806, p1807⟩
      exact k _ _ ((r_3).toInt) ((r_6).toInt) B1808 q1792
  · replace c1786 := q_nle c1786
    rw [li_0] at c1786
    refine ⟨(z_ne (by have := li_0; omega)), ?_⟩
    refine wq_X5_takeNumber q1782 (fun r_16 u_17 q1809 q1810 q1811 => ?_)
    have := q1809.1
    have := q1809.2.1
    try simp only [li_1] at q1810
    have e1812 := tq_ite (a := (40 / r_3)) (b := (10 : Int32)) (x := (40 / r_3)) (y := (10 : Int32))
    simp only [li_10] at e1812
    try simp only [li_1] at q1811
    refine wq_X5_takeThisWord q1809 (fun u_19 q1813 q1814 => ?_)
    have := q1813.1
    have := q1813.2.1
    refine wq_X5_takeNumber q1813 (fun r_20 u_21 q1815 q1816 q1817 => ?_)
    have := q1815.1
    have := q1815.2.1
    try simp only [li_1, li_99] at q1816
    try simp only [li_1, li_99] at q1817
    refine wq_X5_isSound (fun r_22 q1818 => ?_)
    refine ⟨fun c1819 => ?_, fun c1820 => ?_⟩
    · replace c1819 := q_eq c1819
      rw [li_0] at c1819
      exact k _ _ (R) (W) h1778 q1815
    · replace c1820 := q_neq c1820
      rw [li_0] at c1820
      have := hd_b (a := r_3) (b := r_16) (by omega) (by omega)
      have p1821 : (r_3).toInt = (r_3).toInt := by omega
      have p1822 : (r_16).toInt = (r_16).toInt := by omega
      have p1823 : 0 ≤ (s0.1 3).toInt ∧ (s0.1 3).toInt ≤ 4 := by omega
      have p1824 : 0 ≤ (r_3).toInt ∧ (r_3).toInt ≤ 6 ∧ 0 ≤ (r_16).toInt ∧ (r_16).toInt ≤ 10 ∧ 0 ≤ (r_3).toInt * (r_16).toInt ∧ (r_3).toInt * (r_16).toInt ≤ 40 := by omega
      have p1825 : ar 4 (0) (40) (s0.2.1 1) := h1778.2.2.2.2.1
      have p1826 : ar 40 (0) (3) (s0.2.1 3) := h1778.2.2.2.2.2.1
      have p1827 : ar 40 (0) (39) (s0.2.1 4) := h1778.2.2.2.2.2.2.1
      have p1828 : ar 40 (0) (39) (s0.2.1 5) := h1778.2.2.2.2.2.2.2.1
      have p1829 : ar 40 (0) (39) (s0.2.1 6) := h1778.2.2.2.2.2.2.2.2.1
      have p1830 : s0.2.2.2.1 ≤ 6400 := by omega
      have B1831 : bi ((r_3).toInt) ((r_16).toInt) ((va_up (va_up (va_up s0.1 0 r_3) 1 r_16) 2 r_20), s0.2.1, s0.2.2.1, s0.2.2.2.1, s0.2.2.2.2) := ⟨p1821, p1822, p1823, p1824, p1825, p1826, p1827, p1828, p1829, p1830⟩
      exact k _ _ ((r_3).toInt) ((r_16).toInt) B1831 q1815
theorem wq_X1_readDrum {post : Bd → Tp → Prop} {s0 : Bd} {s1 : Tp} {R W N : Int} (h1832 : bi (R) (W) s0) (h1833 : tj (N) s1) (k : ∀ (ua : Bd) (ub : Tp), bi (R) (W) ua → tk (N) ub → post ua ub) : wp_X1_readDrum post s0 s1 := by
  unfold wp_X1_readDrum
  have := h1832.1
  have := h1832.2.1
  have := h1832.2.2.1
  have := h1832.2.2.2.1
  have := h1832.2.2.2.2.2.2.2.2.2
  have := h1833.1
  have := h1833.2.1
  have := h1833.2.2
  refine wq_X5_takeNumber h1833 (fun r_1 u_2 q1834 q1835 q1836 => ?_)
  have := q1834.1
  have := q1834.2.1
  try simp only [li_1, li_9] at q1835
  try simp only [li_1, li_9] at q1836
  refine wq_X5_takeQuoted q1834 (fun u_4 q1837 q1838 q1839 => ?_)
  have := q1837.1
  have := q1837.2.1
  refine wq_X5_isSound (fun r_5 q1840 => ?_)
  refine ⟨fun c1841 => ?_, fun c1842 => ?_⟩
  · replace c1841 := q_eq c1841
    rw [li_0] at c1841
    exact k _ _ h1832 q1837
  · replace c1842 := q_neq c1842
    rw [li_0] at c1842
    have p1843 : (u_4.1 0).toInt = N := by omega
    have p1844 : 0 ≤ N ∧ N ≤ 400 := by omega
    have B1845 : tz (N) u_4 := ⟨p1843, p1844⟩
    have p1846 : 0 ≤ (u_4.1 4).toInt := by omega
    refine wq_X0_addDrum h1832 B1845 p1846 (fun u_9 q1847 => ?_)
    have := q1847.1
    have := q1847.2.1
    have := q1847.2.2.1
    have := q1847.2.2.2.2.2.2.2.2.2
    exact k _ _ q1847 q1837
theorem wq_X1_readWorn {post : Bd → Tp → Prop} {s0 : Bd} {s1 : Tp} {R W N : Int} (h1848 : bi (R) (W) s0) (h1849 : tj (N) s1) (k : ∀ (ua : Bd) (ub : Tp), bi (R) (W) ua → tk (N) ub → post ua ub) : wp_X1_readWorn post s0 s1 := by
  unfold wp_X1_readWorn
  have := h1848.1
  have := h1848.2.1
  have := h1848.2.2.1
  have := h1848.2.2.2.1
  have := h1848.2.2.2.2.2.2.2.2.2
  have := h1849.1
  have := h1849.2.1
  have := h1849.2.2
  refine wq_X0_cells h1848 (fun r_1 q1850 => ?_)
  refine wq_X5_takeNumber h1849 (fun r_3 u_4 q1851 q1852 q1853 => ?_)
  have := q1851.1
  have := q1851.2.1
  try simp only [li_0] at q1852
  have e1854 := tq_subr li_1 r_1
  try rw [Int.emod_eq_of_lt (show 0 ≤ (r_1).toInt - 1 + 2147483648 by omega) (show (r_1).toInt - 1 + 2147483648 < 4294967296 by omega)] at e1854
  try simp only [li_0] at q1853
  have p1855 : 0 ≤ (r_3).toInt ∧ (r_3).toInt < 40 := by omega
  refine wq_X0_flapsOf h1848 p1855 (fun r_5 q1856 => ?_)
  refine wq_X5_takeNumber q1851 (fun r_7 u_8 q1857 q1858 q1859 => ?_)
  have := q1857.1
  have := q1857.2.1
  try simp only [li_1] at q1858
  have e1860 := tq_subr li_1 r_5
  try rw [Int.emod_eq_of_lt (show 0 ≤ (r_5).toInt - 1 + 2147483648 by omega) (show (r_5).toInt - 1 + 2147483648 < 4294967296 by omega)] at e1860
  try simp only [li_1] at q1859
  refine wq_X5_isSound (fun r_9 q1861 => ?_)
  refine ⟨fun c1862 => ?_, fun c1863 => ?_⟩
  · replace c1862 := q_eq c1862
    rw [li_0] at c1862
    refine wq_X5_isSound (fun r_12 q1864 => ?_)
    refine ⟨fun c1865 => ?_, fun c1866 => ?_⟩
    · replace c1865 := q_eq c1865
      rw [li_0] at c1865
      have p1867 : (u_8.1 0).toInt = N := by omega
      have p1868 : 0 ≤ (u_8.1 1).toInt ∧ (u_8.1 1).toInt ≤ N + 1 ∧ 0 ≤ (u_8.1 2).toInt ∧ (u_8.1 2).toInt ≤ (u_8.1 1).toInt ∧ ((u_8.1 5).toInt ≠ 0 ∨ (u_8.1 1).toInt ≤ N) ∧ 0 ≤ (u_8.1 5).toInt ∧ (u_8.1 5).toInt ≤ 5000 := by omega
      have p1869 : 0 ≤ N ∧ N ≤ 400 := by omega
      have B1870 : tk (N) u_8 := ⟨p1867, p1868, p1869⟩
      exact k _ _ h1848 B1870
    · replace c1866 := q_neq c1866
      rw [li_0] at c1866
      have p1871 : 0 ≤ (r_3).toInt ∧ (r_3).toInt < 40 := by omega
      refine wq_X0_wearFlap h1848 p1871 (fun u_16 q1872 => ?_)
      have := q1872.1
      have := q1872.2.1
      have := q1872.2.2.1
      have := q1872.2.2.2.2.2.2.2.2.2
      have p1873 : (u_8.1 0).toInt = N := by omega
      have p1874 : 0 ≤ (u_8.1 1).toInt ∧ (u_8.1 1).toInt ≤ N + 1 ∧ 0 ≤ (u_8.1 2).toInt ∧ (u_8.1 2).toInt ≤ (u_8.1 1).toInt ∧ ((u_8.1 5).toInt ≠ 0 ∨ (u_8.1 1).toInt ≤ N) ∧ 0 ≤ (u_8.1 5).toInt ∧ (u_8.1 5).toInt ≤ 5000 := by omega
      have p1875 : 0 ≤ N ∧ N ≤ 400 := by omega
      have B1876 : tk (N) u_8 := ⟨p1873, p1874, p1875⟩
      exact k _ _ q1872 B1876
  · replace c1863 := q_neq c1863
    rw [li_0] at c1863
    have p1877 : 0 ≤ (r_3).toInt ∧ (r_3).toInt < 40 := by omega
    refine wq_X0_isWorn h1848 p1877 (fun r_17 q1878 => ?_)
    refine ⟨fun c1879 => ?_, fun c1880 => ?_⟩
    · replace c1879 := q_eq c1879
      rw [li_0] at c1879
      refine wq_X5_isSound (fun r_20 q1881 => ?_)
      refine ⟨fun c1882 => ?_, fun c1883 => ?_⟩
      · replace c1882 := q_eq c1882
        rw [li_0] at c1882
        have p1884 : (u_8.1 0).toInt = N := by omega
        have p1885 : 0 ≤ (u_8.1 1).toInt ∧ (u_8.1 1).toInt ≤ N + 1 ∧ 0 ≤ (u_8.1 2).toInt ∧ (u_8.1 2).toInt ≤ (u_8.1 1).toInt ∧ ((u_8.1 5).toInt ≠ 0 ∨ (u_8.1 1).toInt ≤ N) ∧ 0 ≤ (u_8.1 5).toInt ∧ (u_8.1 5).toInt ≤ 5000 := by omega
        have p1886 : 0 ≤ N ∧ N ≤ 400 := by omega
        have B1887 : tk (N) u_8 := ⟨p1884, p1885, p1886⟩
        exact k _ _ h1848 B1887
      · replace c1883 := q_neq c1883
        rw [li_0] at c1883
        have p1888 : 0 ≤ (r_3).toInt ∧ (r_3).toInt < 40 := by omega
        refine wq_X0_wearFlap h1848 p1888 (fun u_24 q1889 => ?_)
        have := q1889.1
        have := q1889.2.1
        have := q1889.2.2.1
        have := q1889.2.2.2.2.2.2.2.2.2
        have p1890 : (u_8.1 0).toInt = N := by omega
        have p1891 : 0 ≤ (u_8.1 1).toInt ∧ (u_8.1 1).toInt ≤ N + 1 ∧ 0 ≤ (u_8.1 2).toInt ∧ (u_8.1 2).toInt ≤ (u_8.1 1).toInt ∧ ((u_8.1 5).toInt ≠ 0 ∨ (u_8.1 1).toInt ≤ N) ∧ 0 ≤ (u_8.1 5).toInt ∧ (u_8.1 5).toInt ≤ 5000 := by omega
        have p1892 : 0 ≤ N ∧ N ≤ 400 := by omega
        have B1893 : tk (N) u_8 := ⟨p1890, p1891, p1892⟩
        exact k _ _ q1889 B1893
    · replace c1880 := q_neq c1880
      rw [li_0] at c1880
      have p1894 : (u_8.1 0).toInt = N := by omega
      have p1895 : 0 ≤ (u_8.1 1).toInt ∧ (u_8.1 1).toInt ≤ N + 1 ∧ 0 ≤ (u_8.1 2).toInt ∧ (u_8.1 2).toInt ≤ (u_8.1 1).toInt ∧ ((u_8.1 5).toInt ≠ 0 ∨ (u_8.1 1).toInt ≤ N) ∧ 0 ≤ (u_8.1 5).toInt ∧ (u_8.1 5).toInt ≤ 5000 := by omega
      have p1896 : 0 ≤ N ∧ N ≤ 400 := by omega
      have B1897 : tk (N) u_8 := ⟨p1894, p1895, p1896⟩
      have p1898 : 0 ≤ (u_8.1 2).toInt ∧ (u_8.1 2).toInt ≤ 500 ∧ 1 ≤ ((2 : Int32)).toInt ∧ ((2 : Int32)).toInt ≤ 4 := by (have := li_2; omega)
      refine wq_X5_blame B1897 p1898 (fun u_26 q1899 q1900 q1901 q1902 q1903 q1904 => ?_)
      have := q1899.1
      have := q1899.2.1
      refine wq_X5_isSound (fun r_27 q1905 => ?_)
      refine ⟨fun c1906 => ?_, fun c1907 => ?_⟩
      · replace c1906 := q_eq c1906
        rw [li_0] at c1906
        exact k _ _ h1848 q1899
      · replace c1907 := q_neq c1907
        rw [li_0] at c1907
        have p1908 : 0 ≤ (r_3).toInt ∧ (r_3).toInt < 40 := by omega
        refine wq_X0_wearFlap h1848 p1908 (fun u_31 q1909 => ?_)
        have := q1909.1
        have := q1909.2.1
        have := q1909.2.2.1
        have := q1909.2.2.2.2.2.2.2.2.2
        exact k _ _ q1909 q1899
theorem wq_X1_readRow {post : Bd → Tp → Prop} {s0 : Bd} {s1 : Tp} {R W N : Int} (h1910 : bi (R) (W) s0) (h1911 : tj (N) s1) (k : ∀ (ua : Bd) (ub : Tp), bi (R) (W) ua → tk (N) ub → post ua ub) : wp_X1_readRow post s0 s1 := by
  unfold wp_X1_readRow
  have := h1910.1
  have := h1910.2.1
  have := h1910.2.2.1
  have := h1910.2.2.2.1
  have := h1910.2.2.2.2.2.2.2.2.2
  have := h1911.1
  have := h1911.2.1
  have := h1911.2.2
  refine wq_X5_takeNumber h1911 (fun r_1 u_2 q1912 q1913 q1914 => ?_)
  have := q1912.1
  have := q1912.2.1
  try simp only [li_0] at q1913
  have e1915 := tq_subr li_1 (s0.1 0)
  try rw [Int.emod_eq_of_lt (show 0 ≤ (s0.1 0).toInt - 1 + 2147483648 by omega) (show (s0.1 0).toInt - 1 + 2147483648 < 4294967296 by omega)] at e1915
  try simp only [li_0] at q1914
  refine wq_X5_takeQuoted q1912 (fun u_4 q1916 q1917 q1918 => ?_)
  have := q1916.1
  have := q1916.2.1
  refine wq_X5_isSound (fun r_5 q1919 => ?_)
  refine ⟨fun c1920 => ?_, fun c1921 => ?_⟩
  · replace c1920 := q_eq c1920
    rw [li_0] at c1920
    exact k _ _ h1910 q1916
  · replace c1921 := q_neq c1921
    rw [li_0] at c1921
    have p1922 : (u_4.1 0).toInt = N := by omega
    have p1923 : 0 ≤ N ∧ N ≤ 400 := by omega
    have B1924 : tz (N) u_4 := ⟨p1922, p1923⟩
    have p1925 : 0 ≤ (r_1).toInt ∧ (r_1).toInt < R := by omega
    refine wq_X0_showSigns h1910 B1924 p1925 (fun u_9 q1926 => ?_)
    have := q1926.1
    have := q1926.2.1
    have := q1926.2.2.1
    have := q1926.2.2.2.2.2.2.2.2.2
    exact k _ _ q1926 q1916
theorem wq_X1_readLose {post : Bd → Tp → Prop} {s0 : Bd} {s1 : Tp} {R W N : Int} (h1927 : bi (R) (W) s0) (h1928 : tj (N) s1) (k : ∀ (ua : Bd) (ub : Tp), bi (R) (W) ua → tk (N) ub → post ua ub) : wp_X1_readLose post s0 s1 := by
  unfold wp_X1_readLose
  have := h1927.1
  have := h1927.2.1
  have := h1927.2.2.1
  have := h1927.2.2.2.1
  have := h1927.2.2.2.2.2.2.2.2.2
  have := h1928.1
  have := h1928.2.1
  have := h1928.2.2
  refine wq_X0_cells h1927 (fun r_1 q1929 => ?_)
  refine wq_X5_takeNumber h1928 (fun r_3 u_4 q1930 q1931 q1932 => ?_)
  have := q1930.1
  have := q1930.2.1
  try simp only [li_0] at q1931
  have e1933 := tq_subr li_1 r_1
  try rw [Int.emod_eq_of_lt (show 0 ≤ (r_1).toInt - 1 + 2147483648 by omega) (show (r_1).toInt - 1 + 2147483648 < 4294967296 by omega)] at e1933
  try simp only [li_0] at q1932
  refine wq_X5_takeNumber q1930 (fun r_5 u_6 q1934 q1935 q1936 => ?_)
  have := q1934.1
  have := q1934.2.1
  try simp only [li_0, li_9] at q1935
  try simp only [li_0, li_9] at q1936
  refine wq_X5_isSound (fun r_7 q1937 => ?_)
  refine ⟨fun c1938 => ?_, fun c1939 => ?_⟩
  · replace c1938 := q_eq c1938
    rw [li_0] at c1938
    have p1940 : (u_6.1 0).toInt = N := by omega
    have p1941 : 0 ≤ (u_6.1 1).toInt ∧ (u_6.1 1).toInt ≤ N + 1 ∧ 0 ≤ (u_6.1 2).toInt ∧ (u_6.1 2).toInt ≤ (u_6.1 1).toInt ∧ ((u_6.1 5).toInt ≠ 0 ∨ (u_6.1 1).toInt ≤ N) ∧ 0 ≤ (u_6.1 5).toInt ∧ (u_6.1 5).toInt ≤ 5000 := by omega
    have p1942 : 0 ≤ N ∧ N ≤ 400 := by omega
    have B1943 : tk (N) u_6 := ⟨p1940, p1941, p1942⟩
    exact k _ _ h1927 B1943
  · replace c1939 := q_neq c1939
    rw [li_0] at c1939
    refine wq_X0_setLost h1927 (fun u_11 q1944 => ?_)
    have := q1944.1
    have := q1944.2.1
    have := q1944.2.2.1
    have := q1944.2.2.2.2.2.2.2.2.2
    have p1945 : (u_6.1 0).toInt = N := by omega
    have p1946 : 0 ≤ (u_6.1 1).toInt ∧ (u_6.1 1).toInt ≤ N + 1 ∧ 0 ≤ (u_6.1 2).toInt ∧ (u_6.1 2).toInt ≤ (u_6.1 1).toInt ∧ ((u_6.1 5).toInt ≠ 0 ∨ (u_6.1 1).toInt ≤ N) ∧ 0 ≤ (u_6.1 5).toInt ∧ (u_6.1 5).toInt ≤ 5000 := by omega
    have p1947 : 0 ≤ N ∧ N ≤ 400 := by omega
    have B1948 : tk (N) u_6 := ⟨p1945, p1946, p1947⟩
    exact k _ _ q1944 B1948
theorem wq_X1_readCells_L38 {post : Bd → Tp → Prop} {e66 : Bd → Tp → Int32 → Int32 → Int32 → Int32 → Int32 → Prop} {R W N : Int} (ke66 : ∀ (t0 : Bd) (t1 : Tp) (z2 : Int32) (z3 : Int32) (z4 : Int32) (z5 : Int32) (z6 : Int32), bi (R) (W) t0 → tk (N) t1 → 0 ≤ (z6).toInt ∧ (z6).toInt ≤ (z4).toInt + 1 ∧ (z4).toInt ≤ 39 → 0 ≤ (z5).toInt ∧ (z5).toInt ≤ 3 → e66 t0 t1 z2 z3 z4 z5 z6) : ∀ (n : Nat) (t0 : Bd) (t1 : Tp) (z2 : Int32) (z3 : Int32) (z4 : Int32) (z5 : Int32) (z6 : Int32), bi (R) (W) t0 → tk (N) t1 → 0 ≤ (z6).toInt ∧ (z6).toInt ≤ (z4).toInt + 1 ∧ (z4).toInt ≤ 39 → 0 ≤ (z5).toInt ∧ (z5).toInt ≤ 3 → (z4).toInt - (z6).toInt + 1 < (n : Int) → wp_X1_readCells_L38 post e66 n t0 t1 z2 z3 z4 z5 z6 := by
  intro n
  induction n with
  | zero =>
    intro t0 t1 z2 z3 z4 z5 z6 i1949 i1950 i1951 i1952 i1953
    have := i1949.1
    have := i1949.2.1
    have := i1949.2.2.1
    have := i1949.2.2.2.1
    have := i1949.2.2.2.2.2.2.2.2.2
    have := i1950.1
    have := i1950.2.1
    have := i1950.2.2
    exfalso
    omega
  | succ n ih =>
    intro t0 t1 z2 z3 z4 z5 z6 i1949 i1950 i1951 i1952 i1953
    unfold wp_X1_readCells_L38
    have := i1949.1
    have := i1949.2.1
    have := i1949.2.2.1
    have := i1949.2.2.2.1
    have := i1949.2.2.2.2.2.2.2.2.2
    have := i1950.1
    have := i1950.2.1
    have := i1950.2.2
    refine ⟨fun c1954 => ?_, fun c1955 => ?_⟩
    · replace c1954 := q_lt c1954
      have p1956 : 0 ≤ (z6).toInt ∧ (z6).toInt ≤ (z4).toInt + 1 ∧ (z4).toInt ≤ 39 := by omega
      have p1957 : 0 ≤ (z5).toInt ∧ (z5).toInt ≤ 3 := by omega
      exact ke66 _ _ _ _ _ _ _ i1949 i1950 p1956 p1957
    · replace c1955 := q_nlt c1955
      refine wq_X5_isSound (fun r_10 q1958 => ?_)
      refine ⟨fun c1959 => ?_, fun c1960 => ?_⟩
      · replace c1959 := q_eq c1959
        rw [li_0] at c1959
        have p1961 : 0 ≤ (z6).toInt ∧ (z6).toInt ≤ (z4).toInt + 1 ∧ (z4).toInt ≤ 39 := by omega
        have p1962 : 0 ≤ (z5).toInt ∧ (z5).toInt ≤ 3 := by omega
        exact ke66 _ _ _ _ _ _ _ i1949 i1950 p1961 p1962
      · replace c1960 := q_neq c1960
        rw [li_0] at c1960
        have p1963 : 0 ≤ (z6).toInt ∧ (z6).toInt < 40 := by omega
        have p1964 : 0 ≤ (z5).toInt ∧ (z5).toInt ≤ 3 := by omega
        refine wq_X0_makeCell i1949 p1963 p1964 (fun u_14 q1965 => ?_)
        have := q1965.1
        have := q1965.2.1
        have := q1965.2.2.1
        have := q1965.2.2.2.2.2.2.2.2.2
        have e1966 := tq_addr li_1 z6
        try rw [Int.emod_eq_of_lt (show 0 ≤ (z6).toInt + 1 + 2147483648 by omega) (show (z6).toInt + 1 + 2147483648 < 4294967296 by omega)] at e1966
        have p1967 : 0 ≤ (z6 + 1).toInt ∧ (z6 + 1).toInt ≤ (z4).toInt + 1 ∧ (z4).toInt ≤ 39 := by omega
        have p1968 : 0 ≤ (z5).toInt ∧ (z5).toInt ≤ 3 := by omega
        have p1969 : (z4).toInt - (z6 + 1).toInt + 1 < ((n : Nat) : Int) := by (omega)
        exact ih _ _ _ _ _ _ _ q1965 i1950 p1967 p1968 p1969
theorem wq_X1_readCells {post : Bd → Tp → Prop} {s0 : Bd} {s1 : Tp} {R W N : Int} (h1970 : bi (R) (W) s0) (h1971 : tj (N) s1) (k : ∀ (ua : Bd) (ub : Tp), bi (R) (W) ua → tk (N) ub → post ua ub) : wp_X1_readCells post s0 s1 := by
  unfold wp_X1_readCells
  have := h1970.1
  have := h1970.2.1
  have := h1970.2.2.1
  have := h1970.2.2.2.1
  have := h1970.2.2.2.2.2.2.2.2.2
  have := h1971.1
  have := h1971.2.1
  have := h1971.2.2
  refine wq_X0_cells h1970 (fun r_1 q1972 => ?_)
  refine wq_X5_takeNumber h1971 (fun r_3 u_4 q1973 q1974 q1975 => ?_)
  have := q1973.1
  have := q1973.2.1
  try simp only [li_0] at q1974
  have e1976 := tq_subr li_1 r_1
  try rw [Int.emod_eq_of_lt (show 0 ≤ (r_1).toInt - 1 + 2147483648 by omega) (show (r_1).toInt - 1 + 2147483648 < 4294967296 by omega)] at e1976
  try simp only [li_0] at q1975
  refine wq_X5_takeNumber q1973 (fun r_5 u_6 q1977 q1978 q1979 => ?_)
  have := q1977.1
  have := q1977.2.1
  refine wq_X5_takeNumber q1977 (fun r_7 u_8 q1980 q1981 q1982 => ?_)
  have := q1980.1
  have := q1980.2.1
  try simp only [li_0] at q1981
  have e1983 := tq_subr li_1 (s0.1 3)
  try rw [Int.emod_eq_of_lt (show 0 ≤ (s0.1 3).toInt - 1 + 2147483648 by omega) (show (s0.1 3).toInt - 1 + 2147483648 < 4294967296 by omega)] at e1983
  try simp only [li_0] at q1982
  have p1984 : (u_8.1 0).toInt = N := by omega
  have p1985 : 0 ≤ (u_8.1 1).toInt ∧ (u_8.1 1).toInt ≤ N + 1 ∧ 0 ≤ (u_8.1 2).toInt ∧ (u_8.1 2).toInt ≤ (u_8.1 1).toInt ∧ ((u_8.1 5).toInt ≠ 0 ∨ (u_8.1 1).toInt ≤ N) ∧ 0 ≤ (u_8.1 5).toInt ∧ (u_8.1 5).toInt ≤ 5000 := by omega
  have p1986 : 0 ≤ N ∧ N ≤ 400 := by omega
  have B1987 : tk (N) u_8 := ⟨p1984, p1985, p1986⟩
  have p1988 : 0 ≤ (r_3).toInt ∧ (r_3).toInt ≤ (r_5).toInt + 1 ∧ (r_5).toInt ≤ 39 := by omega
  have p1989 : 0 ≤ (r_7).toInt ∧ (r_7).toInt ≤ 3 := by omega
  obtain ⟨f1990, g1991⟩ := fu_e 100
  have p1992 : (r_5).toInt - (r_3).toInt + 1 < (f1990 : Int) := by (omega)
  refine ⟨f1990, wq_X1_readCells_L38 (fun t0 t1 z2 z3 z4 z5 z6 q1993 q1994 q1995 q1996 => ?_) f1990 _ _ _ _ _ _ _ h1970 B1987 p1988 p1989 p1992⟩
  have := q1993.1
  have := q1993.2.1
  have := q1993.2.2.1
  have := q1993.2.2.2.2.2.2.2.2.2
  have := q1994.1
  have := q1994.2.1
  exact k _ _ q1993 q1994
theorem wq_X1_readPart {post : Bd → Tp → Prop} {s0 : Bd} {s1 : Tp} {R W N : Int} (h1997 : bi (R) (W) s0) (h1998 : tj (N) s1) (k : ∀ (ua : Bd) (ub : Tp), bi (R) (W) ua → tk (N) ub → post ua ub) : wp_X1_readPart post s0 s1 := by
  unfold wp_X1_readPart
  have := h1997.1
  have := h1997.2.1
  have := h1997.2.2.1
  have := h1997.2.2.2.1
  have := h1997.2.2.2.2.2.2.2.2.2
  have := h1998.1
  have := h1998.2.1
  have := h1998.2.2
  refine wq_X5_takeWord h1998 (fun r_1 u_2 q1999 q2000 q2001 q2002 => ?_)
  have := q1999.1
  have := q1999.2.1
  refine ⟨fun c2003 => ?_, fun c2004 => ?_⟩
  · replace c2003 := q_lt c2003
    rw [li_3] at c2003
    have p2005 : (u_2.1 0).toInt = N := by omega
    have p2006 : 0 ≤ (u_2.1 1).toInt ∧ (u_2.1 1).toInt ≤ N + 1 ∧ 0 ≤ (u_2.1 2).toInt ∧ (u_2.1 2).toInt ≤ (u_2.1 1).toInt ∧ ((u_2.1 5).toInt ≠ 0 ∨ (u_2.1 1).toInt ≤ N) ∧ 0 ≤ (u_2.1 5).toInt ∧ (u_2.1 5).toInt ≤ 5000 := by omega
    have p2007 : 0 ≤ N ∧ N ≤ 400 := by omega
    have B2008 : tk (N) u_2 := ⟨p2005, p2006, p2007⟩
    have p2009 : 0 ≤ (u_2.1 2).toInt ∧ (u_2.1 2).toInt ≤ 500 ∧ 1 ≤ ((1 : Int32)).toInt ∧ ((1 : Int32)).toInt ≤ 4 := by (have := li_1; omega)
    refine wq_X5_blame B2008 p2009 (fun u_5 q2010 q2011 q2012 q2013 q2014 q2015 => ?_)
    have := q2010.1
    have := q2010.2.1
    refine wq_X5_isSound (fun r_6 q2016 => ?_)
    refine ⟨fun c2017 => ?_, fun c2018 => ?_⟩
    · replace c2017 := q_neq c2017
      rw [li_0] at c2017
      refine ⟨fun c2019 => ?_, fun c2020 => ?_⟩
      · replace c2019 := q_eq c2019
        rw [li_3] at c2019
        have p2021 : (u_5.1 0).toInt = N := by omega
        have p2022 : 0 ≤ (u_5.1 1).toInt ∧ (u_5.1 1).toInt ≤ N ∧ 0 ≤ (u_5.1 2).toInt ∧ (u_5.1 2).toInt ≤ (u_5.1 1).toInt ∧ 0 ≤ (u_5.1 5).toInt ∧ (u_5.1 5).toInt ≤ 5000 := by omega
        have p2023 : 0 ≤ N ∧ N ≤ 400 := by omega
        have B2024 : tj (N) u_5 := ⟨p2021, p2022, p2023⟩
        refine wq_X1_readDrum h1997 B2024 (fun u_11a u_11b q2025 q2026 => ?_)
        have := q2025.1
        have := q2025.2.1
        have := q2025.2.2.1
        have := q2025.2.2.2.2.2.2.2.2.2
        have := q2026.1
        have := q2026.2.1
        exact k _ _ q2025 q2026
      · replace c2020 := q_neq c2020
        rw [li_3] at c2020
        refine ⟨fun c2027 => ?_, fun c2028 => ?_⟩
        · replace c2027 := q_eq c2027
          rw [li_4] at c2027
          have p2029 : (u_5.1 0).toInt = N := by omega
          have p2030 : 0 ≤ (u_5.1 1).toInt ∧ (u_5.1 1).toInt ≤ N ∧ 0 ≤ (u_5.1 2).toInt ∧ (u_5.1 2).toInt ≤ (u_5.1 1).toInt ∧ 0 ≤ (u_5.1 5).toInt ∧ (u_5.1 5).toInt ≤ 5000 := by omega
          have p2031 : 0 ≤ N ∧ N ≤ 400 := by omega
          have B2032 : tj (N) u_5 := ⟨p2029, p2030, p2031⟩
          refine wq_X1_readCells h1997 B2032 (fun u_14a u_14b q2033 q2034 => ?_)
          have := q2033.1
          have := q2033.2.1
          have := q2033.2.2.1
          have := q2033.2.2.2.2.2.2.2.2.2
          have := q2034.1
          have := q2034.2.1
          exact k _ _ q2033 q2034
        · replace c2028 := q_neq c2028
          rw [li_4] at c2028
          refine ⟨fun c2035 => ?_, fun c2036 => ?_⟩
          · replace c2035 := q_eq c2035
            rw [li_5] at c2035
            have p2037 : (u_5.1 0).toInt = N := by omega
            have p2038 : 0 ≤ (u_5.1 1).toInt ∧ (u_5.1 1).toInt ≤ N ∧ 0 ≤ (u_5.1 2).toInt ∧ (u_5.1 2).toInt ≤ (u_5.1 1).toInt ∧ 0 ≤ (u_5.1 5).toInt ∧ (u_5.1 5).toInt ≤ 5000 := by omega
            have p2039 : 0 ≤ N ∧ N ≤ 400 := by omega
            have B2040 : tj (N) u_5 := ⟨p2037, p2038, p2039⟩
            refine wq_X1_readWorn h1997 B2040 (fun u_17a u_17b q2041 q2042 => ?_)
            have := q2041.1
            have := q2041.2.1
            have := q2041.2.2.1
            have := q2041.2.2.2.2.2.2.2.2.2
            have := q2042.1
            have := q2042.2.1
            exact k _ _ q2041 q2042
          · replace c2036 := q_neq c2036
            rw [li_5] at c2036
            refine ⟨fun c2043 => ?_, fun c2044 => ?_⟩
            · replace c2043 := q_eq c2043
              rw [li_6] at c2043
              have p2045 : (u_5.1 0).toInt = N := by omega
              have p2046 : 0 ≤ (u_5.1 1).toInt ∧ (u_5.1 1).toInt ≤ N ∧ 0 ≤ (u_5.1 2).toInt ∧ (u_5.1 2).toInt ≤ (u_5.1 1).toInt ∧ 0 ≤ (u_5.1 5).toInt ∧ (u_5.1 5).toInt ≤ 5000 := by omega
              have p2047 : 0 ≤ N ∧ N ≤ 400 := by omega
              have B2048 : tj (N) u_5 := ⟨p2045, p2046, p2047⟩
              refine wq_X1_readRow h1997 B2048 (fun u_20a u_20b q2049 q2050 => ?_)
              have := q2049.1
              have := q2049.2.1
              have := q2049.2.2.1
              have := q2049.2.2.2.2.2.2.2.2.2
              have := q2050.1
              have := q2050.2.1
              exact k _ _ q2049 q2050
            · replace c2044 := q_neq c2044
              rw [li_6] at c2044
              have p2051 : (u_5.1 0).toInt = N := by omega
              have p2052 : 0 ≤ (u_5.1 1).toInt ∧ (u_5.1 1).toInt ≤ N ∧ 0 ≤ (u_5.1 2).toInt ∧ (u_5.1 2).toInt ≤ (u_5.1 1).toInt ∧ 0 ≤ (u_5.1 5).toInt ∧ (u_5.1 5).toInt ≤ 5000 := by omega
              have p2053 : 0 ≤ N ∧ N ≤ 400 := by omega
              have B2054 : tj (N) u_5 := ⟨p2051, p2052, p2053⟩
              refine wq_X1_readLose h1997 B2054 (fun u_22a u_22b q2055 q2056 => ?_)
              have := q2055.1
              have := q2055.2.1
              have := q2055.2.2.1
              have := q2055.2.2.2.2.2.2.2.2.2
              have := q2056.1
              have := q2056.2.1
              exact k _ _ q2055 q2056
    · replace c2018 := q_eq c2018
      rw [li_0] at c2018
      exact k _ _ h1997 q2010
  · replace c2004 := q_nlt c2004
    rw [li_3] at c2004
    refine ⟨fun c2057 => ?_, fun c2058 => ?_⟩
    · replace c2057 := q_le c2057
      rw [li_7] at c2057
      refine ⟨fun c2059 => ?_, fun c2060 => ?_⟩
      · replace c2059 := q_neq c2059
        rw [li_3] at c2059
        refine ⟨fun c2061 => ?_, fun c2062 => ?_⟩
        · replace c2061 := q_neq c2061
          rw [li_0] at c2061
          refine wq_X5_isSound (fun r_26 q2063 => ?_)
          refine ⟨fun c2064 => ?_, fun c2065 => ?_⟩
          · replace c2064 := q_neq c2064
            rw [li_0] at c2064
            refine ⟨fun c2066 => ?_, fun c2067 => ?_⟩
            · replace c2066 := q_eq c2066
              rw [li_3] at c2066
              refine wq_X1_readDrum h1997 q1999 (fun u_31a u_31b q2068 q2069 => ?_)
              have := q2068.1
              have := q2068.2.1
              have := q2068.2.2.1
              have := q2068.2.2.2.2.2.2.2.2.2
              have := q2069.1
              have := q2069.2.1
              exact k _ _ q2068 q2069
            · replace c2067 := q_neq c2067
              rw [li_3] at c2067
              refine ⟨fun c2070 => ?_, fun c2071 => ?_⟩
              · replace c2070 := q_eq c2070
                rw [li_4] at c2070
                refine wq_X1_readCells h1997 q1999 (fun u_34a u_34b q2072 q2073 => ?_)
                have := q2072.1
                have := q2072.2.1
                have := q2072.2.2.1
                have := q2072.2.2.2.2.2.2.2.2.2
                have := q2073.1
                have := q2073.2.1
                exact k _ _ q2072 q2073
              · replace c2071 := q_neq c2071
                rw [li_4] at c2071
                refine ⟨fun c2074 => ?_, fun c2075 => ?_⟩
                · replace c2074 := q_eq c2074
                  rw [li_5] at c2074
                  refine wq_X1_readWorn h1997 q1999 (fun u_37a u_37b q2076 q2077 => ?_)
                  have := q2076.1
                  have := q2076.2.1
                  have := q2076.2.2.1
                  have := q2076.2.2.2.2.2.2.2.2.2
                  have := q2077.1
                  have := q2077.2.1
                  exact k _ _ q2076 q2077
                · replace c2075 := q_neq c2075
                  rw [li_5] at c2075
                  refine ⟨fun c2078 => ?_, fun c2079 => ?_⟩
                  · replace c2078 := q_eq c2078
                    rw [li_6] at c2078
                    refine wq_X1_readRow h1997 q1999 (fun u_40a u_40b q2080 q2081 => ?_)
                    have := q2080.1
                    have := q2080.2.1
                    have := q2080.2.2.1
                    have := q2080.2.2.2.2.2.2.2.2.2
                    have := q2081.1
                    have := q2081.2.1
                    exact k _ _ q2080 q2081
                  · replace c2079 := q_neq c2079
                    rw [li_6] at c2079
                    refine wq_X1_readLose h1997 q1999 (fun u_42a u_42b q2082 q2083 => ?_)
                    have := q2082.1
                    have := q2082.2.1
                    have := q2082.2.2.1
                    have := q2082.2.2.2.2.2.2.2.2.2
                    have := q2083.1
                    have := q2083.2.1
                    exact k _ _ q2082 q2083
          · replace c2065 := q_eq c2065
            rw [li_0] at c2065
            have p2084 : (u_2.1 0).toInt = N := by omega
            have p2085 : 0 ≤ (u_2.1 1).toInt ∧ (u_2.1 1).toInt ≤ N + 1 ∧ 0 ≤ (u_2.1 2).toInt ∧ (u_2.1 2).toInt ≤ (u_2.1 1).toInt ∧ ((u_2.1 5).toInt ≠ 0 ∨ (u_2.1 1).toInt ≤ N) ∧ 0 ≤ (u_2.1 5).toInt ∧ (u_2.1 5).toInt ≤ 5000 := by omega
            have p2086 : 0 ≤ N ∧ N ≤ 400 := by omega
            have B2087 : tk (N) u_2 := ⟨p2084, p2085, p2086⟩
            exact k _ _ h1997 B2087
        · replace c2062 := q_eq c2062
          rw [li_0] at c2062
          have p2088 : (u_2.1 0).toInt = N := by omega
          have p2089 : 0 ≤ (u_2.1 1).toInt ∧ (u_2.1 1).toInt ≤ N + 1 ∧ 0 ≤ (u_2.1 2).toInt ∧ (u_2.1 2).toInt ≤ (u_2.1 1).toInt ∧ ((u_2.1 5).toInt ≠ 0 ∨ (u_2.1 1).toInt ≤ N) ∧ 0 ≤ (u_2.1 5).toInt ∧ (u_2.1 5).toInt ≤ 5000 := by omega
          have p2090 : 0 ≤ N ∧ N ≤ 400 := by omega
          have B2091 : tk (N) u_2 := ⟨p2088, p2089, p2090⟩
          have p2092 : 0 ≤ (u_2.1 2).toInt ∧ (u_2.1 2).toInt ≤ 500 ∧ 1 ≤ ((3 : Int32)).toInt ∧ ((3 : Int32)).toInt ≤ 4 := by (have := li_3; omega)
          refine wq_X5_blame B2091 p2092 (fun u_44 q2093 q2094 q2095 q2096 q2097 q2098 => ?_)
          have := q2093.1
          have := q2093.2.1
          refine wq_X5_isSound (fun r_45 q2099 => ?_)
          refine ⟨fun c2100 => ?_, fun c2101 => ?_⟩
          · replace c2100 := q_neq c2100
            rw [li_0] at c2100
            refine ⟨fun c2102 => ?_, fun c2103 => ?_⟩
            · replace c2102 := q_eq c2102
              rw [li_3] at c2102
              have p2104 : (u_44.1 0).toInt = N := by omega
              have p2105 : 0 ≤ (u_44.1 1).toInt ∧ (u_44.1 1).toInt ≤ N ∧ 0 ≤ (u_44.1 2).toInt ∧ (u_44.1 2).toInt ≤ (u_44.1 1).toInt ∧ 0 ≤ (u_44.1 5).toInt ∧ (u_44.1 5).toInt ≤ 5000 := by omega
              have p2106 : 0 ≤ N ∧ N ≤ 400 := by omega
              have B2107 : tj (N) u_44 := ⟨p2104, p2105, p2106⟩
              refine wq_X1_readDrum h1997 B2107 (fun u_50a u_50b q2108 q2109 => ?_)
              have := q2108.1
              have := q2108.2.1
              have := q2108.2.2.1
              have := q2108.2.2.2.2.2.2.2.2.2
              have := q2109.1
              have := q2109.2.1
              exact k _ _ q2108 q2109
            · replace c2103 := q_neq c2103
              rw [li_3] at c2103
              refine ⟨fun c2110 => ?_, fun c2111 => ?_⟩
              · replace c2110 := q_eq c2110
                rw [li_4] at c2110
                have p2112 : (u_44.1 0).toInt = N := by omega
                have p2113 : 0 ≤ (u_44.1 1).toInt ∧ (u_44.1 1).toInt ≤ N ∧ 0 ≤ (u_44.1 2).toInt ∧ (u_44.1 2).toInt ≤ (u_44.1 1).toInt ∧ 0 ≤ (u_44.1 5).toInt ∧ (u_44.1 5).toInt ≤ 5000 := by omega
                have p2114 : 0 ≤ N ∧ N ≤ 400 := by omega
                have B2115 : tj (N) u_44 := ⟨p2112, p2113, p2114⟩
                refine wq_X1_readCells h1997 B2115 (fun u_53a u_53b q2116 q2117 => ?_)
                have := q2116.1
                have := q2116.2.1
                have := q2116.2.2.1
                have := q2116.2.2.2.2.2.2.2.2.2
                have := q2117.1
                have := q2117.2.1
                exact k _ _ q2116 q2117
              · replace c2111 := q_neq c2111
                rw [li_4] at c2111
                refine ⟨fun c2118 => ?_, fun c2119 => ?_⟩
                · replace c2118 := q_eq c2118
                  rw [li_5] at c2118
                  have p2120 : (u_44.1 0).toInt = N := by omega
                  have p2121 : 0 ≤ (u_44.1 1).toInt ∧ (u_44.1 1).toInt ≤ N ∧ 0 ≤ (u_44.1 2).toInt ∧ (u_44.1 2).toInt ≤ (u_44.1 1).toInt ∧ 0 ≤ (u_44.1 5).toInt ∧ (u_44.1 5).toInt ≤ 5000 := by omega
                  have p2122 : 0 ≤ N ∧ N ≤ 400 := by omega
                  have B2123 : tj (N) u_44 := ⟨p2120, p2121, p2122⟩
                  refine wq_X1_readWorn h1997 B2123 (fun u_56a u_56b q2124 q2125 => ?_)
                  have := q2124.1
                  have := q2124.2.1
                  have := q2124.2.2.1
                  have := q2124.2.2.2.2.2.2.2.2.2
                  have := q2125.1
                  have := q2125.2.1
                  exact k _ _ q2124 q2125
                · replace c2119 := q_neq c2119
                  rw [li_5] at c2119
                  refine ⟨fun c2126 => ?_, fun c2127 => ?_⟩
                  · replace c2126 := q_eq c2126
                    rw [li_6] at c2126
                    have p2128 : (u_44.1 0).toInt = N := by omega
                    have p2129 : 0 ≤ (u_44.1 1).toInt ∧ (u_44.1 1).toInt ≤ N ∧ 0 ≤ (u_44.1 2).toInt ∧ (u_44.1 2).toInt ≤ (u_44.1 1).toInt ∧ 0 ≤ (u_44.1 5).toInt ∧ (u_44.1 5).toInt ≤ 5000 := by omega
                    have p2130 : 0 ≤ N ∧ N ≤ 400 := by omega
                    have B2131 : tj (N) u_44 := ⟨p2128, p2129, p2130⟩
                    refine wq_X1_readRow h1997 B2131 (fun u_59a u_59b q2132 q2133 => ?_)
                    have := q2132.1
                    have := q2132.2.1
                    have := q2132.2.2.1
                    have := q2132.2.2.2.2.2.2.2.2.2
                    have := q2133.1
                    have := q2133.2.1
                    exact k _ _ q2132 q2133
                  · replace c2127 := q_neq c2127
                    rw [li_6] at c2127
                    have p2134 : (u_44.1 0).toInt = N := by omega
                    have p2135 : 0 ≤ (u_44.1 1).toInt ∧ (u_44.1 1).toInt ≤ N ∧ 0 ≤ (u_44.1 2).toInt ∧ (u_44.1 2).toInt ≤ (u_44.1 1).toInt ∧ 0 ≤ (u_44.1 5).toInt ∧ (u_44.1 5).toInt ≤ 5000 := by omega
                    have p2136 : 0 ≤ N ∧ N ≤ 400 := by omega
                    have B2137 : tj (N) u_44 := ⟨p2134, p2135, p2136⟩
                    refine wq_X1_readLose h1997 B2137 (fun u_61a u_61b q2138 q2139 => ?_)
                    have := q2138.1
                    have := q2138.2.1
                    have := q2138.2.2.1
                    have := q2138.2.2.2.2.2.2.2.2.2
                    have := q2139.1
                    have := q2139.2.1
                    exact k _ _ q2138 q2139
          · replace c2101 := q_eq c2101
            rw [li_0] at c2101
            exact k _ _ h1997 q2093
      · replace c2060 := q_eq c2060
        rw [li_3] at c2060
        refine ⟨fun c2140 => ?_, fun c2141 => ?_⟩
        · replace c2140 := q_neq c2140
          rw [li_4] at c2140
          refine wq_X5_isSound (fun r_63 q2142 => ?_)
          refine ⟨fun c2143 => ?_, fun c2144 => ?_⟩
          · replace c2143 := q_neq c2143
            rw [li_0] at c2143
            refine ⟨fun c2145 => ?_, fun c2146 => ?_⟩
            · replace c2145 := q_eq c2145
              rw [li_3] at c2145
              refine wq_X1_readDrum h1997 q1999 (fun u_68a u_68b q2147 q2148 => ?_)
              have := q2147.1
              have := q2147.2.1
              have := q2147.2.2.1
              have := q2147.2.2.2.2.2.2.2.2.2
              have := q2148.1
              have := q2148.2.1
              exact k _ _ q2147 q2148
            · replace c2146 := q_neq c2146
              rw [li_3] at c2146
              refine ⟨fun c2149 => ?_, fun c2150 => ?_⟩
              · replace c2149 := q_eq c2149
                rw [li_4] at c2149
                refine wq_X1_readCells h1997 q1999 (fun u_71a u_71b q2151 q2152 => ?_)
                have := q2151.1
                have := q2151.2.1
                have := q2151.2.2.1
                have := q2151.2.2.2.2.2.2.2.2.2
                have := q2152.1
                have := q2152.2.1
                exact k _ _ q2151 q2152
              · replace c2150 := q_neq c2150
                rw [li_4] at c2150
                refine ⟨fun c2153 => ?_, fun c2154 => ?_⟩
                · replace c2153 := q_eq c2153
                  rw [li_5] at c2153
                  refine wq_X1_readWorn h1997 q1999 (fun u_74a u_74b q2155 q2156 => ?_)
                  have := q2155.1
                  have := q2155.2.1
                  have := q2155.2.2.1
                  have := q2155.2.2.2.2.2.2.2.2.2
                  have := q2156.1
                  have := q2156.2.1
                  exact k _ _ q2155 q2156
                · replace c2154 := q_neq c2154
                  rw [li_5] at c2154
                  refine ⟨fun c2157 => ?_, fun c2158 => ?_⟩
                  · replace c2157 := q_eq c2157
                    rw [li_6] at c2157
                    refine wq_X1_readRow h1997 q1999 (fun u_77a u_77b q2159 q2160 => ?_)
                    have := q2159.1
                    have := q2159.2.1
                    have := q2159.2.2.1
                    have := q2159.2.2.2.2.2.2.2.2.2
                    have := q2160.1
                    have := q2160.2.1
                    exact k _ _ q2159 q2160
                  · replace c2158 := q_neq c2158
                    rw [li_6] at c2158
                    refine wq_X1_readLose h1997 q1999 (fun u_79a u_79b q2161 q2162 => ?_)
                    have := q2161.1
                    have := q2161.2.1
                    have := q2161.2.2.1
                    have := q2161.2.2.2.2.2.2.2.2.2
                    have := q2162.1
                    have := q2162.2.1
                    exact k _ _ q2161 q2162
          · replace c2144 := q_eq c2144
            rw [li_0] at c2144
            have p2163 : (u_2.1 0).toInt = N := by omega
            have p2164 : 0 ≤ (u_2.1 1).toInt ∧ (u_2.1 1).toInt ≤ N + 1 ∧ 0 ≤ (u_2.1 2).toInt ∧ (u_2.1 2).toInt ≤ (u_2.1 1).toInt ∧ ((u_2.1 5).toInt ≠ 0 ∨ (u_2.1 1).toInt ≤ N) ∧ 0 ≤ (u_2.1 5).toInt ∧ (u_2.1 5).toInt ≤ 5000 := by omega
            have p2165 : 0 ≤ N ∧ N ≤ 400 := by omega
            have B2166 : tk (N) u_2 := ⟨p2163, p2164, p2165⟩
            exact k _ _ h1997 B2166
        · replace c2141 := q_eq c2141
          rw [li_4] at c2141
          have p2167 : (u_2.1 0).toInt = N := by omega
          have p2168 : 0 ≤ (u_2.1 1).toInt ∧ (u_2.1 1).toInt ≤ N + 1 ∧ 0 ≤ (u_2.1 2).toInt ∧ (u_2.1 2).toInt ≤ (u_2.1 1).toInt ∧ ((u_2.1 5).toInt ≠ 0 ∨ (u_2.1 1).toInt ≤ N) ∧ 0 ≤ (u_2.1 5).toInt ∧ (u_2.1 5).toInt ≤ 5000 := by omega
          have p2169 : 0 ≤ N ∧ N ≤ 400 := by omega
          have B2170 : tk (N) u_2 := ⟨p2167, p2168, p2169⟩
          have p2171 : 0 ≤ (u_2.1 2).toInt ∧ (u_2.1 2).toInt ≤ 500 ∧ 1 ≤ ((3 : Int32)).toInt ∧ ((3 : Int32)).toInt ≤ 4 := by (have := li_3; omega)
          refine wq_X5_blame B2170 p2171 (fun u_81 q2172 q2173 q2174 q2175 q2176 q2177 => ?_)
          have := q2172.1
          have := q2172.2.1
          refine wq_X5_isSound (fun r_82 q2178 => ?_)
          refine ⟨fun c2179 => ?_, fun c2180 => ?_⟩
          · replace c2179 := q_neq c2179
            rw [li_0] at c2179
            refine ⟨fun c2181 => ?_, fun c2182 => ?_⟩
            · replace c2181 := q_eq c2181
              rw [li_3] at c2181
              have p2183 : (u_81.1 0).toInt = N := by omega
              have p2184 : 0 ≤ (u_81.1 1).toInt ∧ (u_81.1 1).toInt ≤ N ∧ 0 ≤ (u_81.1 2).toInt ∧ (u_81.1 2).toInt ≤ (u_81.1 1).toInt ∧ 0 ≤ (u_81.1 5).toInt ∧ (u_81.1 5).toInt ≤ 5000 := by omega
              have p2185 : 0 ≤ N ∧ N ≤ 400 := by omega
              have B2186 : tj (N) u_81 := ⟨p2183, p2184, p2185⟩
              refine wq_X1_readDrum h1997 B2186 (fun u_87a u_87b q2187 q2188 => ?_)
              have := q2187.1
              have := q2187.2.1
              have := q2187.2.2.1
              have := q2187.2.2.2.2.2.2.2.2.2
              have := q2188.1
              have := q2188.2.1
              exact k _ _ q2187 q2188
            · replace c2182 := q_neq c2182
              rw [li_3] at c2182
              refine ⟨fun c2189 => ?_, fun c2190 => ?_⟩
              · replace c2189 := q_eq c2189
                rw [li_4] at c2189
                have p2191 : (u_81.1 0).toInt = N := by omega
                have p2192 : 0 ≤ (u_81.1 1).toInt ∧ (u_81.1 1).toInt ≤ N ∧ 0 ≤ (u_81.1 2).toInt ∧ (u_81.1 2).toInt ≤ (u_81.1 1).toInt ∧ 0 ≤ (u_81.1 5).toInt ∧ (u_81.1 5).toInt ≤ 5000 := by omega
                have p2193 : 0 ≤ N ∧ N ≤ 400 := by omega
                have B2194 : tj (N) u_81 := ⟨p2191, p2192, p2193⟩
                refine wq_X1_readCells h1997 B2194 (fun u_90a u_90b q2195 q2196 => ?_)
                have := q2195.1
                have := q2195.2.1
                have := q2195.2.2.1
                have := q2195.2.2.2.2.2.2.2.2.2
                have := q2196.1
                have := q2196.2.1
                exact k _ _ q2195 q2196
              · replace c2190 := q_neq c2190
                rw [li_4] at c2190
                refine ⟨fun c2197 => ?_, fun c2198 => ?_⟩
                · replace c2197 := q_eq c2197
                  rw [li_5] at c2197
                  have p2199 : (u_81.1 0).toInt = N := by omega
                  have p2200 : 0 ≤ (u_81.1 1).toInt ∧ (u_81.1 1).toInt ≤ N ∧ 0 ≤ (u_81.1 2).toInt ∧ (u_81.1 2).toInt ≤ (u_81.1 1).toInt ∧ 0 ≤ (u_81.1 5).toInt ∧ (u_81.1 5).toInt ≤ 5000 := by omega
                  have p2201 : 0 ≤ N ∧ N ≤ 400 := by omega
                  have B2202 : tj (N) u_81 := ⟨p2199, p2200, p2201⟩
                  refine wq_X1_readWorn h1997 B2202 (fun u_93a u_93b q2203 q2204 => ?_)
                  have := q2203.1
                  have := q2203.2.1
                  have := q2203.2.2.1
                  have := q2203.2.2.2.2.2.2.2.2.2
                  have := q2204.1
                  have := q2204.2.1
                  exact k _ _ q2203 q2204
                · replace c2198 := q_neq c2198
                  rw [li_5] at c2198
                  refine ⟨fun c2205 => ?_, fun c2206 => ?_⟩
                  · replace c2205 := q_eq c2205
                    rw [li_6] at c2205
                    have p2207 : (u_81.1 0).toInt = N := by omega
                    have p2208 : 0 ≤ (u_81.1 1).toInt ∧ (u_81.1 1).toInt ≤ N ∧ 0 ≤ (u_81.1 2).toInt ∧ (u_81.1 2).toInt ≤ (u_81.1 1).toInt ∧ 0 ≤ (u_81.1 5).toInt ∧ (u_81.1 5).toInt ≤ 5000 := by omega
                    have p2209 : 0 ≤ N ∧ N ≤ 400 := by omega
                    have B2210 : tj (N) u_81 := ⟨p2207, p2208, p2209⟩
                    refine wq_X1_readRow h1997 B2210 (fun u_96a u_96b q2211 q2212 => ?_)
                    have := q2211.1
                    have := q2211.2.1
                    have := q2211.2.2.1
                    have := q2211.2.2.2.2.2.2.2.2.2
                    have := q2212.1
                    have := q2212.2.1
                    exact k _ _ q2211 q2212
                  · replace c2206 := q_neq c2206
                    rw [li_6] at c2206
                    have p2213 : (u_81.1 0).toInt = N := by omega
                    have p2214 : 0 ≤ (u_81.1 1).toInt ∧ (u_81.1 1).toInt ≤ N ∧ 0 ≤ (u_81.1 2).toInt ∧ (u_81.1 2).toInt ≤ (u_81.1 1).toInt ∧ 0 ≤ (u_81.1 5).toInt ∧ (u_81.1 5).toInt ≤ 5000 := by omega
                    have p2215 : 0 ≤ N ∧ N ≤ 400 := by omega
                    have B2216 : tj (N) u_81 := ⟨p2213, p2214, p2215⟩
                    refine wq_X1_readLose h1997 B2216 (fun u_98a u_98b q2217 q2218 => ?_)
                    have := q2217.1
                    have := q2217.2.1
                    have := q2217.2.2.1
                    have := q2217.2.2.2.2.2.2.2.2.2
                    have := q2218.1
                    have := q2218.2.1
                    exact k _ _ q2217 q2218
          · replace c2180 := q_eq c2180
            rw [li_0] at c2180
            exact k _ _ h1997 q2172
    · replace c2058 := q_nle c2058
      rw [li_7] at c2058
      have p2219 : (u_2.1 0).toInt = N := by omega
      have p2220 : 0 ≤ (u_2.1 1).toInt ∧ (u_2.1 1).toInt ≤ N + 1 ∧ 0 ≤ (u_2.1 2).toInt ∧ (u_2.1 2).toInt ≤ (u_2.1 1).toInt ∧ ((u_2.1 5).toInt ≠ 0 ∨ (u_2.1 1).toInt ≤ N) ∧ 0 ≤ (u_2.1 5).toInt ∧ (u_2.1 5).toInt ≤ 5000 := by omega
      have p2221 : 0 ≤ N ∧ N ≤ 400 := by omega
      have B2222 : tk (N) u_2 := ⟨p2219, p2220, p2221⟩
      have p2223 : 0 ≤ (u_2.1 2).toInt ∧ (u_2.1 2).toInt ≤ 500 ∧ 1 ≤ ((1 : Int32)).toInt ∧ ((1 : Int32)).toInt ≤ 4 := by (have := li_1; omega)
      refine wq_X5_blame B2222 p2223 (fun u_100 q2224 q2225 q2226 q2227 q2228 q2229 => ?_)
      have := q2224.1
      have := q2224.2.1
      refine wq_X5_isSound (fun r_101 q2230 => ?_)
      refine ⟨fun c2231 => ?_, fun c2232 => ?_⟩
      · replace c2231 := q_neq c2231
        rw [li_0] at c2231
        refine ⟨fun c2233 => ?_, fun c2234 => ?_⟩
        · replace c2233 := q_eq c2233
          rw [li_3] at c2233
          have p2235 : (u_100.1 0).toInt = N := by omega
          have p2236 : 0 ≤ (u_100.1 1).toInt ∧ (u_100.1 1).toInt ≤ N ∧ 0 ≤ (u_100.1 2).toInt ∧ (u_100.1 2).toInt ≤ (u_100.1 1).toInt ∧ 0 ≤ (u_100.1 5).toInt ∧ (u_100.1 5).toInt ≤ 5000 := by omega
          have p2237 : 0 ≤ N ∧ N ≤ 400 := by omega
          have B2238 : tj (N) u_100 := ⟨p2235, p2236, p2237⟩
          refine wq_X1_readDrum h1997 B2238 (fun u_106a u_106b q2239 q2240 => ?_)
          have := q2239.1
          have := q2239.2.1
          have := q2239.2.2.1
          have := q2239.2.2.2.2.2.2.2.2.2
          have := q2240.1
          have := q2240.2.1
          exact k _ _ q2239 q2240
        · replace c2234 := q_neq c2234
          rw [li_3] at c2234
          refine ⟨fun c2241 => ?_, fun c2242 => ?_⟩
          · replace c2241 := q_eq c2241
            rw [li_4] at c2241
            have p2243 : (u_100.1 0).toInt = N := by omega
            have p2244 : 0 ≤ (u_100.1 1).toInt ∧ (u_100.1 1).toInt ≤ N ∧ 0 ≤ (u_100.1 2).toInt ∧ (u_100.1 2).toInt ≤ (u_100.1 1).toInt ∧ 0 ≤ (u_100.1 5).toInt ∧ (u_100.1 5).toInt ≤ 5000 := by omega
            have p2245 : 0 ≤ N ∧ N ≤ 400 := by omega
            have B2246 : tj (N) u_100 := ⟨p2243, p2244, p2245⟩
            refine wq_X1_readCells h1997 B2246 (fun u_109a u_109b q2247 q2248 => ?_)
            have := q2247.1
            have := q2247.2.1
            have := q2247.2.2.1
            have := q2247.2.2.2.2.2.2.2.2.2
            have := q2248.1
            have := q2248.2.1
            exact k _ _ q2247 q2248
          · replace c2242 := q_neq c2242
            rw [li_4] at c2242
            refine ⟨fun c2249 => ?_, fun c2250 => ?_⟩
            · replace c2249 := q_eq c2249
              rw [li_5] at c2249
              have p2251 : (u_100.1 0).toInt = N := by omega
              have p2252 : 0 ≤ (u_100.1 1).toInt ∧ (u_100.1 1).toInt ≤ N ∧ 0 ≤ (u_100.1 2).toInt ∧ (u_100.1 2).toInt ≤ (u_100.1 1).toInt ∧ 0 ≤ (u_100.1 5).toInt ∧ (u_100.1 5).toInt ≤ 5000 := by omega
              have p2253 : 0 ≤ N ∧ N ≤ 400 := by omega
              have B2254 : tj (N) u_100 := ⟨p2251, p2252, p2253⟩
              refine wq_X1_readWorn h1997 B2254 (fun u_112a u_112b q2255 q2256 => ?_)
              have := q2255.1
              have := q2255.2.1
              have := q2255.2.2.1
              have := q2255.2.2.2.2.2.2.2.2.2
              have := q2256.1
              have := q2256.2.1
              exact k _ _ q2255 q2256
            · replace c2250 := q_neq c2250
              rw [li_5] at c2250
              refine ⟨fun c2257 => ?_, fun c2258 => ?_⟩
              · replace c2257 := q_eq c2257
                rw [li_6] at c2257
                have p2259 : (u_100.1 0).toInt = N := by omega
                have p2260 : 0 ≤ (u_100.1 1).toInt ∧ (u_100.1 1).toInt ≤ N ∧ 0 ≤ (u_100.1 2).toInt ∧ (u_100.1 2).toInt ≤ (u_100.1 1).toInt ∧ 0 ≤ (u_100.1 5).toInt ∧ (u_100.1 5).toInt ≤ 5000 := by omega
                have p2261 : 0 ≤ N ∧ N ≤ 400 := by omega
                have B2262 : tj (N) u_100 := ⟨p2259, p2260, p2261⟩
                refine wq_X1_readRow h1997 B2262 (fun u_115a u_115b q2263 q2264 => ?_)
                have := q2263.1
                have := q2263.2.1
                have := q2263.2.2.1
                have := q2263.2.2.2.2.2.2.2.2.2
                have := q2264.1
                have := q2264.2.1
                exact k _ _ q2263 q2264
              · replace c2258 := q_neq c2258
                rw [li_6] at c2258
                have p2265 : (u_100.1 0).toInt = N := by omega
                have p2266 : 0 ≤ (u_100.1 1).toInt ∧ (u_100.1 1).toInt ≤ N ∧ 0 ≤ (u_100.1 2).toInt ∧ (u_100.1 2).toInt ≤ (u_100.1 1).toInt ∧ 0 ≤ (u_100.1 5).toInt ∧ (u_100.1 5).toInt ≤ 5000 := by omega
                have p2267 : 0 ≤ N ∧ N ≤ 400 := by omega
                have B2268 : tj (N) u_100 := ⟨p2265, p2266, p2267⟩
                refine wq_X1_readLose h1997 B2268 (fun u_117a u_117b q2269 q2270 => ?_)
                have := q2269.1
                have := q2269.2.1
                have := q2269.2.2.1
                have := q2269.2.2.2.2.2.2.2.2.2
                have := q2270.1
                have := q2270.2.1
                exact k _ _ q2269 q2270
      · replace c2232 := q_eq c2232
        rw [li_0] at c2232
        exact k _ _ h1997 q2224
theorem wq_X1_readInto_L15 {post : Bd → Tp → Prop} {e54 : Bd → Tp → Int32 → Prop} {R W N : Int} (ke54 : ∀ (t0 : Bd) (t1 : Tp) (z2 : Int32), bi (R) (W) t0 → tk (N) t1 → 0 ≤ (z2).toInt ∧ (z2).toInt ≤ 400 → e54 t0 t1 z2) : ∀ (n : Nat) (t0 : Bd) (t1 : Tp) (z2 : Int32), bi (R) (W) t0 → tk (N) t1 → 0 ≤ (z2).toInt ∧ (z2).toInt ≤ 400 → 400 - (z2).toInt < (n : Int) → wp_X1_readInto_L15 post e54 n t0 t1 z2 := by
  intro n
  induction n with
  | zero =>
    intro t0 t1 z2 i2271 i2272 i2273 i2274
    have := i2271.1
    have := i2271.2.1
    have := i2271.2.2.1
    have := i2271.2.2.2.1
    have := i2271.2.2.2.2.2.2.2.2.2
    have := i2272.1
    have := i2272.2.1
    have := i2272.2.2
    exfalso
    omega
  | succ n ih =>
    intro t0 t1 z2 i2271 i2272 i2273 i2274
    unfold wp_X1_readInto_L15
    have := i2271.1
    have := i2271.2.1
    have := i2271.2.2.1
    have := i2271.2.2.2.1
    have := i2271.2.2.2.2.2.2.2.2.2
    have := i2272.1
    have := i2272.2.1
    have := i2272.2.2
    refine ⟨fun c2275 => ?_, fun c2276 => ?_⟩
    · replace c2275 := q_le c2275
      rw [li_400] at c2275
      have p2277 : 0 ≤ (z2).toInt ∧ (z2).toInt ≤ 400 := by omega
      exact ke54 _ _ _ i2271 i2272 p2277
    · replace c2276 := q_nle c2276
      rw [li_400] at c2276
      refine wq_X5_isSound (fun r_8 q2278 => ?_)
      refine ⟨fun c2279 => ?_, fun c2280 => ?_⟩
      · replace c2279 := q_eq c2279
        rw [li_0] at c2279
        have p2281 : 0 ≤ (z2).toInt ∧ (z2).toInt ≤ 400 := by omega
        exact ke54 _ _ _ i2271 i2272 p2281
      · replace c2280 := q_neq c2280
        rw [li_0] at c2280
        have p2282 : (t1.1 0).toInt = N := by omega
        have p2283 : 0 ≤ (t1.1 1).toInt ∧ (t1.1 1).toInt ≤ N ∧ 0 ≤ (t1.1 2).toInt ∧ (t1.1 2).toInt ≤ (t1.1 1).toInt ∧ 0 ≤ (t1.1 5).toInt ∧ (t1.1 5).toInt ≤ 5000 := by omega
        have p2284 : 0 ≤ N ∧ N ≤ 400 := by omega
        have B2285 : tj (N) t1 := ⟨p2282, p2283, p2284⟩
        refine wq_X5_peek B2285 (fun r_11 u_12 q2286 q2287 q2288 q2289 q2290 q2291 q2292 q2293 q2294 q2295 => ?_)
        have := q2286.1
        have := q2286.2.1
        refine ⟨fun c2296 => ?_, fun c2297 => ?_⟩
        · replace c2296 := q_eq c2296
          rw [li_m1] at c2296
          have p2298 : (u_12.1 0).toInt = N := by omega
          have p2299 : 0 ≤ (u_12.1 1).toInt ∧ (u_12.1 1).toInt ≤ N + 1 ∧ 0 ≤ (u_12.1 2).toInt ∧ (u_12.1 2).toInt ≤ (u_12.1 1).toInt ∧ ((u_12.1 5).toInt ≠ 0 ∨ (u_12.1 1).toInt ≤ N) ∧ 0 ≤ (u_12.1 5).toInt ∧ (u_12.1 5).toInt ≤ 5000 := by omega
          have p2300 : 0 ≤ N ∧ N ≤ 400 := by omega
          have B2301 : tk (N) u_12 := ⟨p2298, p2299, p2300⟩
          have p2302 : 0 ≤ (z2).toInt ∧ (z2).toInt ≤ 400 := by omega
          exact ke54 _ _ _ i2271 B2301 p2302
        · replace c2297 := q_neq c2297
          rw [li_m1] at c2297
          have p2303 : ¬ ((59 : Int32)).toInt = -1 := by (have := li_59; omega)
          refine wq_X5_takeByte q2286 p2303 (fun u_15 q2304 q2305 q2306 q2307 => ?_)
          have := q2304.1
          have := q2304.2.1
          refine wq_X1_readPart i2271 q2304 (fun u_17a u_17b q2308 q2309 => ?_)
          have := q2308.1
          have := q2308.2.1
          have := q2308.2.2.1
          have := q2308.2.2.2.2.2.2.2.2.2
          have := q2309.1
          have := q2309.2.1
          have e2310 := tq_addr li_1 z2
          try rw [Int.emod_eq_of_lt (show 0 ≤ (z2).toInt + 1 + 2147483648 by omega) (show (z2).toInt + 1 + 2147483648 < 4294967296 by omega)] at e2310
          have p2311 : 0 ≤ (z2 + 1).toInt ∧ (z2 + 1).toInt ≤ 400 := by omega
          have p2312 : 400 - (z2 + 1).toInt < ((n : Nat) : Int) := by (omega)
          exact ih _ _ _ q2308 q2309 p2311 p2312
theorem wq_X1_readInto {post : Bd → Tp → Prop} {s0 : Bd} {s1 : Tp} {R W N : Int} (h2313 : bi (R) (W) s0) (h2314 : tz (N) s1) (k : ∀ (ua : Bd) (ub : Tp) (R2 W2 : Int), bi (R2) (W2) ua → tk (N) ub → post ua ub) : wp_X1_readInto post s0 s1 := by
  unfold wp_X1_readInto
  have := h2313.1
  have := h2313.2.1
  have := h2313.2.2.1
  have := h2313.2.2.2.1
  have := h2313.2.2.2.2.2.2.2.2.2
  have := h2314.1
  have := h2314.2
  refine wq_X0_clear h2313 (fun u_2 q2315 => ?_)
  have := q2315.1
  have := q2315.2.1
  have := q2315.2.2.1
  have := q2315.2.2.2.1
  have := q2315.2.2.2.2.2.2.2.2.2
  refine wq_X5_startReading h2314 (fun u_4 q2316 q2317 => ?_)
  have := q2316.1
  have := q2316.2.1
  refine wq_X1_readHead q2315 q2316 (fun u_6a u_6b R22318 W22319 q2320 q2321 => ?_)
  have := q2320.1
  have := q2320.2.1
  have := q2320.2.2.1
  have := q2320.2.2.2.1
  have := q2320.2.2.2.2.2.2.2.2.2
  have := q2321.1
  have := q2321.2.1
  have p2322 : (u_6b.1 0).toInt = N := by omega
  have p2323 : 0 ≤ (u_6b.1 1).toInt ∧ (u_6b.1 1).toInt ≤ N + 1 ∧ 0 ≤ (u_6b.1 2).toInt ∧ (u_6b.1 2).toInt ≤ (u_6b.1 1).toInt ∧ ((u_6b.1 5).toInt ≠ 0 ∨ (u_6b.1 1).toInt ≤ N) ∧ 0 ≤ (u_6b.1 5).toInt ∧ (u_6b.1 5).toInt ≤ 5000 := by omega
  have p2324 : 0 ≤ N ∧ N ≤ 400 := by omega
  have B2325 : tk (N) u_6b := ⟨p2322, p2323, p2324⟩
  have p2326 : 0 ≤ (0 : Int32).toInt ∧ (0 : Int32).toInt ≤ 400 := by (have := li_0; omega)
  obtain ⟨f2327, g2328⟩ := fu_e 500
  have p2329 : 400 - (0 : Int32).toInt < (f2327 : Int) := by (have := li_0; omega)
  refine ⟨f2327, wq_X1_readInto_L15 (fun t0 t1 z2 q2330 q2331 q2332 => ?_) f2327 _ _ _ q2320 B2325 p2326 p2329⟩
  have := q2330.1
  have := q2330.2.1
  have := q2330.2.2.1
  have := q2330.2.2.2.2.2.2.2.2.2
  have := q2331.1
  have := q2331.2.1
  refine ⟨fun c2333 => ?_, fun c2334 => ?_⟩
  · replace c2333 := q_neq c2333
    rw [li_0] at c2333
    exact k _ _ (R22318) (W22319) q2330 q2331
  · replace c2334 := q_eq c2334
    rw [li_0] at c2334
    have p2335 : 0 ≤ (t1.1 0).toInt ∧ (t1.1 0).toInt ≤ 500 ∧ 1 ≤ ((4 : Int32)).toInt ∧ ((4 : Int32)).toInt ≤ 4 := by (have := li_4; omega)
    refine wq_X5_blame q2331 p2335 (fun u_20 q2336 q2337 q2338 q2339 q2340 q2341 => ?_)
    have := q2336.1
    have := q2336.2.1
    exact k _ _ (R22318) (W22319) q2330 q2336

theorem wq_X2_startCounting {post : Mo → Prop} {s0 : Mo} (h2342 : mo s0) (k : ∀ (u : Mo), mo u → post u) : wp_X2_startCounting post s0 := by
  unfold wp_X2_startCounting
  have := h2342.1
  have p2343 : 0 ≤ (s0.1 0).toInt ∧ (s0.1 0).toInt ≤ 40 := by omega
  have p2344 : ar 40 (-1) (39) (s0.2 0) := h2342.2.1
  have p2345 : ar 40 (-1) (39) (s0.2 1) := h2342.2.2.1
  have p2346 : ar 40 (0) (39) (s0.2 2) := h2342.2.2.2
  have B2347 : mo ((va_up (va_up (va_up (va_up (va_up (va_up (va_up s0.1 2 0) 3 0) 4 0) 5 0) 6 0) 7 0) 8 0), s0.2) := ⟨p2343, p2344, p2345, p2346⟩
  exact k _ B2347
theorem wq_X2_sortByLeft_L17 {s1 : Bd} {post : Int32 → Mo → Prop} {e74 : Mo → Int32 → Int32 → Prop} {R W : Int} (h2348 : bi (R) (W) s1) (ke74 : ∀ (t0 : Mo) (z2 : Int32) (z3 : Int32), mo t0 → 0 ≤ (z2).toInt ∧ (z2).toInt ≤ 39 → -1 ≤ (z3).toInt ∧ (z3).toInt < R * W → e74 t0 z2 z3) : ∀ (n : Nat) (t0 : Mo) (z2 : Int32) (z3 : Int32), mo t0 → 0 ≤ (z2).toInt ∧ (z2).toInt ≤ 39 → -1 ≤ (z3).toInt ∧ (z3).toInt < R * W → (z3).toInt + 1 < (n : Int) → wp_X2_sortByLeft_L17 s1 post e74 n t0 z2 z3 := by
  have := h2348.1
  have := h2348.2.1
  have := h2348.2.2.1
  have := h2348.2.2.2.1
  have := h2348.2.2.2.2.2.2.2.2.2
  intro n
  induction n with
  | zero =>
    intro t0 z2 z3 i2349 i2350 i2351 i2352
    have := i2349.1
    exfalso
    omega
  | succ n ih =>
    intro t0 z2 z3 i2349 i2350 i2351 i2352
    unfold wp_X2_sortByLeft_L17
    have := i2349.1
    refine ⟨fun c2353 => ?_, fun c2354 => ?_⟩
    · replace c2353 := q_lt c2353
      rw [li_0] at c2353
      have p2355 : 0 ≤ (z2).toInt ∧ (z2).toInt ≤ 39 := by omega
      have p2356 : -1 ≤ (z3).toInt ∧ (z3).toInt < R * W := by omega
      exact ke74 _ _ _ i2349 p2355 p2356
    · replace c2354 := q_nlt c2354
      rw [li_0] at c2354
      have p2357 : 0 ≤ (z3).toInt ∧ (z3).toInt < 40 := by omega
      refine wq_X0_leftOf h2348 p2357 (fun r_5 => ?_)
      refine ⟨fun c2358 => ?_, fun c2359 => ?_⟩
      · replace c2358 := q_le c2358
        rw [li_0] at c2358
        generalize hy2361 : (z3 + (-1)) = y2360
        have e2362 := tq_addr li_m1 z3
        rw [hy2361] at e2362
        try rw [Int.emod_eq_of_lt (show 0 ≤ (z3).toInt + (-1) + 2147483648 by omega) (show (z3).toInt + (-1) + 2147483648 < 4294967296 by omega)] at e2362
        have p2363 : 0 ≤ (z2).toInt ∧ (z2).toInt ≤ 39 := by omega
        have p2364 : -1 ≤ (y2360).toInt ∧ (y2360).toInt < R * W := by omega
        have p2365 : (y2360).toInt + 1 < ((n : Nat) : Int) := by (omega)
        exact ih _ _ _ i2349 p2363 p2364 p2365
      · replace c2359 := q_nle c2359
        rw [li_0] at c2359
        refine ⟨fun c2366 => ?_, fun c2367 => ?_⟩
        · replace c2366 := q_le c2366
          rw [li_40] at c2366
          generalize hy2369 : (z3 + (-1)) = y2368
          have e2370 := tq_addr li_m1 z3
          rw [hy2369] at e2370
          try rw [Int.emod_eq_of_lt (show 0 ≤ (z3).toInt + (-1) + 2147483648 by omega) (show (z3).toInt + (-1) + 2147483648 < 4294967296 by omega)] at e2370
          have p2371 : 0 ≤ (z2).toInt ∧ (z2).toInt ≤ 39 := by omega
          have p2372 : -1 ≤ (y2368).toInt ∧ (y2368).toInt < R * W := by omega
          have p2373 : (y2368).toInt + 1 < ((n : Nat) : Int) := by (omega)
          exact ih _ _ _ i2349 p2371 p2372 p2373
        · replace c2367 := q_nle c2367
          rw [li_40] at c2367
          have v2374 : vp_in r_5 40 := vi (by omega) (by omega)
          refine ⟨v2374, ?_⟩
          have v2375 : vp_in z3 40 := vi (by omega) (by omega)
          refine ⟨v2375, ?_⟩
          refine ⟨v2374, ?_⟩
          generalize hy2377 : (z3 + (-1)) = y2376
          have e2378 := tq_addr li_m1 z3
          rw [hy2377] at e2378
          try rw [Int.emod_eq_of_lt (show 0 ≤ (z3).toInt + (-1) + 2147483648 by omega) (show (z3).toInt + (-1) + 2147483648 < 4294967296 by omega)] at e2378
          have p2379 : 0 ≤ (t0.1 0).toInt ∧ (t0.1 0).toInt ≤ 40 := by omega
          have p2380 : ar 40 (-1) (39) (upd (t0.2 0) (Int32.toNatClampNeg r_5) z3) := (ar_upd i2349.2.1 (by omega) (by omega))
          have := ar_at (i2349.2.1) v2374
          have p2381 : ar 40 (-1) (39) (upd (t0.2 1) (Int32.toNatClampNeg z3) (t0.2 0 (Int32.toNatClampNeg r_5))) := (ar_upd i2349.2.2.1 (by omega) (by omega))
          have p2382 : ar 40 (0) (39) (t0.2 2) := i2349.2.2.2
          have B2383 : mo (t0.1, (va_up (va_up t0.2 0 (upd (t0.2 0) (Int32.toNatClampNeg r_5) z3)) 1 (upd (t0.2 1) (Int32.toNatClampNeg z3) (t0.2 0 (Int32.toNatClampNeg r_5))))) := ⟨p2379, p2380, p2381, p2382⟩
          have e2384 := tq_ite (a := z2) (b := r_5) (x := r_5) (y := z2)
          have p2385 : 0 ≤ (if (z2 < r_5) then r_5 else z2).toInt ∧ (if (z2 < r_5) then r_5 else z2).toInt ≤ 39 := by omega
          have p2386 : -1 ≤ (y2376).toInt ∧ (y2376).toInt < R * W := by omega
          have p2387 : (y2376).toInt + 1 < ((n : Nat) : Int) := by (omega)
          exact ih _ _ _ B2383 p2385 p2386 p2387
theorem wq_X2_sortByLeft {post : Int32 → Mo → Prop} {s0 : Mo} {s1 : Bd} {R W : Int} (h2388 : mo s0) (h2389 : bi (R) (W) s1) (k : ∀ (r : Int32) (u : Mo), mo u → 0 ≤ (r).toInt ∧ (r).toInt ≤ 39 → post r u) : wp_X2_sortByLeft post s0 s1 := by
  unfold wp_X2_sortByLeft
  have := h2388.1
  have := h2389.1
  have := h2389.2.1
  have := h2389.2.2.1
  have := h2389.2.2.2.1
  have := h2389.2.2.2.2.2.2.2.2.2
  refine wq_X0_cells h2389 (fun r_2 q2390 => ?_)
  have p2391 : 0 ≤ (s0.1 0).toInt ∧ (s0.1 0).toInt ≤ 40 := by omega
  have p2392 : ar 40 (-1) (39) (fl_f 40 (-1) (s0.2 0)) := (ar_fill h2388.2.1 (by decide) (by decide))
  have p2393 : ar 40 (-1) (39) (s0.2 1) := h2388.2.2.1
  have p2394 : ar 40 (0) (39) (s0.2 2) := h2388.2.2.2
  have B2395 : mo (s0.1, (va_up s0.2 0 (fl_f 40 (-1) (s0.2 0)))) := ⟨p2391, p2392, p2393, p2394⟩
  have p2396 : 0 ≤ (0 : Int32).toInt ∧ (0 : Int32).toInt ≤ 39 := by (have := li_0; omega)
  have e2397 := tq_subr li_1 r_2
  try rw [Int.emod_eq_of_lt (show 0 ≤ (r_2).toInt - 1 + 2147483648 by omega) (show (r_2).toInt - 1 + 2147483648 < 4294967296 by omega)] at e2397
  have p2398 : -1 ≤ (r_2 - 1).toInt ∧ (r_2 - 1).toInt < R * W := by omega
  obtain ⟨f2399, g2400⟩ := fu_e 50
  have p2401 : (r_2 - 1).toInt + 1 < (f2399 : Int) := by (omega)
  refine ⟨f2399, wq_X2_sortByLeft_L17 h2389 (fun t0 z2 z3 q2402 q2403 q2404 => ?_) f2399 _ _ _ B2395 p2396 p2398 p2401⟩
  have := q2402.1
  have p2405 : 0 ≤ (z2).toInt ∧ (z2).toInt ≤ 39 := by omega
  exact k _ _ q2402 p2405
theorem wq_X2_choose_L44 {s1 : Bd} {post : Mo → Prop} {e130 : Mo → Int32 → Int32 → Int32 → Int32 → Prop} {R W Z : Int} (h2406 : bi (R) (W) s1) (ke130 : ∀ (t0 : Mo) (z2 : Int32) (z3 : Int32) (z4 : Int32) (z5 : Int32), mo t0 → 0 ≤ (z5).toInt ∧ (z5).toInt ≤ 40 → -1 ≤ (z4).toInt ∧ (z4).toInt ≤ 39 → (z3).toInt = Z → e130 t0 z2 z3 z4 z5) : ∀ (n : Nat) (t0 : Mo) (z2 : Int32) (z3 : Int32) (z4 : Int32) (z5 : Int32), mo t0 → 0 ≤ (z5).toInt ∧ (z5).toInt ≤ 40 → -1 ≤ (z4).toInt ∧ (z4).toInt ≤ 39 → (z3).toInt = Z → 40 - (z5).toInt < (n : Int) → wp_X2_choose_L44 s1 post e130 n t0 z2 z3 z4 z5 := by
  have := h2406.1
  have := h2406.2.1
  have := h2406.2.2.1
  have := h2406.2.2.2.1
  have := h2406.2.2.2.2.2.2.2.2.2
  intro n
  induction n with
  | zero =>
    intro t0 z2 z3 z4 z5 i2407 i2408 i2409 i2410 i2411
    have := i2407.1
    exfalso
    omega
  | succ n ih =>
    intro t0 z2 z3 z4 z5 i2407 i2408 i2409 i2410 i2411
    unfold wp_X2_choose_L44
    have := i2407.1
    refine ⟨fun c2412 => ?_, fun c2413 => ?_⟩
    · replace c2412 := q_le c2412
      rw [li_40] at c2412
      have p2414 : 0 ≤ (z5).toInt ∧ (z5).toInt ≤ 40 := by omega
      have p2415 : -1 ≤ (z4).toInt ∧ (z4).toInt ≤ 39 := by omega
      have p2416 : (z3).toInt = Z := by omega
      exact ke130 _ _ _ _ _ i2407 p2414 p2415 p2416
    · replace c2413 := q_nle c2413
      rw [li_40] at c2413
      refine ⟨fun c2417 => ?_, fun c2418 => ?_⟩
      · replace c2417 := q_eq c2417
        rw [li_m1] at c2417
        have p2419 : 0 ≤ (z5).toInt ∧ (z5).toInt ≤ 40 := by omega
        have p2420 : -1 ≤ (z4).toInt ∧ (z4).toInt ≤ 39 := by omega
        have p2421 : (z3).toInt = Z := by omega
        exact ke130 _ _ _ _ _ i2407 p2419 p2420 p2421
      · replace c2418 := q_neq c2418
        rw [li_m1] at c2418
        have p2422 : 0 ≤ (z4).toInt ∧ (z4).toInt < 40 := by omega
        refine wq_X0_currentOf h2406 p2422 (fun r_8 => ?_)
        refine ⟨fun c2423 => ?_, fun c2424 => ?_⟩
        · have v2425 : vp_in z4 40 := vi (by omega) (by omega)
          refine ⟨v2425, ?_⟩
          have e2426 := tq_addr li_1 z5
          try rw [Int.emod_eq_of_lt (show 0 ≤ (z5).toInt + 1 + 2147483648 by omega) (show (z5).toInt + 1 + 2147483648 < 4294967296 by omega)] at e2426
          have p2427 : 0 ≤ (z5 + 1).toInt ∧ (z5 + 1).toInt ≤ 40 := by omega
          have := ar_at (i2407.2.2.1) v2425
          have p2428 : -1 ≤ (t0.2 1 (Int32.toNatClampNeg z4)).toInt ∧ (t0.2 1 (Int32.toNatClampNeg z4)).toInt ≤ 39 := by omega
          have p2429 : (z3).toInt = Z := by omega
          have p2430 : 40 - (z5 + 1).toInt < ((n : Nat) : Int) := by (omega)
          exact ih _ _ _ _ _ i2407 p2427 p2428 p2429 p2430
        · refine ⟨fun c2431 => ?_, fun c2432 => ?_⟩
          · replace c2431 := q_le c2431
            rw [li_40] at c2431
            have v2433 : vp_in z4 40 := vi (by omega) (by omega)
            refine ⟨v2433, ?_⟩
            have e2434 := tq_addr li_1 z5
            try rw [Int.emod_eq_of_lt (show 0 ≤ (z5).toInt + 1 + 2147483648 by omega) (show (z5).toInt + 1 + 2147483648 < 4294967296 by omega)] at e2434
            have p2435 : 0 ≤ (z5 + 1).toInt ∧ (z5 + 1).toInt ≤ 40 := by omega
            have := ar_at (i2407.2.2.1) v2433
            have p2436 : -1 ≤ (t0.2 1 (Int32.toNatClampNeg z4)).toInt ∧ (t0.2 1 (Int32.toNatClampNeg z4)).toInt ≤ 39 := by omega
            have p2437 : (z3).toInt = Z := by omega
            have p2438 : 40 - (z5 + 1).toInt < ((n : Nat) : Int) := by (omega)
            exact ih _ _ _ _ _ i2407 p2435 p2436 p2437 p2438
          · replace c2432 := q_nle c2432
            rw [li_40] at c2432
            have v2439 : vp_in (t0.1 0) 40 := vi (by omega) (by omega)
            refine ⟨v2439, ?_⟩
            have v2440 : vp_in z4 40 := vi (by omega) (by omega)
            refine ⟨v2440, ?_⟩
            have e2441 := tq_addr li_1 (t0.1 0)
            try rw [Int.emod_eq_of_lt (show 0 ≤ (t0.1 0).toInt + 1 + 2147483648 by omega) (show (t0.1 0).toInt + 1 + 2147483648 < 4294967296 by omega)] at e2441
            have p2442 : 0 ≤ ((t0.1 0) + 1).toInt ∧ ((t0.1 0) + 1).toInt ≤ 40 := by omega
            have p2443 : ar 40 (-1) (39) (t0.2 0) := i2407.2.1
            have p2444 : ar 40 (-1) (39) (t0.2 1) := i2407.2.2.1
            have p2445 : ar 40 (0) (39) (upd (t0.2 2) (Int32.toNatClampNeg (t0.1 0)) z4) := (ar_upd i2407.2.2.2 (by omega) (by omega))
            have B2446 : mo ((va_up (va_up t0.1 0 ((t0.1 0) + 1)) 1 ((t0.1 1) + r_8)), (va_up t0.2 2 (upd (t0.2 2) (Int32.toNatClampNeg (t0.1 0)) z4))) := ⟨p2442, p2443, p2444, p2445⟩
            have e2447 := tq_addr li_1 z5
            try rw [Int.emod_eq_of_lt (show 0 ≤ (z5).toInt + 1 + 2147483648 by omega) (show (z5).toInt + 1 + 2147483648 < 4294967296 by omega)] at e2447
            have p2448 : 0 ≤ (z5 + 1).toInt ∧ (z5 + 1).toInt ≤ 40 := by omega
            have := ar_at (i2407.2.2.1) v2440
            have p2449 : -1 ≤ (t0.2 1 (Int32.toNatClampNeg z4)).toInt ∧ (t0.2 1 (Int32.toNatClampNeg z4)).toInt ≤ 39 := by omega
            have p2450 : (z3).toInt = Z := by omega
            have p2451 : 40 - (z5 + 1).toInt < ((n : Nat) : Int) := by (omega)
            exact ih _ _ _ _ _ B2446 p2448 p2449 p2450 p2451
theorem wq_X2_choose_L18 {s1 : Bd} {post : Mo → Prop} {e136 : Mo → Int32 → Int32 → Prop} {R W : Int} (h2452 : bi (R) (W) s1) (ke136 : ∀ (t0 : Mo) (z2 : Int32) (z3 : Int32), mo t0 → 0 ≤ (z3).toInt ∧ (z3).toInt ≤ 39 → e136 t0 z2 z3) : ∀ (n : Nat) (t0 : Mo) (z2 : Int32) (z3 : Int32), mo t0 → 0 ≤ (z3).toInt ∧ (z3).toInt ≤ 39 → (z3).toInt < (n : Int) → wp_X2_choose_L18 s1 post e136 n t0 z2 z3 := by
  have := h2452.1
  have := h2452.2.1
  have := h2452.2.2.1
  have := h2452.2.2.2.1
  have := h2452.2.2.2.2.2.2.2.2.2
  intro n
  induction n with
  | zero =>
    intro t0 z2 z3 i2453 i2454 i2455
    have := i2453.1
    exfalso
    omega
  | succ n ih =>
    intro t0 z2 z3 i2453 i2454 i2455
    unfold wp_X2_choose_L18
    have := i2453.1
    refine ⟨fun c2456 => ?_, fun c2457 => ?_⟩
    · replace c2456 := q_le c2456
      rw [li_0] at c2456
      have p2458 : 0 ≤ (z3).toInt ∧ (z3).toInt ≤ 39 := by omega
      exact ke136 _ _ _ i2453 p2458
    · replace c2457 := q_nle c2457
      rw [li_0] at c2457
      refine ⟨fun c2459 => ?_, fun c2460 => ?_⟩
      · replace c2459 := q_le c2459
        have p2461 : 0 ≤ (z3).toInt ∧ (z3).toInt ≤ 39 := by omega
        exact ke136 _ _ _ i2453 p2461
      · replace c2460 := q_nle c2460
        have v2462 : vp_in z3 40 := vi (by omega) (by omega)
        refine ⟨v2462, ?_⟩
        have p2463 : 0 ≤ (0 : Int32).toInt ∧ (0 : Int32).toInt ≤ 40 := by (have := li_0; omega)
        have := ar_at (i2453.2.1) v2462
        have p2464 : -1 ≤ (t0.2 0 (Int32.toNatClampNeg z3)).toInt ∧ (t0.2 0 (Int32.toNatClampNeg z3)).toInt ≤ 39 := by omega
        have p2465 : (z3).toInt = ((z3).toInt) := by omega
        obtain ⟨f2466, g2467⟩ := fu_e 50
        have p2468 : 40 - (0 : Int32).toInt < (f2466 : Int) := by (have := li_0; omega)
        refine ⟨f2466, wq_X2_choose_L44 h2452 (fun t0_2469 z2_2470 z3_2471 z4 z5 q2472 q2473 q2474 q2475 => ?_) f2466 _ _ _ _ _ i2453 p2463 p2464 p2465 p2468⟩
        have := q2472.1
        generalize hy2477 : (z3_2471 + (-1)) = y2476
        have e2478 := tq_addr li_m1 z3_2471
        rw [hy2477] at e2478
        try rw [Int.emod_eq_of_lt (show 0 ≤ (z3_2471).toInt + (-1) + 2147483648 by omega) (show (z3_2471).toInt + (-1) + 2147483648 < 4294967296 by omega)] at e2478
        have p2479 : 0 ≤ (y2476).toInt ∧ (y2476).toInt ≤ 39 := by omega
        have p2480 : (y2476).toInt < ((n : Nat) : Int) := by (omega)
        exact ih _ _ _ q2472 p2479 p2480
theorem wq_X2_choose {post : Mo → Prop} {s0 : Mo} {s1 : Bd} {R W : Int} (h2481 : mo s0) (h2482 : bi (R) (W) s1) (k : ∀ (u : Mo), mo u → post u) : wp_X2_choose post s0 s1 := by
  unfold wp_X2_choose
  have := h2481.1
  have := h2482.1
  have := h2482.2.1
  have := h2482.2.2.1
  have := h2482.2.2.2.1
  have := h2482.2.2.2.2.2.2.2.2.2
  have p2483 : 0 ≤ (0 : Int32).toInt ∧ (0 : Int32).toInt ≤ 40 := by (have := li_0; omega)
  have p2484 : ar 40 (-1) (39) (s0.2 0) := h2481.2.1
  have p2485 : ar 40 (-1) (39) (s0.2 1) := h2481.2.2.1
  have p2486 : ar 40 (0) (39) (s0.2 2) := h2481.2.2.2
  have B2487 : mo ((va_up (va_up s0.1 0 0) 1 0), s0.2) := ⟨p2483, p2484, p2485, p2486⟩
  refine wq_X2_sortByLeft B2487 h2482 (fun r_1 u_2 q2488 q2489 => ?_)
  have := q2488.1
  replace q2489 : 0 ≤ (r_1).toInt ∧ (r_1).toInt ≤ 39 := q2489
  have p2490 : 0 ≤ (r_1).toInt ∧ (r_1).toInt ≤ 39 := by omega
  obtain ⟨f2491, g2492⟩ := fu_e 50
  have p2493 : (r_1).toInt < (f2491 : Int) := by (omega)
  refine ⟨f2491, wq_X2_choose_L18 h2482 (fun t0 z2 z3 q2494 q2495 => ?_) f2491 _ _ _ q2488 p2490 p2493⟩
  have := q2494.1
  exact k _ q2494
theorem wq_X2_countTick {post : Mo → Prop} {s0 : Mo} {x1 : Int32} (h2496 : mo s0) (k : ∀ (u : Mo), mo u → post u) : wp_X2_countTick post s0 x1 := by
  unfold wp_X2_countTick
  have := h2496.1
  refine ⟨fun c2497 => ?_, fun c2498 => ?_⟩
  · replace c2497 := q_le c2497
    have p2499 : 0 ≤ (s0.1 0).toInt ∧ (s0.1 0).toInt ≤ 40 := by omega
    have p2500 : ar 40 (-1) (39) (s0.2 0) := h2496.2.1
    have p2501 : ar 40 (-1) (39) (s0.2 1) := h2496.2.2.1
    have p2502 : ar 40 (0) (39) (s0.2 2) := h2496.2.2.2
    have B2503 : mo ((va_up (va_up (va_up (va_up s0.1 2 ((s0.1 2) + 1)) 3 ((s0.1 3) + (s0.1 0))) 4 ((s0.1 4) + x1)) 5 (if ((s0.1 5) < (s0.1 1)) then (s0.1 1) else (s0.1 5))), s0.2) := ⟨p2499, p2500, p2501, p2502⟩
    exact k _ B2503
  · replace c2498 := q_nle c2498
    have p2504 : 0 ≤ (s0.1 0).toInt ∧ (s0.1 0).toInt ≤ 40 := by omega
    have p2505 : ar 40 (-1) (39) (s0.2 0) := h2496.2.1
    have p2506 : ar 40 (-1) (39) (s0.2 1) := h2496.2.2.1
    have p2507 : ar 40 (0) (39) (s0.2 2) := h2496.2.2.2
    have B2508 : mo ((va_up (va_up (va_up (va_up (va_up (va_up s0.1 2 ((s0.1 2) + 1)) 3 ((s0.1 3) + (s0.1 0))) 4 ((s0.1 4) + x1)) 5 (if ((s0.1 5) < (s0.1 1)) then (s0.1 1) else (s0.1 5))) 6 (s0.1 2)) 7 x1), s0.2) := ⟨p2504, p2505, p2506, p2507⟩
    exact k _ B2508
theorem wq_X2_turn_L27 {post : Mo → Bd → Prop} {e62 : Mo → Bd → Int32 → Int32 → Int32 → Prop} {R W Z Y : Int} (ke62 : ∀ (t0 : Mo) (t1 : Bd) (z2 : Int32) (z3 : Int32) (z4 : Int32), mo t0 → bi (R) (W) t1 → 0 ≤ (z4).toInt ∧ (z4).toInt ≤ (t0.1 0).toInt → (z3).toInt = Z → (z2).toInt = Y → e62 t0 t1 z2 z3 z4) : ∀ (n : Nat) (t0 : Mo) (t1 : Bd) (z2 : Int32) (z3 : Int32) (z4 : Int32), mo t0 → bi (R) (W) t1 → 0 ≤ (z4).toInt ∧ (z4).toInt ≤ (t0.1 0).toInt → (z3).toInt = Z → (z2).toInt = Y → (t0.1 0).toInt - (z4).toInt < (n : Int) → wp_X2_turn_L27 post e62 n t0 t1 z2 z3 z4 := by
  intro n
  induction n with
  | zero =>
    intro t0 t1 z2 z3 z4 i2509 i2510 i2511 i2512 i2513 i2514
    have := i2509.1
    have := i2510.1
    have := i2510.2.1
    have := i2510.2.2.1
    have := i2510.2.2.2.1
    have := i2510.2.2.2.2.2.2.2.2.2
    exfalso
    omega
  | succ n ih =>
    intro t0 t1 z2 z3 z4 i2509 i2510 i2511 i2512 i2513 i2514
    unfold wp_X2_turn_L27
    have := i2509.1
    have := i2510.1
    have := i2510.2.1
    have := i2510.2.2.1
    have := i2510.2.2.2.1
    have := i2510.2.2.2.2.2.2.2.2.2
    refine ⟨fun c2515 => ?_, fun c2516 => ?_⟩
    · replace c2515 := q_le c2515
      have p2517 : 0 ≤ (z4).toInt ∧ (z4).toInt ≤ (t0.1 0).toInt := by omega
      have p2518 : (z3).toInt = Z := by omega
      have p2519 : (z2).toInt = Y := by omega
      exact ke62 _ _ _ _ _ i2509 i2510 p2517 p2518 p2519
    · replace c2516 := q_nle c2516
      have v2520 : vp_in z4 40 := vi (by omega) (by omega)
      refine ⟨v2520, ?_⟩
      have := ar_at (i2509.2.2.2) v2520
      have p2521 : 0 ≤ (t0.2 2 (Int32.toNatClampNeg z4)).toInt ∧ (t0.2 2 (Int32.toNatClampNeg z4)).toInt < 40 := by omega
      refine wq_X0_stepOn i2510 p2521 (fun r_9 u_10 q2522 => ?_)
      have := q2522.1
      have := q2522.2.1
      have := q2522.2.2.1
      have := q2522.2.2.2.2.2.2.2.2.2
      have p2523 : 0 ≤ (t0.1 0).toInt ∧ (t0.1 0).toInt ≤ 40 := by omega
      have p2524 : ar 40 (-1) (39) (t0.2 0) := i2509.2.1
      have p2525 : ar 40 (-1) (39) (t0.2 1) := i2509.2.2.1
      have p2526 : ar 40 (0) (39) (t0.2 2) := i2509.2.2.2
      have B2527 : mo ((va_up t0.1 8 ((t0.1 8) + r_9)), t0.2) := ⟨p2523, p2524, p2525, p2526⟩
      have e2528 := tq_addr li_1 z4
      try rw [Int.emod_eq_of_lt (show 0 ≤ (z4).toInt + 1 + 2147483648 by omega) (show (z4).toInt + 1 + 2147483648 < 4294967296 by omega)] at e2528
      have p2529 : 0 ≤ (z4 + 1).toInt ∧ (z4 + 1).toInt ≤ (t0.1 0).toInt := by omega
      have p2530 : (z3).toInt = Z := by omega
      have p2531 : (z2).toInt = Y := by omega
      have p2532 : (t0.1 0).toInt - (z4 + 1).toInt < ((n : Nat) : Int) := by (omega)
      exact ih _ _ _ _ _ B2527 q2522 p2529 p2530 p2531 p2532
theorem wq_X2_turn_L6 {post : Mo → Bd → Prop} {e109 : Mo → Bd → Int32 → Int32 → Prop} {R W : Int} (ke109 : ∀ (t0 : Mo) (t1 : Bd) (z2 : Int32) (z3 : Int32), mo t0 → bi (R) (W) t1 → 0 ≤ (z3).toInt ∧ (z3).toInt ≤ (z2).toInt ∧ (z2).toInt ≤ 9999 → e109 t0 t1 z2 z3) (k : ∀ (ua : Mo) (ub : Bd), mo ua → bi (R) (W) ub → post ua ub) : ∀ (n : Nat) (t0 : Mo) (t1 : Bd) (z2 : Int32) (z3 : Int32), mo t0 → bi (R) (W) t1 → 0 ≤ (z3).toInt ∧ (z3).toInt ≤ (z2).toInt ∧ (z2).toInt ≤ 9999 → (z2).toInt - (z3).toInt < (n : Int) → wp_X2_turn_L6 post e109 n t0 t1 z2 z3 := by
  intro n
  induction n with
  | zero =>
    intro t0 t1 z2 z3 i2533 i2534 i2535 i2536
    have := i2533.1
    have := i2534.1
    have := i2534.2.1
    have := i2534.2.2.1
    have := i2534.2.2.2.1
    have := i2534.2.2.2.2.2.2.2.2.2
    exfalso
    omega
  | succ n ih =>
    intro t0 t1 z2 z3 i2533 i2534 i2535 i2536
    unfold wp_X2_turn_L6
    have := i2533.1
    have := i2534.1
    have := i2534.2.1
    have := i2534.2.2.1
    have := i2534.2.2.2.1
    have := i2534.2.2.2.2.2.2.2.2.2
    refine ⟨fun c2537 => ?_, fun c2538 => ?_⟩
    · replace c2537 := q_le c2537
      have p2539 : 0 ≤ (z3).toInt ∧ (z3).toInt ≤ (z2).toInt ∧ (z2).toInt ≤ 9999 := by omega
      exact ke109 _ _ _ _ i2533 i2534 p2539
    · replace c2538 := q_nle c2538
      refine wq_X2_choose i2533 i2534 (fun u_5 q2540 => ?_)
      have := q2540.1
      refine ⟨fun c2541 => ?_, fun c2542 => ?_⟩
      · replace c2541 := q_neq c2541
        rw [li_0] at c2541
        have p2543 : 0 ≤ (0 : Int32).toInt ∧ (0 : Int32).toInt ≤ (u_5.1 0).toInt := by (have := li_0; omega)
        have p2544 : (z3).toInt = ((z3).toInt) := by omega
        have p2545 : (z2).toInt = ((z2).toInt) := by omega
        obtain ⟨f2546, g2547⟩ := fu_e 50
        have p2548 : (u_5.1 0).toInt - (0 : Int32).toInt < (f2546 : Int) := by (have := li_0; omega)
        refine ⟨f2546, wq_X2_turn_L27 (fun t0_2549 t1_2550 z2_2551 z3_2552 z4 q2553 q2554 q2555 q2556 q2557 => ?_) f2546 _ _ _ _ _ q2540 i2534 p2543 p2544 p2545 p2548⟩
        have := q2553.1
        have := q2554.1
        have := q2554.2.1
        have := q2554.2.2.1
        have := q2554.2.2.2.2.2.2.2.2.2
        refine wq_X2_countTick q2553 (fun u_12 q2558 => ?_)
        have := q2558.1
        have p2559 : (t1_2550.1 0).toInt = R := by omega
        have p2560 : (t1_2550.1 1).toInt = W := by omega
        have p2561 : 0 ≤ (t1_2550.1 3).toInt ∧ (t1_2550.1 3).toInt ≤ 4 := by omega
        have p2562 : 0 ≤ R ∧ R ≤ 6 ∧ 0 ≤ W ∧ W ≤ 10 ∧ 0 ≤ R * W ∧ R * W ≤ 40 := by omega
        have p2563 : ar 4 (0) (40) (t1_2550.2.1 1) := q2554.2.2.2.2.1
        have p2564 : ar 40 (0) (3) (t1_2550.2.1 3) := q2554.2.2.2.2.2.1
        have p2565 : ar 40 (0) (39) (t1_2550.2.1 4) := q2554.2.2.2.2.2.2.1
        have p2566 : ar 40 (0) (39) (t1_2550.2.1 5) := q2554.2.2.2.2.2.2.2.1
        have p2567 : ar 40 (0) (39) (t1_2550.2.1 6) := q2554.2.2.2.2.2.2.2.2.1
        have p2568 : t1_2550.2.2.2.1 ≤ 6400 := by omega
        have B2569 : bi (R) (W) ((va_up (va_up t1_2550.1 4 ((t1_2550.1 4) + ((t0_2549.1 0) * (t0_2549.1 0)))) 5 ((t1_2550.1 5) + 1)), t1_2550.2.1, t1_2550.2.2.1, t1_2550.2.2.2.1, t1_2550.2.2.2.2) := ⟨p2559, p2560, p2561, p2562, p2563, p2564, p2565, p2566, p2567, p2568⟩
        have e2570 := tq_addr li_1 z3_2552
        try rw [Int.emod_eq_of_lt (show 0 ≤ (z3_2552).toInt + 1 + 2147483648 by omega) (show (z3_2552).toInt + 1 + 2147483648 < 4294967296 by omega)] at e2570
        have p2571 : 0 ≤ (z3_2552 + 1).toInt ∧ (z3_2552 + 1).toInt ≤ (z2_2551).toInt ∧ (z2_2551).toInt ≤ 9999 := by omega
        have p2572 : (z2_2551).toInt - (z3_2552 + 1).toInt < ((n : Nat) : Int) := by (omega)
        exact ih _ _ _ _ q2558 B2569 p2571 p2572
      · replace c2542 := q_eq c2542
        rw [li_0] at c2542
        exact k _ _ q2540 i2534
theorem wq_X2_turn {post : Mo → Bd → Prop} {s0 : Mo} {s1 : Bd} {x2 : Int32} {R W : Int} (h2573 : mo s0) (h2574 : bi (R) (W) s1) (h2575 : 0 ≤ (x2).toInt ∧ (x2).toInt ≤ 9999) (k : ∀ (ua : Mo) (ub : Bd), mo ua → bi (R) (W) ub → post ua ub) : wp_X2_turn post s0 s1 x2 := by
  unfold wp_X2_turn
  have := h2573.1
  have := h2574.1
  have := h2574.2.1
  have := h2574.2.2.1
  have := h2574.2.2.2.1
  have := h2574.2.2.2.2.2.2.2.2.2
  refine wq_X2_startCounting h2573 (fun u_2 q2576 => ?_)
  have := q2576.1
  have p2577 : 0 ≤ (0 : Int32).toInt ∧ (0 : Int32).toInt ≤ (x2).toInt ∧ (x2).toInt ≤ 9999 := by (have := li_0; omega)
  obtain ⟨f2578, g2579⟩ := fu_e 10000
  have p2580 : (x2).toInt - (0 : Int32).toInt < (f2578 : Int) := by (have := li_0; omega)
  refine ⟨f2578, wq_X2_turn_L6 (fun t0 t1 z2 z3 q2581 q2582 q2583 => ?_) k f2578 _ _ _ _ q2576 h2574 p2577 p2580⟩
  have := q2581.1
  have := q2582.1
  have := q2582.2.1
  have := q2582.2.2.1
  have := q2582.2.2.2.2.2.2.2.2.2
  exact k _ _ q2581 q2582

theorem wq_X2_chosenBits_L4 {s0 : Mo} {post : Int64 → Prop} {e29 : Int64 → Int32 → Prop} (h2584 : mo s0) (ke29 : ∀ (w1 : Int64) (z3 : Int32), 0 ≤ (z3).toInt ∧ (z3).toInt ≤ (s0.1 0).toInt → e29 w1 z3) : ∀ (n : Nat) (w1 : Int64) (z3 : Int32), 0 ≤ (z3).toInt ∧ (z3).toInt ≤ (s0.1 0).toInt → (s0.1 0).toInt - (z3).toInt < (n : Int) → wp_X2_chosenBits_L4 s0 post e29 n w1 z3 := by
  have := h2584.1
  intro n
  induction n with
  | zero =>
    intro w1 z3 i2585 i2586
    exfalso
    omega
  | succ n ih =>
    intro w1 z3 i2585 i2586
    unfold wp_X2_chosenBits_L4
    refine ⟨fun c2587 => ?_, fun c2588 => ?_⟩
    · replace c2587 := q_le c2587
      have p2589 : 0 ≤ (z3).toInt ∧ (z3).toInt ≤ (s0.1 0).toInt := by omega
      exact ke29 _ _ p2589
    · replace c2588 := q_nle c2588
      have v2590 : vp_in z3 40 := vi (by omega) (by omega)
      refine ⟨v2590, ?_⟩
      have e2591 := tq_addr li_1 z3
      try rw [Int.emod_eq_of_lt (show 0 ≤ (z3).toInt + 1 + 2147483648 by omega) (show (z3).toInt + 1 + 2147483648 < 4294967296 by omega)] at e2591
      have p2592 : 0 ≤ (z3 + 1).toInt ∧ (z3 + 1).toInt ≤ (s0.1 0).toInt := by omega
      have p2593 : (s0.1 0).toInt - (z3 + 1).toInt < ((n : Nat) : Int) := by (omega)
      exact ih _ _ p2592 p2593
theorem wq_X2_chosenBits {post : Int64 → Prop} {s0 : Mo} (h2594 : mo s0) (k : ∀ (r : Int64), post r) : wp_X2_chosenBits post s0 := by
  unfold wp_X2_chosenBits
  have := h2594.1
  have p2595 : 0 ≤ (0 : Int32).toInt ∧ (0 : Int32).toInt ≤ (s0.1 0).toInt := by (have := li_0; omega)
  obtain ⟨f2596, g2597⟩ := fu_e 50
  have p2598 : (s0.1 0).toInt - (0 : Int32).toInt < (f2596 : Int) := by (have := li_0; omega)
  refine ⟨f2596, wq_X2_chosenBits_L4 h2594 (fun w1 z3 q2599 => ?_) f2596 _ _ p2595 p2598⟩
  exact k _
theorem wq_X4_hasStep {post : Int32 → Prop} {s0 : Pg} {x1 : Int32} {R : Int} (h2600 : pg (R) s0) (k : ∀ (r : Int32), ((r).toInt = 1 ∧ 0 ≤ (x1).toInt ∧ (x1).toInt < (s0.1 1).toInt) ∨ ((r).toInt = 0 ∧ ((x1).toInt < 0 ∨ (s0.1 1).toInt ≤ (x1).toInt)) → post r) : wp_X4_hasStep post s0 x1 := by
  unfold wp_X4_hasStep
  have := h2600.1
  refine ⟨fun c2601 => ?_, fun c2602 => ?_⟩
  · replace c2601 := q_lt c2601
    rw [li_0] at c2601
    have p2603 : ((0 : Int32).toInt = 1 ∧ 0 ≤ (x1).toInt ∧ (x1).toInt < (s0.1 1).toInt) ∨ ((0 : Int32).toInt = 0 ∧ ((x1).toInt < 0 ∨ (s0.1 1).toInt ≤ (x1).toInt)) := by (have := li_0; omega)
    exact k _ p2603
  · replace c2602 := q_nlt c2602
    rw [li_0] at c2602
    refine ⟨fun c2604 => ?_, fun c2605 => ?_⟩
    · replace c2604 := q_le c2604
      have p2606 : ((0 : Int32).toInt = 1 ∧ 0 ≤ (x1).toInt ∧ (x1).toInt < (s0.1 1).toInt) ∨ ((0 : Int32).toInt = 0 ∧ ((x1).toInt < 0 ∨ (s0.1 1).toInt ≤ (x1).toInt)) := by (have := li_0; omega)
      exact k _ p2606
    · replace c2605 := q_nle c2605
      have p2607 : ((1 : Int32).toInt = 1 ∧ 0 ≤ (x1).toInt ∧ (x1).toInt < (s0.1 1).toInt) ∨ ((1 : Int32).toInt = 0 ∧ ((x1).toInt < 0 ∨ (s0.1 1).toInt ≤ (x1).toInt)) := by (have := li_1; omega)
      exact k _ p2607
theorem wq_X4_kindOf {post : Int32 → Prop} {s0 : Pg} {x1 : Int32} {R : Int} (h2608 : pg (R) s0) (k : ∀ (r : Int32), (r).toInt = 0 ∨ ((r).toInt = (s0.2 0 (Int32.toNatClampNeg x1)).toInt ∧ 0 ≤ (x1).toInt ∧ (x1).toInt < (s0.1 1).toInt) → post r) : wp_X4_kindOf post s0 x1 := by
  unfold wp_X4_kindOf
  have := h2608.1
  refine wq_X4_hasStep h2608 (fun r_1 q2609 => ?_)
  refine ⟨fun c2610 => ?_, fun c2611 => ?_⟩
  · replace c2610 := q_eq c2610
    rw [li_0] at c2610
    have p2612 : (0 : Int32).toInt = 0 ∨ ((0 : Int32).toInt = (s0.2 0 (Int32.toNatClampNeg x1)).toInt ∧ 0 ≤ (x1).toInt ∧ (x1).toInt < (s0.1 1).toInt) := by (have := li_0; omega)
    exact k _ p2612
  · replace c2611 := q_neq c2611
    rw [li_0] at c2611
    have v2613 : vp_in x1 80 := vi (by omega) (by omega)
    refine ⟨v2613, ?_⟩
    have p2614 : (s0.2 0 (Int32.toNatClampNeg x1)).toInt = 0 ∨ ((s0.2 0 (Int32.toNatClampNeg x1)).toInt = (s0.2 0 (Int32.toNatClampNeg x1)).toInt ∧ 0 ≤ (x1).toInt ∧ (x1).toInt < (s0.1 1).toInt) := by omega
    exact k _ p2614
theorem wq_X4_oneOf {post : Int32 → Prop} {s0 : Pg} {x1 : Int32} {R : Int} (h : pg R s0) (k : ∀ r : Int32, 0 ≤ r.toInt ∧ r.toInt ≤ 99 → r.toInt < R ∨ x1.toInt < 0 ∨ (s0.1 1).toInt ≤ x1.toInt ∨ ((s0.2 0 (Int32.toNatClampNeg x1)).toInt ≠ 6 ∧ (s0.2 0 (Int32.toNatClampNeg x1)).toInt ≠ 9) → post r) : wp_X4_oneOf post s0 x1 := by
  unfold wp_X4_oneOf
  have d := h.1
  have e0 : (0 : Int32).toInt = 0 := rfl
  refine wq_X4_hasStep h (fun r hr => ⟨fun c => ?_, fun c => ?_⟩)
  · have := q_eq c
    exact k _ (by omega) (by omega)
  · have := q_neq c
    have v : vp_in x1 80 := vi (by omega) (by omega)
    have a := ar_at h.2.1 v
    refine ⟨v, k _ a ?_⟩
    by_cases g : (s0.2 0 (Int32.toNatClampNeg x1)).toInt = 6 ∨ (s0.2 0 (Int32.toNatClampNeg x1)).toInt = 9
    · have ti := tn_i x1
      exact Or.inl (h.2.2 _ (by omega) g)
    · omega
theorem wq_X4_twoOf {post : Int32 → Prop} {s0 : Pg} {x1 : Int32} {R : Int} (h2615 : pg (R) s0) (k : ∀ (r : Int32), post r) : wp_X4_twoOf post s0 x1 := by
  unfold wp_X4_twoOf
  have := h2615.1
  refine wq_X4_hasStep h2615 (fun r_1 q2616 => ?_)
  refine ⟨fun c2617 => ?_, fun c2618 => ?_⟩
  · replace c2617 := q_eq c2617
    rw [li_0] at c2617
    exact k _
  · replace c2618 := q_neq c2618
    rw [li_0] at c2618
    have v2619 : vp_in x1 80 := vi (by omega) (by omega)
    refine ⟨v2619, ?_⟩
    exact k _
theorem wq_X4_quotedOf {post : Int32 → Prop} {s0 : Pg} {x1 : Int32} {R : Int} (h2620 : pg (R) s0) (k : ∀ (r : Int32), post r) : wp_X4_quotedOf post s0 x1 := by
  unfold wp_X4_quotedOf
  have := h2620.1
  refine wq_X4_hasStep h2620 (fun r_1 q2621 => ?_)
  refine ⟨fun c2622 => ?_, fun c2623 => ?_⟩
  · replace c2622 := q_eq c2622
    rw [li_0] at c2622
    exact k _
  · replace c2623 := q_neq c2623
    rw [li_0] at c2623
    have v2624 : vp_in x1 80 := vi (by omega) (by omega)
    refine ⟨v2624, ?_⟩
    exact k _
theorem wq_X4_endOf {post : Int32 → Prop} {s0 : Pg} {x1 : Int32} {R : Int} (h2625 : pg (R) s0) (k : ∀ (r : Int32), post r) : wp_X4_endOf post s0 x1 := by
  unfold wp_X4_endOf
  have := h2625.1
  refine wq_X4_hasStep h2625 (fun r_1 q2626 => ?_)
  refine ⟨fun c2627 => ?_, fun c2628 => ?_⟩
  · replace c2627 := q_eq c2627
    rw [li_0] at c2627
    exact k _
  · replace c2628 := q_neq c2628
    rw [li_0] at c2628
    have v2629 : vp_in x1 80 := vi (by omega) (by omega)
    refine ⟨v2629, ?_⟩
    exact k _
theorem wq_X4_startDoing {post : Pg → Prop} {s0 : Pg} {R : Int} (h2630 : pg (R) s0) (k : ∀ (u : Pg), pg (R) u → post u) : wp_X4_startDoing post s0 := by
  unfold wp_X4_startDoing
  have := h2630.1
  have p2631 : 0 ≤ (0 : Int32).toInt ∧ (0 : Int32).toInt ≤ 3 ∧ 0 ≤ (s0.1 1).toInt ∧ (s0.1 1).toInt ≤ 80 := by (have := li_0; omega)
  have p2632 : ar 80 (0) (99) (s0.2 1) := h2630.2.1
  have B2633 : pg (R) ((va_up (va_up s0.1 0 0) 2 0), s0.2) := ⟨p2631, p2632, h2630.2.2⟩
  exact k _ B2633
theorem wq_X4_goOn_L99 {post : Pg → Prop} {e198 : Pg → Int32 → Prop} {R : Int} (ke198 : ∀ (t0 : Pg) (z1 : Int32), pg (R) t0 → 0 ≤ (z1).toInt ∧ (z1).toInt ≤ 3 → e198 t0 z1) : ∀ (n : Nat) (t0 : Pg) (z1 : Int32), pg (R) t0 → 0 ≤ (z1).toInt ∧ (z1).toInt ≤ 3 → 3 - (z1).toInt < (n : Int) → wp_X4_goOn_L99 post e198 n t0 z1 := by
  intro n
  induction n with
  | zero =>
    intro t0 z1 i2634 i2635 i2636
    have := i2634.1
    exfalso
    omega
  | succ n ih =>
    intro t0 z1 i2634 i2635 i2636
    unfold wp_X4_goOn_L99
    have := i2634.1
    refine ⟨fun c2637 => ?_, fun c2638 => ?_⟩
    · replace c2637 := q_le c2637
      rw [li_3] at c2637
      have p2639 : 0 ≤ (z1).toInt ∧ (z1).toInt ≤ 3 := by omega
      exact ke198 _ _ i2634 p2639
    · replace c2638 := q_nle c2638
      rw [li_3] at c2638
      refine ⟨fun c2640 => ?_, fun c2641 => ?_⟩
      · replace c2640 := q_le c2640
        rw [li_0] at c2640
        have p2642 : 0 ≤ (z1).toInt ∧ (z1).toInt ≤ 3 := by omega
        exact ke198 _ _ i2634 p2642
      · replace c2641 := q_nle c2641
        rw [li_0] at c2641
        have e2643 := tq_subr li_1 (t0.1 0)
        try rw [Int.emod_eq_of_lt (show 0 ≤ (t0.1 0).toInt - 1 + 2147483648 by omega) (show (t0.1 0).toInt - 1 + 2147483648 < 4294967296 by omega)] at e2643
        have v2644 : vp_in ((t0.1 0) - 1) 3 := vi (by omega) (by omega)
        refine ⟨v2644, ?_⟩
        refine wq_X4_endOf i2634 (fun r_9 => ?_)
        refine ⟨fun c2645 => ?_, fun c2646 => ?_⟩
        · replace c2645 := q_neq c2645
          have p2647 : 0 ≤ (z1).toInt ∧ (z1).toInt ≤ 3 := by omega
          exact ke198 _ _ i2634 p2647
        · replace c2646 := q_eq c2646
          refine ⟨v2644, ?_⟩
          refine ⟨fun c2648 => ?_, fun c2649 => ?_⟩
          · replace c2648 := q_le c2648
            rw [li_0] at c2648
            have p2650 : 0 ≤ ((t0.1 0) - 1).toInt ∧ ((t0.1 0) - 1).toInt ≤ 3 ∧ 0 ≤ (t0.1 1).toInt ∧ (t0.1 1).toInt ≤ 80 := by omega
            have p2651 : ar 80 (0) (99) (t0.2 1) := i2634.2.1
            have B2652 : pg (R) ((va_up t0.1 0 ((t0.1 0) - 1)), t0.2) := ⟨p2650, p2651, i2634.2.2⟩
            have e2653 := tq_addr li_1 z1
            try rw [Int.emod_eq_of_lt (show 0 ≤ (z1).toInt + 1 + 2147483648 by omega) (show (z1).toInt + 1 + 2147483648 < 4294967296 by omega)] at e2653
            have p2654 : 0 ≤ (z1 + 1).toInt ∧ (z1 + 1).toInt ≤ 3 := by omega
            have p2655 : 3 - (z1 + 1).toInt < ((n : Nat) : Int) := by (omega)
            exact ih _ _ B2652 p2654 p2655
          · replace c2649 := q_nle c2649
            rw [li_0] at c2649
            refine ⟨v2644, ?_⟩
            refine ⟨v2644, ?_⟩
            refine ⟨v2644, ?_⟩
            have p2656 : 0 ≤ (t0.1 0).toInt ∧ (t0.1 0).toInt ≤ 3 ∧ 0 ≤ (t0.1 1).toInt ∧ (t0.1 1).toInt ≤ 80 := by omega
            have p2657 : ar 80 (0) (99) (t0.2 1) := i2634.2.1
            have B2658 : pg (R) ((va_up t0.1 2 ((t0.2 5 (Int32.toNatClampNeg ((t0.1 0) - 1))) + 1)), (va_up t0.2 6 (upd (t0.2 6) (Int32.toNatClampNeg ((t0.1 0) - 1)) ((t0.2 6 (Int32.toNatClampNeg ((t0.1 0) - 1))) - 1)))) := ⟨p2656, p2657, i2634.2.2⟩
            have e2659 := tq_addr li_1 z1
            try rw [Int.emod_eq_of_lt (show 0 ≤ (z1).toInt + 1 + 2147483648 by omega) (show (z1).toInt + 1 + 2147483648 < 4294967296 by omega)] at e2659
            have p2660 : 0 ≤ (z1 + 1).toInt ∧ (z1 + 1).toInt ≤ 3 := by omega
            have p2661 : 3 - (z1 + 1).toInt < ((n : Nat) : Int) := by (omega)
            exact ih _ _ B2658 p2660 p2661
