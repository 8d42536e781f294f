def wp_X2_countTick (post : Mo → Prop) (s0 : Mo) (x1 : Int32) : Prop := ((x1 ≤ (s0.1 7) → post ((va_up (va_up (va_up (va_up s0.1 2 ((s0.1 2) + 1)) 3 ((s0.1 3) + (s0.1 0))) 4 ((s0.1 4) + x1)) 5 (if (s0.1 5) < (s0.1 1) then (s0.1 1) else (s0.1 5))), s0.2)) ∧ (¬ x1 ≤ (s0.1 7) → post ((va_up (va_up (va_up (va_up (va_up (va_up s0.1 2 ((s0.1 2) + 1)) 3 ((s0.1 3) + (s0.1 0))) 4 ((s0.1 4) + x1)) 5 (if (s0.1 5) < (s0.1 1) then (s0.1 1) else (s0.1 5))) 6 (s0.1 2)) 7 x1), s0.2)))
set_option maxHeartbeats 4000000 in
set_option maxRecDepth 100000 in
theorem c2_X2_countTick {l : Launch} {D : va_G} {q : Nat → ClassId} {sz : Nat} {a0 : Nat → Nat} {s0 : Mo} {x1 : Int32} {post : Mo → Prop} (h : wp_X2_countTick post s0 x1) : Met l yX2_countTick (Cond.code yX2_countTick cX2_countTick 2 none :: w_all) ({ frames := 1, cells := 0, slots := 0, locals := 40 } : Room) (mt_P D q [.ref (a0 0), .int x1] (mo_w a0 q s0) sz) (va_Qv (fun u : Mo => post u) (mt_B D (mo_w a0 q s0) sz (fun u : Mo => mo_w a0 q u)) (va_A (mo_w a0 q s0) sz)) 0 0 (va_A (mo_w a0 q s0) sz) := by
  refine mt_start (by decide) (Nat.le_of_ble_eq_true rfl) ?_
  intro p e s m below meth c ls hx hb hr hml hown ht hk hin hP hQ hD hA hS hV hl
  have hK := hQ.1
  have hown : s.vm.findClass RX2 = some m.cls := hown
  have hl : lv_has ls 2 [(0, .ref (a0 0)), (1, .int x1)] := hl
  have hP : va_P D vwCl [((a0 0), .inr (1, [.ref (a0 1), .ref (a0 2), .ref (a0 3), .int (s0.1 0), .int (s0.1 1), .int (s0.1 2), .int (s0.1 3), .int (s0.1 4), .int (s0.1 5), .int (s0.1 6), .int (s0.1 7), .int (s0.1 8)])), ((a0 1), .inl (q 0, 40, .inl (s0.2 0))), ((a0 2), .inl (q 0, 40, .inl (s0.2 1))), ((a0 3), .inl (q 0, 40, .inl (s0.2 2)))] s.heap := hP
  have hD : va_D _ [((a0 0), .inr (1, [.ref (a0 1), .ref (a0 2), .ref (a0 3), .int (s0.1 0), .int (s0.1 1), .int (s0.1 2), .int (s0.1 3), .int (s0.1 4), .int (s0.1 5), .int (s0.1 6), .int (s0.1 7), .int (s0.1 8)])), ((a0 1), .inl (q 0, 40, .inl (s0.2 0))), ((a0 2), .inl (q 0, 40, .inl (s0.2 1))), ((a0 3), .inl (q 0, 40, .inl (s0.2 2)))] := hD
  unfold wp_X2_countTick at h
  refine lv_iload_n hx hb dX2_countTick_0 rfl (lv_at hl 1 rfl) ?_
  refine lv_aload_n hx hb dX2_countTick_1 rfl (lv_at hl 0 rfl) ?_
  refine fl_get (C := RX2) (T := TX2) (N := 12) (ci := 1) (v := .int (s0.1 7)) hx hb ht in_X2 hown hK hP 0 rfl rfl 10 (by decide) mw_269 rfl dX2_countTick_2 ?_
  refine lv_icmp_le (tgt := 21) hx hb dX2_countTick_5 (by decide) (fun c_1 => ?_) (fun c_1 => ?_)
  · replace h := h.1 c_1
    refine lv_aload_n hx hb dX2_countTick_21 rfl (lv_at hl 0 rfl) ?_
    refine lv_aload_n hx hb dX2_countTick_22 rfl (lv_at hl 0 rfl) ?_
    refine fl_get (C := RX2) (T := TX2) (N := 12) (ci := 1) (v := .int (s0.1 5)) hx hb ht in_X2 hown hK hP 0 rfl rfl 8 (by decide) mw_265 rfl dX2_countTick_23 ?_
    refine lv_aload_n hx hb dX2_countTick_26 rfl (lv_at hl 0 rfl) ?_
    refine fl_get (C := RX2) (T := TX2) (N := 12) (ci := 1) (v := .int (s0.1 1)) hx hb ht in_X2 hown hK hP 0 rfl rfl 4 (by decide) mw_258 rfl dX2_countTick_27 ?_
    refine va_mmax hx hb (hml.trans hl.1.symm) hown (ht _ mw_703) (ht _ mw_704) (ht _ mw_110) (ht _ mw_705) (Nat.le_of_ble_eq_true rfl) (Nat.le_of_ble_eq_true rfl) (Nat.le_of_ble_eq_true rfl) (Nat.le_of_ble_eq_true rfl) dX2_countTick_30 ?_
    refine fl_put (C := RX2) (T := TX2) (N := 12) (ci := 1) (v := .int (if (s0.1 5) < (s0.1 1) then (s0.1 1) else (s0.1 5))) (ws2 := [((a0 0), .inr (1, [.ref (a0 1), .ref (a0 2), .ref (a0 3), .int (s0.1 0), .int (s0.1 1), .int (s0.1 2), .int (s0.1 3), .int (s0.1 4), .int (if (s0.1 5) < (s0.1 1) then (s0.1 1) else (s0.1 5)), .int (s0.1 6), .int (s0.1 7), .int (s0.1 8)])), ((a0 1), .inl (q 0, 40, .inl (s0.2 0))), ((a0 2), .inl (q 0, 40, .inl (s0.2 1))), ((a0 3), .inl (q 0, 40, .inl (s0.2 2)))]) hx hb ht in_X2 tyX2_ok nmX2 hown hK hP hD hS 0 rfl rfl 8 (by decide) mw_265 rfl rfl rfl (Nat.le_of_ble_eq_true rfl) dX2_countTick_33 rfl (fun H locs hP hD hS => ?_)
    refine lv_aload_n hx hb dX2_countTick_36 rfl (lv_at hl 0 rfl) ?_
    refine lv_dup hx hb dX2_countTick_37 rfl ?_
    refine fl_get (C := RX2) (T := TX2) (N := 12) (ci := 1) (v := .int (s0.1 4)) hx hb ht in_X2 hown hK hP 0 rfl rfl 7 (by decide) mw_263 rfl dX2_countTick_38 ?_
    refine lv_iload_n hx hb dX2_countTick_41 rfl (lv_at hl 1 rfl) ?_
    refine lv_iadd hx hb dX2_countTick_42 ?_
    refine fl_put (C := RX2) (T := TX2) (N := 12) (ci := 1) (v := .int ((s0.1 4) + x1)) (ws2 := [((a0 0), .inr (1, [.ref (a0 1), .ref (a0 2), .ref (a0 3), .int (s0.1 0), .int (s0.1 1), .int (s0.1 2), .int (s0.1 3), .int ((s0.1 4) + x1), .int (if (s0.1 5) < (s0.1 1) then (s0.1 1) else (s0.1 5)), .int (s0.1 6), .int (s0.1 7), .int (s0.1 8)])), ((a0 1), .inl (q 0, 40, .inl (s0.2 0))), ((a0 2), .inl (q 0, 40, .inl (s0.2 1))), ((a0 3), .inl (q 0, 40, .inl (s0.2 2)))]) hx hb ht in_X2 tyX2_ok nmX2 hown hK hP hD hS 0 rfl rfl 7 (by decide) mw_263 rfl rfl rfl (Nat.le_of_ble_eq_true rfl) dX2_countTick_43 rfl (fun H locs hP hD hS => ?_)
    refine lv_aload_n hx hb dX2_countTick_46 rfl (lv_at hl 0 rfl) ?_
    refine lv_dup hx hb dX2_countTick_47 rfl ?_
    refine fl_get (C := RX2) (T := TX2) (N := 12) (ci := 1) (v := .int (s0.1 3)) hx hb ht in_X2 hown hK hP 0 rfl rfl 6 (by decide) mw_261 rfl dX2_countTick_48 ?_
    refine lv_aload_n hx hb dX2_countTick_51 rfl (lv_at hl 0 rfl) ?_
    refine fl_get (C := RX2) (T := TX2) (N := 12) (ci := 1) (v := .int (s0.1 0)) hx hb ht in_X2 hown hK hP 0 rfl rfl 3 (by decide) mw_256 rfl dX2_countTick_52 ?_
    refine lv_iadd hx hb dX2_countTick_55 ?_
    refine fl_put (C := RX2) (T := TX2) (N := 12) (ci := 1) (v := .int ((s0.1 3) + (s0.1 0))) (ws2 := [((a0 0), .inr (1, [.ref (a0 1), .ref (a0 2), .ref (a0 3), .int (s0.1 0), .int (s0.1 1), .int (s0.1 2), .int ((s0.1 3) + (s0.1 0)), .int ((s0.1 4) + x1), .int (if (s0.1 5) < (s0.1 1) then (s0.1 1) else (s0.1 5)), .int (s0.1 6), .int (s0.1 7), .int (s0.1 8)])), ((a0 1), .inl (q 0, 40, .inl (s0.2 0))), ((a0 2), .inl (q 0, 40, .inl (s0.2 1))), ((a0 3), .inl (q 0, 40, .inl (s0.2 2)))]) hx hb ht in_X2 tyX2_ok nmX2 hown hK hP hD hS 0 rfl rfl 6 (by decide) mw_261 rfl rfl rfl (Nat.le_of_ble_eq_true rfl) dX2_countTick_56 rfl (fun H locs hP hD hS => ?_)
    refine lv_aload_n hx hb dX2_countTick_59 rfl (lv_at hl 0 rfl) ?_
    refine lv_dup hx hb dX2_countTick_60 rfl ?_
    refine fl_get (C := RX2) (T := TX2) (N := 12) (ci := 1) (v := .int (s0.1 2)) hx hb ht in_X2 hown hK hP 0 rfl rfl 5 (by decide) mw_259 rfl dX2_countTick_61 ?_
    refine lv_iconst (v := 1) hx hb dX2_countTick_64 (by decide) ?_
    refine lv_iadd hx hb dX2_countTick_65 ?_
    refine fl_put (C := RX2) (T := TX2) (N := 12) (ci := 1) (v := .int ((s0.1 2) + 1)) (ws2 := [((a0 0), .inr (1, [.ref (a0 1), .ref (a0 2), .ref (a0 3), .int (s0.1 0), .int (s0.1 1), .int ((s0.1 2) + 1), .int ((s0.1 3) + (s0.1 0)), .int ((s0.1 4) + x1), .int (if (s0.1 5) < (s0.1 1) then (s0.1 1) else (s0.1 5)), .int (s0.1 6), .int (s0.1 7), .int (s0.1 8)])), ((a0 1), .inl (q 0, 40, .inl (s0.2 0))), ((a0 2), .inl (q 0, 40, .inl (s0.2 1))), ((a0 3), .inl (q 0, 40, .inl (s0.2 2)))]) hx hb ht in_X2 tyX2_ok nmX2 hown hK hP hD hS 0 rfl rfl 5 (by decide) mw_259 rfl rfl rfl (Nat.le_of_ble_eq_true rfl) dX2_countTick_66 rfl (fun H locs hP hD hS => ?_)
    exact mt_vret ((va_up (va_up (va_up (va_up s0.1 2 ((s0.1 2) + 1)) 3 ((s0.1 3) + (s0.1 0))) 4 ((s0.1 4) + x1)) 5 (if (s0.1 5) < (s0.1 1) then (s0.1 1) else (s0.1 5))), s0.2) hx hb hr hk h (hP.sub (ws' := mo_w a0 q ((va_up (va_up (va_up (va_up s0.1 2 ((s0.1 2) + 1)) 3 ((s0.1 3) + (s0.1 0))) 4 ((s0.1 4) + x1)) 5 (if (s0.1 5) < (s0.1 1) then (s0.1 1) else (s0.1 5))), s0.2)) [0, 1, 2, 3] rfl) (hD.sub (ws' := mo_w a0 q ((va_up (va_up (va_up (va_up s0.1 2 ((s0.1 2) + 1)) 3 ((s0.1 3) + (s0.1 0))) 4 ((s0.1 4) + x1)) 5 (if (s0.1 5) < (s0.1 1) then (s0.1 1) else (s0.1 5))), s0.2)) [0, 1, 2, 3] (by decide) rfl) hS dX2_countTick_69
  · replace h := h.2 c_1
    refine lv_aload_n hx hb dX2_countTick_8 rfl (lv_at hl 0 rfl) ?_
    refine lv_iload_n hx hb dX2_countTick_9 rfl (lv_at hl 1 rfl) ?_
    refine fl_put (C := RX2) (T := TX2) (N := 12) (ci := 1) (v := .int x1) (ws2 := [((a0 0), .inr (1, [.ref (a0 1), .ref (a0 2), .ref (a0 3), .int (s0.1 0), .int (s0.1 1), .int (s0.1 2), .int (s0.1 3), .int (s0.1 4), .int (s0.1 5), .int (s0.1 6), .int x1, .int (s0.1 8)])), ((a0 1), .inl (q 0, 40, .inl (s0.2 0))), ((a0 2), .inl (q 0, 40, .inl (s0.2 1))), ((a0 3), .inl (q 0, 40, .inl (s0.2 2)))]) hx hb ht in_X2 tyX2_ok nmX2 hown hK hP hD hS 0 rfl rfl 10 (by decide) mw_269 rfl rfl rfl (Nat.le_of_ble_eq_true rfl) dX2_countTick_10 rfl (fun H locs hP hD hS => ?_)
    refine lv_aload_n hx hb dX2_countTick_13 rfl (lv_at hl 0 rfl) ?_
    refine lv_aload_n hx hb dX2_countTick_14 rfl (lv_at hl 0 rfl) ?_
    refine fl_get (C := RX2) (T := TX2) (N := 12) (ci := 1) (v := .int (s0.1 2)) hx hb ht in_X2 hown hK hP 0 rfl rfl 5 (by decide) mw_259 rfl dX2_countTick_15 ?_
    refine fl_put (C := RX2) (T := TX2) (N := 12) (ci := 1) (v := .int (s0.1 2)) (ws2 := [((a0 0), .inr (1, [.ref (a0 1), .ref (a0 2), .ref (a0 3), .int (s0.1 0), .int (s0.1 1), .int (s0.1 2), .int (s0.1 3), .int (s0.1 4), .int (s0.1 5), .int (s0.1 2), .int x1, .int (s0.1 8)])), ((a0 1), .inl (q 0, 40, .inl (s0.2 0))), ((a0 2), .inl (q 0, 40, .inl (s0.2 1))), ((a0 3), .inl (q 0, 40, .inl (s0.2 2)))]) hx hb ht in_X2 tyX2_ok nmX2 hown hK hP hD hS 0 rfl rfl 9 (by decide) mw_267 rfl rfl rfl (Nat.le_of_ble_eq_true rfl) dX2_countTick_18 rfl (fun H locs hP hD hS => ?_)
    refine lv_aload_n hx hb dX2_countTick_21 rfl (lv_at hl 0 rfl) ?_
    refine lv_aload_n hx hb dX2_countTick_22 rfl (lv_at hl 0 rfl) ?_
    refine fl_get (C := RX2) (T := TX2) (N := 12) (ci := 1) (v := .int (s0.1 5)) hx hb ht in_X2 hown hK hP 0 rfl rfl 8 (by decide) mw_265 rfl dX2_countTick_23 ?_
    refine lv_aload_n hx hb dX2_countTick_26 rfl (lv_at hl 0 rfl) ?_
    refine fl_get (C := RX2) (T := TX2) (N := 12) (ci := 1) (v := .int (s0.1 1)) hx hb ht in_X2 hown hK hP 0 rfl rfl 4 (by decide) mw_258 rfl dX2_countTick_27 ?_
    refine va_mmax hx hb (hml.trans hl.1.symm) hown (ht _ mw_703) (ht _ mw_704) (ht _ mw_110) (ht _ mw_705) (Nat.le_of_ble_eq_true rfl) (Nat.le_of_ble_eq_true rfl) (Nat.le_of_ble_eq_true rfl) (Nat.le_of_ble_eq_true rfl) dX2_countTick_30 ?_
    refine fl_put (C := RX2) (T := TX2) (N := 12) (ci := 1) (v := .int (if (s0.1 5) < (s0.1 1) then (s0.1 1) else (s0.1 5))) (ws2 := [((a0 0), .inr (1, [.ref (a0 1), .ref (a0 2), .ref (a0 3), .int (s0.1 0), .int (s0.1 1), .int (s0.1 2), .int (s0.1 3), .int (s0.1 4), .int (if (s0.1 5) < (s0.1 1) then (s0.1 1) else (s0.1 5)), .int (s0.1 2), .int x1, .int (s0.1 8)])), ((a0 1), .inl (q 0, 40, .inl (s0.2 0))), ((a0 2), .inl (q 0, 40, .inl (s0.2 1))), ((a0 3), .inl (q 0, 40, .inl (s0.2 2)))]) hx hb ht in_X2 tyX2_ok nmX2 hown hK hP hD hS 0 rfl rfl 8 (by decide) mw_265 rfl rfl rfl (Nat.le_of_ble_eq_true rfl) dX2_countTick_33 rfl (fun H locs hP hD hS => ?_)
    refine lv_aload_n hx hb dX2_countTick_36 rfl (lv_at hl 0 rfl) ?_
    refine lv_dup hx hb dX2_countTick_37 rfl ?_
    refine fl_get (C := RX2) (T := TX2) (N := 12) (ci := 1) (v := .int (s0.1 4)) hx hb ht in_X2 hown hK hP 0 rfl rfl 7 (by decide) mw_263 rfl dX2_countTick_38 ?_
    refine lv_iload_n hx hb dX2_countTick_41 rfl (lv_at hl 1 rfl) ?_
    refine lv_iadd hx hb dX2_countTick_42 ?_
    refine fl_put (C := RX2) (T := TX2) (N := 12) (ci := 1) (v := .int ((s0.1 4) + x1)) (ws2 := [((a0 0), .inr (1, [.ref (a0 1), .ref (a0 2), .ref (a0 3), .int (s0.1 0), .int (s0.1 1), .int (s0.1 2), .int (s0.1 3), .int ((s0.1 4) + x1), .int (if (s0.1 5) < (s0.1 1) then (s0.1 1) else (s0.1 5)), .int (s0.1 2), .int x1, .int (s0.1 8)])), ((a0 1), .inl (q 0, 40, .inl (s0.2 0))), ((a0 2), .inl (q 0, 40, .inl (s0.2 1))), ((a0 3), .inl (q 0, 40, .inl (s0.2 2)))]) hx hb ht in_X2 tyX2_ok nmX2 hown hK hP hD hS 0 rfl rfl 7 (by decide) mw_263 rfl rfl rfl (Nat.le_of_ble_eq_true rfl) dX2_countTick_43 rfl (fun H locs hP hD hS => ?_)
    refine lv_aload_n hx hb dX2_countTick_46 rfl (lv_at hl 0 rfl) ?_
    refine lv_dup hx hb dX2_countTick_47 rfl ?_
    refine fl_get (C := RX2) (T := TX2) (N := 12) (ci := 1) (v := .int (s0.1 3)) hx hb ht in_X2 hown hK hP 0 rfl rfl 6 (by decide) mw_261 rfl dX2_countTick_48 ?_
    refine lv_aload_n hx hb dX2_countTick_51 rfl (lv_at hl 0 rfl) ?_
    refine fl_get (C := RX2) (T := TX2) (N := 12) (ci := 1) (v := .int (s0.1 0)) hx hb ht in_X2 hown hK hP 0 rfl rfl 3 (by decide) mw_256 rfl dX2_countTick_52 ?_
    refine lv_iadd hx hb dX2_countTick_55 ?_
    refine fl_put (C := RX2) (T := TX2) (N := 12) (ci := 1) (v := .int ((s0.1 3) + (s0.1 0))) (ws2 := [((a0 0), .inr (1, [.ref (a0 1), .ref (a0 2), .ref (a0 3), .int (s0.1 0), .int (s0.1 1), .int (s0.1 2), .int ((s0.1 3) + (s0.1 0)), .int ((s0.1 4) + x1), .int (if (s0.1 5) < (s0.1 1) then (s0.1 1) else (s0.1 5)), .int (s0.1 2), .int x1, .int (s0.1 8)])), ((a0 1), .inl (q 0, 40, .inl (s0.2 0))), ((a0 2), .inl (q 0, 40, .inl (s0.2 1))), ((a0 3), .inl (q 0, 40, .inl (s0.2 2)))]) hx hb ht in_X2 tyX2_ok nmX2 hown hK hP hD hS 0 rfl rfl 6 (by decide) mw_261 rfl rfl rfl (Nat.le_of_ble_eq_true rfl) dX2_countTick_56 rfl (fun H locs hP hD hS => ?_)
    refine lv_aload_n hx hb dX2_countTick_59 rfl (lv_at hl 0 rfl) ?_
    refine lv_dup hx hb dX2_countTick_60 rfl ?_
    refine fl_get (C := RX2) (T := TX2) (N := 12) (ci := 1) (v := .int (s0.1 2)) hx hb ht in_X2 hown hK hP 0 rfl rfl 5 (by decide) mw_259 rfl dX2_countTick_61 ?_
    refine lv_iconst (v := 1) hx hb dX2_countTick_64 (by decide) ?_
    refine lv_iadd hx hb dX2_countTick_65 ?_
    refine fl_put (C := RX2) (T := TX2) (N := 12) (ci := 1) (v := .int ((s0.1 2) + 1)) (ws2 := [((a0 0), .inr (1, [.ref (a0 1), .ref (a0 2), .ref (a0 3), .int (s0.1 0), .int (s0.1 1), .int ((s0.1 2) + 1), .int ((s0.1 3) + (s0.1 0)), .int ((s0.1 4) + x1), .int (if (s0.1 5) < (s0.1 1) then (s0.1 1) else (s0.1 5)), .int (s0.1 2), .int x1, .int (s0.1 8)])), ((a0 1), .inl (q 0, 40, .inl (s0.2 0))), ((a0 2), .inl (q 0, 40, .inl (s0.2 1))), ((a0 3), .inl (q 0, 40, .inl (s0.2 2)))]) hx hb ht in_X2 tyX2_ok nmX2 hown hK hP hD hS 0 rfl rfl 5 (by decide) mw_259 rfl rfl rfl (Nat.le_of_ble_eq_true rfl) dX2_countTick_66 rfl (fun H locs hP hD hS => ?_)
    exact mt_vret ((va_up (va_up (va_up (va_up (va_up (va_up s0.1 2 ((s0.1 2) + 1)) 3 ((s0.1 3) + (s0.1 0))) 4 ((s0.1 4) + x1)) 5 (if (s0.1 5) < (s0.1 1) then (s0.1 1) else (s0.1 5))) 6 (s0.1 2)) 7 x1), s0.2) hx hb hr hk h (hP.sub (ws' := mo_w a0 q ((va_up (va_up (va_up (va_up (va_up (va_up s0.1 2 ((s0.1 2) + 1)) 3 ((s0.1 3) + (s0.1 0))) 4 ((s0.1 4) + x1)) 5 (if (s0.1 5) < (s0.1 1) then (s0.1 1) else (s0.1 5))) 6 (s0.1 2)) 7 x1), s0.2)) [0, 1, 2, 3] rfl) (hD.sub (ws' := mo_w a0 q ((va_up (va_up (va_up (va_up (va_up (va_up s0.1 2 ((s0.1 2) + 1)) 3 ((s0.1 3) + (s0.1 0))) 4 ((s0.1 4) + x1)) 5 (if (s0.1 5) < (s0.1 1) then (s0.1 1) else (s0.1 5))) 6 (s0.1 2)) 7 x1), s0.2)) [0, 1, 2, 3] (by decide) rfl) hS dX2_countTick_69

def wp_X2_turn_L27 (post : Mo → Bd → Prop) (e62 : Mo → Bd → Int32 → Int32 → Int32 → Prop) : Nat → Mo → Bd → Int32 → Int32 → Int32 → Prop
  | 0, _, _, _, _, _ => False
  | n27 + 1, t0, t1, z2, z3, z4 => (((t0.1 0) ≤ z4 → e62 t0 t1 z2 z3 z4) ∧ (¬ (t0.1 0) ≤ z4 → vp_in z4 40 ∧ wp_X0_stepOn (fun r_9 u_10 => wp_X2_turn_L27 post e62 n27 ((va_up t0.1 8 ((t0.1 8) + r_9)), t0.2) u_10 z2 z3 (z4 + 1)) t1 ((t0.2 2) (Int32.toNatClampNeg z4))))
def wp_X2_turn_L6 (post : Mo → Bd → Prop) (e109 : Mo → Bd → Int32 → Int32 → Prop) : Nat → Mo → Bd → Int32 → Int32 → Prop
  | 0, _, _, _, _ => False
  | n6 + 1, t0, t1, z2, z3 => ((z2 ≤ z3 → e109 t0 t1 z2 z3) ∧ (¬ z2 ≤ z3 → wp_X2_choose (fun u_5 => ((¬ (u_5.1 0) = 0 → (∃ n27, wp_X2_turn_L27 post (fun t0 t1 z2 z3 z4 => wp_X2_countTick (fun u_12 => wp_X2_turn_L6 post e109 n6 u_12 ((va_up (va_up t1.1 4 ((t1.1 4) + ((t0.1 0) * (t0.1 0)))) 5 ((t1.1 5) + 1)), t1.2.1, t1.2.2.1, t1.2.2.2.1, t1.2.2.2.2) z2 (z3 + 1)) t0 ((t0.1 0) * (t0.1 0))) n27 u_5 t1 z2 z3 0)) ∧ ((u_5.1 0) = 0 → post u_5 t1))) t0 t1))
def wp_X2_turn (post : Mo → Bd → Prop) (s0 : Mo) (s1 : Bd) (x2 : Int32) : Prop := wp_X2_startCounting (fun u_2 => (∃ n6, wp_X2_turn_L6 post (fun t0 t1 z2 z3 => post t0 t1) n6 u_2 s1 x2 0)) s0
set_option maxHeartbeats 4000000 in
set_option maxRecDepth 100000 in
theorem c2_X2_turn {l : Launch} {D : va_G} {q : Nat → ClassId} {sz : Nat} {a0 : Nat → Nat} {a1 : Nat → Nat} {s0 : Mo} {s1 : Bd} {x2 : Int32} {post : Mo → Bd → Prop} (h : wp_X2_turn post s0 s1 x2) : Met l yX2_turn (Cond.code yX2_turn cX2_turn 5 none :: w_all) ({ frames := 3, cells := 0, slots := 0, locals := 90 } : Room) (mt_P D q [.ref (a0 0), .ref (a1 0), .int x2] (mo_w a0 q s0 ++ bd_w a1 q s1) sz) (va_Qv (fun u : Mo × Bd => post u.1 u.2) (mt_B D (mo_w a0 q s0 ++ bd_w a1 q s1) sz (fun u : Mo × Bd => mo_w a0 q u.1 ++ bd_w a1 q u.2)) (va_A (mo_w a0 q s0 ++ bd_w a1 q s1) sz)) 0 0 (va_A (mo_w a0 q s0 ++ bd_w a1 q s1) sz) := by
  refine mt_start (by decide) (Nat.le_of_ble_eq_true rfl) ?_
  intro p e s m below meth c ls hx hb hr hml hown ht hk hin hP hQ hD hA hS hV hl
  have hK := hQ.1
  have hown : s.vm.findClass RX2 = some m.cls := hown
  have hl : lv_has ls 5 [(0, .ref (a0 0)), (1, .ref (a1 0)), (2, .int x2)] := hl
  have hP : va_P D vwCl [((a0 0), .inr (1, [.ref (a0 1), .ref (a0 2), .ref (a0 3), .int (s0.1 0), .int (s0.1 1), .int (s0.1 2), .int (s0.1 3), .int (s0.1 4), .int (s0.1 5), .int (s0.1 6), .int (s0.1 7), .int (s0.1 8)])), ((a0 1), .inl (q 0, 40, .inl (s0.2 0))), ((a0 2), .inl (q 0, 40, .inl (s0.2 1))), ((a0 3), .inl (q 0, 40, .inl (s0.2 2))), ((a1 0), .inr (0, [.int (s1.1 0), .int (s1.1 1), .int (s1.1 2), .int (s1.1 3), .int (s1.1 4), .int (s1.1 5), .ref (a1 1), .ref (a1 2), .ref (a1 3), .ref (a1 4), .ref (a1 5), .ref (a1 6), .ref (a1 7), .ref (a1 8), .ref (a1 9), .ref (a1 10), .ref (a1 11), .ref (a1 12)])), ((a1 1), .inl (q 0, 4, .inl (s1.2.1 0))), ((a1 2), .inl (q 0, 4, .inl (s1.2.1 1))), ((a1 3), .inl (q 0, 160, .inl (s1.2.1 2))), ((a1 4), .inl (q 0, 40, .inl (s1.2.1 3))), ((a1 5), .inl (q 0, 40, .inl (s1.2.1 4))), ((a1 6), .inl (q 0, 40, .inl (s1.2.1 5))), ((a1 7), .inl (q 0, 40, .inl (s1.2.1 6))), ((a1 8), .inl (q 0, 40, .inl (s1.2.1 7))), ((a1 9), .inl (q 0, 40, .inl (s1.2.1 8))), ((a1 10), .inl (q 0, 40, .inl (s1.2.1 9))), ((a1 11), .inl (q 1, 40, .inr (.inl s1.2.2.1))), ((a1 12), .inl (q 0, s1.2.2.2.1, .inl s1.2.2.2.2))] s.heap := hP
  have hD : va_D _ [((a0 0), .inr (1, [.ref (a0 1), .ref (a0 2), .ref (a0 3), .int (s0.1 0), .int (s0.1 1), .int (s0.1 2), .int (s0.1 3), .int (s0.1 4), .int (s0.1 5), .int (s0.1 6), .int (s0.1 7), .int (s0.1 8)])), ((a0 1), .inl (q 0, 40, .inl (s0.2 0))), ((a0 2), .inl (q 0, 40, .inl (s0.2 1))), ((a0 3), .inl (q 0, 40, .inl (s0.2 2))), ((a1 0), .inr (0, [.int (s1.1 0), .int (s1.1 1), .int (s1.1 2), .int (s1.1 3), .int (s1.1 4), .int (s1.1 5), .ref (a1 1), .ref (a1 2), .ref (a1 3), .ref (a1 4), .ref (a1 5), .ref (a1 6), .ref (a1 7), .ref (a1 8), .ref (a1 9), .ref (a1 10), .ref (a1 11), .ref (a1 12)])), ((a1 1), .inl (q 0, 4, .inl (s1.2.1 0))), ((a1 2), .inl (q 0, 4, .inl (s1.2.1 1))), ((a1 3), .inl (q 0, 160, .inl (s1.2.1 2))), ((a1 4), .inl (q 0, 40, .inl (s1.2.1 3))), ((a1 5), .inl (q 0, 40, .inl (s1.2.1 4))), ((a1 6), .inl (q 0, 40, .inl (s1.2.1 5))), ((a1 7), .inl (q 0, 40, .inl (s1.2.1 6))), ((a1 8), .inl (q 0, 40, .inl (s1.2.1 7))), ((a1 9), .inl (q 0, 40, .inl (s1.2.1 8))), ((a1 10), .inl (q 0, 40, .inl (s1.2.1 9))), ((a1 11), .inl (q 1, 40, .inr (.inl s1.2.2.1))), ((a1 12), .inl (q 0, s1.2.2.2.1, .inl s1.2.2.2.2))] := hD
  unfold wp_X2_turn at h
  refine lv_aload_n hx hb dX2_turn_0 rfl (lv_at hl 0 rfl) ?_
  refine mt_gov (mt_wV (wc := mo_w a0 q s0) (As := []) (rest := []) hx hb hml hown ht (c2_X2_startCounting h) wd_X2_startCounting mw_685 hQ hV hS hA (hP.sub [0, 1, 2, 3] rfl) (hD.sub [0, 1, 2, 3] (by decide) rfl) rfl rfl rfl hl.1 rfl (Nat.le_of_ble_eq_true rfl) dX2_turn_1 ⟨Nat.le_of_ble_eq_true rfl, Nat.le_of_ble_eq_true rfl, rfl, rfl⟩ ⟨Nat.le_of_ble_eq_true rfl, Nat.le_of_ble_eq_true rfl⟩) (wr := [((a1 0), .inr (0, [.int (s1.1 0), .int (s1.1 1), .int (s1.1 2), .int (s1.1 3), .int (s1.1 4), .int (s1.1 5), .ref (a1 1), .ref (a1 2), .ref (a1 3), .ref (a1 4), .ref (a1 5), .ref (a1 6), .ref (a1 7), .ref (a1 8), .ref (a1 9), .ref (a1 10), .ref (a1 11), .ref (a1 12)])), ((a1 1), .inl (q 0, 4, .inl (s1.2.1 0))), ((a1 2), .inl (q 0, 4, .inl (s1.2.1 1))), ((a1 3), .inl (q 0, 160, .inl (s1.2.1 2))), ((a1 4), .inl (q 0, 40, .inl (s1.2.1 3))), ((a1 5), .inl (q 0, 40, .inl (s1.2.1 4))), ((a1 6), .inl (q 0, 40, .inl (s1.2.1 5))), ((a1 7), .inl (q 0, 40, .inl (s1.2.1 6))), ((a1 8), .inl (q 0, 40, .inl (s1.2.1 7))), ((a1 9), .inl (q 0, 40, .inl (s1.2.1 8))), ((a1 10), .inl (q 0, 40, .inl (s1.2.1 9))), ((a1 11), .inl (q 1, 40, .inr (.inl s1.2.2.1))), ((a1 12), .inl (q 0, s1.2.2.2.1, .inl s1.2.2.2.2))]) hP hD hS hA [0, 1, 2, 3] [4, 5, 6, 7, 8, 9, 10, 11, 12, 13, 14, 15, 16] rfl rfl (by decide) (by decide) (fun u_2 H locs h hP hD hS => ?_)
  try dsimp only at h
  have hP : va_P D vwCl [((a1 0), .inr (0, [.int (s1.1 0), .int (s1.1 1), .int (s1.1 2), .int (s1.1 3), .int (s1.1 4), .int (s1.1 5), .ref (a1 1), .ref (a1 2), .ref (a1 3), .ref (a1 4), .ref (a1 5), .ref (a1 6), .ref (a1 7), .ref (a1 8), .ref (a1 9), .ref (a1 10), .ref (a1 11), .ref (a1 12)])), ((a1 1), .inl (q 0, 4, .inl (s1.2.1 0))), ((a1 2), .inl (q 0, 4, .inl (s1.2.1 1))), ((a1 3), .inl (q 0, 160, .inl (s1.2.1 2))), ((a1 4), .inl (q 0, 40, .inl (s1.2.1 3))), ((a1 5), .inl (q 0, 40, .inl (s1.2.1 4))), ((a1 6), .inl (q 0, 40, .inl (s1.2.1 5))), ((a1 7), .inl (q 0, 40, .inl (s1.2.1 6))), ((a1 8), .inl (q 0, 40, .inl (s1.2.1 7))), ((a1 9), .inl (q 0, 40, .inl (s1.2.1 8))), ((a1 10), .inl (q 0, 40, .inl (s1.2.1 9))), ((a1 11), .inl (q 1, 40, .inr (.inl s1.2.2.1))), ((a1 12), .inl (q 0, s1.2.2.2.1, .inl s1.2.2.2.2)), ((a0 0), .inr (1, [.ref (a0 1), .ref (a0 2), .ref (a0 3), .int (u_2.1 0), .int (u_2.1 1), .int (u_2.1 2), .int (u_2.1 3), .int (u_2.1 4), .int (u_2.1 5), .int (u_2.1 6), .int (u_2.1 7), .int (u_2.1 8)])), ((a0 1), .inl (q 0, 40, .inl (u_2.2 0))), ((a0 2), .inl (q 0, 40, .inl (u_2.2 1))), ((a0 3), .inl (q 0, 40, .inl (u_2.2 2)))] H := hP
  have hD : va_D _ [((a1 0), .inr (0, [.int (s1.1 0), .int (s1.1 1), .int (s1.1 2), .int (s1.1 3), .int (s1.1 4), .int (s1.1 5), .ref (a1 1), .ref (a1 2), .ref (a1 3), .ref (a1 4), .ref (a1 5), .ref (a1 6), .ref (a1 7), .ref (a1 8), .ref (a1 9), .ref (a1 10), .ref (a1 11), .ref (a1 12)])), ((a1 1), .inl (q 0, 4, .inl (s1.2.1 0))), ((a1 2), .inl (q 0, 4, .inl (s1.2.1 1))), ((a1 3), .inl (q 0, 160, .inl (s1.2.1 2))), ((a1 4), .inl (q 0, 40, .inl (s1.2.1 3))), ((a1 5), .inl (q 0, 40, .inl (s1.2.1 4))), ((a1 6), .inl (q 0, 40, .inl (s1.2.1 5))), ((a1 7), .inl (q 0, 40, .inl (s1.2.1 6))), ((a1 8), .inl (q 0, 40, .inl (s1.2.1 7))), ((a1 9), .inl (q 0, 40, .inl (s1.2.1 8))), ((a1 10), .inl (q 0, 40, .inl (s1.2.1 9))), ((a1 11), .inl (q 1, 40, .inr (.inl s1.2.2.1))), ((a1 12), .inl (q 0, s1.2.2.2.1, .inl s1.2.2.2.2)), ((a0 0), .inr (1, [.ref (a0 1), .ref (a0 2), .ref (a0 3), .int (u_2.1 0), .int (u_2.1 1), .int (u_2.1 2), .int (u_2.1 3), .int (u_2.1 4), .int (u_2.1 5), .int (u_2.1 6), .int (u_2.1 7), .int (u_2.1 8)])), ((a0 1), .inl (q 0, 40, .inl (u_2.2 0))), ((a0 2), .inl (q 0, 40, .inl (u_2.2 1))), ((a0 3), .inl (q 0, 40, .inl (u_2.2 2)))] := hD
  refine lv_iconst (v := 0) hx hb dX2_turn_4 (by decide) ?_
  refine lv_istore_n (lv' := [(3, .int 0), (0, .ref (a0 0)), (1, .ref (a1 0)), (2, .int x2)]) hx hb dX2_turn_5 rfl hl (by decide) rfl (fun ls hl => ?_)
  have lp6 : ∀ (e109 : Mo → Bd → Int32 → Int32 → Prop) (k109 : ∀ (t0 : Mo) (t1 : Bd) (z2 : Int32) (z3 : Int32) (H : Heap) (locs : List Loc) (ls : Array Slot), e109 t0 t1 z2 z3 → va_P D vwCl (mo_w a0 q t0 ++ bd_w a1 q t1) H → va_D (va_A (mo_w a0 q s0 ++ bd_w a1 q s1) sz) (mo_w a0 q t0 ++ bd_w a1 q t1) → va_S (va_A (mo_w a0 q s0 ++ bd_w a1 q s1) sz) s.heap H locs → lv_has ls 5 [(2, .int z2), (3, .int z3), (0, .ref (a0 0)), (1, .ref (a1 0))] → W p l e ({ frames := 3, cells := 0, slots := 0, locals := 90 } : Room) s m [.ref (a0 0), .ref (a1 0), .int x2].toArray below meth c H locs 0 0 (MQ below (va_Qv (fun u : Mo × Bd => post u.1 u.2) (mt_B D (mo_w a0 q s0 ++ bd_w a1 q s1) sz (fun u : Mo × Bd => mo_w a0 q u.1 ++ bd_w a1 q u.2)) (va_A (mo_w a0 q s0 ++ bd_w a1 q s1) sz)) [.ref (a0 0), .ref (a1 0), .int x2].toArray s 0 0 (va_A (mo_w a0 q s0 ++ bd_w a1 q s1) sz)) (F0 m 109 ls [])) (n : Nat) (t0 : Mo) (t1 : Bd) (z2 : Int32) (z3 : Int32) (H : Heap) (locs : List Loc) (ls : Array Slot), wp_X2_turn_L6 post e109 n t0 t1 z2 z3 → va_P D vwCl (mo_w a0 q t0 ++ bd_w a1 q t1) H → va_D (va_A (mo_w a0 q s0 ++ bd_w a1 q s1) sz) (mo_w a0 q t0 ++ bd_w a1 q t1) → va_S (va_A (mo_w a0 q s0 ++ bd_w a1 q s1) sz) s.heap H locs → lv_has ls 5 [(2, .int z2), (3, .int z3), (0, .ref (a0 0)), (1, .ref (a1 0))] → W p l e ({ frames := 3, cells := 0, slots := 0, locals := 90 } : Room) s m [.ref (a0 0), .ref (a1 0), .int x2].toArray below meth c H locs 0 0 (MQ below (va_Qv (fun u : Mo × Bd => post u.1 u.2) (mt_B D (mo_w a0 q s0 ++ bd_w a1 q s1) sz (fun u : Mo × Bd => mo_w a0 q u.1 ++ bd_w a1 q u.2)) (va_A (mo_w a0 q s0 ++ bd_w a1 q s1) sz)) [.ref (a0 0), .ref (a1 0), .int x2].toArray s 0 0 (va_A (mo_w a0 q s0 ++ bd_w a1 q s1) sz)) (F0 m 6 ls []) := by
    intro e109 k109 n
    induction n with
    | zero =>
      intro t0 t1 z2 z3 H locs ls h
      exact h.elim
    | succ n ih =>
      intro t0 t1 z2 z3 H locs ls h hP hD hS hl
      have hP : va_P D vwCl [((a0 0), .inr (1, [.ref (a0 1), .ref (a0 2), .ref (a0 3), .int (t0.1 0), .int (t0.1 1), .int (t0.1 2), .int (t0.1 3), .int (t0.1 4), .int (t0.1 5), .int (t0.1 6), .int (t0.1 7), .int (t0.1 8)])), ((a0 1), .inl (q 0, 40, .inl (t0.2 0))), ((a0 2), .inl (q 0, 40, .inl (t0.2 1))), ((a0 3), .inl (q 0, 40, .inl (t0.2 2))), ((a1 0), .inr (0, [.int (t1.1 0), .int (t1.1 1), .int (t1.1 2), .int (t1.1 3), .int (t1.1 4), .int (t1.1 5), .ref (a1 1), .ref (a1 2), .ref (a1 3), .ref (a1 4), .ref (a1 5), .ref (a1 6), .ref (a1 7), .ref (a1 8), .ref (a1 9), .ref (a1 10), .ref (a1 11), .ref (a1 12)])), ((a1 1), .inl (q 0, 4, .inl (t1.2.1 0))), ((a1 2), .inl (q 0, 4, .inl (t1.2.1 1))), ((a1 3), .inl (q 0, 160, .inl (t1.2.1 2))), ((a1 4), .inl (q 0, 40, .inl (t1.2.1 3))), ((a1 5), .inl (q 0, 40, .inl (t1.2.1 4))), ((a1 6), .inl (q 0, 40, .inl (t1.2.1 5))), ((a1 7), .inl (q 0, 40, .inl (t1.2.1 6))), ((a1 8), .inl (q 0, 40, .inl (t1.2.1 7))), ((a1 9), .inl (q 0, 40, .inl (t1.2.1 8))), ((a1 10), .inl (q 0, 40, .inl (t1.2.1 9))), ((a1 11), .inl (q 1, 40, .inr (.inl t1.2.2.1))), ((a1 12), .inl (q 0, t1.2.2.2.1, .inl t1.2.2.2.2))] H := hP
      have hD : va_D _ [((a0 0), .inr (1, [.ref (a0 1), .ref (a0 2), .ref (a0 3), .int (t0.1 0), .int (t0.1 1), .int (t0.1 2), .int (t0.1 3), .int (t0.1 4), .int (t0.1 5), .int (t0.1 6), .int (t0.1 7), .int (t0.1 8)])), ((a0 1), .inl (q 0, 40, .inl (t0.2 0))), ((a0 2), .inl (q 0, 40, .inl (t0.2 1))), ((a0 3), .inl (q 0, 40, .inl (t0.2 2))), ((a1 0), .inr (0, [.int (t1.1 0), .int (t1.1 1), .int (t1.1 2), .int (t1.1 3), .int (t1.1 4), .int (t1.1 5), .ref (a1 1), .ref (a1 2), .ref (a1 3), .ref (a1 4), .ref (a1 5), .ref (a1 6), .ref (a1 7), .ref (a1 8), .ref (a1 9), .ref (a1 10), .ref (a1 11), .ref (a1 12)])), ((a1 1), .inl (q 0, 4, .inl (t1.2.1 0))), ((a1 2), .inl (q 0, 4, .inl (t1.2.1 1))), ((a1 3), .inl (q 0, 160, .inl (t1.2.1 2))), ((a1 4), .inl (q 0, 40, .inl (t1.2.1 3))), ((a1 5), .inl (q 0, 40, .inl (t1.2.1 4))), ((a1 6), .inl (q 0, 40, .inl (t1.2.1 5))), ((a1 7), .inl (q 0, 40, .inl (t1.2.1 6))), ((a1 8), .inl (q 0, 40, .inl (t1.2.1 7))), ((a1 9), .inl (q 0, 40, .inl (t1.2.1 8))), ((a1 10), .inl (q 0, 40, .inl (t1.2.1 9))), ((a1 11), .inl (q 1, 40, .inr (.inl t1.2.2.1))), ((a1 12), .inl (q 0, t1.2.2.2.1, .inl t1.2.2.2.2))] := hD
      unfold wp_X2_turn_L6 at h
      refine lv_iload_n hx hb dX2_turn_6 rfl (lv_at hl 1 rfl) ?_
      refine lv_iload_n hx hb dX2_turn_7 rfl (lv_at hl 0 rfl) ?_
      refine lv_icmp_ge (tgt := 109) hx hb dX2_turn_8 (by decide) (fun c_3 => ?_) (fun c_3 => ?_)
      · replace h := h.1 c_3
        exact k109 _ _ _ _ _ _ ls h (hP.sub (ws' := mo_w a0 q t0 ++ bd_w a1 q t1) [0, 1, 2, 3, 4, 5, 6, 7, 8, 9, 10, 11, 12, 13, 14, 15, 16] rfl) (hD.sub (ws' := mo_w a0 q t0 ++ bd_w a1 q t1) [0, 1, 2, 3, 4, 5, 6, 7, 8, 9, 10, 11, 12, 13, 14, 15, 16] (by decide) rfl) hS (lv_sub hl [0, 1, 2, 3] rfl)
      · replace h := h.2 c_3
        refine lv_aload_n hx hb dX2_turn_11 rfl (lv_at hl 2 rfl) ?_
        refine lv_aload_n hx hb dX2_turn_12 rfl (lv_at hl 3 rfl) ?_
        refine mt_gov (mt_wV (wc := mo_w a0 q t0 ++ bd_w a1 q t1) (As := [.ref (a1 0)]) (rest := []) hx hb hml hown ht (c2_X2_choose h) wd_X2_choose mw_689 hQ hV hS hA (hP.sub [0, 1, 2, 3, 4, 5, 6, 7, 8, 9, 10, 11, 12, 13, 14, 15, 16] rfl) (hD.sub [0, 1, 2, 3, 4, 5, 6, 7, 8, 9, 10, 11, 12, 13, 14, 15, 16] (by decide) rfl) rfl rfl rfl hl.1 rfl (Nat.le_of_ble_eq_true rfl) dX2_turn_13 ⟨Nat.le_of_ble_eq_true rfl, Nat.le_of_ble_eq_true rfl, rfl, rfl⟩ ⟨Nat.le_of_ble_eq_true rfl, Nat.le_of_ble_eq_true rfl⟩) (wr := []) hP hD hS hA [0, 1, 2, 3, 4, 5, 6, 7, 8, 9, 10, 11, 12, 13, 14, 15, 16] [] rfl rfl (by decide) (by decide) (fun u_5 H locs h hP hD hS => ?_)
        try dsimp only at h
        have hP : va_P D vwCl [((a0 0), .inr (1, [.ref (a0 1), .ref (a0 2), .ref (a0 3), .int (u_5.1 0), .int (u_5.1 1), .int (u_5.1 2), .int (u_5.1 3), .int (u_5.1 4), .int (u_5.1 5), .int (u_5.1 6), .int (u_5.1 7), .int (u_5.1 8)])), ((a0 1), .inl (q 0, 40, .inl (u_5.2 0))), ((a0 2), .inl (q 0, 40, .inl (u_5.2 1))), ((a0 3), .inl (q 0, 40, .inl (u_5.2 2))), ((a1 0), .inr (0, [.int (t1.1 0), .int (t1.1 1), .int (t1.1 2), .int (t1.1 3), .int (t1.1 4), .int (t1.1 5), .ref (a1 1), .ref (a1 2), .ref (a1 3), .ref (a1 4), .ref (a1 5), .ref (a1 6), .ref (a1 7), .ref (a1 8), .ref (a1 9), .ref (a1 10), .ref (a1 11), .ref (a1 12)])), ((a1 1), .inl (q 0, 4, .inl (t1.2.1 0))), ((a1 2), .inl (q 0, 4, .inl (t1.2.1 1))), ((a1 3), .inl (q 0, 160, .inl (t1.2.1 2))), ((a1 4), .inl (q 0, 40, .inl (t1.2.1 3))), ((a1 5), .inl (q 0, 40, .inl (t1.2.1 4))), ((a1 6), .inl (q 0, 40, .inl (t1.2.1 5))), ((a1 7), .inl (q 0, 40, .inl (t1.2.1 6))), ((a1 8), .inl (q 0, 40, .inl (t1.2.1 7))), ((a1 9), .inl (q 0, 40, .inl (t1.2.1 8))), ((a1 10), .inl (q 0, 40, .inl (t1.2.1 9))), ((a1 11), .inl (q 1, 40, .inr (.inl t1.2.2.1))), ((a1 12), .inl (q 0, t1.2.2.2.1, .inl t1.2.2.2.2))] H := hP
        have hD : va_D _ [((a0 0), .inr (1, [.ref (a0 1), .ref (a0 2), .ref (a0 3), .int (u_5.1 0), .int (u_5.1 1), .int (u_5.1 2), .int (u_5.1 3), .int (u_5.1 4), .int (u_5.1 5), .int (u_5.1 6), .int (u_5.1 7), .int (u_5.1 8)])), ((a0 1), .inl (q 0, 40, .inl (u_5.2 0))), ((a0 2), .inl (q 0, 40, .inl (u_5.2 1))), ((a0 3), .inl (q 0, 40, .inl (u_5.2 2))), ((a1 0), .inr (0, [.int (t1.1 0), .int (t1.1 1), .int (t1.1 2), .int (t1.1 3), .int (t1.1 4), .int (t1.1 5), .ref (a1 1), .ref (a1 2), .ref (a1 3), .ref (a1 4), .ref (a1 5), .ref (a1 6), .ref (a1 7), .ref (a1 8), .ref (a1 9), .ref (a1 10), .ref (a1 11), .ref (a1 12)])), ((a1 1), .inl (q 0, 4, .inl (t1.2.1 0))), ((a1 2), .inl (q 0, 4, .inl (t1.2.1 1))), ((a1 3), .inl (q 0, 160, .inl (t1.2.1 2))), ((a1 4), .inl (q 0, 40, .inl (t1.2.1 3))), ((a1 5), .inl (q 0, 40, .inl (t1.2.1 4))), ((a1 6), .inl (q 0, 40, .inl (t1.2.1 5))), ((a1 7), .inl (q 0, 40, .inl (t1.2.1 6))), ((a1 8), .inl (q 0, 40, .inl (t1.2.1 7))), ((a1 9), .inl (q 0, 40, .inl (t1.2.1 8))), ((a1 10), .inl (q 0, 40, .inl (t1.2.1 9))), ((a1 11), .inl (q 1, 40, .inr (.inl t1.2.2.1))), ((a1 12), .inl (q 0, t1.2.2.2.1, .inl t1.2.2.2.2))] := hD
        refine lv_aload_n hx hb dX2_turn_16 rfl (lv_at hl 2 rfl) ?_
        refine fl_get (C := RX2) (T := TX2) (N := 12) (ci := 1) (v := .int (u_5.1 0)) hx hb ht in_X2 hown hK hP 0 rfl rfl 3 (by decide) mw_256 rfl dX2_turn_17 ?_
        refine lv_if_ne (tgt := 24) hx hb dX2_turn_20 (by decide) (fun c_6 => ?_) (fun c_6 => ?_)
        · replace h := h.1 c_6
          refine lv_iconst (v := 0) hx hb dX2_turn_24 (by decide) ?_
          refine lv_istore (lv' := [(4, .int 0), (2, .int z2), (3, .int z3), (0, .ref (a0 0)), (1, .ref (a1 0))]) hx hb dX2_turn_25 hl (by decide) rfl (fun ls hl => ?_)
          have lp27 : ∀ (e62 : Mo → Bd → Int32 → Int32 → Int32 → Prop) (k62 : ∀ (t0 : Mo) (t1 : Bd) (z2 : Int32) (z3 : Int32) (z4 : Int32) (H : Heap) (locs : List Loc) (ls : Array Slot), e62 t0 t1 z2 z3 z4 → va_P D vwCl (mo_w a0 q t0 ++ bd_w a1 q t1) H → va_D (va_A (mo_w a0 q s0 ++ bd_w a1 q s1) sz) (mo_w a0 q t0 ++ bd_w a1 q t1) → va_S (va_A (mo_w a0 q s0 ++ bd_w a1 q s1) sz) s.heap H locs → lv_has ls 5 [(2, .int z2), (3, .int z3), (4, .int z4), (0, .ref (a0 0)), (1, .ref (a1 0))] → W p l e ({ frames := 3, cells := 0, slots := 0, locals := 90 } : Room) s m [.ref (a0 0), .ref (a1 0), .int x2].toArray below meth c H locs 0 0 (MQ below (va_Qv (fun u : Mo × Bd => post u.1 u.2) (mt_B D (mo_w a0 q s0 ++ bd_w a1 q s1) sz (fun u : Mo × Bd => mo_w a0 q u.1 ++ bd_w a1 q u.2)) (va_A (mo_w a0 q s0 ++ bd_w a1 q s1) sz)) [.ref (a0 0), .ref (a1 0), .int x2].toArray s 0 0 (va_A (mo_w a0 q s0 ++ bd_w a1 q s1) sz)) (F0 m 62 ls [])) (n : Nat) (t0 : Mo) (t1 : Bd) (z2 : Int32) (z3 : Int32) (z4 : Int32) (H : Heap) (locs : List Loc) (ls : Array Slot), wp_X2_turn_L27 post e62 n t0 t1 z2 z3 z4 → va_P D vwCl (mo_w a0 q t0 ++ bd_w a1 q t1) H → va_D (va_A (mo_w a0 q s0 ++ bd_w a1 q s1) sz) (mo_w a0 q t0 ++ bd_w a1 q t1) → va_S (va_A (mo_w a0 q s0 ++ bd_w a1 q s1) sz) s.heap H locs → lv_has ls 5 [(2, .int z2), (3, .int z3), (4, .int z4), (0, .ref (a0 0)), (1, .ref (a1 0))] → W p l e ({ frames := 3, cells := 0, slots := 0, locals := 90 } : Room) s m [.ref (a0 0), .ref (a1 0), .int x2].toArray below meth c H locs 0 0 (MQ below (va_Qv (fun u : Mo × Bd => post u.1 u.2) (mt_B D (mo_w a0 q s0 ++ bd_w a1 q s1) sz (fun u : Mo × Bd => mo_w a0 q u.1 ++ bd_w a1 q u.2)) (va_A (mo_w a0 q s0 ++ bd_w a1 q s1) sz)) [.ref (a0 0), .ref (a1 0), .int x2].toArray s 0 0 (va_A (mo_w a0 q s0 ++ bd_w a1 q s1) sz)) (F0 m 27 ls []) := by
            intro e62 k62 n
            induction n with
            | zero =>
              intro t0 t1 z2 z3 z4 H locs ls h
              exact h.elim
            | succ n ih =>
              intro t0 t1 z2 z3 z4 H locs ls h hP hD hS hl
              have hP : va_P D vwCl [((a0 0), .inr (1, [.ref (a0 1), .ref (a0 2), .ref (a0 3), .int (t0.1 0), .int (t0.1 1), .int (t0.1 2), .int (t0.1 3), .int (t0.1 4), .int (t0.1 5), .int (t0.1 6), .int (t0.1 7), .int (t0.1 8)])), ((a0 1), .inl (q 0, 40, .inl (t0.2 0))), ((a0 2), .inl (q 0, 40, .inl (t0.2 1))), ((a0 3), .inl (q 0, 40, .inl (t0.2 2))), ((a1 0), .inr (0, [.int (t1.1 0), .int (t1.1 1), .int (t1.1 2), .int (t1.1 3), .int (t1.1 4), .int (t1.1 5), .ref (a1 1), .ref (a1 2), .ref (a1 3), .ref (a1 4), .ref (a1 5), .ref (a1 6), .ref (a1 7), .ref (a1 8), .ref (a1 9), .ref (a1 10), .ref (a1 11), .ref (a1 12)])), ((a1 1), .inl (q 0, 4, .inl (t1.2.1 0))), ((a1 2), .inl (q 0, 4, .inl (t1.2.1 1))), ((a1 3), .inl (q 0, 160, .inl (t1.2.1 2))), ((a1 4), .inl (q 0, 40, .inl (t1.2.1 3))), ((a1 5), .inl (q 0, 40, .inl (t1.2.1 4))), ((a1 6), .inl (q 0, 40, .inl (t1.2.1 5))), ((a1 7), .inl (q 0, 40, .inl (t1.2.1 6))), ((a1 8), .inl (q 0, 40, .inl (t1.2.1 7))), ((a1 9), .inl (q 0, 40, .inl (t1.2.1 8))), ((a1 10), .inl (q 0, 40, .inl (t1.2.1 9))), ((a1 11), .inl (q 1, 40, .inr (.inl t1.2.2.1))), ((a1 12), .inl (q 0, t1.2.2.2.1, .inl t1.2.2.2.2))] H := hP
              have hD : va_D _ [((a0 0), .inr (1, [.ref (a0 1), .ref (a0 2), .ref (a0 3), .int (t0.1 0), .int (t0.1 1), .int (t0.1 2), .int (t0.1 3), .int (t0.1 4), .int (t0.1 5), .int (t0.1 6), .int (t0.1 7), .int (t0.1 8)])), ((a0 1), .inl (q 0, 40, .inl (t0.2 0))), ((a0 2), .inl (q 0, 40, .inl (t0.2 1))), ((a0 3), .inl (q 0, 40, .inl (t0.2 2))), ((a1 0), .inr (0, [.int (t1.1 0), .int (t1.1 1), .int (t1.1 2), .int (t1.1 3), .int (t1.1 4), .int (t1.1 5), .ref (a1 1), .ref (a1 2), .ref (a1 3), .ref (a1 4), .ref (a1 5), .ref (a1 6), .ref (a1 7), .ref (a1 8), .ref (a1 9), .ref (a1 10), .ref (a1 11), .ref (a1 12)])), ((a1 1), .inl (q 0, 4, .inl (t1.2.1 0))), ((a1 2), .inl (q 0, 4, .inl (t1.2.1 1))), ((a1 3), .inl (q 0, 160, .inl (t1.2.1 2))), ((a1 4), .inl (q 0, 40, .inl (t1.2.1 3))), ((a1 5), .inl (q 0, 40, .inl (t1.2.1 4))), ((a1 6), .inl (q 0, 40, .inl (t1.2.1 5))), ((a1 7), .inl (q 0, 40, .inl (t1.2.1 6))), ((a1 8), .inl (q 0, 40, .inl (t1.2.1 7))), ((a1 9), .inl (q 0, 40, .inl (t1.2.1 8))), ((a1 10), .inl (q 0, 40, .inl (t1.2.1 9))), ((a1 11), .inl (q 1, 40, .inr (.inl t1.2.2.1))), ((a1 12), .inl (q 0, t1.2.2.2.1, .inl t1.2.2.2.2))] := hD
              unfold wp_X2_turn_L27 at h
              refine lv_iload hx hb dX2_turn_27 (lv_at hl 2 rfl) ?_
              refine lv_aload_n hx hb dX2_turn_29 rfl (lv_at hl 3 rfl) ?_
              refine fl_get (C := RX2) (T := TX2) (N := 12) (ci := 1) (v := .int (t0.1 0)) hx hb ht in_X2 hown hK hP 0 rfl rfl 3 (by decide) mw_256 rfl dX2_turn_30 ?_
              refine lv_icmp_ge (tgt := 62) hx hb dX2_turn_33 (by decide) (fun c_7 => ?_) (fun c_7 => ?_)
              · replace h := h.1 c_7
                exact k62 _ _ _ _ _ _ _ ls h (hP.sub (ws' := mo_w a0 q t0 ++ bd_w a1 q t1) [0, 1, 2, 3, 4, 5, 6, 7, 8, 9, 10, 11, 12, 13, 14, 15, 16] rfl) (hD.sub (ws' := mo_w a0 q t0 ++ bd_w a1 q t1) [0, 1, 2, 3, 4, 5, 6, 7, 8, 9, 10, 11, 12, 13, 14, 15, 16] (by decide) rfl) hS (lv_sub hl [0, 1, 2, 3, 4] rfl)
              · replace h := h.2 c_7
                refine lv_aload_n hx hb dX2_turn_36 rfl (lv_at hl 3 rfl) ?_
                refine lv_dup hx hb dX2_turn_37 rfl ?_
                refine fl_get (C := RX2) (T := TX2) (N := 12) (ci := 1) (v := .int (t0.1 8)) hx hb ht in_X2 hown hK hP 0 rfl rfl 11 (by decide) mw_271 rfl dX2_turn_38 ?_
                refine lv_aload_n hx hb dX2_turn_41 rfl (lv_at hl 4 rfl) ?_
                refine lv_aload_n hx hb dX2_turn_42 rfl (lv_at hl 3 rfl) ?_
                refine fl_get (C := RX2) (T := TX2) (N := 12) (ci := 1) (v := .ref (a0 3)) hx hb ht in_X2 hown hK hP 0 rfl rfl 2 (by decide) mw_255 rfl dX2_turn_43 ?_
                refine lv_iload hx hb dX2_turn_46 (lv_at hl 2 rfl) ?_
                obtain ⟨g_8, h⟩ := h
                refine va_iald hx hb hK hP 3 0 rfl rfl g_8 dX2_turn_48 ?_
                refine mt_goi (mt_wV (wc := bd_w a1 q t1) (As := [.int ((t0.2 2) (Int32.toNatClampNeg z4))]) (rest := [.int (t0.1 8), .ref (a0 0)]) hx hb hml hown ht (c2_X0_stepOn h) wd_X0_stepOn mw_710 hQ hV hS hA (hP.sub [4, 5, 6, 7, 8, 9, 10, 11, 12, 13, 14, 15, 16] rfl) (hD.sub [4, 5, 6, 7, 8, 9, 10, 11, 12, 13, 14, 15, 16] (by decide) rfl) rfl rfl rfl hl.1 rfl (Nat.le_of_ble_eq_true rfl) dX2_turn_49 ⟨Nat.le_of_ble_eq_true rfl, Nat.le_of_ble_eq_true rfl, rfl, rfl⟩ ⟨Nat.le_of_ble_eq_true rfl, Nat.le_of_ble_eq_true rfl⟩) (wr := [((a0 0), .inr (1, [.ref (a0 1), .ref (a0 2), .ref (a0 3), .int (t0.1 0), .int (t0.1 1), .int (t0.1 2), .int (t0.1 3), .int (t0.1 4), .int (t0.1 5), .int (t0.1 6), .int (t0.1 7), .int (t0.1 8)])), ((a0 1), .inl (q 0, 40, .inl (t0.2 0))), ((a0 2), .inl (q 0, 40, .inl (t0.2 1))), ((a0 3), .inl (q 0, 40, .inl (t0.2 2)))]) hP hD hS hA [4, 5, 6, 7, 8, 9, 10, 11, 12, 13, 14, 15, 16] [0, 1, 2, 3] rfl rfl (by decide) (by decide) (fun r_9 u_10 H locs h hP hD hS => ?_)
                try dsimp only at h
                have hP : va_P D vwCl [((a0 0), .inr (1, [.ref (a0 1), .ref (a0 2), .ref (a0 3), .int (t0.1 0), .int (t0.1 1), .int (t0.1 2), .int (t0.1 3), .int (t0.1 4), .int (t0.1 5), .int (t0.1 6), .int (t0.1 7), .int (t0.1 8)])), ((a0 1), .inl (q 0, 40, .inl (t0.2 0))), ((a0 2), .inl (q 0, 40, .inl (t0.2 1))), ((a0 3), .inl (q 0, 40, .inl (t0.2 2))), ((a1 0), .inr (0, [.int (u_10.1 0), .int (u_10.1 1), .int (u_10.1 2), .int (u_10.1 3), .int (u_10.1 4), .int (u_10.1 5), .ref (a1 1), .ref (a1 2), .ref (a1 3), .ref (a1 4), .ref (a1 5), .ref (a1 6), .ref (a1 7), .ref (a1 8), .ref (a1 9), .ref (a1 10), .ref (a1 11), .ref (a1 12)])), ((a1 1), .inl (q 0, 4, .inl (u_10.2.1 0))), ((a1 2), .inl (q 0, 4, .inl (u_10.2.1 1))), ((a1 3), .inl (q 0, 160, .inl (u_10.2.1 2))), ((a1 4), .inl (q 0, 40, .inl (u_10.2.1 3))), ((a1 5), .inl (q 0, 40, .inl (u_10.2.1 4))), ((a1 6), .inl (q 0, 40, .inl (u_10.2.1 5))), ((a1 7), .inl (q 0, 40, .inl (u_10.2.1 6))), ((a1 8), .inl (q 0, 40, .inl (u_10.2.1 7))), ((a1 9), .inl (q 0, 40, .inl (u_10.2.1 8))), ((a1 10), .inl (q 0, 40, .inl (u_10.2.1 9))), ((a1 11), .inl (q 1, 40, .inr (.inl u_10.2.2.1))), ((a1 12), .inl (q 0, u_10.2.2.2.1, .inl u_10.2.2.2.2))] H := hP
                have hD : va_D _ [((a0 0), .inr (1, [.ref (a0 1), .ref (a0 2), .ref (a0 3), .int (t0.1 0), .int (t0.1 1), .int (t0.1 2), .int (t0.1 3), .int (t0.1 4), .int (t0.1 5), .int (t0.1 6), .int (t0.1 7), .int (t0.1 8)])), ((a0 1), .inl (q 0, 40, .inl (t0.2 0))), ((a0 2), .inl (q 0, 40, .inl (t0.2 1))), ((a0 3), .inl (q 0, 40, .inl (t0.2 2))), ((a1 0), .inr (0, [.int (u_10.1 0), .int (u_10.1 1), .int (u_10.1 2), .int (u_10.1 3), .int (u_10.1 4), .int (u_10.1 5), .ref (a1 1), .ref (a1 2), .ref (a1 3), .ref (a1 4), .ref (a1 5), .ref (a1 6), .ref (a1 7), .ref (a1 8), .ref (a1 9), .ref (a1 10), .ref (a1 11), .ref (a1 12)])), ((a1 1), .inl (q 0, 4, .inl (u_10.2.1 0))), ((a1 2), .inl (q 0, 4, .inl (u_10.2.1 1))), ((a1 3), .inl (q 0, 160, .inl (u_10.2.1 2))), ((a1 4), .inl (q 0, 40, .inl (u_10.2.1 3))), ((a1 5), .inl (q 0, 40, .inl (u_10.2.1 4))), ((a1 6), .inl (q 0, 40, .inl (u_10.2.1 5))), ((a1 7), .inl (q 0, 40, .inl (u_10.2.1 6))), ((a1 8), .inl (q 0, 40, .inl (u_10.2.1 7))), ((a1 9), .inl (q 0, 40, .inl (u_10.2.1 8))), ((a1 10), .inl (q 0, 40, .inl (u_10.2.1 9))), ((a1 11), .inl (q 1, 40, .inr (.inl u_10.2.2.1))), ((a1 12), .inl (q 0, u_10.2.2.2.1, .inl u_10.2.2.2.2))] := hD
                refine lv_iadd hx hb dX2_turn_52 ?_
                refine fl_put (C := RX2) (T := TX2) (N := 12) (ci := 1) (v := .int ((t0.1 8) + r_9)) (ws2 := [((a0 0), .inr (1, [.ref (a0 1), .ref (a0 2), .ref (a0 3), .int (t0.1 0), .int (t0.1 1), .int (t0.1 2), .int (t0.1 3), .int (t0.1 4), .int (t0.1 5), .int (t0.1 6), .int (t0.1 7), .int ((t0.1 8) + r_9)])), ((a0 1), .inl (q 0, 40, .inl (t0.2 0))), ((a0 2), .inl (q 0, 40, .inl (t0.2 1))), ((a0 3), .inl (q 0, 40, .inl (t0.2 2))), ((a1 0), .inr (0, [.int (u_10.1 0), .int (u_10.1 1), .int (u_10.1 2), .int (u_10.1 3), .int (u_10.1 4), .int (u_10.1 5), .ref (a1 1), .ref (a1 2), .ref (a1 3), .ref (a1 4), .ref (a1 5), .ref (a1 6), .ref (a1 7), .ref (a1 8), .ref (a1 9), .ref (a1 10), .ref (a1 11), .ref (a1 12)])), ((a1 1), .inl (q 0, 4, .inl (u_10.2.1 0))), ((a1 2), .inl (q 0, 4, .inl (u_10.2.1 1))), ((a1 3), .inl (q 0, 160, .inl (u_10.2.1 2))), ((a1 4), .inl (q 0, 40, .inl (u_10.2.1 3))), ((a1 5), .inl (q 0, 40, .inl (u_10.2.1 4))), ((a1 6), .inl (q 0, 40, .inl (u_10.2.1 5))), ((a1 7), .inl (q 0, 40, .inl (u_10.2.1 6))), ((a1 8), .inl (q 0, 40, .inl (u_10.2.1 7))), ((a1 9), .inl (q 0, 40, .inl (u_10.2.1 8))), ((a1 10), .inl (q 0, 40, .inl (u_10.2.1 9))), ((a1 11), .inl (q 1, 40, .inr (.inl u_10.2.2.1))), ((a1 12), .inl (q 0, u_10.2.2.2.1, .inl u_10.2.2.2.2))]) hx hb ht in_X2 tyX2_ok nmX2 hown hK hP hD hS 0 rfl rfl 11 (by decide) mw_271 rfl rfl rfl (Nat.le_of_ble_eq_true rfl) dX2_turn_53 rfl (fun H locs hP hD hS => ?_)
                refine lv_iinc (v := (z4 + 1)) (lv' := [(4, .int (z4 + 1)), (2, .int z2), (3, .int z3), (0, .ref (a0 0)), (1, .ref (a1 0))]) hx hb dX2_turn_56 hl (k := 2) rfl rfl (by decide) rfl (fun ls hl => ?_)
                refine lv_goto (tgt := 27) hx hb dX2_turn_59 (by decide) ?_
                exact ih _ _ _ _ _ _ _ ls h (hP.sub (ws' := mo_w a0 q ((va_up t0.1 8 ((t0.1 8) + r_9)), t0.2) ++ bd_w a1 q u_10) [0, 1, 2, 3, 4, 5, 6, 7, 8, 9, 10, 11, 12, 13, 14, 15, 16] rfl) (hD.sub (ws' := mo_w a0 q ((va_up t0.1 8 ((t0.1 8) + r_9)), t0.2) ++ bd_w a1 q u_10) [0, 1, 2, 3, 4, 5, 6, 7, 8, 9, 10, 11, 12, 13, 14, 15, 16] (by decide) rfl) hS (lv_sub hl [1, 2, 0, 3, 4] rfl)
          obtain ⟨n27, h⟩ := h
          refine lp27 _ ?_ n27 _ _ _ _ _ _ _ ls h (hP.sub (ws' := mo_w a0 q u_5 ++ bd_w a1 q t1) [0, 1, 2, 3, 4, 5, 6, 7, 8, 9, 10, 11, 12, 13, 14, 15, 16] rfl) (hD.sub (ws' := mo_w a0 q u_5 ++ bd_w a1 q t1) [0, 1, 2, 3, 4, 5, 6, 7, 8, 9, 10, 11, 12, 13, 14, 15, 16] (by decide) rfl) hS (lv_sub hl [1, 2, 0, 3, 4] rfl)
          · intro t0 t1 z2 z3 z4 H locs ls h hP hD hS hl
            try dsimp only at h
            have hP : va_P D vwCl [((a0 0), .inr (1, [.ref (a0 1), .ref (a0 2), .ref (a0 3), .int (t0.1 0), .int (t0.1 1), .int (t0.1 2), .int (t0.1 3), .int (t0.1 4), .int (t0.1 5), .int (t0.1 6), .int (t0.1 7), .int (t0.1 8)])), ((a0 1), .inl (q 0, 40, .inl (t0.2 0))), ((a0 2), .inl (q 0, 40, .inl (t0.2 1))), ((a0 3), .inl (q 0, 40, .inl (t0.2 2))), ((a1 0), .inr (0, [.int (t1.1 0), .int (t1.1 1), .int (t1.1 2), .int (t1.1 3), .int (t1.1 4), .int (t1.1 5), .ref (a1 1), .ref (a1 2), .ref (a1 3), .ref (a1 4), .ref (a1 5), .ref (a1 6), .ref (a1 7), .ref (a1 8), .ref (a1 9), .ref (a1 10), .ref (a1 11), .ref (a1 12)])), ((a1 1), .inl (q 0, 4, .inl (t1.2.1 0))), ((a1 2), .inl (q 0, 4, .inl (t1.2.1 1))), ((a1 3), .inl (q 0, 160, .inl (t1.2.1 2))), ((a1 4), .inl (q 0, 40, .inl (t1.2.1 3))), ((a1 5), .inl (q 0, 40, .inl (t1.2.1 4))), ((a1 6), .inl (q 0, 40, .inl (t1.2.1 5))), ((a1 7), .inl (q 0, 40, .inl (t1.2.1 6))), ((a1 8), .inl (q 0, 40, .inl (t1.2.1 7))), ((a1 9), .inl (q 0, 40, .inl (t1.2.1 8))), ((a1 10), .inl (q 0, 40, .inl (t1.2.1 9))), ((a1 11), .inl (q 1, 40, .inr (.inl t1.2.2.1))), ((a1 12), .inl (q 0, t1.2.2.2.1, .inl t1.2.2.2.2))] H := hP
            have hD : va_D _ [((a0 0), .inr (1, [.ref (a0 1), .ref (a0 2), .ref (a0 3), .int (t0.1 0), .int (t0.1 1), .int (t0.1 2), .int (t0.1 3), .int (t0.1 4), .int (t0.1 5), .int (t0.1 6), .int (t0.1 7), .int (t0.1 8)])), ((a0 1), .inl (q 0, 40, .inl (t0.2 0))), ((a0 2), .inl (q 0, 40, .inl (t0.2 1))), ((a0 3), .inl (q 0, 40, .inl (t0.2 2))), ((a1 0), .inr (0, [.int (t1.1 0), .int (t1.1 1), .int (t1.1 2), .int (t1.1 3), .int (t1.1 4), .int (t1.1 5), .ref (a1 1), .ref (a1 2), .ref (a1 3), .ref (a1 4), .ref (a1 5), .ref (a1 6), .ref (a1 7), .ref (a1 8), .ref (a1 9), .ref (a1 10), .ref (a1 11), .ref (a1 12)])), ((a1 1), .inl (q 0, 4, .inl (t1.2.1 0))), ((a1 2), .inl (q 0, 4, .inl (t1.2.1 1))), ((a1 3), .inl (q 0, 160, .inl (t1.2.1 2))), ((a1 4), .inl (q 0, 40, .inl (t1.2.1 3))), ((a1 5), .inl (q 0, 40, .inl (t1.2.1 4))), ((a1 6), .inl (q 0, 40, .inl (t1.2.1 5))), ((a1 7), .inl (q 0, 40, .inl (t1.2.1 6))), ((a1 8), .inl (q 0, 40, .inl (t1.2.1 7))), ((a1 9), .inl (q 0, 40, .inl (t1.2.1 8))), ((a1 10), .inl (q 0, 40, .inl (t1.2.1 9))), ((a1 11), .inl (q 1, 40, .inr (.inl t1.2.2.1))), ((a1 12), .inl (q 0, t1.2.2.2.1, .inl t1.2.2.2.2))] := hD
            refine lv_aload_n hx hb dX2_turn_62 rfl (lv_at hl 4 rfl) ?_
            refine lv_dup hx hb dX2_turn_63 rfl ?_
            refine fl_get (C := RX0) (T := TX0) (N := 18) (ci := 0) (v := .int (t1.1 4)) hx hb ht in_X0 hown hK hP 4 rfl rfl 4 (by decide) mw_183 rfl dX2_turn_64 ?_
            refine lv_aload_n hx hb dX2_turn_67 rfl (lv_at hl 3 rfl) ?_
            refine fl_get (C := RX2) (T := TX2) (N := 12) (ci := 1) (v := .int (t0.1 0)) hx hb ht in_X2 hown hK hP 0 rfl rfl 3 (by decide) mw_256 rfl dX2_turn_68 ?_
            refine lv_aload_n hx hb dX2_turn_71 rfl (lv_at hl 3 rfl) ?_
            refine fl_get (C := RX2) (T := TX2) (N := 12) (ci := 1) (v := .int (t0.1 0)) hx hb ht in_X2 hown hK hP 0 rfl rfl 3 (by decide) mw_256 rfl dX2_turn_72 ?_
            refine lv_imul hx hb dX2_turn_75 ?_
            refine lv_iadd hx hb dX2_turn_76 ?_
            refine fl_put (C := RX0) (T := TX0) (N := 18) (ci := 0) (v := .int ((t1.1 4) + ((t0.1 0) * (t0.1 0)))) (ws2 := [((a0 0), .inr (1, [.ref (a0 1), .ref (a0 2), .ref (a0 3), .int (t0.1 0), .int (t0.1 1), .int (t0.1 2), .int (t0.1 3), .int (t0.1 4), .int (t0.1 5), .int (t0.1 6), .int (t0.1 7), .int (t0.1 8)])), ((a0 1), .inl (q 0, 40, .inl (t0.2 0))), ((a0 2), .inl (q 0, 40, .inl (t0.2 1))), ((a0 3), .inl (q 0, 40, .inl (t0.2 2))), ((a1 0), .inr (0, [.int (t1.1 0), .int (t1.1 1), .int (t1.1 2), .int (t1.1 3), .int ((t1.1 4) + ((t0.1 0) * (t0.1 0))), .int (t1.1 5), .ref (a1 1), .ref (a1 2), .ref (a1 3), .ref (a1 4), .ref (a1 5), .ref (a1 6), .ref (a1 7), .ref (a1 8), .ref (a1 9), .ref (a1 10), .ref (a1 11), .ref (a1 12)])), ((a1 1), .inl (q 0, 4, .inl (t1.2.1 0))), ((a1 2), .inl (q 0, 4, .inl (t1.2.1 1))), ((a1 3), .inl (q 0, 160, .inl (t1.2.1 2))), ((a1 4), .inl (q 0, 40, .inl (t1.2.1 3))), ((a1 5), .inl (q 0, 40, .inl (t1.2.1 4))), ((a1 6), .inl (q 0, 40, .inl (t1.2.1 5))), ((a1 7), .inl (q 0, 40, .inl (t1.2.1 6))), ((a1 8), .inl (q 0, 40, .inl (t1.2.1 7))), ((a1 9), .inl (q 0, 40, .inl (t1.2.1 8))), ((a1 10), .inl (q 0, 40, .inl (t1.2.1 9))), ((a1 11), .inl (q 1, 40, .inr (.inl t1.2.2.1))), ((a1 12), .inl (q 0, t1.2.2.2.1, .inl t1.2.2.2.2))]) hx hb ht in_X0 tyX0_ok nmX0 hown hK hP hD hS 4 rfl rfl 4 (by decide) mw_183 rfl rfl rfl (Nat.le_of_ble_eq_true rfl) dX2_turn_77 rfl (fun H locs hP hD hS => ?_)
            refine lv_aload_n hx hb dX2_turn_80 rfl (lv_at hl 4 rfl) ?_
            refine lv_dup hx hb dX2_turn_81 rfl ?_
            refine fl_get (C := RX0) (T := TX0) (N := 18) (ci := 0) (v := .int (t1.1 5)) hx hb ht in_X0 hown hK hP 4 rfl rfl 5 (by decide) mw_186 rfl dX2_turn_82 ?_
            refine lv_iconst (v := 1) hx hb dX2_turn_85 (by decide) ?_
            refine lv_iadd hx hb dX2_turn_86 ?_
            refine fl_put (C := RX0) (T := TX0) (N := 18) (ci := 0) (v := .int ((t1.1 5) + 1)) (ws2 := [((a0 0), .inr (1, [.ref (a0 1), .ref (a0 2), .ref (a0 3), .int (t0.1 0), .int (t0.1 1), .int (t0.1 2), .int (t0.1 3), .int (t0.1 4), .int (t0.1 5), .int (t0.1 6), .int (t0.1 7), .int (t0.1 8)])), ((a0 1), .inl (q 0, 40, .inl (t0.2 0))), ((a0 2), .inl (q 0, 40, .inl (t0.2 1))), ((a0 3), .inl (q 0, 40, .inl (t0.2 2))), ((a1 0), .inr (0, [.int (t1.1 0), .int (t1.1 1), .int (t1.1 2), .int (t1.1 3), .int ((t1.1 4) + ((t0.1 0) * (t0.1 0))), .int ((t1.1 5) + 1), .ref (a1 1), .ref (a1 2), .ref (a1 3), .ref (a1 4), .ref (a1 5), .ref (a1 6), .ref (a1 7), .ref (a1 8), .ref (a1 9), .ref (a1 10), .ref (a1 11), .ref (a1 12)])), ((a1 1), .inl (q 0, 4, .inl (t1.2.1 0))), ((a1 2), .inl (q 0, 4, .inl (t1.2.1 1))), ((a1 3), .inl (q 0, 160, .inl (t1.2.1 2))), ((a1 4), .inl (q 0, 40, .inl (t1.2.1 3))), ((a1 5), .inl (q 0, 40, .inl (t1.2.1 4))), ((a1 6), .inl (q 0, 40, .inl (t1.2.1 5))), ((a1 7), .inl (q 0, 40, .inl (t1.2.1 6))), ((a1 8), .inl (q 0, 40, .inl (t1.2.1 7))), ((a1 9), .inl (q 0, 40, .inl (t1.2.1 8))), ((a1 10), .inl (q 0, 40, .inl (t1.2.1 9))), ((a1 11), .inl (q 1, 40, .inr (.inl t1.2.2.1))), ((a1 12), .inl (q 0, t1.2.2.2.1, .inl t1.2.2.2.2))]) hx hb ht in_X0 tyX0_ok nmX0 hown hK hP hD hS 4 rfl rfl 5 (by decide) mw_186 rfl rfl rfl (Nat.le_of_ble_eq_true rfl) dX2_turn_87 rfl (fun H locs hP hD hS => ?_)
            refine lv_aload_n hx hb dX2_turn_90 rfl (lv_at hl 3 rfl) ?_
            refine lv_aload_n hx hb dX2_turn_91 rfl (lv_at hl 3 rfl) ?_
            refine fl_get (C := RX2) (T := TX2) (N := 12) (ci := 1) (v := .int (t0.1 0)) hx hb ht in_X2 hown hK hP 0 rfl rfl 3 (by decide) mw_256 rfl dX2_turn_92 ?_
            refine lv_aload_n hx hb dX2_turn_95 rfl (lv_at hl 3 rfl) ?_
            refine fl_get (C := RX2) (T := TX2) (N := 12) (ci := 1) (v := .int (t0.1 0)) hx hb ht in_X2 hown hK hP 0 rfl rfl 3 (by decide) mw_256 rfl dX2_turn_96 ?_
            refine lv_imul hx hb dX2_turn_99 ?_
            refine mt_gov (mt_wV (wc := mo_w a0 q t0) (As := [.int ((t0.1 0) * (t0.1 0))]) (rest := []) hx hb hml hown ht (c2_X2_countTick h) wd_X2_countTick mw_717 hQ hV hS hA (hP.sub [0, 1, 2, 3] rfl) (hD.sub [0, 1, 2, 3] (by decide) rfl) rfl rfl rfl hl.1 rfl (Nat.le_of_ble_eq_true rfl) dX2_turn_100 ⟨Nat.le_of_ble_eq_true rfl, Nat.le_of_ble_eq_true rfl, rfl, rfl⟩ ⟨Nat.le_of_ble_eq_true rfl, Nat.le_of_ble_eq_true rfl⟩) (wr := [((a1 0), .inr (0, [.int (t1.1 0), .int (t1.1 1), .int (t1.1 2), .int (t1.1 3), .int ((t1.1 4) + ((t0.1 0) * (t0.1 0))), .int ((t1.1 5) + 1), .ref (a1 1), .ref (a1 2), .ref (a1 3), .ref (a1 4), .ref (a1 5), .ref (a1 6), .ref (a1 7), .ref (a1 8), .ref (a1 9), .ref (a1 10), .ref (a1 11), .ref (a1 12)])), ((a1 1), .inl (q 0, 4, .inl (t1.2.1 0))), ((a1 2), .inl (q 0, 4, .inl (t1.2.1 1))), ((a1 3), .inl (q 0, 160, .inl (t1.2.1 2))), ((a1 4), .inl (q 0, 40, .inl (t1.2.1 3))), ((a1 5), .inl (q 0, 40, .inl (t1.2.1 4))), ((a1 6), .inl (q 0, 40, .inl (t1.2.1 5))), ((a1 7), .inl (q 0, 40, .inl (t1.2.1 6))), ((a1 8), .inl (q 0, 40, .inl (t1.2.1 7))), ((a1 9), .inl (q 0, 40, .inl (t1.2.1 8))), ((a1 10), .inl (q 0, 40, .inl (t1.2.1 9))), ((a1 11), .inl (q 1, 40, .inr (.inl t1.2.2.1))), ((a1 12), .inl (q 0, t1.2.2.2.1, .inl t1.2.2.2.2))]) hP hD hS hA [0, 1, 2, 3] [4, 5, 6, 7, 8, 9, 10, 11, 12, 13, 14, 15, 16] rfl rfl (by decide) (by decide) (fun u_12 H locs h hP hD hS => ?_)
            try dsimp only at h
            have hP : va_P D vwCl [((a1 0), .inr (0, [.int (t1.1 0), .int (t1.1 1), .int (t1.1 2), .int (t1.1 3), .int ((t1.1 4) + ((t0.1 0) * (t0.1 0))), .int ((t1.1 5) + 1), .ref (a1 1), .ref (a1 2), .ref (a1 3), .ref (a1 4), .ref (a1 5), .ref (a1 6), .ref (a1 7), .ref (a1 8), .ref (a1 9), .ref (a1 10), .ref (a1 11), .ref (a1 12)])), ((a1 1), .inl (q 0, 4, .inl (t1.2.1 0))), ((a1 2), .inl (q 0, 4, .inl (t1.2.1 1))), ((a1 3), .inl (q 0, 160, .inl (t1.2.1 2))), ((a1 4), .inl (q 0, 40, .inl (t1.2.1 3))), ((a1 5), .inl (q 0, 40, .inl (t1.2.1 4))), ((a1 6), .inl (q 0, 40, .inl (t1.2.1 5))), ((a1 7), .inl (q 0, 40, .inl (t1.2.1 6))), ((a1 8), .inl (q 0, 40, .inl (t1.2.1 7))), ((a1 9), .inl (q 0, 40, .inl (t1.2.1 8))), ((a1 10), .inl (q 0, 40, .inl (t1.2.1 9))), ((a1 11), .inl (q 1, 40, .inr (.inl t1.2.2.1))), ((a1 12), .inl (q 0, t1.2.2.2.1, .inl t1.2.2.2.2)), ((a0 0), .inr (1, [.ref (a0 1), .ref (a0 2), .ref (a0 3), .int (u_12.1 0), .int (u_12.1 1), .int (u_12.1 2), .int (u_12.1 3), .int (u_12.1 4), .int (u_12.1 5), .int (u_12.1 6), .int (u_12.1 7), .int (u_12.1 8)])), ((a0 1), .inl (q 0, 40, .inl (u_12.2 0))), ((a0 2), .inl (q 0, 40, .inl (u_12.2 1))), ((a0 3), .inl (q 0, 40, .inl (u_12.2 2)))] H := hP
            have hD : va_D _ [((a1 0), .inr (0, [.int (t1.1 0), .int (t1.1 1), .int (t1.1 2), .int (t1.1 3), .int ((t1.1 4) + ((t0.1 0) * (t0.1 0))), .int ((t1.1 5) + 1), .ref (a1 1), .ref (a1 2), .ref (a1 3), .ref (a1 4), .ref (a1 5), .ref (a1 6), .ref (a1 7), .ref (a1 8), .ref (a1 9), .ref (a1 10), .ref (a1 11), .ref (a1 12)])), ((a1 1), .inl (q 0, 4, .inl (t1.2.1 0))), ((a1 2), .inl (q 0, 4, .inl (t1.2.1 1))), ((a1 3), .inl (q 0, 160, .inl (t1.2.1 2))), ((a1 4), .inl (q 0, 40, .inl (t1.2.1 3))), ((a1 5), .inl (q 0, 40, .inl (t1.2.1 4))), ((a1 6), .inl (q 0, 40, .inl (t1.2.1 5))), ((a1 7), .inl (q 0, 40, .inl (t1.2.1 6))), ((a1 8), .inl (q 0, 40, .inl (t1.2.1 7))), ((a1 9), .inl (q 0, 40, .inl (t1.2.1 8))), ((a1 10), .inl (q 0, 40, .inl (t1.2.1 9))), ((a1 11), .inl (q 1, 40, .inr (.inl t1.2.2.1))), ((a1 12), .inl (q 0, t1.2.2.2.1, .inl t1.2.2.2.2)), ((a0 0), .inr (1, [.ref (a0 1), .ref (a0 2), .ref (a0 3), .int (u_12.1 0), .int (u_12.1 1), .int (u_12.1 2), .int (u_12.1 3), .int (u_12.1 4), .int (u_12.1 5), .int (u_12.1 6), .int (u_12.1 7), .int (u_12.1 8)])), ((a0 1), .inl (q 0, 40, .inl (u_12.2 0))), ((a0 2), .inl (q 0, 40, .inl (u_12.2 1))), ((a0 3), .inl (q 0, 40, .inl (u_12.2 2)))] := hD
            refine lv_iinc (v := (z3 + 1)) (lv' := [(3, .int (z3 + 1)), (2, .int z2), (4, .int z4), (0, .ref (a0 0)), (1, .ref (a1 0))]) hx hb dX2_turn_103 hl (k := 1) rfl rfl (by decide) rfl (fun ls hl => ?_)
            refine lv_goto (tgt := 6) hx hb dX2_turn_106 (by decide) ?_
            exact ih _ _ _ _ _ _ ls h (hP.sub (ws' := mo_w a0 q u_12 ++ bd_w a1 q ((va_up (va_up t1.1 4 ((t1.1 4) + ((t0.1 0) * (t0.1 0)))) 5 ((t1.1 5) + 1)), t1.2.1, t1.2.2.1, t1.2.2.2.1, t1.2.2.2.2)) [13, 14, 15, 16, 0, 1, 2, 3, 4, 5, 6, 7, 8, 9, 10, 11, 12] rfl) (hD.sub (ws' := mo_w a0 q u_12 ++ bd_w a1 q ((va_up (va_up t1.1 4 ((t1.1 4) + ((t0.1 0) * (t0.1 0)))) 5 ((t1.1 5) + 1)), t1.2.1, t1.2.2.1, t1.2.2.2.1, t1.2.2.2.2)) [13, 14, 15, 16, 0, 1, 2, 3, 4, 5, 6, 7, 8, 9, 10, 11, 12] (by decide) rfl) hS (lv_sub hl [1, 0, 3, 4] rfl)
        · replace h := h.2 c_6
          exact mt_vret (u_5, t1) hx hb hr hk h (hP.sub (ws' := mo_w a0 q u_5 ++ bd_w a1 q t1) [0, 1, 2, 3, 4, 5, 6, 7, 8, 9, 10, 11, 12, 13, 14, 15, 16] rfl) (hD.sub (ws' := mo_w a0 q u_5 ++ bd_w a1 q t1) [0, 1, 2, 3, 4, 5, 6, 7, 8, 9, 10, 11, 12, 13, 14, 15, 16] (by decide) rfl) hS dX2_turn_23
  obtain ⟨n6, h⟩ := h
  refine lp6 _ ?_ n6 _ _ _ _ _ _ ls h (hP.sub (ws' := mo_w a0 q u_2 ++ bd_w a1 q s1) [13, 14, 15, 16, 0, 1, 2, 3, 4, 5, 6, 7, 8, 9, 10, 11, 12] rfl) (hD.sub (ws' := mo_w a0 q u_2 ++ bd_w a1 q s1) [13, 14, 15, 16, 0, 1, 2, 3, 4, 5, 6, 7, 8, 9, 10, 11, 12] (by decide) rfl) hS (lv_sub hl [3, 0, 1, 2] rfl)
  · intro t0 t1 z2 z3 H locs ls h hP hD hS hl
    try dsimp only at h
    have hP : va_P D vwCl [((a0 0), .inr (1, [.ref (a0 1), .ref (a0 2), .ref (a0 3), .int (t0.1 0), .int (t0.1 1), .int (t0.1 2), .int (t0.1 3), .int (t0.1 4), .int (t0.1 5), .int (t0.1 6), .int (t0.1 7), .int (t0.1 8)])), ((a0 1), .inl (q 0, 40, .inl (t0.2 0))), ((a0 2), .inl (q 0, 40, .inl (t0.2 1))), ((a0 3), .inl (q 0, 40, .inl (t0.2 2))), ((a1 0), .inr (0, [.int (t1.1 0), .int (t1.1 1), .int (t1.1 2), .int (t1.1 3), .int (t1.1 4), .int (t1.1 5), .ref (a1 1), .ref (a1 2), .ref (a1 3), .ref (a1 4), .ref (a1 5), .ref (a1 6), .ref (a1 7), .ref (a1 8), .ref (a1 9), .ref (a1 10), .ref (a1 11), .ref (a1 12)])), ((a1 1), .inl (q 0, 4, .inl (t1.2.1 0))), ((a1 2), .inl (q 0, 4, .inl (t1.2.1 1))), ((a1 3), .inl (q 0, 160, .inl (t1.2.1 2))), ((a1 4), .inl (q 0, 40, .inl (t1.2.1 3))), ((a1 5), .inl (q 0, 40, .inl (t1.2.1 4))), ((a1 6), .inl (q 0, 40, .inl (t1.2.1 5))), ((a1 7), .inl (q 0, 40, .inl (t1.2.1 6))), ((a1 8), .inl (q 0, 40, .inl (t1.2.1 7))), ((a1 9), .inl (q 0, 40, .inl (t1.2.1 8))), ((a1 10), .inl (q 0, 40, .inl (t1.2.1 9))), ((a1 11), .inl (q 1, 40, .inr (.inl t1.2.2.1))), ((a1 12), .inl (q 0, t1.2.2.2.1, .inl t1.2.2.2.2))] H := hP
    have hD : va_D _ [((a0 0), .inr (1, [.ref (a0 1), .ref (a0 2), .ref (a0 3), .int (t0.1 0), .int (t0.1 1), .int (t0.1 2), .int (t0.1 3), .int (t0.1 4), .int (t0.1 5), .int (t0.1 6), .int (t0.1 7), .int (t0.1 8)])), ((a0 1), .inl (q 0, 40, .inl (t0.2 0))), ((a0 2), .inl (q 0, 40, .inl (t0.2 1))), ((a0 3), .inl (q 0, 40, .inl (t0.2 2))), ((a1 0), .inr (0, [.int (t1.1 0), .int (t1.1 1), .int (t1.1 2), .int (t1.1 3), .int (t1.1 4), .int (t1.1 5), .ref (a1 1), .ref (a1 2), .ref (a1 3), .ref (a1 4), .ref (a1 5), .ref (a1 6), .ref (a1 7), .ref (a1 8), .ref (a1 9), .ref (a1 10), .ref (a1 11), .ref (a1 12)])), ((a1 1), .inl (q 0, 4, .inl (t1.2.1 0))), ((a1 2), .inl (q 0, 4, .inl (t1.2.1 1))), ((a1 3), .inl (q 0, 160, .inl (t1.2.1 2))), ((a1 4), .inl (q 0, 40, .inl (t1.2.1 3))), ((a1 5), .inl (q 0, 40, .inl (t1.2.1 4))), ((a1 6), .inl (q 0, 40, .inl (t1.2.1 5))), ((a1 7), .inl (q 0, 40, .inl (t1.2.1 6))), ((a1 8), .inl (q 0, 40, .inl (t1.2.1 7))), ((a1 9), .inl (q 0, 40, .inl (t1.2.1 8))), ((a1 10), .inl (q 0, 40, .inl (t1.2.1 9))), ((a1 11), .inl (q 1, 40, .inr (.inl t1.2.2.1))), ((a1 12), .inl (q 0, t1.2.2.2.1, .inl t1.2.2.2.2))] := hD
    exact mt_vret (t0, t1) hx hb hr hk h (hP.sub (ws' := mo_w a0 q t0 ++ bd_w a1 q t1) [0, 1, 2, 3, 4, 5, 6, 7, 8, 9, 10, 11, 12, 13, 14, 15, 16] rfl) (hD.sub (ws' := mo_w a0 q t0 ++ bd_w a1 q t1) [0, 1, 2, 3, 4, 5, 6, 7, 8, 9, 10, 11, 12, 13, 14, 15, 16] (by decide) rfl) hS dX2_turn_109

def wp_X2_chosenBits_L4 (s0 : Mo) (post : Int64 → Prop) (e29 : Int64 → Int32 → Prop) : Nat → Int64 → Int32 → Prop
  | 0, _, _ => False
  | n4 + 1, w1, z3 => (((s0.1 0) ≤ z3 → e29 w1 z3) ∧ (¬ (s0.1 0) ≤ z3 → vp_in z3 40 ∧ wp_X2_chosenBits_L4 s0 post e29 n4 (w1 ||| ((1 : Int64) <<< (Int32.toInt64 ((s0.2 2) (Int32.toNatClampNeg z3)) &&& 63))) (z3 + 1)))
def wp_X2_chosenBits (post : Int64 → Prop) (s0 : Mo) : Prop := (∃ n4, wp_X2_chosenBits_L4 s0 post (fun w1 z3 => post w1) n4 0 0)
set_option maxHeartbeats 4000000 in
set_option maxRecDepth 100000 in
theorem c2_X2_chosenBits {l : Launch} {D : va_G} {q : Nat → ClassId} {a0 : Nat → Nat} {s0 : Mo} {post : Int64 → Prop} (h : wp_X2_chosenBits post s0) : Met l yX2_chosenBits (Cond.code yX2_chosenBits cX2_chosenBits 4 (some .long) :: w_all) ({ frames := 0, cells := 0, slots := 0, locals := 0 } : Room) (rd_P D q [.ref (a0 0)] (mo_w a0 q s0)) (vp_Sl post) 0 0 (fun _ => False) := by
  refine rd_start (by decide) (Nat.le_of_ble_eq_true rfl) ?_
  intro p e s m below meth c ls hx hb hr hml hown ht hk hP hQ hV hl
  have hK := hQ.1
  have hown : s.vm.findClass RX2 = some m.cls := hown
  have hl : lv_has ls 4 [(0, .ref (a0 0))] := hl
  have hP : va_P D vwCl [((a0 0), .inr (1, [.ref (a0 1), .ref (a0 2), .ref (a0 3), .int (s0.1 0), .int (s0.1 1), .int (s0.1 2), .int (s0.1 3), .int (s0.1 4), .int (s0.1 5), .int (s0.1 6), .int (s0.1 7), .int (s0.1 8)])), ((a0 1), .inl (q 0, 40, .inl (s0.2 0))), ((a0 2), .inl (q 0, 40, .inl (s0.2 1))), ((a0 3), .inl (q 0, 40, .inl (s0.2 2)))] s.heap := hP
  unfold wp_X2_chosenBits at h
  refine lv_lconst (v := 0) hx hb dX2_chosenBits_0 (by decide) ?_
  refine lv_lstore_n (lv' := [(1, .long 0), (0, .ref (a0 0))]) hx hb dX2_chosenBits_1 rfl hl (by decide) rfl (fun ls hl => ?_)
  refine lv_iconst (v := 0) hx hb dX2_chosenBits_2 (by decide) ?_
  refine lv_istore_n (lv' := [(3, .int 0), (1, .long 0), (0, .ref (a0 0))]) hx hb dX2_chosenBits_3 rfl hl (by decide) rfl (fun ls hl => ?_)
  have lp4 : ∀ (e29 : Int64 → Int32 → Prop) (k29 : ∀ (w1 : Int64) (z3 : Int32) (ls : Array Slot), e29 w1 z3 → lv_has ls 4 [(1, .long w1), (3, .int z3), (0, .ref (a0 0))] → W p l e ({ frames := 0, cells := 0, slots := 0, locals := 0 } : Room) s m [.ref (a0 0)].toArray below meth c s.heap [] 0 0 (MQ below (vp_Sl post) [.ref (a0 0)].toArray s 0 0 (fun _ => False)) (F0 m 29 ls [])) (n : Nat) (w1 : Int64) (z3 : Int32) (ls : Array Slot), wp_X2_chosenBits_L4 s0 post e29 n w1 z3 → lv_has ls 4 [(1, .long w1), (3, .int z3), (0, .ref (a0 0))] → W p l e ({ frames := 0, cells := 0, slots := 0, locals := 0 } : Room) s m [.ref (a0 0)].toArray below meth c s.heap [] 0 0 (MQ below (vp_Sl post) [.ref (a0 0)].toArray s 0 0 (fun _ => False)) (F0 m 4 ls []) := by
    intro e29 k29 n
    induction n with
    | zero =>
      intro w1 z3 ls h
      exact h.elim
    | succ n ih =>
      intro w1 z3 ls h hl
      unfold wp_X2_chosenBits_L4 at h
      refine lv_iload_n hx hb dX2_chosenBits_4 rfl (lv_at hl 1 rfl) ?_
      refine lv_aload_n hx hb dX2_chosenBits_5 rfl (lv_at hl 2 rfl) ?_
      refine fl_get (C := RX2) (T := TX2) (N := 12) (ci := 1) (v := .int (s0.1 0)) hx hb ht in_X2 hown hK hP 0 rfl rfl 3 (by decide) mw_256 rfl dX2_chosenBits_6 ?_
      refine lv_icmp_ge (tgt := 29) hx hb dX2_chosenBits_9 (by decide) (fun c_1 => ?_) (fun c_1 => ?_)
      · replace h := h.1 c_1
        exact k29 _ _ ls h (lv_sub hl [0, 1, 2] rfl)
      · replace h := h.2 c_1
        refine lv_lload_n hx hb dX2_chosenBits_12 rfl (lv_at hl 0 rfl) ?_
        refine lv_lconst (v := 1) hx hb dX2_chosenBits_13 (by decide) ?_
        refine lv_aload_n hx hb dX2_chosenBits_14 rfl (lv_at hl 2 rfl) ?_
        refine fl_get (C := RX2) (T := TX2) (N := 12) (ci := 1) (v := .ref (a0 3)) hx hb ht in_X2 hown hK hP 0 rfl rfl 2 (by decide) mw_255 rfl dX2_chosenBits_15 ?_
        refine lv_iload_n hx hb dX2_chosenBits_18 rfl (lv_at hl 1 rfl) ?_
        obtain ⟨g_2, h⟩ := h
        refine va_iald hx hb hK hP 3 0 rfl rfl g_2 dX2_chosenBits_19 ?_
        refine lv_lshl (v := ((1 : Int64) <<< (Int32.toInt64 ((s0.2 2) (Int32.toNatClampNeg z3)) &&& 63))) hx hb dX2_chosenBits_20 rfl ?_
        refine lv_lor hx hb dX2_chosenBits_21 ?_
        refine lv_lstore_n (lv' := [(1, .long (w1 ||| ((1 : Int64) <<< (Int32.toInt64 ((s0.2 2) (Int32.toNatClampNeg z3)) &&& 63)))), (3, .int z3), (0, .ref (a0 0))]) hx hb dX2_chosenBits_22 rfl hl (by decide) rfl (fun ls hl => ?_)
        refine lv_iinc (v := (z3 + 1)) (lv' := [(3, .int (z3 + 1)), (1, .long (w1 ||| ((1 : Int64) <<< (Int32.toInt64 ((s0.2 2) (Int32.toNatClampNeg z3)) &&& 63)))), (0, .ref (a0 0))]) hx hb dX2_chosenBits_23 hl (k := 1) rfl rfl (by decide) rfl (fun ls hl => ?_)
        refine lv_goto (tgt := 4) hx hb dX2_chosenBits_26 (by decide) ?_
        exact ih _ _ ls h (lv_sub hl [1, 0, 2] rfl)
  obtain ⟨n4, h⟩ := h
  refine lp4 _ ?_ n4 _ _ ls h (lv_sub hl [1, 0, 2] rfl)
  · intro w1 z3 ls h hl
    try dsimp only at h
    refine lv_lload_n hx hb dX2_chosenBits_29 rfl (lv_at hl 0 rfl) ?_
    exact rd_lret hx hb hr hk h dX2_chosenBits_30

def wp_X4_hasStep (post : Int32 → Prop) (s0 : Pg) (x1 : Int32) : Prop := ((x1 < 0 → post 0) ∧ (¬ x1 < 0 → (((s0.1 1) ≤ x1 → post 0) ∧ (¬ (s0.1 1) ≤ x1 → post 1))))
set_option maxHeartbeats 4000000 in
set_option maxRecDepth 100000 in
theorem c2_X4_hasStep {l : Launch} {D : va_G} {q : Nat → ClassId} {a0 : Nat → Nat} {s0 : Pg} {x1 : Int32} {post : Int32 → Prop} (h : wp_X4_hasStep post s0 x1) : Met l yX4_hasStep (Cond.code yX4_hasStep cX4_hasStep 2 (some .boolean) :: w_all) ({ frames := 0, cells := 0, slots := 0, locals := 0 } : Room) (rd_P D q [.ref (a0 0), .int x1] (pg_w a0 q s0)) (vp_Si post) 0 0 (fun _ => False) := by
  refine rd_start (by decide) (Nat.le_of_ble_eq_true rfl) ?_
  intro p e s m below meth c ls hx hb hr hml hown ht hk hP hQ hV hl
  have hK := hQ.1
  have hown : s.vm.findClass RX4 = some m.cls := hown
  have hl : lv_has ls 2 [(0, .ref (a0 0)), (1, .int x1)] := hl
  have hP : va_P D vwCl [((a0 0), .inr (3, [.ref (a0 1), .ref (a0 2), .ref (a0 3), .ref (a0 4), .ref (a0 5), .ref (a0 6), .ref (a0 7), .int (s0.1 0), .int (s0.1 1), .int (s0.1 2)])), ((a0 1), .inl (q 0, 80, .inl (s0.2 0))), ((a0 2), .inl (q 0, 80, .inl (s0.2 1))), ((a0 3), .inl (q 0, 80, .inl (s0.2 2))), ((a0 4), .inl (q 0, 80, .inl (s0.2 3))), ((a0 5), .inl (q 0, 80, .inl (s0.2 4))), ((a0 6), .inl (q 0, 3, .inl (s0.2 5))), ((a0 7), .inl (q 0, 3, .inl (s0.2 6)))] s.heap := hP
  unfold wp_X4_hasStep at h
  refine lv_iload_n hx hb dX4_hasStep_0 rfl (lv_at hl 1 rfl) ?_
  refine lv_if_lt (tgt := 16) hx hb dX4_hasStep_1 (by decide) (fun c_1 => ?_) (fun c_1 => ?_)
  · replace h := h.1 c_1
    refine lv_iconst (v := 0) hx hb dX4_hasStep_16 (by decide) ?_
    exact rd_zret hx hb hr hk rfl h dX4_hasStep_17
  · replace h := h.2 c_1
    refine lv_iload_n hx hb dX4_hasStep_4 rfl (lv_at hl 1 rfl) ?_
    refine lv_aload_n hx hb dX4_hasStep_5 rfl (lv_at hl 0 rfl) ?_
    refine fl_get (C := RX4) (T := TX4) (N := 10) (ci := 3) (v := .int (s0.1 1)) hx hb ht in_X4 hown hK hP 0 rfl rfl 8 (by decide) mw_312 rfl dX4_hasStep_6 ?_
    refine lv_icmp_ge (tgt := 16) hx hb dX4_hasStep_9 (by decide) (fun c_2 => ?_) (fun c_2 => ?_)
    · replace h := h.1 c_2
      refine lv_iconst (v := 0) hx hb dX4_hasStep_16 (by decide) ?_
      exact rd_zret hx hb hr hk rfl h dX4_hasStep_17
    · replace h := h.2 c_2
      refine lv_iconst (v := 1) hx hb dX4_hasStep_12 (by decide) ?_
      refine lv_goto (tgt := 17) hx hb dX4_hasStep_13 (by decide) ?_
      exact rd_zret hx hb hr hk rfl h dX4_hasStep_17

def wp_X4_kindOf (post : Int32 → Prop) (s0 : Pg) (x1 : Int32) : Prop := wp_X4_hasStep (fun r_1 => ((r_1 = 0 → post 0) ∧ (¬ r_1 = 0 → vp_in x1 80 ∧ post ((s0.2 0) (Int32.toNatClampNeg x1))))) s0 x1
set_option maxHeartbeats 4000000 in
set_option maxRecDepth 100000 in
theorem c2_X4_kindOf {l : Launch} {D : va_G} {q : Nat → ClassId} {a0 : Nat → Nat} {s0 : Pg} {x1 : Int32} {post : Int32 → Prop} (h : wp_X4_kindOf post s0 x1) : Met l yX4_kindOf (Cond.code yX4_kindOf cX4_kindOf 2 (some .int) :: w_all) ({ frames := 1, cells := 0, slots := 0, locals := 21 } : Room) (rd_P D q [.ref (a0 0), .int x1] (pg_w a0 q s0)) (vp_Si post) 0 0 (fun _ => False) := by
  refine rd_start (by decide) (Nat.le_of_ble_eq_true rfl) ?_
  intro p e s m below meth c ls hx hb hr hml hown ht hk hP hQ hV hl
  have hK := hQ.1
  have hown : s.vm.findClass RX4 = some m.cls := hown
  have hl : lv_has ls 2 [(0, .ref (a0 0)), (1, .int x1)] := hl
  have hP : va_P D vwCl [((a0 0), .inr (3, [.ref (a0 1), .ref (a0 2), .ref (a0 3), .ref (a0 4), .ref (a0 5), .ref (a0 6), .ref (a0 7), .int (s0.1 0), .int (s0.1 1), .int (s0.1 2)])), ((a0 1), .inl (q 0, 80, .inl (s0.2 0))), ((a0 2), .inl (q 0, 80, .inl (s0.2 1))), ((a0 3), .inl (q 0, 80, .inl (s0.2 2))), ((a0 4), .inl (q 0, 80, .inl (s0.2 3))), ((a0 5), .inl (q 0, 80, .inl (s0.2 4))), ((a0 6), .inl (q 0, 3, .inl (s0.2 5))), ((a0 7), .inl (q 0, 3, .inl (s0.2 6)))] s.heap := hP
  unfold wp_X4_kindOf at h
  refine lv_aload_n hx hb dX4_kindOf_0 rfl (lv_at hl 0 rfl) ?_
  refine lv_iload_n hx hb dX4_kindOf_1 rfl (lv_at hl 1 rfl) ?_
  refine vp_callSi (rd_wV (wc := pg_w a0 q s0) (As := [.int x1]) (rest := []) hx hb hml hown ht (c2_X4_hasStep h) wd_X4_hasStep mw_822 hQ hV va_S.rf (hP.sub [0, 1, 2, 3, 4, 5, 6, 7] rfl) rfl rfl rfl hl.1 rfl (Nat.le_of_ble_eq_true rfl) dX4_kindOf_2 ⟨Nat.le_of_ble_eq_true rfl, Nat.le_of_ble_eq_true rfl, rfl, rfl⟩ ⟨Nat.le_of_ble_eq_true rfl, Nat.le_of_ble_eq_true rfl⟩) (fun r_1 h => ?_)
  try dsimp only at h
  refine lv_if_eq (tgt := 17) hx hb dX4_kindOf_5 (by decide) (fun c_3 => ?_) (fun c_3 => ?_)
  · replace h := h.1 c_3
    refine lv_iconst (v := 0) hx hb dX4_kindOf_17 (by decide) ?_
    exact rd_iret hx hb hr hk h dX4_kindOf_18
  · replace h := h.2 c_3
    refine lv_aload_n hx hb dX4_kindOf_8 rfl (lv_at hl 0 rfl) ?_
    refine fl_get (C := RX4) (T := TX4) (N := 10) (ci := 3) (v := .ref (a0 1)) hx hb ht in_X4 hown hK hP 0 rfl rfl 0 (by decide) mw_304 rfl dX4_kindOf_9 ?_
    refine lv_iload_n hx hb dX4_kindOf_12 rfl (lv_at hl 1 rfl) ?_
    obtain ⟨g_4, h⟩ := h
    refine va_iald hx hb hK hP 1 0 rfl rfl g_4 dX4_kindOf_13 ?_
    refine lv_goto (tgt := 18) hx hb dX4_kindOf_14 (by decide) ?_
    exact rd_iret hx hb hr hk h dX4_kindOf_18

def wp_X4_oneOf (post : Int32 → Prop) (s0 : Pg) (x1 : Int32) : Prop := wp_X4_hasStep (fun r_1 => ((r_1 = 0 → post 0) ∧ (¬ r_1 = 0 → vp_in x1 80 ∧ post ((s0.2 1) (Int32.toNatClampNeg x1))))) s0 x1
set_option maxHeartbeats 4000000 in
set_option maxRecDepth 100000 in
theorem c2_X4_oneOf {l : Launch} {D : va_G} {q : Nat → ClassId} {a0 : Nat → Nat} {s0 : Pg} {x1 : Int32} {post : Int32 → Prop} (h : wp_X4_oneOf post s0 x1) : Met l yX4_oneOf (Cond.code yX4_oneOf cX4_oneOf 2 (some .int) :: w_all) ({ frames := 1, cells := 0, slots := 0, locals := 21 } : Room) (rd_P D q [.ref (a0 0), .int x1] (pg_w a0 q s0)) (vp_Si post) 0 0 (fun _ => False) := by
  refine rd_start (by decide) (Nat.le_of_ble_eq_true rfl) ?_
  intro p e s m below meth c ls hx hb hr hml hown ht hk hP hQ hV hl
  have hK := hQ.1
  have hown : s.vm.findClass RX4 = some m.cls := hown
  have hl : lv_has ls 2 [(0, .ref (a0 0)), (1, .int x1)] := hl
  have hP : va_P D vwCl [((a0 0), .inr (3, [.ref (a0 1), .ref (a0 2), .ref (a0 3), .ref (a0 4), .ref (a0 5), .ref (a0 6), .ref (a0 7), .int (s0.1 0), .int (s0.1 1), .int (s0.1 2)])), ((a0 1), .inl (q 0, 80, .inl (s0.2 0))), ((a0 2), .inl (q 0, 80, .inl (s0.2 1))), ((a0 3), .inl (q 0, 80, .inl (s0.2 2))), ((a0 4), .inl (q 0, 80, .inl (s0.2 3))), ((a0 5), .inl (q 0, 80, .inl (s0.2 4))), ((a0 6), .inl (q 0, 3, .inl (s0.2 5))), ((a0 7), .inl (q 0, 3, .inl (s0.2 6)))] s.heap := hP
  unfold wp_X4_oneOf at h
  refine lv_aload_n hx hb dX4_oneOf_0 rfl (lv_at hl 0 rfl) ?_
  refine lv_iload_n hx hb dX4_oneOf_1 rfl (lv_at hl 1 rfl) ?_
  refine vp_callSi (rd_wV (wc := pg_w a0 q s0) (As := [.int x1]) (rest := []) hx hb hml hown ht (c2_X4_hasStep h) wd_X4_hasStep mw_822 hQ hV va_S.rf (hP.sub [0, 1, 2, 3, 4, 5, 6, 7] rfl) rfl rfl rfl hl.1 rfl (Nat.le_of_ble_eq_true rfl) dX4_oneOf_2 ⟨Nat.le_of_ble_eq_true rfl, Nat.le_of_ble_eq_true rfl, rfl, rfl⟩ ⟨Nat.le_of_ble_eq_true rfl, Nat.le_of_ble_eq_true rfl⟩) (fun r_1 h => ?_)
  try dsimp only at h
  refine lv_if_eq (tgt := 17) hx hb dX4_oneOf_5 (by decide) (fun c_3 => ?_) (fun c_3 => ?_)
  · replace h := h.1 c_3
    refine lv_iconst (v := 0) hx hb dX4_oneOf_17 (by decide) ?_
    exact rd_iret hx hb hr hk h dX4_oneOf_18
  · replace h := h.2 c_3
    refine lv_aload_n hx hb dX4_oneOf_8 rfl (lv_at hl 0 rfl) ?_
    refine fl_get (C := RX4) (T := TX4) (N := 10) (ci := 3) (v := .ref (a0 2)) hx hb ht in_X4 hown hK hP 0 rfl rfl 1 (by decide) mw_305 rfl dX4_oneOf_9 ?_
    refine lv_iload_n hx hb dX4_oneOf_12 rfl (lv_at hl 1 rfl) ?_
    obtain ⟨g_4, h⟩ := h
    refine va_iald hx hb hK hP 2 0 rfl rfl g_4 dX4_oneOf_13 ?_
    refine lv_goto (tgt := 18) hx hb dX4_oneOf_14 (by decide) ?_
    exact rd_iret hx hb hr hk h dX4_oneOf_18

def wp_X4_twoOf (post : Int32 → Prop) (s0 : Pg) (x1 : Int32) : Prop := wp_X4_hasStep (fun r_1 => ((r_1 = 0 → post 0) ∧ (¬ r_1 = 0 → vp_in x1 80 ∧ post ((s0.2 2) (Int32.toNatClampNeg x1))))) s0 x1
set_option maxHeartbeats 4000000 in
set_option maxRecDepth 100000 in
theorem c2_X4_twoOf {l : Launch} {D : va_G} {q : Nat → ClassId} {a0 : Nat → Nat} {s0 : Pg} {x1 : Int32} {post : Int32 → Prop} (h : wp_X4_twoOf post s0 x1) : Met l yX4_twoOf (Cond.code yX4_twoOf cX4_twoOf 2 (some .int) :: w_all) ({ frames := 1, cells := 0, slots := 0, locals := 21 } : Room) (rd_P D q [.ref (a0 0), .int x1] (pg_w a0 q s0)) (vp_Si post) 0 0 (fun _ => False) := by
  refine rd_start (by decide) (Nat.le_of_ble_eq_true rfl) ?_
  intro p e s m below meth c ls hx hb hr hml hown ht hk hP hQ hV hl
  have hK := hQ.1
  have hown : s.vm.findClass RX4 = some m.cls := hown
  have hl : lv_has ls 2 [(0, .ref (a0 0)), (1, .int x1)] := hl
  have hP : va_P D vwCl [((a0 0), .inr (3, [.ref (a0 1), .ref (a0 2), .ref (a0 3), .ref (a0 4), .ref (a0 5), .ref (a0 6), .ref (a0 7), .int (s0.1 0), .int (s0.1 1), .int (s0.1 2)])), ((a0 1), .inl (q 0, 80, .inl (s0.2 0))), ((a0 2), .inl (q 0, 80, .inl (s0.2 1))), ((a0 3), .inl (q 0, 80, .inl (s0.2 2))), ((a0 4), .inl (q 0, 80, .inl (s0.2 3))), ((a0 5), .inl (q 0, 80, .inl (s0.2 4))), ((a0 6), .inl (q 0, 3, .inl (s0.2 5))), ((a0 7), .inl (q 0, 3, .inl (s0.2 6)))] s.heap := hP
  unfold wp_X4_twoOf at h
  refine lv_aload_n hx hb dX4_twoOf_0 rfl (lv_at hl 0 rfl) ?_
  refine lv_iload_n hx hb dX4_twoOf_1 rfl (lv_at hl 1 rfl) ?_
  refine vp_callSi (rd_wV (wc := pg_w a0 q s0) (As := [.int x1]) (rest := []) hx hb hml hown ht (c2_X4_hasStep h) wd_X4_hasStep mw_822 hQ hV va_S.rf (hP.sub [0, 1, 2, 3, 4, 5, 6, 7] rfl) rfl rfl rfl hl.1 rfl (Nat.le_of_ble_eq_true rfl) dX4_twoOf_2 ⟨Nat.le_of_ble_eq_true rfl, Nat.le_of_ble_eq_true rfl, rfl, rfl⟩ ⟨Nat.le_of_ble_eq_true rfl, Nat.le_of_ble_eq_true rfl⟩) (fun r_1 h => ?_)
  try dsimp only at h
  refine lv_if_eq (tgt := 17) hx hb dX4_twoOf_5 (by decide) (fun c_3 => ?_) (fun c_3 => ?_)
  · replace h := h.1 c_3
    refine lv_iconst (v := 0) hx hb dX4_twoOf_17 (by decide) ?_
    exact rd_iret hx hb hr hk h dX4_twoOf_18
  · replace h := h.2 c_3
    refine lv_aload_n hx hb dX4_twoOf_8 rfl (lv_at hl 0 rfl) ?_
    refine fl_get (C := RX4) (T := TX4) (N := 10) (ci := 3) (v := .ref (a0 3)) hx hb ht in_X4 hown hK hP 0 rfl rfl 2 (by decide) mw_306 rfl dX4_twoOf_9 ?_
    refine lv_iload_n hx hb dX4_twoOf_12 rfl (lv_at hl 1 rfl) ?_
    obtain ⟨g_4, h⟩ := h
    refine va_iald hx hb hK hP 3 0 rfl rfl g_4 dX4_twoOf_13 ?_
    refine lv_goto (tgt := 18) hx hb dX4_twoOf_14 (by decide) ?_
    exact rd_iret hx hb hr hk h dX4_twoOf_18

def wp_X4_quotedOf (post : Int32 → Prop) (s0 : Pg) (x1 : Int32) : Prop := wp_X4_hasStep (fun r_1 => ((r_1 = 0 → post 0) ∧ (¬ r_1 = 0 → vp_in x1 80 ∧ post ((s0.2 3) (Int32.toNatClampNeg x1))))) s0 x1
set_option maxHeartbeats 4000000 in
set_option maxRecDepth 100000 in
theorem c2_X4_quotedOf {l : Launch} {D : va_G} {q : Nat → ClassId} {a0 : Nat → Nat} {s0 : Pg} {x1 : Int32} {post : Int32 → Prop} (h : wp_X4_quotedOf post s0 x1) : Met l yX4_quotedOf (Cond.code yX4_quotedOf cX4_quotedOf 2 (some .int) :: w_all) ({ frames := 1, cells := 0, slots := 0, locals := 21 } : Room) (rd_P D q [.ref (a0 0), .int x1] (pg_w a0 q s0)) (vp_Si post) 0 0 (fun _ => False) := by
  refine rd_start (by decide) (Nat.le_of_ble_eq_true rfl) ?_
  intro p e s m below meth c ls hx hb hr hml hown ht hk hP hQ hV hl
  have hK := hQ.1
  have hown : s.vm.findClass RX4 = some m.cls := hown
  have hl : lv_has ls 2 [(0, .ref (a0 0)), (1, .int x1)] := hl
  have hP : va_P D vwCl [((a0 0), .inr (3, [.ref (a0 1), .ref (a0 2), .ref (a0 3), .ref (a0 4), .ref (a0 5), .ref (a0 6), .ref (a0 7), .int (s0.1 0), .int (s0.1 1), .int (s0.1 2)])), ((a0 1), .inl (q 0, 80, .inl (s0.2 0))), ((a0 2), .inl (q 0, 80, .inl (s0.2 1))), ((a0 3), .inl (q 0, 80, .inl (s0.2 2))), ((a0 4), .inl (q 0, 80, .inl (s0.2 3))), ((a0 5), .inl (q 0, 80, .inl (s0.2 4))), ((a0 6), .inl (q 0, 3, .inl (s0.2 5))), ((a0 7), .inl (q 0, 3, .inl (s0.2 6)))] s.heap := hP
  unfold wp_X4_quotedOf at h
  refine lv_aload_n hx hb dX4_quotedOf_0 rfl (lv_at hl 0 rfl) ?_
  refine lv_iload_n hx hb dX4_quotedOf_1 rfl (lv_at hl 1 rfl) ?_
  refine vp_callSi (rd_wV (wc := pg_w a0 q s0) (As := [.int x1]) (rest := []) hx hb hml hown ht (c2_X4_hasStep h) wd_X4_hasStep mw_822 hQ hV va_S.rf (hP.sub [0, 1, 2, 3, 4, 5, 6, 7] rfl) rfl rfl rfl hl.1 rfl (Nat.le_of_ble_eq_true rfl) dX4_quotedOf_2 ⟨Nat.le_of_ble_eq_true rfl, Nat.le_of_ble_eq_true rfl, rfl, rfl⟩ ⟨Nat.le_of_ble_eq_true rfl, Nat.le_of_ble_eq_true rfl⟩) (fun r_1 h => ?_)
  try dsimp only at h
  refine lv_if_eq (tgt := 17) hx hb dX4_quotedOf_5 (by decide) (fun c_3 => ?_) (fun c_3 => ?_)
  · replace h := h.1 c_3
    refine lv_iconst (v := 0) hx hb dX4_quotedOf_17 (by decide) ?_
    exact rd_iret hx hb hr hk h dX4_quotedOf_18
  · replace h := h.2 c_3
    refine lv_aload_n hx hb dX4_quotedOf_8 rfl (lv_at hl 0 rfl) ?_
    refine fl_get (C := RX4) (T := TX4) (N := 10) (ci := 3) (v := .ref (a0 4)) hx hb ht in_X4 hown hK hP 0 rfl rfl 3 (by decide) mw_307 rfl dX4_quotedOf_9 ?_
    refine lv_iload_n hx hb dX4_quotedOf_12 rfl (lv_at hl 1 rfl) ?_
    obtain ⟨g_4, h⟩ := h
    refine va_iald hx hb hK hP 4 0 rfl rfl g_4 dX4_quotedOf_13 ?_
    refine lv_goto (tgt := 18) hx hb dX4_quotedOf_14 (by decide) ?_
    exact rd_iret hx hb hr hk h dX4_quotedOf_18

def wp_X4_endOf (post : Int32 → Prop) (s0 : Pg) (x1 : Int32) : Prop := wp_X4_hasStep (fun r_1 => ((r_1 = 0 → post (s0.1 1)) ∧ (¬ r_1 = 0 → vp_in x1 80 ∧ post ((s0.2 4) (Int32.toNatClampNeg x1))))) s0 x1
set_option maxHeartbeats 4000000 in
set_option maxRecDepth 100000 in
theorem c2_X4_endOf {l : Launch} {D : va_G} {q : Nat → ClassId} {a0 : Nat → Nat} {s0 : Pg} {x1 : Int32} {post : Int32 → Prop} (h : wp_X4_endOf post s0 x1) : Met l yX4_endOf (Cond.code yX4_endOf cX4_endOf 2 (some .int) :: w_all) ({ frames := 1, cells := 0, slots := 0, locals := 21 } : Room) (rd_P D q [.ref (a0 0), .int x1] (pg_w a0 q s0)) (vp_Si post) 0 0 (fun _ => False) := by
  refine rd_start (by decide) (Nat.le_of_ble_eq_true rfl) ?_
  intro p e s m below meth c ls hx hb hr hml hown ht hk hP hQ hV hl
  have hK := hQ.1
  have hown : s.vm.findClass RX4 = some m.cls := hown
  have hl : lv_has ls 2 [(0, .ref (a0 0)), (1, .int x1)] := hl
  have hP : va_P D vwCl [((a0 0), .inr (3, [.ref (a0 1), .ref (a0 2), .ref (a0 3), .ref (a0 4), .ref (a0 5), .ref (a0 6), .ref (a0 7), .int (s0.1 0), .int (s0.1 1), .int (s0.1 2)])), ((a0 1), .inl (q 0, 80, .inl (s0.2 0))), ((a0 2), .inl (q 0, 80, .inl (s0.2 1))), ((a0 3), .inl (q 0, 80, .inl (s0.2 2))), ((a0 4), .inl (q 0, 80, .inl (s0.2 3))), ((a0 5), .inl (q 0, 80, .inl (s0.2 4))), ((a0 6), .inl (q 0, 3, .inl (s0.2 5))), ((a0 7), .inl (q 0, 3, .inl (s0.2 6)))] s.heap := hP
  unfold wp_X4_endOf at h
  refine lv_aload_n hx hb dX4_endOf_0 rfl (lv_at hl 0 rfl) ?_
  refine lv_iload_n hx hb dX4_endOf_1 rfl (lv_at hl 1 rfl) ?_
  refine vp_callSi (rd_wV (wc := pg_w a0 q s0) (As := [.int x1]) (rest := []) hx hb hml hown ht (c2_X4_hasStep h) wd_X4_hasStep mw_822 hQ hV va_S.rf (hP.sub [0, 1, 2, 3, 4, 5, 6, 7] rfl) rfl rfl rfl hl.1 rfl (Nat.le_of_ble_eq_true rfl) dX4_endOf_2 ⟨Nat.le_of_ble_eq_true rfl, Nat.le_of_ble_eq_true rfl, rfl, rfl⟩ ⟨Nat.le_of_ble_eq_true rfl, Nat.le_of_ble_eq_true rfl⟩) (fun r_1 h => ?_)
  try dsimp only at h
  refine lv_if_eq (tgt := 17) hx hb dX4_endOf_5 (by decide) (fun c_3 => ?_) (fun c_3 => ?_)
  · replace h := h.1 c_3
    refine lv_aload_n hx hb dX4_endOf_17 rfl (lv_at hl 0 rfl) ?_
    refine fl_get (C := RX4) (T := TX4) (N := 10) (ci := 3) (v := .int (s0.1 1)) hx hb ht in_X4 hown hK hP 0 rfl rfl 8 (by decide) mw_312 rfl dX4_endOf_18 ?_
    exact rd_iret hx hb hr hk h dX4_endOf_21
  · replace h := h.2 c_3
    refine lv_aload_n hx hb dX4_endOf_8 rfl (lv_at hl 0 rfl) ?_
    refine fl_get (C := RX4) (T := TX4) (N := 10) (ci := 3) (v := .ref (a0 5)) hx hb ht in_X4 hown hK hP 0 rfl rfl 4 (by decide) mw_308 rfl dX4_endOf_9 ?_
    refine lv_iload_n hx hb dX4_endOf_12 rfl (lv_at hl 1 rfl) ?_
    obtain ⟨g_4, h⟩ := h
    refine va_iald hx hb hK hP 5 0 rfl rfl g_4 dX4_endOf_13 ?_
    refine lv_goto (tgt := 21) hx hb dX4_endOf_14 (by decide) ?_
    exact rd_iret hx hb hr hk h dX4_endOf_21

def wp_X4_startDoing (post : Pg → Prop) (s0 : Pg) : Prop := post ((va_up (va_up s0.1 0 0) 2 0), s0.2)
set_option maxHeartbeats 4000000 in
set_option maxRecDepth 100000 in
theorem c2_X4_startDoing {l : Launch} {D : va_G} {q : Nat → ClassId} {sz : Nat} {a0 : Nat → Nat} {s0 : Pg} {post : Pg → Prop} (h : wp_X4_startDoing post s0) : Met l yX4_startDoing (Cond.code yX4_startDoing cX4_startDoing 1 none :: w_all) ({ frames := 0, cells := 0, slots := 0, locals := 0 } : Room) (mt_P D q [.ref (a0 0)] (pg_w a0 q s0) sz) (va_Qv (fun u : Pg => post u) (mt_B D (pg_w a0 q s0) sz (fun u : Pg => pg_w a0 q u)) (va_A (pg_w a0 q s0) sz)) 0 0 (va_A (pg_w a0 q s0) sz) := by
  refine mt_start (by decide) (Nat.le_of_ble_eq_true rfl) ?_
  intro p e s m below meth c ls hx hb hr hml hown ht hk hin hP hQ hD hA hS hV hl
  have hK := hQ.1
  have hown : s.vm.findClass RX4 = some m.cls := hown
  have hl : lv_has ls 1 [(0, .ref (a0 0))] := hl
  have hP : va_P D vwCl [((a0 0), .inr (3, [.ref (a0 1), .ref (a0 2), .ref (a0 3), .ref (a0 4), .ref (a0 5), .ref (a0 6), .ref (a0 7), .int (s0.1 0), .int (s0.1 1), .int (s0.1 2)])), ((a0 1), .inl (q 0, 80, .inl (s0.2 0))), ((a0 2), .inl (q 0, 80, .inl (s0.2 1))), ((a0 3), .inl (q 0, 80, .inl (s0.2 2))), ((a0 4), .inl (q 0, 80, .inl (s0.2 3))), ((a0 5), .inl (q 0, 80, .inl (s0.2 4))), ((a0 6), .inl (q 0, 3, .inl (s0.2 5))), ((a0 7), .inl (q 0, 3, .inl (s0.2 6)))] s.heap := hP
  have hD : va_D _ [((a0 0), .inr (3, [.ref (a0 1), .ref (a0 2), .ref (a0 3), .ref (a0 4), .ref (a0 5), .ref (a0 6), .ref (a0 7), .int (s0.1 0), .int (s0.1 1), .int (s0.1 2)])), ((a0 1), .inl (q 0, 80, .inl (s0.2 0))), ((a0 2), .inl (q 0, 80, .inl (s0.2 1))), ((a0 3), .inl (q 0, 80, .inl (s0.2 2))), ((a0 4), .inl (q 0, 80, .inl (s0.2 3))), ((a0 5), .inl (q 0, 80, .inl (s0.2 4))), ((a0 6), .inl (q 0, 3, .inl (s0.2 5))), ((a0 7), .inl (q 0, 3, .inl (s0.2 6)))] := hD
  unfold wp_X4_startDoing at h
  refine lv_aload_n hx hb dX4_startDoing_0 rfl (lv_at hl 0 rfl) ?_
  refine lv_iconst (v := 0) hx hb dX4_startDoing_1 (by decide) ?_
  refine fl_put (C := RX4) (T := TX4) (N := 10) (ci := 3) (v := .int 0) (ws2 := [((a0 0), .inr (3, [.ref (a0 1), .ref (a0 2), .ref (a0 3), .ref (a0 4), .ref (a0 5), .ref (a0 6), .ref (a0 7), .int (s0.1 0), .int (s0.1 1), .int 0])), ((a0 1), .inl (q 0, 80, .inl (s0.2 0))), ((a0 2), .inl (q 0, 80, .inl (s0.2 1))), ((a0 3), .inl (q 0, 80, .inl (s0.2 2))), ((a0 4), .inl (q 0, 80, .inl (s0.2 3))), ((a0 5), .inl (q 0, 80, .inl (s0.2 4))), ((a0 6), .inl (q 0, 3, .inl (s0.2 5))), ((a0 7), .inl (q 0, 3, .inl (s0.2 6)))]) hx hb ht in_X4 tyX4_ok nmX4 hown hK hP hD hS 0 rfl rfl 9 (by decide) mw_313 rfl rfl rfl (Nat.le_of_ble_eq_true rfl) dX4_startDoing_2 rfl (fun H locs hP hD hS => ?_)
  refine lv_aload_n hx hb dX4_startDoing_5 rfl (lv_at hl 0 rfl) ?_
  refine lv_iconst (v := 0) hx hb dX4_startDoing_6 (by decide) ?_
  refine fl_put (C := RX4) (T := TX4) (N := 10) (ci := 3) (v := .int 0) (ws2 := [((a0 0), .inr (3, [.ref (a0 1), .ref (a0 2), .ref (a0 3), .ref (a0 4), .ref (a0 5), .ref (a0 6), .ref (a0 7), .int 0, .int (s0.1 1), .int 0])), ((a0 1), .inl (q 0, 80, .inl (s0.2 0))), ((a0 2), .inl (q 0, 80, .inl (s0.2 1))), ((a0 3), .inl (q 0, 80, .inl (s0.2 2))), ((a0 4), .inl (q 0, 80, .inl (s0.2 3))), ((a0 5), .inl (q 0, 80, .inl (s0.2 4))), ((a0 6), .inl (q 0, 3, .inl (s0.2 5))), ((a0 7), .inl (q 0, 3, .inl (s0.2 6)))]) hx hb ht in_X4 tyX4_ok nmX4 hown hK hP hD hS 0 rfl rfl 7 (by decide) mw_311 rfl rfl rfl (Nat.le_of_ble_eq_true rfl) dX4_startDoing_7 rfl (fun H locs hP hD hS => ?_)
  exact mt_vret ((va_up (va_up s0.1 0 0) 2 0), s0.2) hx hb hr hk h (hP.sub (ws' := pg_w a0 q ((va_up (va_up s0.1 0 0) 2 0), s0.2)) [0, 1, 2, 3, 4, 5, 6, 7] rfl) (hD.sub (ws' := pg_w a0 q ((va_up (va_up s0.1 0 0) 2 0), s0.2)) [0, 1, 2, 3, 4, 5, 6, 7] (by decide) rfl) hS dX4_startDoing_10

def wp_X4_goOn_L99 (post : Pg → Prop) (e198 : Pg → Int32 → Prop) : Nat → Pg → Int32 → Prop
  | 0, _, _ => False
  | n99 + 1, t0, z1 => ((3 ≤ z1 → e198 t0 z1) ∧ (¬ 3 ≤ z1 → (((t0.1 0) ≤ 0 → e198 t0 z1) ∧ (¬ (t0.1 0) ≤ 0 → vp_in ((t0.1 0) - 1) 3 ∧ wp_X4_endOf (fun r_9 => ((¬ (t0.1 2) = r_9 → e198 t0 z1) ∧ ((t0.1 2) = r_9 → vp_in ((t0.1 0) - 1) 3 ∧ ((((t0.2 6) (Int32.toNatClampNeg ((t0.1 0) - 1))) ≤ 0 → wp_X4_goOn_L99 post e198 n99 ((va_up t0.1 0 ((t0.1 0) - 1)), t0.2) (z1 + 1)) ∧ (¬ ((t0.2 6) (Int32.toNatClampNeg ((t0.1 0) - 1))) ≤ 0 → vp_in ((t0.1 0) - 1) 3 ∧ vp_in ((t0.1 0) - 1) 3 ∧ vp_in ((t0.1 0) - 1) 3 ∧ wp_X4_goOn_L99 post e198 n99 ((va_up t0.1 2 (((t0.2 5) (Int32.toNatClampNeg ((t0.1 0) - 1))) + 1)), (va_up t0.2 6 (upd (t0.2 6) (Int32.toNatClampNeg ((t0.1 0) - 1)) (((t0.2 6) (Int32.toNatClampNeg ((t0.1 0) - 1))) - 1)))) (z1 + 1)))))) t0 ((t0.2 5) (Int32.toNatClampNeg ((t0.1 0) - 1)))))))
def wp_X4_goOn_L99b (post : Pg → Prop) (e198 : Pg → Int32 → Prop) : Nat → Pg → Int32 → Prop
  | 0, _, _ => False
  | n99 + 1, t0, z1 => ((3 ≤ z1 → e198 t0 z1) ∧ (¬ 3 ≤ z1 → (((t0.1 0) ≤ 0 → e198 t0 z1) ∧ (¬ (t0.1 0) ≤ 0 → vp_in ((t0.1 0) - 1) 3 ∧ wp_X4_endOf (fun r_25 => ((¬ (t0.1 2) = r_25 → e198 t0 z1) ∧ ((t0.1 2) = r_25 → vp_in ((t0.1 0) - 1) 3 ∧ ((((t0.2 6) (Int32.toNatClampNeg ((t0.1 0) - 1))) ≤ 0 → wp_X4_goOn_L99b post e198 n99 ((va_up t0.1 0 ((t0.1 0) - 1)), t0.2) (z1 + 1)) ∧ (¬ ((t0.2 6) (Int32.toNatClampNeg ((t0.1 0) - 1))) ≤ 0 → vp_in ((t0.1 0) - 1) 3 ∧ vp_in ((t0.1 0) - 1) 3 ∧ vp_in ((t0.1 0) - 1) 3 ∧ wp_X4_goOn_L99b post e198 n99 ((va_up t0.1 2 (((t0.2 5) (Int32.toNatClampNeg ((t0.1 0) - 1))) + 1)), (va_up t0.2 6 (upd (t0.2 6) (Int32.toNatClampNeg ((t0.1 0) - 1)) (((t0.2 6) (Int32.toNatClampNeg ((t0.1 0) - 1))) - 1)))) (z1 + 1)))))) t0 ((t0.2 5) (Int32.toNatClampNeg ((t0.1 0) - 1)))))))
def wp_X4_goOn_L99bb (post : Pg → Prop) (e198 : Pg → Int32 → Prop) : Nat → Pg → Int32 → Prop
  | 0, _, _ => False
  | n99 + 1, t0, z1 => ((3 ≤ z1 → e198 t0 z1) ∧ (¬ 3 ≤ z1 → (((t0.1 0) ≤ 0 → e198 t0 z1) ∧ (¬ (t0.1 0) ≤ 0 → vp_in ((t0.1 0) - 1) 3 ∧ wp_X4_endOf (fun r_39 => ((¬ (t0.1 2) = r_39 → e198 t0 z1) ∧ ((t0.1 2) = r_39 → vp_in ((t0.1 0) - 1) 3 ∧ ((((t0.2 6) (Int32.toNatClampNeg ((t0.1 0) - 1))) ≤ 0 → wp_X4_goOn_L99bb post e198 n99 ((va_up t0.1 0 ((t0.1 0) - 1)), t0.2) (z1 + 1)) ∧ (¬ ((t0.2 6) (Int32.toNatClampNeg ((t0.1 0) - 1))) ≤ 0 → vp_in ((t0.1 0) - 1) 3 ∧ vp_in ((t0.1 0) - 1) 3 ∧ vp_in ((t0.1 0) - 1) 3 ∧ wp_X4_goOn_L99bb post e198 n99 ((va_up t0.1 2 (((t0.2 5) (Int32.toNatClampNeg ((t0.1 0) - 1))) + 1)), (va_up t0.2 6 (upd (t0.2 6) (Int32.toNatClampNeg ((t0.1 0) - 1)) (((t0.2 6) (Int32.toNatClampNeg ((t0.1 0) - 1))) - 1)))) (z1 + 1)))))) t0 ((t0.2 5) (Int32.toNatClampNeg ((t0.1 0) - 1)))))))
def wp_X4_goOn (post : Pg → Prop) (s0 : Pg) : Prop := wp_X4_kindOf (fun r_1 => ((¬ r_1 = 12 → wp_X4_endOf (fun r_4 => (∃ n99, wp_X4_goOn_L99 post (fun t0 z1 => post t0) n99 ((va_up s0.1 2 r_4), s0.2) 0)) s0 (s0.1 2)) ∧ (r_1 = 12 → wp_X4_oneOf (fun r_17 => ((r_17 ≤ 0 → wp_X4_endOf (fun r_20 => (∃ n99, wp_X4_goOn_L99b post (fun t0 z1 => post t0) n99 ((va_up s0.1 2 r_20), s0.2) 0)) s0 (s0.1 2)) ∧ (¬ r_17 ≤ 0 → ((3 ≤ (s0.1 0) → wp_X4_endOf (fun r_34 => (∃ n99, wp_X4_goOn_L99bb post (fun t0 z1 => post t0) n99 ((va_up s0.1 2 r_34), s0.2) 0)) s0 (s0.1 2)) ∧ (¬ 3 ≤ (s0.1 0) → vp_in (s0.1 0) 3 ∧ wp_X4_oneOf (fun r_48 => vp_in (s0.1 0) 3 ∧ post ((va_up (va_up s0.1 0 ((s0.1 0) + 1)) 2 ((s0.1 2) + 1)), (va_up (va_up s0.2 5 (upd (s0.2 5) (Int32.toNatClampNeg (s0.1 0)) (s0.1 2))) 6 (upd (s0.2 6) (Int32.toNatClampNeg (s0.1 0)) (r_48 - 1))))) (s0.1, (va_up s0.2 5 (upd (s0.2 5) (Int32.toNatClampNeg (s0.1 0)) (s0.1 2)))) (s0.1 2)))))) s0 (s0.1 2)))) s0 (s0.1 2)
set_option maxHeartbeats 4000000 in
set_option maxRecDepth 100000 in
theorem c2_X4_goOn {l : Launch} {D : va_G} {q : Nat → ClassId} {sz : Nat} {a0 : Nat → Nat} {s0 : Pg} {post : Pg → Prop} (h : wp_X4_goOn post s0) : Met l yX4_goOn (Cond.code yX4_goOn cX4_goOn 2 none :: w_all) ({ frames := 2, cells := 0, slots := 0, locals := 42 } : Room) (mt_P D q [.ref (a0 0)] (pg_w a0 q s0) sz) (va_Qv (fun u : Pg => post u) (mt_B D (pg_w a0 q s0) sz (fun u : Pg => pg_w a0 q u)) (va_A (pg_w a0 q s0) sz)) 0 0 (va_A (pg_w a0 q s0) sz) := by
  refine mt_start (by decide) (Nat.le_of_ble_eq_true rfl) ?_
  intro p e s m below meth c ls hx hb hr hml hown ht hk hin hP hQ hD hA hS hV hl
  have hK := hQ.1
  have hown : s.vm.findClass RX4 = some m.cls := hown
  have hl : lv_has ls 2 [(0, .ref (a0 0))] := hl
  have hP : va_P D vwCl [((a0 0), .inr (3, [.ref (a0 1), .ref (a0 2), .ref (a0 3), .ref (a0 4), .ref (a0 5), .ref (a0 6), .ref (a0 7), .int (s0.1 0), .int (s0.1 1), .int (s0.1 2)])), ((a0 1), .inl (q 0, 80, .inl (s0.2 0))), ((a0 2), .inl (q 0, 80, .inl (s0.2 1))), ((a0 3), .inl (q 0, 80, .inl (s0.2 2))), ((a0 4), .inl (q 0, 80, .inl (s0.2 3))), ((a0 5), .inl (q 0, 80, .inl (s0.2 4))), ((a0 6), .inl (q 0, 3, .inl (s0.2 5))), ((a0 7), .inl (q 0, 3, .inl (s0.2 6)))] s.heap := hP
  have hD : va_D _ [((a0 0), .inr (3, [.ref (a0 1), .ref (a0 2), .ref (a0 3), .ref (a0 4), .ref (a0 5), .ref (a0 6), .ref (a0 7), .int (s0.1 0), .int (s0.1 1), .int (s0.1 2)])), ((a0 1), .inl (q 0, 80, .inl (s0.2 0))), ((a0 2), .inl (q 0, 80, .inl (s0.2 1))), ((a0 3), .inl (q 0, 80, .inl (s0.2 2))), ((a0 4), .inl (q 0, 80, .inl (s0.2 3))), ((a0 5), .inl (q 0, 80, .inl (s0.2 4))), ((a0 6), .inl (q 0, 3, .inl (s0.2 5))), ((a0 7), .inl (q 0, 3, .inl (s0.2 6)))] := hD
  unfold wp_X4_goOn at h
  refine lv_aload_n hx hb dX4_goOn_0 rfl (lv_at hl 0 rfl) ?_
  refine lv_aload_n hx hb dX4_goOn_1 rfl (lv_at hl 0 rfl) ?_
  refine fl_get (C := RX4) (T := TX4) (N := 10) (ci := 3) (v := .int (s0.1 2)) hx hb ht in_X4 hown hK hP 0 rfl rfl 9 (by decide) mw_313 rfl dX4_goOn_2 ?_
  refine vp_callSi (rd_wV (wc := pg_w a0 q s0) (As := [.int (s0.1 2)]) (rest := []) hx hb hml hown ht (c2_X4_kindOf h) wd_X4_kindOf mw_863 hQ hV hS (hP.sub [0, 1, 2, 3, 4, 5, 6, 7] rfl) rfl rfl rfl hl.1 rfl (Nat.le_of_ble_eq_true rfl) dX4_goOn_5 ⟨Nat.le_of_ble_eq_true rfl, Nat.le_of_ble_eq_true rfl, rfl, rfl⟩ ⟨Nat.le_of_ble_eq_true rfl, Nat.le_of_ble_eq_true rfl⟩) (fun r_1 h => ?_)
  try dsimp only at h
  refine lv_bipush (v := 12) hx hb dX4_goOn_8 (by decide) ?_
  refine lv_icmp_ne (tgt := 85) hx hb dX4_goOn_10 (by decide) (fun c_3 => ?_) (fun c_3 => ?_)
  · replace h := h.1 c_3
    refine lv_aload_n hx hb dX4_goOn_85 rfl (lv_at hl 0 rfl) ?_
    refine lv_aload_n hx hb dX4_goOn_86 rfl (lv_at hl 0 rfl) ?_
    refine lv_aload_n hx hb dX4_goOn_87 rfl (lv_at hl 0 rfl) ?_
    refine fl_get (C := RX4) (T := TX4) (N := 10) (ci := 3) (v := .int (s0.1 2)) hx hb ht in_X4 hown hK hP 0 rfl rfl 9 (by decide) mw_313 rfl dX4_goOn_88 ?_
    refine vp_callSi (rd_wV (wc := pg_w a0 q s0) (As := [.int (s0.1 2)]) (rest := [.ref (a0 0)]) hx hb hml hown ht (c2_X4_endOf h) wd_X4_endOf mw_865 hQ hV hS (hP.sub [0, 1, 2, 3, 4, 5, 6, 7] rfl) rfl rfl rfl hl.1 rfl (Nat.le_of_ble_eq_true rfl) dX4_goOn_91 ⟨Nat.le_of_ble_eq_true rfl, Nat.le_of_ble_eq_true rfl, rfl, rfl⟩ ⟨Nat.le_of_ble_eq_true rfl, Nat.le_of_ble_eq_true rfl⟩) (fun r_4 h => ?_)
    try dsimp only at h
    refine fl_put (C := RX4) (T := TX4) (N := 10) (ci := 3) (v := .int r_4) (ws2 := [((a0 0), .inr (3, [.ref (a0 1), .ref (a0 2), .ref (a0 3), .ref (a0 4), .ref (a0 5), .ref (a0 6), .ref (a0 7), .int (s0.1 0), .int (s0.1 1), .int r_4])), ((a0 1), .inl (q 0, 80, .inl (s0.2 0))), ((a0 2), .inl (q 0, 80, .inl (s0.2 1))), ((a0 3), .inl (q 0, 80, .inl (s0.2 2))), ((a0 4), .inl (q 0, 80, .inl (s0.2 3))), ((a0 5), .inl (q 0, 80, .inl (s0.2 4))), ((a0 6), .inl (q 0, 3, .inl (s0.2 5))), ((a0 7), .inl (q 0, 3, .inl (s0.2 6)))]) hx hb ht in_X4 tyX4_ok nmX4 hown hK hP hD hS 0 rfl rfl 9 (by decide) mw_313 rfl rfl rfl (Nat.le_of_ble_eq_true rfl) dX4_goOn_94 rfl (fun H locs hP hD hS => ?_)
    refine lv_iconst (v := 0) hx hb dX4_goOn_97 (by decide) ?_
    refine lv_istore_n (lv' := [(1, .int 0), (0, .ref (a0 0))]) hx hb dX4_goOn_98 rfl hl (by decide) rfl (fun ls hl => ?_)
    have lp99 : ∀ (e198 : Pg → Int32 → Prop) (k198 : ∀ (t0 : Pg) (z1 : Int32) (H : Heap) (locs : List Loc) (ls : Array Slot), e198 t0 z1 → va_P D vwCl (pg_w a0 q t0) H → va_D (va_A (pg_w a0 q s0) sz) (pg_w a0 q t0) → va_S (va_A (pg_w a0 q s0) sz) s.heap H locs → lv_has ls 2 [(1, .int z1), (0, .ref (a0 0))] → W p l e ({ frames := 2, cells := 0, slots := 0, locals := 42 } : Room) s m [.ref (a0 0)].toArray below meth c H locs 0 0 (MQ below (va_Qv (fun u : Pg => post u) (mt_B D (pg_w a0 q s0) sz (fun u : Pg => pg_w a0 q u)) (va_A (pg_w a0 q s0) sz)) [.ref (a0 0)].toArray s 0 0 (va_A (pg_w a0 q s0) sz)) (F0 m 198 ls [])) (n : Nat) (t0 : Pg) (z1 : Int32) (H : Heap) (locs : List Loc) (ls : Array Slot), wp_X4_goOn_L99 post e198 n t0 z1 → va_P D vwCl (pg_w a0 q t0) H → va_D (va_A (pg_w a0 q s0) sz) (pg_w a0 q t0) → va_S (va_A (pg_w a0 q s0) sz) s.heap H locs → lv_has ls 2 [(1, .int z1), (0, .ref (a0 0))] → W p l e ({ frames := 2, cells := 0, slots := 0, locals := 42 } : Room) s m [.ref (a0 0)].toArray below meth c H locs 0 0 (MQ below (va_Qv (fun u : Pg => post u) (mt_B D (pg_w a0 q s0) sz (fun u : Pg => pg_w a0 q u)) (va_A (pg_w a0 q s0) sz)) [.ref (a0 0)].toArray s 0 0 (va_A (pg_w a0 q s0) sz)) (F0 m 99 ls []) := by
      intro e198 k198 n
      induction n with
      | zero =>
        intro t0 z1 H locs ls h
        exact h.elim
      | succ n ih =>
        intro t0 z1 H locs ls h hP hD hS hl
        have hP : va_P D vwCl [((a0 0), .inr (3, [.ref (a0 1), .ref (a0 2), .ref (a0 3), .ref (a0 4), .ref (a0 5), .ref (a0 6), .ref (a0 7), .int (t0.1 0), .int (t0.1 1), .int (t0.1 2)])), ((a0 1), .inl (q 0, 80, .inl (t0.2 0))), ((a0 2), .inl (q 0, 80, .inl (t0.2 1))), ((a0 3), .inl (q 0, 80, .inl (t0.2 2))), ((a0 4), .inl (q 0, 80, .inl (t0.2 3))), ((a0 5), .inl (q 0, 80, .inl (t0.2 4))), ((a0 6), .inl (q 0, 3, .inl (t0.2 5))), ((a0 7), .inl (q 0, 3, .inl (t0.2 6)))] H := hP
        have hD : va_D _ [((a0 0), .inr (3, [.ref (a0 1), .ref (a0 2), .ref (a0 3), .ref (a0 4), .ref (a0 5), .ref (a0 6), .ref (a0 7), .int (t0.1 0), .int (t0.1 1), .int (t0.1 2)])), ((a0 1), .inl (q 0, 80, .inl (t0.2 0))), ((a0 2), .inl (q 0, 80, .inl (t0.2 1))), ((a0 3), .inl (q 0, 80, .inl (t0.2 2))), ((a0 4), .inl (q 0, 80, .inl (t0.2 3))), ((a0 5), .inl (q 0, 80, .inl (t0.2 4))), ((a0 6), .inl (q 0, 3, .inl (t0.2 5))), ((a0 7), .inl (q 0, 3, .inl (t0.2 6)))] := hD
        unfold wp_X4_goOn_L99 at h
        refine lv_iload_n hx hb dX4_goOn_99 rfl (lv_at hl 0 rfl) ?_
        refine lv_iconst (v := 3) hx hb dX4_goOn_100 (by decide) ?_
        refine lv_icmp_ge (tgt := 198) hx hb dX4_goOn_101 (by decide) (fun c_6 => ?_) (fun c_6 => ?_)
        · replace h := h.1 c_6
          exact k198 _ _ _ _ ls h (hP.sub (ws' := pg_w a0 q t0) [0, 1, 2, 3, 4, 5, 6, 7] rfl) (hD.sub (ws' := pg_w a0 q t0) [0, 1, 2, 3, 4, 5, 6, 7] (by decide) rfl) hS (lv_sub hl [0, 1] rfl)
        · replace h := h.2 c_6
          refine lv_aload_n hx hb dX4_goOn_104 rfl (lv_at hl 1 rfl) ?_
          refine fl_get (C := RX4) (T := TX4) (N := 10) (ci := 3) (v := .int (t0.1 0)) hx hb ht in_X4 hown hK hP 0 rfl rfl 7 (by decide) mw_311 rfl dX4_goOn_105 ?_
          refine lv_if_le (tgt := 198) hx hb dX4_goOn_108 (by decide) (fun c_7 => ?_) (fun c_7 => ?_)
          · replace h := h.1 c_7
            exact k198 _ _ _ _ ls h (hP.sub (ws' := pg_w a0 q t0) [0, 1, 2, 3, 4, 5, 6, 7] rfl) (hD.sub (ws' := pg_w a0 q t0) [0, 1, 2, 3, 4, 5, 6, 7] (by decide) rfl) hS (lv_sub hl [0, 1] rfl)
          · replace h := h.2 c_7
            refine lv_aload_n hx hb dX4_goOn_111 rfl (lv_at hl 1 rfl) ?_
            refine fl_get (C := RX4) (T := TX4) (N := 10) (ci := 3) (v := .int (t0.1 2)) hx hb ht in_X4 hown hK hP 0 rfl rfl 9 (by decide) mw_313 rfl dX4_goOn_112 ?_
            refine lv_aload_n hx hb dX4_goOn_115 rfl (lv_at hl 1 rfl) ?_
            refine lv_aload_n hx hb dX4_goOn_116 rfl (lv_at hl 1 rfl) ?_
            refine fl_get (C := RX4) (T := TX4) (N := 10) (ci := 3) (v := .ref (a0 6)) hx hb ht in_X4 hown hK hP 0 rfl rfl 5 (by decide) mw_309 rfl dX4_goOn_117 ?_
            refine lv_aload_n hx hb dX4_goOn_120 rfl (lv_at hl 1 rfl) ?_
            refine fl_get (C := RX4) (T := TX4) (N := 10) (ci := 3) (v := .int (t0.1 0)) hx hb ht in_X4 hown hK hP 0 rfl rfl 7 (by decide) mw_311 rfl dX4_goOn_121 ?_
            refine lv_iconst (v := 1) hx hb dX4_goOn_124 (by decide) ?_
            refine lv_isub hx hb dX4_goOn_125 ?_
            obtain ⟨g_8, h⟩ := h
            refine va_iald hx hb hK hP 6 0 rfl rfl g_8 dX4_goOn_126 ?_
            refine vp_callSi (rd_wV (wc := pg_w a0 q t0) (As := [.int ((t0.2 5) (Int32.toNatClampNeg ((t0.1 0) - 1)))]) (rest := [.int (t0.1 2)]) hx hb hml hown ht (c2_X4_endOf h) wd_X4_endOf mw_865 hQ hV hS (hP.sub [0, 1, 2, 3, 4, 5, 6, 7] rfl) rfl rfl rfl hl.1 rfl (Nat.le_of_ble_eq_true rfl) dX4_goOn_127 ⟨Nat.le_of_ble_eq_true rfl, Nat.le_of_ble_eq_true rfl, rfl, rfl⟩ ⟨Nat.le_of_ble_eq_true rfl, Nat.le_of_ble_eq_true rfl⟩) (fun r_9 h => ?_)
            try dsimp only at h
            refine lv_icmp_ne (tgt := 198) hx hb dX4_goOn_130 (by decide) (fun c_11 => ?_) (fun c_11 => ?_)
            · replace h := h.1 c_11
              exact k198 _ _ _ _ ls h (hP.sub (ws' := pg_w a0 q t0) [0, 1, 2, 3, 4, 5, 6, 7] rfl) (hD.sub (ws' := pg_w a0 q t0) [0, 1, 2, 3, 4, 5, 6, 7] (by decide) rfl) hS (lv_sub hl [0, 1] rfl)
            · replace h := h.2 c_11
              refine lv_aload_n hx hb dX4_goOn_133 rfl (lv_at hl 1 rfl) ?_
              refine fl_get (C := RX4) (T := TX4) (N := 10) (ci := 3) (v := .ref (a0 7)) hx hb ht in_X4 hown hK hP 0 rfl rfl 6 (by decide) mw_310 rfl dX4_goOn_134 ?_
              refine lv_aload_n hx hb dX4_goOn_137 rfl (lv_at hl 1 rfl) ?_
              refine fl_get (C := RX4) (T := TX4) (N := 10) (ci := 3) (v := .int (t0.1 0)) hx hb ht in_X4 hown hK hP 0 rfl rfl 7 (by decide) mw_311 rfl dX4_goOn_138 ?_
              refine lv_iconst (v := 1) hx hb dX4_goOn_141 (by decide) ?_
              refine lv_isub hx hb dX4_goOn_142 ?_
              obtain ⟨g_12, h⟩ := h
              refine va_iald hx hb hK hP 7 0 rfl rfl g_12 dX4_goOn_143 ?_
              refine lv_if_le (tgt := 182) hx hb dX4_goOn_144 (by decide) (fun c_13 => ?_) (fun c_13 => ?_)
              · replace h := h.1 c_13
                refine lv_aload_n hx hb dX4_goOn_182 rfl (lv_at hl 1 rfl) ?_
                refine lv_dup hx hb dX4_goOn_183 rfl ?_
                refine fl_get (C := RX4) (T := TX4) (N := 10) (ci := 3) (v := .int (t0.1 0)) hx hb ht in_X4 hown hK hP 0 rfl rfl 7 (by decide) mw_311 rfl dX4_goOn_184 ?_
                refine lv_iconst (v := 1) hx hb dX4_goOn_187 (by decide) ?_
                refine lv_isub hx hb dX4_goOn_188 ?_
                refine fl_put (C := RX4) (T := TX4) (N := 10) (ci := 3) (v := .int ((t0.1 0) - 1)) (ws2 := [((a0 0), .inr (3, [.ref (a0 1), .ref (a0 2), .ref (a0 3), .ref (a0 4), .ref (a0 5), .ref (a0 6), .ref (a0 7), .int ((t0.1 0) - 1), .int (t0.1 1), .int (t0.1 2)])), ((a0 1), .inl (q 0, 80, .inl (t0.2 0))), ((a0 2), .inl (q 0, 80, .inl (t0.2 1))), ((a0 3), .inl (q 0, 80, .inl (t0.2 2))), ((a0 4), .inl (q 0, 80, .inl (t0.2 3))), ((a0 5), .inl (q 0, 80, .inl (t0.2 4))), ((a0 6), .inl (q 0, 3, .inl (t0.2 5))), ((a0 7), .inl (q 0, 3, .inl (t0.2 6)))]) hx hb ht in_X4 tyX4_ok nmX4 hown hK hP hD hS 0 rfl rfl 7 (by decide) mw_311 rfl rfl rfl (Nat.le_of_ble_eq_true rfl) dX4_goOn_189 rfl (fun H locs hP hD hS => ?_)
                refine lv_iinc (v := (z1 + 1)) (lv' := [(1, .int (z1 + 1)), (0, .ref (a0 0))]) hx hb dX4_goOn_192 hl (k := 0) rfl rfl (by decide) rfl (fun ls hl => ?_)
                refine lv_goto (tgt := 99) hx hb dX4_goOn_195 (by decide) ?_
                exact ih _ _ _ _ ls h (hP.sub (ws' := pg_w a0 q ((va_up t0.1 0 ((t0.1 0) - 1)), t0.2)) [0, 1, 2, 3, 4, 5, 6, 7] rfl) (hD.sub (ws' := pg_w a0 q ((va_up t0.1 0 ((t0.1 0) - 1)), t0.2)) [0, 1, 2, 3, 4, 5, 6, 7] (by decide) rfl) hS (lv_sub hl [0, 1] rfl)
              · replace h := h.2 c_13
                refine lv_aload_n hx hb dX4_goOn_147 rfl (lv_at hl 1 rfl) ?_
                refine fl_get (C := RX4) (T := TX4) (N := 10) (ci := 3) (v := .ref (a0 7)) hx hb ht in_X4 hown hK hP 0 rfl rfl 6 (by decide) mw_310 rfl dX4_goOn_148 ?_
                refine lv_aload_n hx hb dX4_goOn_151 rfl (lv_at hl 1 rfl) ?_
                refine fl_get (C := RX4) (T := TX4) (N := 10) (ci := 3) (v := .int (t0.1 0)) hx hb ht in_X4 hown hK hP 0 rfl rfl 7 (by decide) mw_311 rfl dX4_goOn_152 ?_
                refine lv_iconst (v := 1) hx hb dX4_goOn_155 (by decide) ?_
                refine lv_isub hx hb dX4_goOn_156 ?_
                refine lv_dup2_11 hx hb dX4_goOn_157 rfl rfl ?_
                obtain ⟨g_14, h⟩ := h
                refine va_iald hx hb hK hP 7 0 rfl rfl g_14 dX4_goOn_158 ?_
                refine lv_iconst (v := 1) hx hb dX4_goOn_159 (by decide) ?_
                refine lv_isub hx hb dX4_goOn_160 ?_
                obtain ⟨g_15, h⟩ := h
                refine va_iast hx hb hK hP hD hS 7 0 rfl rfl g_15 dX4_goOn_161 (fun H locs hP hD hS => ?_)
                have hP : va_P D vwCl [((a0 0), .inr (3, [.ref (a0 1), .ref (a0 2), .ref (a0 3), .ref (a0 4), .ref (a0 5), .ref (a0 6), .ref (a0 7), .int (t0.1 0), .int (t0.1 1), .int (t0.1 2)])), ((a0 1), .inl (q 0, 80, .inl (t0.2 0))), ((a0 2), .inl (q 0, 80, .inl (t0.2 1))), ((a0 3), .inl (q 0, 80, .inl (t0.2 2))), ((a0 4), .inl (q 0, 80, .inl (t0.2 3))), ((a0 5), .inl (q 0, 80, .inl (t0.2 4))), ((a0 6), .inl (q 0, 3, .inl (t0.2 5))), ((a0 7), .inl (q 0, 3, .inl (upd (t0.2 6) (Int32.toNatClampNeg ((t0.1 0) - 1)) (((t0.2 6) (Int32.toNatClampNeg ((t0.1 0) - 1))) - 1))))] H := hP
                have hD : va_D _ [((a0 0), .inr (3, [.ref (a0 1), .ref (a0 2), .ref (a0 3), .ref (a0 4), .ref (a0 5), .ref (a0 6), .ref (a0 7), .int (t0.1 0), .int (t0.1 1), .int (t0.1 2)])), ((a0 1), .inl (q 0, 80, .inl (t0.2 0))), ((a0 2), .inl (q 0, 80, .inl (t0.2 1))), ((a0 3), .inl (q 0, 80, .inl (t0.2 2))), ((a0 4), .inl (q 0, 80, .inl (t0.2 3))), ((a0 5), .inl (q 0, 80, .inl (t0.2 4))), ((a0 6), .inl (q 0, 3, .inl (t0.2 5))), ((a0 7), .inl (q 0, 3, .inl (upd (t0.2 6) (Int32.toNatClampNeg ((t0.1 0) - 1)) (((t0.2 6) (Int32.toNatClampNeg ((t0.1 0) - 1))) - 1))))] := hD
                refine lv_aload_n hx hb dX4_goOn_162 rfl (lv_at hl 1 rfl) ?_
                refine lv_aload_n hx hb dX4_goOn_163 rfl (lv_at hl 1 rfl) ?_
                refine fl_get (C := RX4) (T := TX4) (N := 10) (ci := 3) (v := .ref (a0 6)) hx hb ht in_X4 hown hK hP 0 rfl rfl 5 (by decide) mw_309 rfl dX4_goOn_164 ?_
                refine lv_aload_n hx hb dX4_goOn_167 rfl (lv_at hl 1 rfl) ?_
                refine fl_get (C := RX4) (T := TX4) (N := 10) (ci := 3) (v := .int (t0.1 0)) hx hb ht in_X4 hown hK hP 0 rfl rfl 7 (by decide) mw_311 rfl dX4_goOn_168 ?_
                refine lv_iconst (v := 1) hx hb dX4_goOn_171 (by decide) ?_
                refine lv_isub hx hb dX4_goOn_172 ?_
                obtain ⟨g_16, h⟩ := h
                refine va_iald hx hb hK hP 6 0 rfl rfl g_16 dX4_goOn_173 ?_
                refine lv_iconst (v := 1) hx hb dX4_goOn_174 (by decide) ?_
                refine lv_iadd hx hb dX4_goOn_175 ?_
                refine fl_put (C := RX4) (T := TX4) (N := 10) (ci := 3) (v := .int (((t0.2 5) (Int32.toNatClampNeg ((t0.1 0) - 1))) + 1)) (ws2 := [((a0 0), .inr (3, [.ref (a0 1), .ref (a0 2), .ref (a0 3), .ref (a0 4), .ref (a0 5), .ref (a0 6), .ref (a0 7), .int (t0.1 0), .int (t0.1 1), .int (((t0.2 5) (Int32.toNatClampNeg ((t0.1 0) - 1))) + 1)])), ((a0 1), .inl (q 0, 80, .inl (t0.2 0))), ((a0 2), .inl (q 0, 80, .inl (t0.2 1))), ((a0 3), .inl (q 0, 80, .inl (t0.2 2))), ((a0 4), .inl (q 0, 80, .inl (t0.2 3))), ((a0 5), .inl (q 0, 80, .inl (t0.2 4))), ((a0 6), .inl (q 0, 3, .inl (t0.2 5))), ((a0 7), .inl (q 0, 3, .inl (upd (t0.2 6) (Int32.toNatClampNeg ((t0.1 0) - 1)) (((t0.2 6) (Int32.toNatClampNeg ((t0.1 0) - 1))) - 1))))]) hx hb ht in_X4 tyX4_ok nmX4 hown hK hP hD hS 0 rfl rfl 9 (by decide) mw_313 rfl rfl rfl (Nat.le_of_ble_eq_true rfl) dX4_goOn_176 rfl (fun H locs hP hD hS => ?_)
                refine lv_goto (tgt := 192) hx hb dX4_goOn_179 (by decide) ?_
                refine lv_iinc (v := (z1 + 1)) (lv' := [(1, .int (z1 + 1)), (0, .ref (a0 0))]) hx hb dX4_goOn_192 hl (k := 0) rfl rfl (by decide) rfl (fun ls hl => ?_)
                refine lv_goto (tgt := 99) hx hb dX4_goOn_195 (by decide) ?_
                exact ih _ _ _ _ ls h (hP.sub (ws' := pg_w a0 q ((va_up t0.1 2 (((t0.2 5) (Int32.toNatClampNeg ((t0.1 0) - 1))) + 1)), (va_up t0.2 6 (upd (t0.2 6) (Int32.toNatClampNeg ((t0.1 0) - 1)) (((t0.2 6) (Int32.toNatClampNeg ((t0.1 0) - 1))) - 1))))) [0, 1, 2, 3, 4, 5, 6, 7] rfl) (hD.sub (ws' := pg_w a0 q ((va_up t0.1 2 (((t0.2 5) (Int32.toNatClampNeg ((t0.1 0) - 1))) + 1)), (va_up t0.2 6 (upd (t0.2 6) (Int32.toNatClampNeg ((t0.1 0) - 1)) (((t0.2 6) (Int32.toNatClampNeg ((t0.1 0) - 1))) - 1))))) [0, 1, 2, 3, 4, 5, 6, 7] (by decide) rfl) hS (lv_sub hl [0, 1] rfl)
    obtain ⟨n99, h⟩ := h
    refine lp99 _ ?_ n99 _ _ _ _ ls h (hP.sub (ws' := pg_w a0 q ((va_up s0.1 2 r_4), s0.2)) [0, 1, 2, 3, 4, 5, 6, 7] rfl) (hD.sub (ws' := pg_w a0 q ((va_up s0.1 2 r_4), s0.2)) [0, 1, 2, 3, 4, 5, 6, 7] (by decide) rfl) hS (lv_sub hl [0, 1] rfl)
    · intro t0 z1 H locs ls h hP hD hS hl
      try dsimp only at h
      have hP : va_P D vwCl [((a0 0), .inr (3, [.ref (a0 1), .ref (a0 2), .ref (a0 3), .ref (a0 4), .ref (a0 5), .ref (a0 6), .ref (a0 7), .int (t0.1 0), .int (t0.1 1), .int (t0.1 2)])), ((a0 1), .inl (q 0, 80, .inl (t0.2 0))), ((a0 2), .inl (q 0, 80, .inl (t0.2 1))), ((a0 3), .inl (q 0, 80, .inl (t0.2 2))), ((a0 4), .inl (q 0, 80, .inl (t0.2 3))), ((a0 5), .inl (q 0, 80, .inl (t0.2 4))), ((a0 6), .inl (q 0, 3, .inl (t0.2 5))), ((a0 7), .inl (q 0, 3, .inl (t0.2 6)))] H := hP
      have hD : va_D _ [((a0 0), .inr (3, [.ref (a0 1), .ref (a0 2), .ref (a0 3), .ref (a0 4), .ref (a0 5), .ref (a0 6), .ref (a0 7), .int (t0.1 0), .int (t0.1 1), .int (t0.1 2)])), ((a0 1), .inl (q 0, 80, .inl (t0.2 0))), ((a0 2), .inl (q 0, 80, .inl (t0.2 1))), ((a0 3), .inl (q 0, 80, .inl (t0.2 2))), ((a0 4), .inl (q 0, 80, .inl (t0.2 3))), ((a0 5), .inl (q 0, 80, .inl (t0.2 4))), ((a0 6), .inl (q 0, 3, .inl (t0.2 5))), ((a0 7), .inl (q 0, 3, .inl (t0.2 6)))] := hD
      exact mt_vret t0 hx hb hr hk h (hP.sub (ws' := pg_w a0 q t0) [0, 1, 2, 3, 4, 5, 6, 7] rfl) (hD.sub (ws' := pg_w a0 q t0) [0, 1, 2, 3, 4, 5, 6, 7] (by decide) rfl) hS dX4_goOn_198
  · replace h := h.2 c_3
    refine lv_aload_n hx hb dX4_goOn_13 rfl (lv_at hl 0 rfl) ?_
    refine lv_aload_n hx hb dX4_goOn_14 rfl (lv_at hl 0 rfl) ?_
    refine fl_get (C := RX4) (T := TX4) (N := 10) (ci := 3) (v := .int (s0.1 2)) hx hb ht in_X4 hown hK hP 0 rfl rfl 9 (by decide) mw_313 rfl dX4_goOn_15 ?_
    refine vp_callSi (rd_wV (wc := pg_w a0 q s0) (As := [.int (s0.1 2)]) (rest := []) hx hb hml hown ht (c2_X4_oneOf h) wd_X4_oneOf mw_864 hQ hV hS (hP.sub [0, 1, 2, 3, 4, 5, 6, 7] rfl) rfl rfl rfl hl.1 rfl (Nat.le_of_ble_eq_true rfl) dX4_goOn_18 ⟨Nat.le_of_ble_eq_true rfl, Nat.le_of_ble_eq_true rfl, rfl, rfl⟩ ⟨Nat.le_of_ble_eq_true rfl, Nat.le_of_ble_eq_true rfl⟩) (fun r_17 h => ?_)
    try dsimp only at h
    refine lv_if_le (tgt := 85) hx hb dX4_goOn_21 (by decide) (fun c_19 => ?_) (fun c_19 => ?_)
    · replace h := h.1 c_19
      refine lv_aload_n hx hb dX4_goOn_85 rfl (lv_at hl 0 rfl) ?_
      refine lv_aload_n hx hb dX4_goOn_86 rfl (lv_at hl 0 rfl) ?_
      refine lv_aload_n hx hb dX4_goOn_87 rfl (lv_at hl 0 rfl) ?_
      refine fl_get (C := RX4) (T := TX4) (N := 10) (ci := 3) (v := .int (s0.1 2)) hx hb ht in_X4 hown hK hP 0 rfl rfl 9 (by decide) mw_313 rfl dX4_goOn_88 ?_
      refine vp_callSi (rd_wV (wc := pg_w a0 q s0) (As := [.int (s0.1 2)]) (rest := [.ref (a0 0)]) hx hb hml hown ht (c2_X4_endOf h) wd_X4_endOf mw_865 hQ hV hS (hP.sub [0, 1, 2, 3, 4, 5, 6, 7] rfl) rfl rfl rfl hl.1 rfl (Nat.le_of_ble_eq_true rfl) dX4_goOn_91 ⟨Nat.le_of_ble_eq_true rfl, Nat.le_of_ble_eq_true rfl, rfl, rfl⟩ ⟨Nat.le_of_ble_eq_true rfl, Nat.le_of_ble_eq_true rfl⟩) (fun r_20 h => ?_)
      try dsimp only at h
      refine fl_put (C := RX4) (T := TX4) (N := 10) (ci := 3) (v := .int r_20) (ws2 := [((a0 0), .inr (3, [.ref (a0 1), .ref (a0 2), .ref (a0 3), .ref (a0 4), .ref (a0 5), .ref (a0 6), .ref (a0 7), .int (s0.1 0), .int (s0.1 1), .int r_20])), ((a0 1), .inl (q 0, 80, .inl (s0.2 0))), ((a0 2), .inl (q 0, 80, .inl (s0.2 1))), ((a0 3), .inl (q 0, 80, .inl (s0.2 2))), ((a0 4), .inl (q 0, 80, .inl (s0.2 3))), ((a0 5), .inl (q 0, 80, .inl (s0.2 4))), ((a0 6), .inl (q 0, 3, .inl (s0.2 5))), ((a0 7), .inl (q 0, 3, .inl (s0.2 6)))]) hx hb ht in_X4 tyX4_ok nmX4 hown hK hP hD hS 0 rfl rfl 9 (by decide) mw_313 rfl rfl rfl (Nat.le_of_ble_eq_true rfl) dX4_goOn_94 rfl (fun H locs hP hD hS => ?_)
      refine lv_iconst (v := 0) hx hb dX4_goOn_97 (by decide) ?_
      refine lv_istore_n (lv' := [(1, .int 0), (0, .ref (a0 0))]) hx hb dX4_goOn_98 rfl hl (by decide) rfl (fun ls hl => ?_)
      have lp99 : ∀ (e198 : Pg → Int32 → Prop) (k198 : ∀ (t0 : Pg) (z1 : Int32) (H : Heap) (locs : List Loc) (ls : Array Slot), e198 t0 z1 → va_P D vwCl (pg_w a0 q t0) H → va_D (va_A (pg_w a0 q s0) sz) (pg_w a0 q t0) → va_S (va_A (pg_w a0 q s0) sz) s.heap H locs → lv_has ls 2 [(1, .int z1), (0, .ref (a0 0))] → W p l e ({ frames := 2, cells := 0, slots := 0, locals := 42 } : Room) s m [.ref (a0 0)].toArray below meth c H locs 0 0 (MQ below (va_Qv (fun u : Pg => post u) (mt_B D (pg_w a0 q s0) sz (fun u : Pg => pg_w a0 q u)) (va_A (pg_w a0 q s0) sz)) [.ref (a0 0)].toArray s 0 0 (va_A (pg_w a0 q s0) sz)) (F0 m 198 ls [])) (n : Nat) (t0 : Pg) (z1 : Int32) (H : Heap) (locs : List Loc) (ls : Array Slot), wp_X4_goOn_L99b post e198 n t0 z1 → va_P D vwCl (pg_w a0 q t0) H → va_D (va_A (pg_w a0 q s0) sz) (pg_w a0 q t0) → va_S (va_A (pg_w a0 q s0) sz) s.heap H locs → lv_has ls 2 [(1, .int z1), (0, .ref (a0 0))] → W p l e ({ frames := 2, cells := 0, slots := 0, locals := 42 } : Room) s m [.ref (a0 0)].toArray below meth c H locs 0 0 (MQ below (va_Qv (fun u : Pg => post u) (mt_B D (pg_w a0 q s0) sz (fun u : Pg => pg_w a0 q u)) (va_A (pg_w a0 q s0) sz)) [.ref (a0 0)].toArray s 0 0 (va_A (pg_w a0 q s0) sz)) (F0 m 99 ls []) := by
        intro e198 k198 n
        induction n with
        | zero =>
          intro t0 z1 H locs ls h
          exact h.elim
        | succ n ih =>
          intro t0 z1 H locs ls h hP hD hS hl
          have hP : va_P D vwCl [((a0 0), .inr (3, [.ref (a0 1), .ref (a0 2), .ref (a0 3), .ref (a0 4), .ref (a0 5), .ref (a0 6), .ref (a0 7), .int (t0.1 0), .int (t0.1 1), .int (t0.1 2)])), ((a0 1), .inl (q 0, 80, .inl (t0.2 0))), ((a0 2), .inl (q 0, 80, .inl (t0.2 1))), ((a0 3), .inl (q 0, 80, .inl (t0.2 2))), ((a0 4), .inl (q 0, 80, .inl (t0.2 3))), ((a0 5), .inl (q 0, 80, .inl (t0.2 4))), ((a0 6), .inl (q 0, 3, .inl (t0.2 5))), ((a0 7), .inl (q 0, 3, .inl (t0.2 6)))] H := hP
          have hD : va_D _ [((a0 0), .inr (3, [.ref (a0 1), .ref (a0 2), .ref (a0 3), .ref (a0 4), .ref (a0 5), .ref (a0 6), .ref (a0 7), .int (t0.1 0), .int (t0.1 1), .int (t0.1 2)])), ((a0 1), .inl (q 0, 80, .inl (t0.2 0))), ((a0 2), .inl (q 0, 80, .inl (t0.2 1))), ((a0 3), .inl (q 0, 80, .inl (t0.2 2))), ((a0 4), .inl (q 0, 80, .inl (t0.2 3))), ((a0 5), .inl (q 0, 80, .inl (t0.2 4))), ((a0 6), .inl (q 0, 3, .inl (t0.2 5))), ((a0 7), .inl (q 0, 3, .inl (t0.2 6)))] := hD
          unfold wp_X4_goOn_L99b at h
          refine lv_iload_n hx hb dX4_goOn_99 rfl (lv_at hl 0 rfl) ?_
          refine lv_iconst (v := 3) hx hb dX4_goOn_100 (by decide) ?_
          refine lv_icmp_ge (tgt := 198) hx hb dX4_goOn_101 (by decide) (fun c_22 => ?_) (fun c_22 => ?_)
          · replace h := h.1 c_22
            exact k198 _ _ _ _ ls h (hP.sub (ws' := pg_w a0 q t0) [0, 1, 2, 3, 4, 5, 6, 7] rfl) (hD.sub (ws' := pg_w a0 q t0) [0, 1, 2, 3, 4, 5, 6, 7] (by decide) rfl) hS (lv_sub hl [0, 1] rfl)
          · replace h := h.2 c_22
            refine lv_aload_n hx hb dX4_goOn_104 rfl (lv_at hl 1 rfl) ?_
            refine fl_get (C := RX4) (T := TX4) (N := 10) (ci := 3) (v := .int (t0.1 0)) hx hb ht in_X4 hown hK hP 0 rfl rfl 7 (by decide) mw_311 rfl dX4_goOn_105 ?_
            refine lv_if_le (tgt := 198) hx hb dX4_goOn_108 (by decide) (fun c_23 => ?_) (fun c_23 => ?_)
            · replace h := h.1 c_23
              exact k198 _ _ _ _ ls h (hP.sub (ws' := pg_w a0 q t0) [0, 1, 2, 3, 4, 5, 6, 7] rfl) (hD.sub (ws' := pg_w a0 q t0) [0, 1, 2, 3, 4, 5, 6, 7] (by decide) rfl) hS (lv_sub hl [0, 1] rfl)
            · replace h := h.2 c_23
              refine lv_aload_n hx hb dX4_goOn_111 rfl (lv_at hl 1 rfl) ?_
              refine fl_get (C := RX4) (T := TX4) (N := 10) (ci := 3) (v := .int (t0.1 2)) hx hb ht in_X4 hown hK hP 0 rfl rfl 9 (by decide) mw_313 rfl dX4_goOn_112 ?_
              refine lv_aload_n hx hb dX4_goOn_115 rfl (lv_at hl 1 rfl) ?_
              refine lv_aload_n hx hb dX4_goOn_116 rfl (lv_at hl 1 rfl) ?_
              refine fl_get (C := RX4) (T := TX4) (N := 10) (ci := 3) (v := .ref (a0 6)) hx hb ht in_X4 hown hK hP 0 rfl rfl 5 (by decide) mw_309 rfl dX4_goOn_117 ?_
              refine lv_aload_n hx hb dX4_goOn_120 rfl (lv_at hl 1 rfl) ?_
              refine fl_get (C := RX4) (T := TX4) (N := 10) (ci := 3) (v := .int (t0.1 0)) hx hb ht in_X4 hown hK hP 0 rfl rfl 7 (by decide) mw_311 rfl dX4_goOn_121 ?_
              refine lv_iconst (v := 1) hx hb dX4_goOn_124 (by decide) ?_
              refine lv_isub hx hb dX4_goOn_125 ?_
              obtain ⟨g_24, h⟩ := h
              refine va_iald hx hb hK hP 6 0 rfl rfl g_24 dX4_goOn_126 ?_
              refine vp_callSi (rd_wV (wc := pg_w a0 q t0) (As := [.int ((t0.2 5) (Int32.toNatClampNeg ((t0.1 0) - 1)))]) (rest := [.int (t0.1 2)]) hx hb hml hown ht (c2_X4_endOf h) wd_X4_endOf mw_865 hQ hV hS (hP.sub [0, 1, 2, 3, 4, 5, 6, 7] rfl) rfl rfl rfl hl.1 rfl (Nat.le_of_ble_eq_true rfl) dX4_goOn_127 ⟨Nat.le_of_ble_eq_true rfl, Nat.le_of_ble_eq_true rfl, rfl, rfl⟩ ⟨Nat.le_of_ble_eq_true rfl, Nat.le_of_ble_eq_true rfl⟩) (fun r_25 h => ?_)
              try dsimp only at h
              refine lv_icmp_ne (tgt := 198) hx hb dX4_goOn_130 (by decide) (fun c_27 => ?_) (fun c_27 => ?_)
              · replace h := h.1 c_27
                exact k198 _ _ _ _ ls h (hP.sub (ws' := pg_w a0 q t0) [0, 1, 2, 3, 4, 5, 6, 7] rfl) (hD.sub (ws' := pg_w a0 q t0) [0, 1, 2, 3, 4, 5, 6, 7] (by decide) rfl) hS (lv_sub hl [0, 1] rfl)
              · replace h := h.2 c_27
                refine lv_aload_n hx hb dX4_goOn_133 rfl (lv_at hl 1 rfl) ?_
                refine fl_get (C := RX4) (T := TX4) (N := 10) (ci := 3) (v := .ref (a0 7)) hx hb ht in_X4 hown hK hP 0 rfl rfl 6 (by decide) mw_310 rfl dX4_goOn_134 ?_
                refine lv_aload_n hx hb dX4_goOn_137 rfl (lv_at hl 1 rfl) ?_
                refine fl_get (C := RX4) (T := TX4) (N := 10) (ci := 3) (v := .int (t0.1 0)) hx hb ht in_X4 hown hK hP 0 rfl rfl 7 (by decide) mw_311 rfl dX4_goOn_138 ?_
                refine lv_iconst (v := 1) hx hb dX4_goOn_141 (by decide) ?_
                refine lv_isub hx hb dX4_goOn_142 ?_
                obtain ⟨g_28, h⟩ := h
                refine va_iald hx hb hK hP 7 0 rfl rfl g_28 dX4_goOn_143 ?_
                refine lv_if_le (tgt := 182) hx hb dX4_goOn_144 (by decide) (fun c_29 => ?_) (fun c_29 => ?_)
                · replace h := h.1 c_29
                  refine lv_aload_n hx hb dX4_goOn_182 rfl (lv_at hl 1 rfl) ?_
                  refine lv_dup hx hb dX4_goOn_183 rfl ?_
                  refine fl_get (C := RX4) (T := TX4) (N := 10) (ci := 3) (v := .int (t0.1 0)) hx hb ht in_X4 hown hK hP 0 rfl rfl 7 (by decide) mw_311 rfl dX4_goOn_184 ?_
                  refine lv_iconst (v := 1) hx hb dX4_goOn_187 (by decide) ?_
                  refine lv_isub hx hb dX4_goOn_188 ?_
                  refine fl_put (C := RX4) (T := TX4) (N := 10) (ci := 3) (v := .int ((t0.1 0) - 1)) (ws2 := [((a0 0), .inr (3, [.ref (a0 1), .ref (a0 2), .ref (a0 3), .ref (a0 4), .ref (a0 5), .ref (a0 6), .ref (a0 7), .int ((t0.1 0) - 1), .int (t0.1 1), .int (t0.1 2)])), ((a0 1), .inl (q 0, 80, .inl (t0.2 0))), ((a0 2), .inl (q 0, 80, .inl (t0.2 1))), ((a0 3), .inl (q 0, 80, .inl (t0.2 2))), ((a0 4), .inl (q 0, 80, .inl (t0.2 3))), ((a0 5), .inl (q 0, 80, .inl (t0.2 4))), ((a0 6), .inl (q 0, 3, .inl (t0.2 5))), ((a0 7), .inl (q 0, 3, .inl (t0.2 6)))]) hx hb ht in_X4 tyX4_ok nmX4 hown hK hP hD hS 0 rfl rfl 7 (by decide) mw_311 rfl rfl rfl (Nat.le_of_ble_eq_true rfl) dX4_goOn_189 rfl (fun H locs hP hD hS => ?_)
                  refine lv_iinc (v := (z1 + 1)) (lv' := [(1, .int (z1 + 1)), (0, .ref (a0 0))]) hx hb dX4_goOn_192 hl (k := 0) rfl rfl (by decide) rfl (fun ls hl => ?_)
                  refine lv_goto (tgt := 99) hx hb dX4_goOn_195 (by decide) ?_
                  exact ih _ _ _ _ ls h (hP.sub (ws' := pg_w a0 q ((va_up t0.1 0 ((t0.1 0) - 1)), t0.2)) [0, 1, 2, 3, 4, 5, 6, 7] rfl) (hD.sub (ws' := pg_w a0 q ((va_up t0.1 0 ((t0.1 0) - 1)), t0.2)) [0, 1, 2, 3, 4, 5, 6, 7] (by decide) rfl) hS (lv_sub hl [0, 1] rfl)
                · replace h := h.2 c_29
                  refine lv_aload_n hx hb dX4_goOn_147 rfl (lv_at hl 1 rfl) ?_
                  refine fl_get (C := RX4) (T := TX4) (N := 10) (ci := 3) (v := .ref (a0 7)) hx hb ht in_X4 hown hK hP 0 rfl rfl 6 (by decide) mw_310 rfl dX4_goOn_148 ?_
                  refine lv_aload_n hx hb dX4_goOn_151 rfl (lv_at hl 1 rfl) ?_
                  refine fl_get (C := RX4) (T := TX4) (N := 10) (ci := 3) (v := .int (t0.1 0)) hx hb ht in_X4 hown hK hP 0 rfl rfl 7 (by decide) mw_311 rfl dX4_goOn_152 ?_
                  refine lv_iconst (v := 1) hx hb dX4_goOn_155 (by decide) ?_
                  refine lv_isub hx hb dX4_goOn_156 ?_
                  refine lv_dup2_11 hx hb dX4_goOn_157 rfl rfl ?_
                  obtain ⟨g_30, h⟩ := h
                  refine va_iald hx hb hK hP 7 0 rfl rfl g_30 dX4_goOn_158 ?_
                  refine lv_iconst (v := 1) hx hb dX4_goOn_159 (by decide) ?_
                  refine lv_isub hx hb dX4_goOn_160 ?_
                  obtain ⟨g_31, h⟩ := h
                  refine va_iast hx hb hK hP hD hS 7 0 rfl rfl g_31 dX4_goOn_161 (fun H locs hP hD hS => ?_)
                  have hP : va_P D vwCl [((a0 0), .inr (3, [.ref (a0 1), .ref (a0 2), .ref (a0 3), .ref (a0 4), .ref (a0 5), .ref (a0 6), .ref (a0 7), .int (t0.1 0), .int (t0.1 1), .int (t0.1 2)])), ((a0 1), .inl (q 0, 80, .inl (t0.2 0))), ((a0 2), .inl (q 0, 80, .inl (t0.2 1))), ((a0 3), .inl (q 0, 80, .inl (t0.2 2))), ((a0 4), .inl (q 0, 80, .inl (t0.2 3))), ((a0 5), .inl (q 0, 80, .inl (t0.2 4))), ((a0 6), .inl (q 0, 3, .inl (t0.2 5))), ((a0 7), .inl (q 0, 3, .inl (upd (t0.2 6) (Int32.toNatClampNeg ((t0.1 0) - 1)) (((t0.2 6) (Int32.toNatClampNeg ((t0.1 0) - 1))) - 1))))] H := hP
                  have hD : va_D _ [((a0 0), .inr (3, [.ref (a0 1), .ref (a0 2), .ref (a0 3), .ref (a0 4), .ref (a0 5), .ref (a0 6), .ref (a0 7), .int (t0.1 0), .int (t0.1 1), .int (t0.1 2)])), ((a0 1), .inl (q 0, 80, .inl (t0.2 0))), ((a0 2), .inl (q 0, 80, .inl (t0.2 1))), ((a0 3), .inl (q 0, 80, .inl (t0.2 2))), ((a0 4), .inl (q 0, 80, .inl (t0.2 3))), ((a0 5), .inl (q 0, 80, .inl (t0.2 4))), ((a0 6), .inl (q 0, 3, .inl (t0.2 5))), ((a0 7), .inl (q 0, 3, .inl (upd (t0.2 6) (Int32.toNatClampNeg ((t0.1 0) - 1)) (((t0.2 6) (Int32.toNatClampNeg ((t0.1 0) - 1))) - 1))))] := hD
                  refine lv_aload_n hx hb dX4_goOn_162 rfl (lv_at hl 1 rfl) ?_
                  refine lv_aload_n hx hb dX4_goOn_163 rfl (lv_at hl 1 rfl) ?_
                  refine fl_get (C := RX4) (T := TX4) (N := 10) (ci := 3) (v := .ref (a0 6)) hx hb ht in_X4 hown hK hP 0 rfl rfl 5 (by decide) mw_309 rfl dX4_goOn_164 ?_
                  refine lv_aload_n hx hb dX4_goOn_167 rfl (lv_at hl 1 rfl) ?_
                  refine fl_get (C := RX4) (T := TX4) (N := 10) (ci := 3) (v := .int (t0.1 0)) hx hb ht in_X4 hown hK hP 0 rfl rfl 7 (by decide) mw_311 rfl dX4_goOn_168 ?_
                  refine lv_iconst (v := 1) hx hb dX4_goOn_171 (by decide) ?_
                  refine lv_isub hx hb dX4_goOn_172 ?_
                  obtain ⟨g_32, h⟩ := h
                  refine va_iald hx hb hK hP 6 0 rfl rfl g_32 dX4_goOn_173 ?_
                  refine lv_iconst (v := 1) hx hb dX4_goOn_174 (by decide) ?_
                  refine lv_iadd hx hb dX4_goOn_175 ?_
                  refine fl_put (C := RX4) (T := TX4) (N := 10) (ci := 3) (v := .int (((t0.2 5) (Int32.toNatClampNeg ((t0.1 0) - 1))) + 1)) (ws2 := [((a0 0), .inr (3, [.ref (a0 1), .ref (a0 2), .ref (a0 3), .ref (a0 4), .ref (a0 5), .ref (a0 6), .ref (a0 7), .int (t0.1 0), .int (t0.1 1), .int (((t0.2 5) (Int32.toNatClampNeg ((t0.1 0) - 1))) + 1)])), ((a0 1), .inl (q 0, 80, .inl (t0.2 0))), ((a0 2), .inl (q 0, 80, .inl (t0.2 1))), ((a0 3), .inl (q 0, 80, .inl (t0.2 2))), ((a0 4), .inl (q 0, 80, .inl (t0.2 3))), ((a0 5), .inl (q 0, 80, .inl (t0.2 4))), ((a0 6), .inl (q 0, 3, .inl (t0.2 5))), ((a0 7), .inl (q 0, 3, .inl (upd (t0.2 6) (Int32.toNatClampNeg ((t0.1 0) - 1)) (((t0.2 6) (Int32.toNatClampNeg ((t0.1 0) - 1))) - 1))))]) hx hb ht in_X4 tyX4_ok nmX4 hown hK hP hD hS 0 rfl rfl 9 (by decide) mw_313 rfl rfl rfl (Nat.le_of_ble_eq_true rfl) dX4_goOn_176 rfl (fun H locs hP hD hS => ?_)
                  refine lv_goto (tgt := 192) hx hb dX4_goOn_179 (by decide) ?_
                  refine lv_iinc (v := (z1 + 1)) (lv' := [(1, .int (z1 + 1)), (0, .ref (a0 0))]) hx hb dX4_goOn_192 hl (k := 0) rfl rfl (by decide) rfl (fun ls hl => ?_)
                  refine lv_goto (tgt := 99) hx hb dX4_goOn_195 (by decide) ?_
                  exact ih _ _ _ _ ls h (hP.sub (ws' := pg_w a0 q ((va_up t0.1 2 (((t0.2 5) (Int32.toNatClampNeg ((t0.1 0) - 1))) + 1)), (va_up t0.2 6 (upd (t0.2 6) (Int32.toNatClampNeg ((t0.1 0) - 1)) (((t0.2 6) (Int32.toNatClampNeg ((t0.1 0) - 1))) - 1))))) [0, 1, 2, 3, 4, 5, 6, 7] rfl) (hD.sub (ws' := pg_w a0 q ((va_up t0.1 2 (((t0.2 5) (Int32.toNatClampNeg ((t0.1 0) - 1))) + 1)), (va_up t0.2 6 (upd (t0.2 6) (Int32.toNatClampNeg ((t0.1 0) - 1)) (((t0.2 6) (Int32.toNatClampNeg ((t0.1 0) - 1))) - 1))))) [0, 1, 2, 3, 4, 5, 6, 7] (by decide) rfl) hS (lv_sub hl [0, 1] rfl)
      obtain ⟨n99, h⟩ := h
      refine lp99 _ ?_ n99 _ _ _ _ ls h (hP.sub (ws' := pg_w a0 q ((va_up s0.1 2 r_20), s0.2)) [0, 1, 2, 3, 4, 5, 6, 7] rfl) (hD.sub (ws' := pg_w a0 q ((va_up s0.1 2 r_20), s0.2)) [0, 1, 2, 3, 4, 5, 6, 7] (by decide) rfl) hS (lv_sub hl [0, 1] rfl)
      · intro t0 z1 H locs ls h hP hD hS hl
        try dsimp only at h
        have hP : va_P D vwCl [((a0 0), .inr (3, [.ref (a0 1), .ref (a0 2), .ref (a0 3), .ref (a0 4), .ref (a0 5), .ref (a0 6), .ref (a0 7), .int (t0.1 0), .int (t0.1 1), .int (t0.1 2)])), ((a0 1), .inl (q 0, 80, .inl (t0.2 0))), ((a0 2), .inl (q 0, 80, .inl (t0.2 1))), ((a0 3), .inl (q 0, 80, .inl (t0.2 2))), ((a0 4), .inl (q 0, 80, .inl (t0.2 3))), ((a0 5), .inl (q 0, 80, .inl (t0.2 4))), ((a0 6), .inl (q 0, 3, .inl (t0.2 5))), ((a0 7), .inl (q 0, 3, .inl (t0.2 6)))] H := hP
        have hD : va_D _ [((a0 0), .inr (3, [.ref (a0 1), .ref (a0 2), .ref (a0 3), .ref (a0 4), .ref (a0 5), .ref (a0 6), .ref (a0 7), .int (t0.1 0), .int (t0.1 1), .int (t0.1 2)])), ((a0 1), .inl (q 0, 80, .inl (t0.2 0))), ((a0 2), .inl (q 0, 80, .inl (t0.2 1))), ((a0 3), .inl (q 0, 80, .inl (t0.2 2))), ((a0 4), .inl (q 0, 80, .inl (t0.2 3))), ((a0 5), .inl (q 0, 80, .inl (t0.2 4))), ((a0 6), .inl (q 0, 3, .inl (t0.2 5))), ((a0 7), .inl (q 0, 3, .inl (t0.2 6)))] := hD
        exact mt_vret t0 hx hb hr hk h (hP.sub (ws' := pg_w a0 q t0) [0, 1, 2, 3, 4, 5, 6, 7] rfl) (hD.sub (ws' := pg_w a0 q t0) [0, 1, 2, 3, 4, 5, 6, 7] (by decide) rfl) hS dX4_goOn_198
    · replace h := h.2 c_19
      refine lv_aload_n hx hb dX4_goOn_24 rfl (lv_at hl 0 rfl) ?_
      refine fl_get (C := RX4) (T := TX4) (N := 10) (ci := 3) (v := .int (s0.1 0)) hx hb ht in_X4 hown hK hP 0 rfl rfl 7 (by decide) mw_311 rfl dX4_goOn_25 ?_
      refine lv_iconst (v := 3) hx hb dX4_goOn_28 (by decide) ?_
      refine lv_icmp_ge (tgt := 85) hx hb dX4_goOn_29 (by decide) (fun c_33 => ?_) (fun c_33 => ?_)
      · replace h := h.1 c_33
        refine lv_aload_n hx hb dX4_goOn_85 rfl (lv_at hl 0 rfl) ?_
        refine lv_aload_n hx hb dX4_goOn_86 rfl (lv_at hl 0 rfl) ?_
        refine lv_aload_n hx hb dX4_goOn_87 rfl (lv_at hl 0 rfl) ?_
        refine fl_get (C := RX4) (T := TX4) (N := 10) (ci := 3) (v := .int (s0.1 2)) hx hb ht in_X4 hown hK hP 0 rfl rfl 9 (by decide) mw_313 rfl dX4_goOn_88 ?_
        refine vp_callSi (rd_wV (wc := pg_w a0 q s0) (As := [.int (s0.1 2)]) (rest := [.ref (a0 0)]) hx hb hml hown ht (c2_X4_endOf h) wd_X4_endOf mw_865 hQ hV hS (hP.sub [0, 1, 2, 3, 4, 5, 6, 7] rfl) rfl rfl rfl hl.1 rfl (Nat.le_of_ble_eq_true rfl) dX4_goOn_91 ⟨Nat.le_of_ble_eq_true rfl, Nat.le_of_ble_eq_true rfl, rfl, rfl⟩ ⟨Nat.le_of_ble_eq_true rfl, Nat.le_of_ble_eq_true rfl⟩) (fun r_34 h => ?_)
        try dsimp only at h
        refine fl_put (C := RX4) (T := TX4) (N := 10) (ci := 3) (v := .int r_34) (ws2 := [((a0 0), .inr (3, [.ref (a0 1), .ref (a0 2), .ref (a0 3), .ref (a0 4), .ref (a0 5), .ref (a0 6), .ref (a0 7), .int (s0.1 0), .int (s0.1 1), .int r_34])), ((a0 1), .inl (q 0, 80, .inl (s0.2 0))), ((a0 2), .inl (q 0, 80, .inl (s0.2 1))), ((a0 3), .inl (q 0, 80, .inl (s0.2 2))), ((a0 4), .inl (q 0, 80, .inl (s0.2 3))), ((a0 5), .inl (q 0, 80, .inl (s0.2 4))), ((a0 6), .inl (q 0, 3, .inl (s0.2 5))), ((a0 7), .inl (q 0, 3, .inl (s0.2 6)))]) hx hb ht in_X4 tyX4_ok nmX4 hown hK hP hD hS 0 rfl rfl 9 (by decide) mw_313 rfl rfl rfl (Nat.le_of_ble_eq_true rfl) dX4_goOn_94 rfl (fun H locs hP hD hS => ?_)
        refine lv_iconst (v := 0) hx hb dX4_goOn_97 (by decide) ?_
        refine lv_istore_n (lv' := [(1, .int 0), (0, .ref (a0 0))]) hx hb dX4_goOn_98 rfl hl (by decide) rfl (fun ls hl => ?_)
        have lp99 : ∀ (e198 : Pg → Int32 → Prop) (k198 : ∀ (t0 : Pg) (z1 : Int32) (H : Heap) (locs : List Loc) (ls : Array Slot), e198 t0 z1 → va_P D vwCl (pg_w a0 q t0) H → va_D (va_A (pg_w a0 q s0) sz) (pg_w a0 q t0) → va_S (va_A (pg_w a0 q s0) sz) s.heap H locs → lv_has ls 2 [(1, .int z1), (0, .ref (a0 0))] → W p l e ({ frames := 2, cells := 0, slots := 0, locals := 42 } : Room) s m [.ref (a0 0)].toArray below meth c H locs 0 0 (MQ below (va_Qv (fun u : Pg => post u) (mt_B D (pg_w a0 q s0) sz (fun u : Pg => pg_w a0 q u)) (va_A (pg_w a0 q s0) sz)) [.ref (a0 0)].toArray s 0 0 (va_A (pg_w a0 q s0) sz)) (F0 m 198 ls [])) (n : Nat) (t0 : Pg) (z1 : Int32) (H : Heap) (locs : List Loc) (ls : Array Slot), wp_X4_goOn_L99bb post e198 n t0 z1 → va_P D vwCl (pg_w a0 q t0) H → va_D (va_A (pg_w a0 q s0) sz) (pg_w a0 q t0) → va_S (va_A (pg_w a0 q s0) sz) s.heap H locs → lv_has ls 2 [(1, .int z1), (0, .ref (a0 0))] → W p l e ({ frames := 2, cells := 0, slots := 0, locals := 42 } : Room) s m [.ref (a0 0)].toArray below meth c H locs 0 0 (MQ below (va_Qv (fun u : Pg => post u) (mt_B D (pg_w a0 q s0) sz (fun u : Pg => pg_w a0 q u)) (va_A (pg_w a0 q s0) sz)) [.ref (a0 0)].toArray s 0 0 (va_A (pg_w a0 q s0) sz)) (F0 m 99 ls []) := by
          intro e198 k198 n
          induction n with
          | zero =>
            intro t0 z1 H locs ls h
            exact h.elim
          | succ n ih =>
            intro t0 z1 H locs ls h hP hD hS hl
            have hP : va_P D vwCl [((a0 0), .inr (3, [.ref (a0 1), .ref (a0 2), .ref (a0 3), .ref (a0 4), .ref (a0 5), .ref (a0 6), .ref (a0 7), .int (t0.1 0), .int (t0.1 1), .int (t0.1 2)])), ((a0 1), .inl (q 0, 80, .inl (t0.2 0))), ((a0 2), .inl (q 0, 80, .inl (t0.2 1))), ((a0 3), .inl (q 0, 80, .inl (t0.2 2))), ((a0 4), .inl (q 0, 80, .inl (t0.2 3))), ((a0 5), .inl (q 0, 80, .inl (t0.2 4))), ((a0 6), .inl (q 0, 3, .inl (t0.2 5))), ((a0 7), .inl (q 0, 3, .inl (t0.2 6)))] H := hP
            have hD : va_D _ [((a0 0), .inr (3, [.ref (a0 1), .ref (a0 2), .ref (a0 3), .ref (a0 4), .ref (a0 5), .ref (a0 6), .ref (a0 7), .int (t0.1 0), .int (t0.1 1), .int (t0.1 2)])), ((a0 1), .inl (q 0, 80, .inl (t0.2 0))), ((a0 2), .inl (q 0, 80, .inl (t0.2 1))), ((a0 3), .inl (q 0, 80, .inl (t0.2 2))), ((a0 4), .inl (q 0, 80, .inl (t0.2 3))), ((a0 5), .inl (q 0, 80, .inl (t0.2 4))), ((a0 6), .inl (q 0, 3, .inl (t0.2 5))), ((a0 7), .inl (q 0, 3, .inl (t0.2 6)))] := hD
            unfold wp_X4_goOn_L99bb at h
            refine lv_iload_n hx hb dX4_goOn_99 rfl (lv_at hl 0 rfl) ?_
            refine lv_iconst (v := 3) hx hb dX4_goOn_100 (by decide) ?_
            refine lv_icmp_ge (tgt := 198) hx hb dX4_goOn_101 (by decide) (fun c_36 => ?_) (fun c_36 => ?_)
            · replace h := h.1 c_36
              exact k198 _ _ _ _ ls h (hP.sub (ws' := pg_w a0 q t0) [0, 1, 2, 3, 4, 5, 6, 7] rfl) (hD.sub (ws' := pg_w a0 q t0) [0, 1, 2, 3, 4, 5, 6, 7] (by decide) rfl) hS (lv_sub hl [0, 1] rfl)
            · replace h := h.2 c_36
              refine lv_aload_n hx hb dX4_goOn_104 rfl (lv_at hl 1 rfl) ?_
              refine fl_get (C := RX4) (T := TX4) (N := 10) (ci := 3) (v := .int (t0.1 0)) hx hb ht in_X4 hown hK hP 0 rfl rfl 7 (by decide) mw_311 rfl dX4_goOn_105 ?_
              refine lv_if_le (tgt := 198) hx hb dX4_goOn_108 (by decide) (fun c_37 => ?_) (fun c_37 => ?_)
              · replace h := h.1 c_37
                exact k198 _ _ _ _ ls h (hP.sub (ws' := pg_w a0 q t0) [0, 1, 2, 3, 4, 5, 6, 7] rfl) (hD.sub (ws' := pg_w a0 q t0) [0, 1, 2, 3, 4, 5, 6, 7] (by decide) rfl) hS (lv_sub hl [0, 1] rfl)
              · replace h := h.2 c_37
                refine lv_aload_n hx hb dX4_goOn_111 rfl (lv_at hl 1 rfl) ?_
                refine fl_get (C := RX4) (T := TX4) (N := 10) (ci := 3) (v := .int (t0.1 2)) hx hb ht in_X4 hown hK hP 0 rfl rfl 9 (by decide) mw_313 rfl dX4_goOn_112 ?_
                refine lv_aload_n hx hb dX4_goOn_115 rfl (lv_at hl 1 rfl) ?_
                refine lv_aload_n hx hb dX4_goOn_116 rfl (lv_at hl 1 rfl) ?_
                refine fl_get (C := RX4) (T := TX4) (N := 10) (ci := 3) (v := .ref (a0 6)) hx hb ht in_X4 hown hK hP 0 rfl rfl 5 (by decide) mw_309 rfl dX4_goOn_117 ?_
                refine lv_aload_n hx hb dX4_goOn_120 rfl (lv_at hl 1 rfl) ?_
                refine fl_get (C := RX4) (T := TX4) (N := 10) (ci := 3) (v := .int (t0.1 0)) hx hb ht in_X4 hown hK hP 0 rfl rfl 7 (by decide) mw_311 rfl dX4_goOn_121 ?_
                refine lv_iconst (v := 1) hx hb dX4_goOn_124 (by decide) ?_
                refine lv_isub hx hb dX4_goOn_125 ?_
                obtain ⟨g_38, h⟩ := h
                refine va_iald hx hb hK hP 6 0 rfl rfl g_38 dX4_goOn_126 ?_
                refine vp_callSi (rd_wV (wc := pg_w a0 q t0) (As := [.int ((t0.2 5) (Int32.toNatClampNeg ((t0.1 0) - 1)))]) (rest := [.int (t0.1 2)]) hx hb hml hown ht (c2_X4_endOf h) wd_X4_endOf mw_865 hQ hV hS (hP.sub [0, 1, 2, 3, 4, 5, 6, 7] rfl) rfl rfl rfl hl.1 rfl (Nat.le_of_ble_eq_true rfl) dX4_goOn_127 ⟨Nat.le_of_ble_eq_true rfl, Nat.le_of_ble_eq_true rfl, rfl, rfl⟩ ⟨Nat.le_of_ble_eq_true rfl, Nat.le_of_ble_eq_true rfl⟩) (fun r_39 h => ?_)
                try dsimp only at h
                refine lv_icmp_ne (tgt := 198) hx hb dX4_goOn_130 (by decide) (fun c_41 => ?_) (fun c_41 => ?_)
                · replace h := h.1 c_41
                  exact k198 _ _ _ _ ls h (hP.sub (ws' := pg_w a0 q t0) [0, 1, 2, 3, 4, 5, 6, 7] rfl) (hD.sub (ws' := pg_w a0 q t0) [0, 1, 2, 3, 4, 5, 6, 7] (by decide) rfl) hS (lv_sub hl [0, 1] rfl)
                · replace h := h.2 c_41
                  refine lv_aload_n hx hb dX4_goOn_133 rfl (lv_at hl 1 rfl) ?_
                  refine fl_get (C := RX4) (T := TX4) (N := 10) (ci := 3) (v := .ref (a0 7)) hx hb ht in_X4 hown hK hP 0 rfl rfl 6 (by decide) mw_310 rfl dX4_goOn_134 ?_
                  refine lv_aload_n hx hb dX4_goOn_137 rfl (lv_at hl 1 rfl) ?_
                  refine fl_get (C := RX4) (T := TX4) (N := 10) (ci := 3) (v := .int (t0.1 0)) hx hb ht in_X4 hown hK hP 0 rfl rfl 7 (by decide) mw_311 rfl dX4_goOn_138 ?_
                  refine lv_iconst (v := 1) hx hb dX4_goOn_141 (by decide) ?_
                  refine lv_isub hx hb dX4_goOn_142 ?_
                  obtain ⟨g_42, h⟩ := h
                  refine va_iald hx hb hK hP 7 0 rfl rfl g_42 dX4_goOn_143 ?_
                  refine lv_if_le (tgt := 182) hx hb dX4_goOn_144 (by decide) (fun c_43 => ?_) (fun c_43 => ?_)
                  · replace h := h.1 c_43
                    refine lv_aload_n hx hb dX4_goOn_182 rfl (lv_at hl 1 rfl) ?_
                    refine lv_dup hx hb dX4_goOn_183 rfl ?_
                    refine fl_get (C := RX4) (T := TX4) (N := 10) (ci := 3) (v := .int (t0.1 0)) hx hb ht in_X4 hown hK hP 0 rfl rfl 7 (by decide) mw_311 rfl dX4_goOn_184 ?_
                    refine lv_iconst (v := 1) hx hb dX4_goOn_187 (by decide) ?_
                    refine lv_isub hx hb dX4_goOn_188 ?_
                    refine fl_put (C := RX4) (T := TX4) (N := 10) (ci := 3) (v := .int ((t0.1 0) - 1)) (ws2 := [((a0 0), .inr (3, [.ref (a0 1), .ref (a0 2), .ref (a0 3), .ref (a0 4), .ref (a0 5), .ref (a0 6), .ref (a0 7), .int ((t0.1 0) - 1), .int (t0.1 1), .int (t0.1 2)])), ((a0 1), .inl (q 0, 80, .inl (t0.2 0))), ((a0 2), .inl (q 0, 80, .inl (t0.2 1))), ((a0 3), .inl (q 0, 80, .inl (t0.2 2))), ((a0 4), .inl (q 0, 80, .inl (t0.2 3))), ((a0 5), .inl (q 0, 80, .inl (t0.2 4))), ((a0 6), .inl (q 0, 3, .inl (t0.2 5))), ((a0 7), .inl (q 0, 3, .inl (t0.2 6)))]) hx hb ht in_X4 tyX4_ok nmX4 hown hK hP hD hS 0 rfl rfl 7 (by decide) mw_311 rfl rfl rfl (Nat.le_of_ble_eq_true rfl) dX4_goOn_189 rfl (fun H locs hP hD hS => ?_)
                    refine lv_iinc (v := (z1 + 1)) (lv' := [(1, .int (z1 + 1)), (0, .ref (a0 0))]) hx hb dX4_goOn_192 hl (k := 0) rfl rfl (by decide) rfl (fun ls hl => ?_)
                    refine lv_goto (tgt := 99) hx hb dX4_goOn_195 (by decide) ?_
                    exact ih _ _ _ _ ls h (hP.sub (ws' := pg_w a0 q ((va_up t0.1 0 ((t0.1 0) - 1)), t0.2)) [0, 1, 2, 3, 4, 5, 6, 7] rfl) (hD.sub (ws' := pg_w a0 q ((va_up t0.1 0 ((t0.1 0) - 1)), t0.2)) [0, 1, 2, 3, 4, 5, 6, 7] (by decide) rfl) hS (lv_sub hl [0, 1] rfl)
                  · replace h := h.2 c_43
                    refine lv_aload_n hx hb dX4_goOn_147 rfl (lv_at hl 1 rfl) ?_
                    refine fl_get (C := RX4) (T := TX4) (N := 10) (ci := 3) (v := .ref (a0 7)) hx hb ht in_X4 hown hK hP 0 rfl rfl 6 (by decide) mw_310 rfl dX4_goOn_148 ?_
                    refine lv_aload_n hx hb dX4_goOn_151 rfl (lv_at hl 1 rfl) ?_
                    refine fl_get (C := RX4) (T := TX4) (N := 10) (ci := 3) (v := .int (t0.1 0)) hx hb ht in_X4 hown hK hP 0 rfl rfl 7 (by decide) mw_311 rfl dX4_goOn_152 ?_
                    refine lv_iconst (v := 1) hx hb dX4_goOn_155 (by decide) ?_
                    refine lv_isub hx hb dX4_goOn_156 ?_
                    refine lv_dup2_11 hx hb dX4_goOn_157 rfl rfl ?_
                    obtain ⟨g_44, h⟩ := h
                    refine va_iald hx hb hK hP 7 0 rfl rfl g_44 dX4_goOn_158 ?_
                    refine lv_iconst (v := 1) hx hb dX4_goOn_159 (by decide) ?_
                    refine lv_isub hx hb dX4_goOn_160 ?_
                    obtain ⟨g_45, h⟩ := h
                    refine va_iast hx hb hK hP hD hS 7 0 rfl rfl g_45 dX4_goOn_161 (fun H locs hP hD hS => ?_)
                    have hP : va_P D vwCl [((a0 0), .inr (3, [.ref (a0 1), .ref (a0 2), .ref (a0 3), .ref (a0 4), .ref (a0 5), .ref (a0 6), .ref (a0 7), .int (t0.1 0), .int (t0.1 1), .int (t0.1 2)])), ((a0 1), .inl (q 0, 80, .inl (t0.2 0))), ((a0 2), .inl (q 0, 80, .inl (t0.2 1))), ((a0 3), .inl (q 0, 80, .inl (t0.2 2))), ((a0 4), .inl (q 0, 80, .inl (t0.2 3))), ((a0 5), .inl (q 0, 80, .inl (t0.2 4))), ((a0 6), .inl (q 0, 3, .inl (t0.2 5))), ((a0 7), .inl (q 0, 3, .inl (upd (t0.2 6) (Int32.toNatClampNeg ((t0.1 0) - 1)) (((t0.2 6) (Int32.toNatClampNeg ((t0.1 0) - 1))) - 1))))] H := hP
                    have hD : va_D _ [((a0 0), .inr (3, [.ref (a0 1), .ref (a0 2), .ref (a0 3), .ref (a0 4), .ref (a0 5), .ref (a0 6), .ref (a0 7), .int (t0.1 0), .int (t0.1 1), .int (t0.1 2)])), ((a0 1), .inl (q 0, 80, .inl (t0.2 0))), ((a0 2), .inl (q 0, 80, .inl (t0.2 1))), ((a0 3), .inl (q 0, 80, .inl (t0.2 2))), ((a0 4), .inl (q 0, 80, .inl (t0.2 3))), ((a0 5), .inl (q 0, 80, .inl (t0.2 4))), ((a0 6), .inl (q 0, 3, .inl (t0.2 5))), ((a0 7), .inl (q 0, 3, .inl (upd (t0.2 6) (Int32.toNatClampNeg ((t0.1 0) - 1)) (((t0.2 6) (Int32.toNatClampNeg ((t0.1 0) - 1))) - 1))))] := hD
                    refine lv_aload_n hx hb dX4_goOn_162 rfl (lv_at hl 1 rfl) ?_
                    refine lv_aload_n hx hb dX4_goOn_163 rfl (lv_at hl 1 rfl) ?_
                    refine fl_get (C := RX4) (T := TX4) (N := 10) (ci := 3) (v := .ref (a0 6)) hx hb ht in_X4 hown hK hP 0 rfl rfl 5 (by decide) mw_309 rfl dX4_goOn_164 ?_
                    refine lv_aload_n hx hb dX4_goOn_167 rfl (lv_at hl 1 rfl) ?_
                    refine fl_get (C := RX4) (T := TX4) (N := 10) (ci := 3) (v := .int (t0.1 0)) hx hb ht in_X4 hown hK hP 0 rfl rfl 7 (by decide) mw_311 rfl dX4_goOn_168 ?_
                    refine lv_iconst (v := 1) hx hb dX4_goOn_171 (by decide) ?_
                    refine lv_isub hx hb dX4_goOn_172 ?_
                    obtain ⟨g_46, h⟩ := h
                    refine va_iald hx hb hK hP 6 0 rfl rfl g_46 dX4_goOn_173 ?_
                    refine lv_iconst (v := 1) hx hb dX4_goOn_174 (by decide) ?_
                    refine lv_iadd hx hb dX4_goOn_175 ?_
                    refine fl_put (C := RX4) (T := TX4) (N := 10) (ci := 3) (v := .int (((t0.2 5) (Int32.toNatClampNeg ((t0.1 0) - 1))) + 1)) (ws2 := [((a0 0), .inr (3, [.ref (a0 1), .ref (a0 2), .ref (a0 3), .ref (a0 4), .ref (a0 5), .ref (a0 6), .ref (a0 7), .int (t0.1 0), .int (t0.1 1), .int (((t0.2 5) (Int32.toNatClampNeg ((t0.1 0) - 1))) + 1)])), ((a0 1), .inl (q 0, 80, .inl (t0.2 0))), ((a0 2), .inl (q 0, 80, .inl (t0.2 1))), ((a0 3), .inl (q 0, 80, .inl (t0.2 2))), ((a0 4), .inl (q 0, 80, .inl (t0.2 3))), ((a0 5), .inl (q 0, 80, .inl (t0.2 4))), ((a0 6), .inl (q 0, 3, .inl (t0.2 5))), ((a0 7), .inl (q 0, 3, .inl (upd (t0.2 6) (Int32.toNatClampNeg ((t0.1 0) - 1)) (((t0.2 6) (Int32.toNatClampNeg ((t0.1 0) - 1))) - 1))))]) hx hb ht in_X4 tyX4_ok nmX4 hown hK hP hD hS 0 rfl rfl 9 (by decide) mw_313 rfl rfl rfl (Nat.le_of_ble_eq_true rfl) dX4_goOn_176 rfl (fun H locs hP hD hS => ?_)
                    refine lv_goto (tgt := 192) hx hb dX4_goOn_179 (by decide) ?_
                    refine lv_iinc (v := (z1 + 1)) (lv' := [(1, .int (z1 + 1)), (0, .ref (a0 0))]) hx hb dX4_goOn_192 hl (k := 0) rfl rfl (by decide) rfl (fun ls hl => ?_)
                    refine lv_goto (tgt := 99) hx hb dX4_goOn_195 (by decide) ?_
                    exact ih _ _ _ _ ls h (hP.sub (ws' := pg_w a0 q ((va_up t0.1 2 (((t0.2 5) (Int32.toNatClampNeg ((t0.1 0) - 1))) + 1)), (va_up t0.2 6 (upd (t0.2 6) (Int32.toNatClampNeg ((t0.1 0) - 1)) (((t0.2 6) (Int32.toNatClampNeg ((t0.1 0) - 1))) - 1))))) [0, 1, 2, 3, 4, 5, 6, 7] rfl) (hD.sub (ws' := pg_w a0 q ((va_up t0.1 2 (((t0.2 5) (Int32.toNatClampNeg ((t0.1 0) - 1))) + 1)), (va_up t0.2 6 (upd (t0.2 6) (Int32.toNatClampNeg ((t0.1 0) - 1)) (((t0.2 6) (Int32.toNatClampNeg ((t0.1 0) - 1))) - 1))))) [0, 1, 2, 3, 4, 5, 6, 7] (by decide) rfl) hS (lv_sub hl [0, 1] rfl)
        obtain ⟨n99, h⟩ := h
        refine lp99 _ ?_ n99 _ _ _ _ ls h (hP.sub (ws' := pg_w a0 q ((va_up s0.1 2 r_34), s0.2)) [0, 1, 2, 3, 4, 5, 6, 7] rfl) (hD.sub (ws' := pg_w a0 q ((va_up s0.1 2 r_34), s0.2)) [0, 1, 2, 3, 4, 5, 6, 7] (by decide) rfl) hS (lv_sub hl [0, 1] rfl)
        · intro t0 z1 H locs ls h hP hD hS hl
          try dsimp only at h
          have hP : va_P D vwCl [((a0 0), .inr (3, [.ref (a0 1), .ref (a0 2), .ref (a0 3), .ref (a0 4), .ref (a0 5), .ref (a0 6), .ref (a0 7), .int (t0.1 0), .int (t0.1 1), .int (t0.1 2)])), ((a0 1), .inl (q 0, 80, .inl (t0.2 0))), ((a0 2), .inl (q 0, 80, .inl (t0.2 1))), ((a0 3), .inl (q 0, 80, .inl (t0.2 2))), ((a0 4), .inl (q 0, 80, .inl (t0.2 3))), ((a0 5), .inl (q 0, 80, .inl (t0.2 4))), ((a0 6), .inl (q 0, 3, .inl (t0.2 5))), ((a0 7), .inl (q 0, 3, .inl (t0.2 6)))] H := hP
          have hD : va_D _ [((a0 0), .inr (3, [.ref (a0 1), .ref (a0 2), .ref (a0 3), .ref (a0 4), .ref (a0 5), .ref (a0 6), .ref (a0 7), .int (t0.1 0), .int (t0.1 1), .int (t0.1 2)])), ((a0 1), .inl (q 0, 80, .inl (t0.2 0))), ((a0 2), .inl (q 0, 80, .inl (t0.2 1))), ((a0 3), .inl (q 0, 80, .inl (t0.2 2))), ((a0 4), .inl (q 0, 80, .inl (t0.2 3))), ((a0 5), .inl (q 0, 80, .inl (t0.2 4))), ((a0 6), .inl (q 0, 3, .inl (t0.2 5))), ((a0 7), .inl (q 0, 3, .inl (t0.2 6)))] := hD
          exact mt_vret t0 hx hb hr hk h (hP.sub (ws' := pg_w a0 q t0) [0, 1, 2, 3, 4, 5, 6, 7] rfl) (hD.sub (ws' := pg_w a0 q t0) [0, 1, 2, 3, 4, 5, 6, 7] (by decide) rfl) hS dX4_goOn_198
      · replace h := h.2 c_33
        refine lv_aload_n hx hb dX4_goOn_32 rfl (lv_at hl 0 rfl) ?_
        refine fl_get (C := RX4) (T := TX4) (N := 10) (ci := 3) (v := .ref (a0 6)) hx hb ht in_X4 hown hK hP 0 rfl rfl 5 (by decide) mw_309 rfl dX4_goOn_33 ?_
        refine lv_aload_n hx hb dX4_goOn_36 rfl (lv_at hl 0 rfl) ?_
        refine fl_get (C := RX4) (T := TX4) (N := 10) (ci := 3) (v := .int (s0.1 0)) hx hb ht in_X4 hown hK hP 0 rfl rfl 7 (by decide) mw_311 rfl dX4_goOn_37 ?_
        refine lv_aload_n hx hb dX4_goOn_40 rfl (lv_at hl 0 rfl) ?_
        refine fl_get (C := RX4) (T := TX4) (N := 10) (ci := 3) (v := .int (s0.1 2)) hx hb ht in_X4 hown hK hP 0 rfl rfl 9 (by decide) mw_313 rfl dX4_goOn_41 ?_
        obtain ⟨g_47, h⟩ := h
        refine va_iast hx hb hK hP hD hS 6 0 rfl rfl g_47 dX4_goOn_44 (fun H locs hP hD hS => ?_)
        have hP : va_P D vwCl [((a0 0), .inr (3, [.ref (a0 1), .ref (a0 2), .ref (a0 3), .ref (a0 4), .ref (a0 5), .ref (a0 6), .ref (a0 7), .int (s0.1 0), .int (s0.1 1), .int (s0.1 2)])), ((a0 1), .inl (q 0, 80, .inl (s0.2 0))), ((a0 2), .inl (q 0, 80, .inl (s0.2 1))), ((a0 3), .inl (q 0, 80, .inl (s0.2 2))), ((a0 4), .inl (q 0, 80, .inl (s0.2 3))), ((a0 5), .inl (q 0, 80, .inl (s0.2 4))), ((a0 6), .inl (q 0, 3, .inl (upd (s0.2 5) (Int32.toNatClampNeg (s0.1 0)) (s0.1 2)))), ((a0 7), .inl (q 0, 3, .inl (s0.2 6)))] H := hP
        have hD : va_D _ [((a0 0), .inr (3, [.ref (a0 1), .ref (a0 2), .ref (a0 3), .ref (a0 4), .ref (a0 5), .ref (a0 6), .ref (a0 7), .int (s0.1 0), .int (s0.1 1), .int (s0.1 2)])), ((a0 1), .inl (q 0, 80, .inl (s0.2 0))), ((a0 2), .inl (q 0, 80, .inl (s0.2 1))), ((a0 3), .inl (q 0, 80, .inl (s0.2 2))), ((a0 4), .inl (q 0, 80, .inl (s0.2 3))), ((a0 5), .inl (q 0, 80, .inl (s0.2 4))), ((a0 6), .inl (q 0, 3, .inl (upd (s0.2 5) (Int32.toNatClampNeg (s0.1 0)) (s0.1 2)))), ((a0 7), .inl (q 0, 3, .inl (s0.2 6)))] := hD
        refine lv_aload_n hx hb dX4_goOn_45 rfl (lv_at hl 0 rfl) ?_
        refine fl_get (C := RX4) (T := TX4) (N := 10) (ci := 3) (v := .ref (a0 7)) hx hb ht in_X4 hown hK hP 0 rfl rfl 6 (by decide) mw_310 rfl dX4_goOn_46 ?_
        refine lv_aload_n hx hb dX4_goOn_49 rfl (lv_at hl 0 rfl) ?_
        refine fl_get (C := RX4) (T := TX4) (N := 10) (ci := 3) (v := .int (s0.1 0)) hx hb ht in_X4 hown hK hP 0 rfl rfl 7 (by decide) mw_311 rfl dX4_goOn_50 ?_
        refine lv_aload_n hx hb dX4_goOn_53 rfl (lv_at hl 0 rfl) ?_
        refine lv_aload_n hx hb dX4_goOn_54 rfl (lv_at hl 0 rfl) ?_
        refine fl_get (C := RX4) (T := TX4) (N := 10) (ci := 3) (v := .int (s0.1 2)) hx hb ht in_X4 hown hK hP 0 rfl rfl 9 (by decide) mw_313 rfl dX4_goOn_55 ?_
        refine vp_callSi (rd_wV (wc := pg_w a0 q (s0.1, (va_up s0.2 5 (upd (s0.2 5) (Int32.toNatClampNeg (s0.1 0)) (s0.1 2))))) (As := [.int (s0.1 2)]) (rest := [.int (s0.1 0), .ref (a0 7)]) hx hb hml hown ht (c2_X4_oneOf h) wd_X4_oneOf mw_864 hQ hV hS (hP.sub [0, 1, 2, 3, 4, 5, 6, 7] rfl) rfl rfl rfl hl.1 rfl (Nat.le_of_ble_eq_true rfl) dX4_goOn_58 ⟨Nat.le_of_ble_eq_true rfl, Nat.le_of_ble_eq_true rfl, rfl, rfl⟩ ⟨Nat.le_of_ble_eq_true rfl, Nat.le_of_ble_eq_true rfl⟩) (fun r_48 h => ?_)
        try dsimp only at h
        refine lv_iconst (v := 1) hx hb dX4_goOn_61 (by decide) ?_
        refine lv_isub hx hb dX4_goOn_62 ?_
        obtain ⟨g_50, h⟩ := h
        refine va_iast hx hb hK hP hD hS 7 0 rfl rfl g_50 dX4_goOn_63 (fun H locs hP hD hS => ?_)
        have hP : va_P D vwCl [((a0 0), .inr (3, [.ref (a0 1), .ref (a0 2), .ref (a0 3), .ref (a0 4), .ref (a0 5), .ref (a0 6), .ref (a0 7), .int (s0.1 0), .int (s0.1 1), .int (s0.1 2)])), ((a0 1), .inl (q 0, 80, .inl (s0.2 0))), ((a0 2), .inl (q 0, 80, .inl (s0.2 1))), ((a0 3), .inl (q 0, 80, .inl (s0.2 2))), ((a0 4), .inl (q 0, 80, .inl (s0.2 3))), ((a0 5), .inl (q 0, 80, .inl (s0.2 4))), ((a0 6), .inl (q 0, 3, .inl (upd (s0.2 5) (Int32.toNatClampNeg (s0.1 0)) (s0.1 2)))), ((a0 7), .inl (q 0, 3, .inl (upd (s0.2 6) (Int32.toNatClampNeg (s0.1 0)) (r_48 - 1))))] H := hP
        have hD : va_D _ [((a0 0), .inr (3, [.ref (a0 1), .ref (a0 2), .ref (a0 3), .ref (a0 4), .ref (a0 5), .ref (a0 6), .ref (a0 7), .int (s0.1 0), .int (s0.1 1), .int (s0.1 2)])), ((a0 1), .inl (q 0, 80, .inl (s0.2 0))), ((a0 2), .inl (q 0, 80, .inl (s0.2 1))), ((a0 3), .inl (q 0, 80, .inl (s0.2 2))), ((a0 4), .inl (q 0, 80, .inl (s0.2 3))), ((a0 5), .inl (q 0, 80, .inl (s0.2 4))), ((a0 6), .inl (q 0, 3, .inl (upd (s0.2 5) (Int32.toNatClampNeg (s0.1 0)) (s0.1 2)))), ((a0 7), .inl (q 0, 3, .inl (upd (s0.2 6) (Int32.toNatClampNeg (s0.1 0)) (r_48 - 1))))] := hD
        refine lv_aload_n hx hb dX4_goOn_64 rfl (lv_at hl 0 rfl) ?_
        refine lv_dup hx hb dX4_goOn_65 rfl ?_
        refine fl_get (C := RX4) (T := TX4) (N := 10) (ci := 3) (v := .int (s0.1 0)) hx hb ht in_X4 hown hK hP 0 rfl rfl 7 (by decide) mw_311 rfl dX4_goOn_66 ?_
        refine lv_iconst (v := 1) hx hb dX4_goOn_69 (by decide) ?_
        refine lv_iadd hx hb dX4_goOn_70 ?_
        refine fl_put (C := RX4) (T := TX4) (N := 10) (ci := 3) (v := .int ((s0.1 0) + 1)) (ws2 := [((a0 0), .inr (3, [.ref (a0 1), .ref (a0 2), .ref (a0 3), .ref (a0 4), .ref (a0 5), .ref (a0 6), .ref (a0 7), .int ((s0.1 0) + 1), .int (s0.1 1), .int (s0.1 2)])), ((a0 1), .inl (q 0, 80, .inl (s0.2 0))), ((a0 2), .inl (q 0, 80, .inl (s0.2 1))), ((a0 3), .inl (q 0, 80, .inl (s0.2 2))), ((a0 4), .inl (q 0, 80, .inl (s0.2 3))), ((a0 5), .inl (q 0, 80, .inl (s0.2 4))), ((a0 6), .inl (q 0, 3, .inl (upd (s0.2 5) (Int32.toNatClampNeg (s0.1 0)) (s0.1 2)))), ((a0 7), .inl (q 0, 3, .inl (upd (s0.2 6) (Int32.toNatClampNeg (s0.1 0)) (r_48 - 1))))]) hx hb ht in_X4 tyX4_ok nmX4 hown hK hP hD hS 0 rfl rfl 7 (by decide) mw_311 rfl rfl rfl (Nat.le_of_ble_eq_true rfl) dX4_goOn_71 rfl (fun H locs hP hD hS => ?_)
        refine lv_aload_n hx hb dX4_goOn_74 rfl (lv_at hl 0 rfl) ?_
        refine lv_dup hx hb dX4_goOn_75 rfl ?_
        refine fl_get (C := RX4) (T := TX4) (N := 10) (ci := 3) (v := .int (s0.1 2)) hx hb ht in_X4 hown hK hP 0 rfl rfl 9 (by decide) mw_313 rfl dX4_goOn_76 ?_
        refine lv_iconst (v := 1) hx hb dX4_goOn_79 (by decide) ?_
        refine lv_iadd hx hb dX4_goOn_80 ?_
        refine fl_put (C := RX4) (T := TX4) (N := 10) (ci := 3) (v := .int ((s0.1 2) + 1)) (ws2 := [((a0 0), .inr (3, [.ref (a0 1), .ref (a0 2), .ref (a0 3), .ref (a0 4), .ref (a0 5), .ref (a0 6), .ref (a0 7), .int ((s0.1 0) + 1), .int (s0.1 1), .int ((s0.1 2) + 1)])), ((a0 1), .inl (q 0, 80, .inl (s0.2 0))), ((a0 2), .inl (q 0, 80, .inl (s0.2 1))), ((a0 3), .inl (q 0, 80, .inl (s0.2 2))), ((a0 4), .inl (q 0, 80, .inl (s0.2 3))), ((a0 5), .inl (q 0, 80, .inl (s0.2 4))), ((a0 6), .inl (q 0, 3, .inl (upd (s0.2 5) (Int32.toNatClampNeg (s0.1 0)) (s0.1 2)))), ((a0 7), .inl (q 0, 3, .inl (upd (s0.2 6) (Int32.toNatClampNeg (s0.1 0)) (r_48 - 1))))]) hx hb ht in_X4 tyX4_ok nmX4 hown hK hP hD hS 0 rfl rfl 9 (by decide) mw_313 rfl rfl rfl (Nat.le_of_ble_eq_true rfl) dX4_goOn_81 rfl (fun H locs hP hD hS => ?_)
        exact mt_vret ((va_up (va_up s0.1 0 ((s0.1 0) + 1)) 2 ((s0.1 2) + 1)), (va_up (va_up s0.2 5 (upd (s0.2 5) (Int32.toNatClampNeg (s0.1 0)) (s0.1 2))) 6 (upd (s0.2 6) (Int32.toNatClampNeg (s0.1 0)) (r_48 - 1)))) hx hb hr hk h (hP.sub (ws' := pg_w a0 q ((va_up (va_up s0.1 0 ((s0.1 0) + 1)) 2 ((s0.1 2) + 1)), (va_up (va_up s0.2 5 (upd (s0.2 5) (Int32.toNatClampNeg (s0.1 0)) (s0.1 2))) 6 (upd (s0.2 6) (Int32.toNatClampNeg (s0.1 0)) (r_48 - 1))))) [0, 1, 2, 3, 4, 5, 6, 7] rfl) (hD.sub (ws' := pg_w a0 q ((va_up (va_up s0.1 0 ((s0.1 0) + 1)) 2 ((s0.1 2) + 1)), (va_up (va_up s0.2 5 (upd (s0.2 5) (Int32.toNatClampNeg (s0.1 0)) (s0.1 2))) 6 (upd (s0.2 6) (Int32.toNatClampNeg (s0.1 0)) (r_48 - 1))))) [0, 1, 2, 3, 4, 5, 6, 7] (by decide) rfl) hS dX4_goOn_84
