set_option maxHeartbeats 4000000 in
set_option maxRecDepth 100000 in
theorem cm_findsTurning {l : Launch} {D : va_G} {q : Nat → ClassId} {sz : Nat} {h0 c_now c_was c_kept c_isKept c_aside c_wanted c_tape : Nat} {i_undone i_turnMany i_turnCurrent i_costs i_misses i_taped i_spot i_wrong i_number i_numberAt i_quoted i_quotedMany i_loseCell i_done i_deep : Int32} {i_turning : Int64} : Met l yX7_findsTurning (Cond.code yX7_findsTurning cX7_findsTurning 6 none :: w_all) ({ frames := 2, cells := 0, slots := 0, locals := 40 }) (mt_P D q [.ref h0] [(h0, .inr (6, [.ref c_now, .ref c_was, .int i_undone, .ref c_kept, .ref c_isKept, .ref c_aside, .long i_turning, .int i_turnMany, .int i_turnCurrent, .ref c_wanted, .int i_costs, .int i_misses, .ref c_tape, .int i_taped, .int i_spot, .int i_wrong, .int i_number, .int i_numberAt, .int i_quoted, .int i_quotedMany, .int i_loseCell, .int i_done, .int i_deep])), (c_now, .inl (q 1, 6896, .inr (.inl (fun _ => 0))))] sz) (va_Qv (fun u : Unit => True) (mt_B D [(h0, .inr (6, [.ref c_now, .ref c_was, .int i_undone, .ref c_kept, .ref c_isKept, .ref c_aside, .long i_turning, .int i_turnMany, .int i_turnCurrent, .ref c_wanted, .int i_costs, .int i_misses, .ref c_tape, .int i_taped, .int i_spot, .int i_wrong, .int i_number, .int i_numberAt, .int i_quoted, .int i_quotedMany, .int i_loseCell, .int i_done, .int i_deep])), (c_now, .inl (q 1, 6896, .inr (.inl (fun _ => 0))))] sz (fun _ => [(h0, .inr (6, [.ref c_now, .ref c_was, .int i_undone, .ref c_kept, .ref c_isKept, .ref c_aside, .long 0, .int 0, .int 0, .ref c_wanted, .int i_costs, .int i_misses, .ref c_tape, .int i_taped, .int i_spot, .int i_wrong, .int i_number, .int i_numberAt, .int i_quoted, .int i_quotedMany, .int i_loseCell, .int i_done, .int i_deep])), (c_now, .inl (q 1, 6896, .inr (.inl (fun _ => 0))))])) (va_A [(h0, .inr (6, [.ref c_now, .ref c_was, .int i_undone, .ref c_kept, .ref c_isKept, .ref c_aside, .long i_turning, .int i_turnMany, .int i_turnCurrent, .ref c_wanted, .int i_costs, .int i_misses, .ref c_tape, .int i_taped, .int i_spot, .int i_wrong, .int i_number, .int i_numberAt, .int i_quoted, .int i_quotedMany, .int i_loseCell, .int i_done, .int i_deep])), (c_now, .inl (q 1, 6896, .inr (.inl (fun _ => 0))))] sz)) 0 0 (va_A [(h0, .inr (6, [.ref c_now, .ref c_was, .int i_undone, .ref c_kept, .ref c_isKept, .ref c_aside, .long i_turning, .int i_turnMany, .int i_turnCurrent, .ref c_wanted, .int i_costs, .int i_misses, .ref c_tape, .int i_taped, .int i_spot, .int i_wrong, .int i_number, .int i_numberAt, .int i_quoted, .int i_quotedMany, .int i_loseCell, .int i_done, .int i_deep])), (c_now, .inl (q 1, 6896, .inr (.inl (fun _ => 0))))] sz) := by
  refine mt_start (by decide) (Nat.le_of_ble_eq_true rfl) ?_
  intro p e s m below meth c ls hx hb hr hml hown ht hk hin hP hQ hD hA hS hV hl
  have hK := hQ.1
  have hown : s.vm.findClass RX7 = some m.cls := hown
  have hl : lv_has ls 6 [(0, .ref h0)] := hl
  refine lv_aload_n hx hb dX7_findsTurning_0 rfl (lv_at hl 0 rfl) ?_
  refine lv_lconst (v := 0) hx hb dX7_findsTurning_1 (by decide) ?_
  refine fl_put (C := RX7) (T := TX7) (N := 23) (ci := 6) (v := .long 0) (ws2 := [(h0, .inr (6, [.ref c_now, .ref c_was, .int i_undone, .ref c_kept, .ref c_isKept, .ref c_aside, .long 0, .int i_turnMany, .int i_turnCurrent, .ref c_wanted, .int i_costs, .int i_misses, .ref c_tape, .int i_taped, .int i_spot, .int i_wrong, .int i_number, .int i_numberAt, .int i_quoted, .int i_quotedMany, .int i_loseCell, .int i_done, .int i_deep])), (c_now, .inl (q 1, 6896, .inr (.inl (fun _ => 0))))]) hx hb ht in_X7 tyX7_ok nmX7 hown hK hP hD hS 0 rfl rfl 6 (by decide) mw_1136 rfl rfl rfl (Nat.le_of_ble_eq_true rfl) dX7_findsTurning_2 rfl (fun H locs hP hD hS => ?_)
  refine lv_aload_n hx hb dX7_findsTurning_5 rfl (lv_at hl 0 rfl) ?_
  refine lv_iconst (v := 0) hx hb dX7_findsTurning_6 (by decide) ?_
  refine fl_put (C := RX7) (T := TX7) (N := 23) (ci := 6) (v := .int 0) (ws2 := [(h0, .inr (6, [.ref c_now, .ref c_was, .int i_undone, .ref c_kept, .ref c_isKept, .ref c_aside, .long 0, .int 0, .int i_turnCurrent, .ref c_wanted, .int i_costs, .int i_misses, .ref c_tape, .int i_taped, .int i_spot, .int i_wrong, .int i_number, .int i_numberAt, .int i_quoted, .int i_quotedMany, .int i_loseCell, .int i_done, .int i_deep])), (c_now, .inl (q 1, 6896, .inr (.inl (fun _ => 0))))]) hx hb ht in_X7 tyX7_ok nmX7 hown hK hP hD hS 0 rfl rfl 7 (by decide) mw_1137 rfl rfl rfl (Nat.le_of_ble_eq_true rfl) dX7_findsTurning_7 rfl (fun H locs hP hD hS => ?_)
  refine lv_aload_n hx hb dX7_findsTurning_10 rfl (lv_at hl 0 rfl) ?_
  refine lv_iconst (v := 0) hx hb dX7_findsTurning_11 (by decide) ?_
  refine fl_put (C := RX7) (T := TX7) (N := 23) (ci := 6) (v := .int 0) (ws2 := [(h0, .inr (6, [.ref c_now, .ref c_was, .int i_undone, .ref c_kept, .ref c_isKept, .ref c_aside, .long 0, .int 0, .int 0, .ref c_wanted, .int i_costs, .int i_misses, .ref c_tape, .int i_taped, .int i_spot, .int i_wrong, .int i_number, .int i_numberAt, .int i_quoted, .int i_quotedMany, .int i_loseCell, .int i_done, .int i_deep])), (c_now, .inl (q 1, 6896, .inr (.inl (fun _ => 0))))]) hx hb ht in_X7 tyX7_ok nmX7 hown hK hP hD hS 0 rfl rfl 8 (by decide) mw_1138 rfl rfl rfl (Nat.le_of_ble_eq_true rfl) dX7_findsTurning_12 rfl (fun H locs hP hD hS => ?_)
  refine lv_lconst (v := 0) hx hb dX7_findsTurning_15 (by decide) ?_
  refine lv_lstore_n (lv' := [(1, .long 0), (0, .ref h0)]) hx hb dX7_findsTurning_16 rfl hl (by decide) rfl (fun ls hl => ?_)
  refine lv_iconst (v := 0) hx hb dX7_findsTurning_17 (by decide) ?_
  refine lv_istore_n (lv' := [(3, .int 0), (1, .long 0), (0, .ref h0)]) hx hb dX7_findsTurning_18 rfl hl (by decide) rfl (fun ls hl => ?_)
  refine lv_iload_n hx hb dX7_findsTurning_19 rfl (lv_at hl 0 rfl) ?_
  refine lv_aload_n hx hb dX7_findsTurning_20 rfl (lv_at hl 2 rfl) ?_
  refine vp_callSi (rd_wV (wc := [(h0, .inr (6, [.ref c_now, .ref c_was, .int i_undone, .ref c_kept, .ref c_isKept, .ref c_aside, .long 0, .int 0, .int 0, .ref c_wanted, .int i_costs, .int i_misses, .ref c_tape, .int i_taped, .int i_spot, .int i_wrong, .int i_number, .int i_numberAt, .int i_quoted, .int i_quotedMany, .int i_loseCell, .int i_done, .int i_deep])), (c_now, .inl (q 1, 6896, .inr (.inl (fun _ => 0))))]) (As := []) (rest := [.int 0]) hx hb hml hown ht (cm_cells) wd_X7_cells mw_1295 hQ hV hS (hP.sub [0, 1] rfl) rfl rfl rfl hl.1 rfl (Nat.le_of_ble_eq_true rfl) dX7_findsTurning_21 ⟨Nat.le_of_ble_eq_true rfl, Nat.le_of_ble_eq_true rfl, rfl, rfl⟩ ⟨Nat.le_of_ble_eq_true rfl, Nat.le_of_ble_eq_true rfl⟩) (fun r_1 er_1 => ?_)
  obtain rfl : r_1 = 0 := er_1
  refine lv_icmp_ge (tgt := 174) hx hb dX7_findsTurning_24 (by decide) (fun c_2 => ?_) (fun c9 => absurd (by decide) c9)
  have hP := hP.sub (ws' := [(h0, .inr (6, [.ref c_now, .ref c_was, .int i_undone, .ref c_kept, .ref c_isKept, .ref c_aside, .long 0, .int 0, .int 0, .ref c_wanted, .int i_costs, .int i_misses, .ref c_tape, .int i_taped, .int i_spot, .int i_wrong, .int i_number, .int i_numberAt, .int i_quoted, .int i_quotedMany, .int i_loseCell, .int i_done, .int i_deep])), (c_now, .inl (q 1, 6896, .inr (.inl (fun _ => 0))))]) [0, 1] rfl
  have hD := hD.sub (ws' := [(h0, .inr (6, [.ref c_now, .ref c_was, .int i_undone, .ref c_kept, .ref c_isKept, .ref c_aside, .long 0, .int 0, .int 0, .ref c_wanted, .int i_costs, .int i_misses, .ref c_tape, .int i_taped, .int i_spot, .int i_wrong, .int i_number, .int i_numberAt, .int i_quoted, .int i_quotedMany, .int i_loseCell, .int i_done, .int i_deep])), (c_now, .inl (q 1, 6896, .inr (.inl (fun _ => 0))))]) [0, 1] (by decide) rfl
  exact mt_vret () hx hb hr hk (trivial) hP hD hS dX7_findsTurning_174

set_option maxHeartbeats 4000000 in
set_option maxRecDepth 100000 in
theorem cm_lays_0 {l : Launch} {D : va_G} {q : Nat → ClassId} {sz : Nat} {h0 c_now c_was c_kept c_isKept c_aside c_wanted c_tape : Nat} {i_undone i_turnMany i_turnCurrent i_costs i_misses i_spot i_wrong i_number i_numberAt i_quoted i_quotedMany i_loseCell i_done i_deep : Int32} {i_turning : Int64} {x : Int32} {f : Nat → Int32} : Met l yX7_lays (Cond.code yX7_lays cX7_lays 3 none :: w_all) ({ frames := 0, cells := 0, slots := 0, locals := 0 }) (mt_P D q [.ref h0, .int x] [(h0, .inr (6, [.ref c_now, .ref c_was, .int i_undone, .ref c_kept, .ref c_isKept, .ref c_aside, .long i_turning, .int i_turnMany, .int i_turnCurrent, .ref c_wanted, .int i_costs, .int i_misses, .ref c_tape, .int 0, .int i_spot, .int i_wrong, .int i_number, .int i_numberAt, .int i_quoted, .int i_quotedMany, .int i_loseCell, .int i_done, .int i_deep])), (c_tape, .inl (q 2, 400, .inl f))] sz) (va_Qv (fun u : (Nat → Int32) => True) (mt_B D [(h0, .inr (6, [.ref c_now, .ref c_was, .int i_undone, .ref c_kept, .ref c_isKept, .ref c_aside, .long i_turning, .int i_turnMany, .int i_turnCurrent, .ref c_wanted, .int i_costs, .int i_misses, .ref c_tape, .int 0, .int i_spot, .int i_wrong, .int i_number, .int i_numberAt, .int i_quoted, .int i_quotedMany, .int i_loseCell, .int i_done, .int i_deep])), (c_tape, .inl (q 2, 400, .inl f))] sz (fun u => [(h0, .inr (6, [.ref c_now, .ref c_was, .int i_undone, .ref c_kept, .ref c_isKept, .ref c_aside, .long i_turning, .int i_turnMany, .int i_turnCurrent, .ref c_wanted, .int i_costs, .int i_misses, .ref c_tape, .int 4, .int i_spot, .int i_wrong, .int i_number, .int i_numberAt, .int i_quoted, .int i_quotedMany, .int i_loseCell, .int i_done, .int i_deep])), (c_tape, .inl (q 2, 400, .inl u))])) (va_A [(h0, .inr (6, [.ref c_now, .ref c_was, .int i_undone, .ref c_kept, .ref c_isKept, .ref c_aside, .long i_turning, .int i_turnMany, .int i_turnCurrent, .ref c_wanted, .int i_costs, .int i_misses, .ref c_tape, .int 0, .int i_spot, .int i_wrong, .int i_number, .int i_numberAt, .int i_quoted, .int i_quotedMany, .int i_loseCell, .int i_done, .int i_deep])), (c_tape, .inl (q 2, 400, .inl f))] sz)) 0 0 (va_A [(h0, .inr (6, [.ref c_now, .ref c_was, .int i_undone, .ref c_kept, .ref c_isKept, .ref c_aside, .long i_turning, .int i_turnMany, .int i_turnCurrent, .ref c_wanted, .int i_costs, .int i_misses, .ref c_tape, .int 0, .int i_spot, .int i_wrong, .int i_number, .int i_numberAt, .int i_quoted, .int i_quotedMany, .int i_loseCell, .int i_done, .int i_deep])), (c_tape, .inl (q 2, 400, .inl f))] sz) := by
  refine mt_start (by decide) (Nat.le_of_ble_eq_true rfl) ?_
  intro p e s m below meth c ls hx hb hr hml hown ht hk hin hP hQ hD hA hS hV hl
  have hK := hQ.1
  have hown : s.vm.findClass RX7 = some m.cls := hown
  have hl : lv_has ls 3 [(0, .ref h0), (1, .int x)] := hl
  refine lv_bipush (v := 24) hx hb dX7_lays_0 (by decide) ?_
  refine lv_istore_n (lv' := [(2, .int 24), (0, .ref h0), (1, .int x)]) hx hb dX7_lays_2 rfl hl (by decide) rfl (fun ls hl => ?_)
  refine lv_iload_n hx hb dX7_lays_3 rfl (lv_at hl 0 rfl) ?_
  refine lv_if_lt (tgt := 36) hx hb dX7_lays_4 (by decide) (fun c9 => absurd c9 (by decide)) (fun c_1 => ?_)
  refine lv_aload_n hx hb dX7_lays_7 rfl (lv_at hl 1 rfl) ?_
  refine fl_get (C := RX7) (T := TX7) (N := 23) (ci := 6) (v := .ref c_tape) hx hb ht in_X7 hown hK hP 0 rfl rfl 12 (by decide) mw_1142 rfl dX7_lays_8 ?_
  refine lv_aload_n hx hb dX7_lays_11 rfl (lv_at hl 1 rfl) ?_
  refine fl_get (C := RX7) (T := TX7) (N := 23) (ci := 6) (v := .int 0) hx hb ht in_X7 hown hK hP 0 rfl rfl 13 (by decide) mw_1143 rfl dX7_lays_12 ?_
  refine lv_iload_n hx hb dX7_lays_15 rfl (lv_at hl 2 rfl) ?_
  refine lv_iload_n hx hb dX7_lays_16 rfl (lv_at hl 0 rfl) ?_
  refine lv_ishr hx hb dX7_lays_17 ?_
  refine lv_topi (fun x_2 ex_2 => ?_)
  refine lv_i2b (v := (x_2.toInt8.toInt32)) hx hb dX7_lays_18 rfl ?_
  refine va_bast hx hb hK hP hD hS 1 2 rfl rfl (in_c rfl) dX7_lays_19 (fun H locs hP hD hS => ?_)
  generalize upd f (Int32.toNatClampNeg 0) (vp_nar .byte (x_2.toInt8.toInt32)) = f_3 at hP hD
  have hP : va_P D vwCl [(h0, .inr (6, [.ref c_now, .ref c_was, .int i_undone, .ref c_kept, .ref c_isKept, .ref c_aside, .long i_turning, .int i_turnMany, .int i_turnCurrent, .ref c_wanted, .int i_costs, .int i_misses, .ref c_tape, .int 0, .int i_spot, .int i_wrong, .int i_number, .int i_numberAt, .int i_quoted, .int i_quotedMany, .int i_loseCell, .int i_done, .int i_deep])), (c_tape, .inl (q 2, 400, .inl f_3))] H := hP
  have hD : va_D _ [(h0, .inr (6, [.ref c_now, .ref c_was, .int i_undone, .ref c_kept, .ref c_isKept, .ref c_aside, .long i_turning, .int i_turnMany, .int i_turnCurrent, .ref c_wanted, .int i_costs, .int i_misses, .ref c_tape, .int 0, .int i_spot, .int i_wrong, .int i_number, .int i_numberAt, .int i_quoted, .int i_quotedMany, .int i_loseCell, .int i_done, .int i_deep])), (c_tape, .inl (q 2, 400, .inl f_3))] := hD
  refine lv_aload_n hx hb dX7_lays_20 rfl (lv_at hl 1 rfl) ?_
  refine lv_dup hx hb dX7_lays_21 rfl ?_
  refine fl_get (C := RX7) (T := TX7) (N := 23) (ci := 6) (v := .int 0) hx hb ht in_X7 hown hK hP 0 rfl rfl 13 (by decide) mw_1143 rfl dX7_lays_22 ?_
  refine lv_iconst (v := 1) hx hb dX7_lays_25 (by decide) ?_
  refine lv_iadd hx hb dX7_lays_26 ?_
  refine ab_i (v := 1) (by decide) ?_
  refine fl_put (C := RX7) (T := TX7) (N := 23) (ci := 6) (v := .int 1) (ws2 := [(h0, .inr (6, [.ref c_now, .ref c_was, .int i_undone, .ref c_kept, .ref c_isKept, .ref c_aside, .long i_turning, .int i_turnMany, .int i_turnCurrent, .ref c_wanted, .int i_costs, .int i_misses, .ref c_tape, .int 1, .int i_spot, .int i_wrong, .int i_number, .int i_numberAt, .int i_quoted, .int i_quotedMany, .int i_loseCell, .int i_done, .int i_deep])), (c_tape, .inl (q 2, 400, .inl f_3))]) hx hb ht in_X7 tyX7_ok nmX7 hown hK hP hD hS 0 rfl rfl 13 (by decide) mw_1143 rfl rfl rfl (Nat.le_of_ble_eq_true rfl) dX7_lays_27 rfl (fun H locs hP hD hS => ?_)
  refine lv_iinc (v := 16) (lv' := [(2, .int 16), (0, .ref h0), (1, .int x)]) hx hb dX7_lays_30 hl (k := 0) rfl (by decide) (by decide) rfl (fun ls hl => ?_)
  refine lv_goto (tgt := 3) hx hb dX7_lays_33 (by decide) ?_
  refine lv_iload_n hx hb dX7_lays_3 rfl (lv_at hl 0 rfl) ?_
  refine lv_if_lt (tgt := 36) hx hb dX7_lays_4 (by decide) (fun c9 => absurd c9 (by decide)) (fun c_4 => ?_)
  refine lv_aload_n hx hb dX7_lays_7 rfl (lv_at hl 1 rfl) ?_
  refine fl_get (C := RX7) (T := TX7) (N := 23) (ci := 6) (v := .ref c_tape) hx hb ht in_X7 hown hK hP 0 rfl rfl 12 (by decide) mw_1142 rfl dX7_lays_8 ?_
  refine lv_aload_n hx hb dX7_lays_11 rfl (lv_at hl 1 rfl) ?_
  refine fl_get (C := RX7) (T := TX7) (N := 23) (ci := 6) (v := .int 1) hx hb ht in_X7 hown hK hP 0 rfl rfl 13 (by decide) mw_1143 rfl dX7_lays_12 ?_
  refine lv_iload_n hx hb dX7_lays_15 rfl (lv_at hl 2 rfl) ?_
  refine lv_iload_n hx hb dX7_lays_16 rfl (lv_at hl 0 rfl) ?_
  refine lv_ishr hx hb dX7_lays_17 ?_
  refine lv_topi (fun x_5 ex_5 => ?_)
  refine lv_i2b (v := (x_5.toInt8.toInt32)) hx hb dX7_lays_18 rfl ?_
  refine va_bast hx hb hK hP hD hS 1 2 rfl rfl (in_c rfl) dX7_lays_19 (fun H locs hP hD hS => ?_)
  generalize upd f_3 (Int32.toNatClampNeg 1) (vp_nar .byte (x_5.toInt8.toInt32)) = f_6 at hP hD
  have hP : va_P D vwCl [(h0, .inr (6, [.ref c_now, .ref c_was, .int i_undone, .ref c_kept, .ref c_isKept, .ref c_aside, .long i_turning, .int i_turnMany, .int i_turnCurrent, .ref c_wanted, .int i_costs, .int i_misses, .ref c_tape, .int 1, .int i_spot, .int i_wrong, .int i_number, .int i_numberAt, .int i_quoted, .int i_quotedMany, .int i_loseCell, .int i_done, .int i_deep])), (c_tape, .inl (q 2, 400, .inl f_6))] H := hP
  have hD : va_D _ [(h0, .inr (6, [.ref c_now, .ref c_was, .int i_undone, .ref c_kept, .ref c_isKept, .ref c_aside, .long i_turning, .int i_turnMany, .int i_turnCurrent, .ref c_wanted, .int i_costs, .int i_misses, .ref c_tape, .int 1, .int i_spot, .int i_wrong, .int i_number, .int i_numberAt, .int i_quoted, .int i_quotedMany, .int i_loseCell, .int i_done, .int i_deep])), (c_tape, .inl (q 2, 400, .inl f_6))] := hD
  refine lv_aload_n hx hb dX7_lays_20 rfl (lv_at hl 1 rfl) ?_
  refine lv_dup hx hb dX7_lays_21 rfl ?_
  refine fl_get (C := RX7) (T := TX7) (N := 23) (ci := 6) (v := .int 1) hx hb ht in_X7 hown hK hP 0 rfl rfl 13 (by decide) mw_1143 rfl dX7_lays_22 ?_
  refine lv_iconst (v := 1) hx hb dX7_lays_25 (by decide) ?_
  refine lv_iadd hx hb dX7_lays_26 ?_
  refine ab_i (v := 2) (by decide) ?_
  refine fl_put (C := RX7) (T := TX7) (N := 23) (ci := 6) (v := .int 2) (ws2 := [(h0, .inr (6, [.ref c_now, .ref c_was, .int i_undone, .ref c_kept, .ref c_isKept, .ref c_aside, .long i_turning, .int i_turnMany, .int i_turnCurrent, .ref c_wanted, .int i_costs, .int i_misses, .ref c_tape, .int 2, .int i_spot, .int i_wrong, .int i_number, .int i_numberAt, .int i_quoted, .int i_quotedMany, .int i_loseCell, .int i_done, .int i_deep])), (c_tape, .inl (q 2, 400, .inl f_6))]) hx hb ht in_X7 tyX7_ok nmX7 hown hK hP hD hS 0 rfl rfl 13 (by decide) mw_1143 rfl rfl rfl (Nat.le_of_ble_eq_true rfl) dX7_lays_27 rfl (fun H locs hP hD hS => ?_)
  refine lv_iinc (v := 8) (lv' := [(2, .int 8), (0, .ref h0), (1, .int x)]) hx hb dX7_lays_30 hl (k := 0) rfl (by decide) (by decide) rfl (fun ls hl => ?_)
  refine lv_goto (tgt := 3) hx hb dX7_lays_33 (by decide) ?_
  refine lv_iload_n hx hb dX7_lays_3 rfl (lv_at hl 0 rfl) ?_
  refine lv_if_lt (tgt := 36) hx hb dX7_lays_4 (by decide) (fun c9 => absurd c9 (by decide)) (fun c_7 => ?_)
  refine lv_aload_n hx hb dX7_lays_7 rfl (lv_at hl 1 rfl) ?_
  refine fl_get (C := RX7) (T := TX7) (N := 23) (ci := 6) (v := .ref c_tape) hx hb ht in_X7 hown hK hP 0 rfl rfl 12 (by decide) mw_1142 rfl dX7_lays_8 ?_
  refine lv_aload_n hx hb dX7_lays_11 rfl (lv_at hl 1 rfl) ?_
  refine fl_get (C := RX7) (T := TX7) (N := 23) (ci := 6) (v := .int 2) hx hb ht in_X7 hown hK hP 0 rfl rfl 13 (by decide) mw_1143 rfl dX7_lays_12 ?_
  refine lv_iload_n hx hb dX7_lays_15 rfl (lv_at hl 2 rfl) ?_
  refine lv_iload_n hx hb dX7_lays_16 rfl (lv_at hl 0 rfl) ?_
  refine lv_ishr hx hb dX7_lays_17 ?_
  refine lv_topi (fun x_8 ex_8 => ?_)
  refine lv_i2b (v := (x_8.toInt8.toInt32)) hx hb dX7_lays_18 rfl ?_
  refine va_bast hx hb hK hP hD hS 1 2 rfl rfl (in_c rfl) dX7_lays_19 (fun H locs hP hD hS => ?_)
  generalize upd f_6 (Int32.toNatClampNeg 2) (vp_nar .byte (x_8.toInt8.toInt32)) = f_9 at hP hD
  have hP : va_P D vwCl [(h0, .inr (6, [.ref c_now, .ref c_was, .int i_undone, .ref c_kept, .ref c_isKept, .ref c_aside, .long i_turning, .int i_turnMany, .int i_turnCurrent, .ref c_wanted, .int i_costs, .int i_misses, .ref c_tape, .int 2, .int i_spot, .int i_wrong, .int i_number, .int i_numberAt, .int i_quoted, .int i_quotedMany, .int i_loseCell, .int i_done, .int i_deep])), (c_tape, .inl (q 2, 400, .inl f_9))] H := hP
  have hD : va_D _ [(h0, .inr (6, [.ref c_now, .ref c_was, .int i_undone, .ref c_kept, .ref c_isKept, .ref c_aside, .long i_turning, .int i_turnMany, .int i_turnCurrent, .ref c_wanted, .int i_costs, .int i_misses, .ref c_tape, .int 2, .int i_spot, .int i_wrong, .int i_number, .int i_numberAt, .int i_quoted, .int i_quotedMany, .int i_loseCell, .int i_done, .int i_deep])), (c_tape, .inl (q 2, 400, .inl f_9))] := hD
  refine lv_aload_n hx hb dX7_lays_20 rfl (lv_at hl 1 rfl) ?_
  refine lv_dup hx hb dX7_lays_21 rfl ?_
  refine fl_get (C := RX7) (T := TX7) (N := 23) (ci := 6) (v := .int 2) hx hb ht in_X7 hown hK hP 0 rfl rfl 13 (by decide) mw_1143 rfl dX7_lays_22 ?_
  refine lv_iconst (v := 1) hx hb dX7_lays_25 (by decide) ?_
  refine lv_iadd hx hb dX7_lays_26 ?_
  refine ab_i (v := 3) (by decide) ?_
  refine fl_put (C := RX7) (T := TX7) (N := 23) (ci := 6) (v := .int 3) (ws2 := [(h0, .inr (6, [.ref c_now, .ref c_was, .int i_undone, .ref c_kept, .ref c_isKept, .ref c_aside, .long i_turning, .int i_turnMany, .int i_turnCurrent, .ref c_wanted, .int i_costs, .int i_misses, .ref c_tape, .int 3, .int i_spot, .int i_wrong, .int i_number, .int i_numberAt, .int i_quoted, .int i_quotedMany, .int i_loseCell, .int i_done, .int i_deep])), (c_tape, .inl (q 2, 400, .inl f_9))]) hx hb ht in_X7 tyX7_ok nmX7 hown hK hP hD hS 0 rfl rfl 13 (by decide) mw_1143 rfl rfl rfl (Nat.le_of_ble_eq_true rfl) dX7_lays_27 rfl (fun H locs hP hD hS => ?_)
  refine lv_iinc (v := 0) (lv' := [(2, .int 0), (0, .ref h0), (1, .int x)]) hx hb dX7_lays_30 hl (k := 0) rfl (by decide) (by decide) rfl (fun ls hl => ?_)
  refine lv_goto (tgt := 3) hx hb dX7_lays_33 (by decide) ?_
  refine lv_iload_n hx hb dX7_lays_3 rfl (lv_at hl 0 rfl) ?_
  refine lv_if_lt (tgt := 36) hx hb dX7_lays_4 (by decide) (fun c9 => absurd c9 (by decide)) (fun c_10 => ?_)
  refine lv_aload_n hx hb dX7_lays_7 rfl (lv_at hl 1 rfl) ?_
  refine fl_get (C := RX7) (T := TX7) (N := 23) (ci := 6) (v := .ref c_tape) hx hb ht in_X7 hown hK hP 0 rfl rfl 12 (by decide) mw_1142 rfl dX7_lays_8 ?_
  refine lv_aload_n hx hb dX7_lays_11 rfl (lv_at hl 1 rfl) ?_
  refine fl_get (C := RX7) (T := TX7) (N := 23) (ci := 6) (v := .int 3) hx hb ht in_X7 hown hK hP 0 rfl rfl 13 (by decide) mw_1143 rfl dX7_lays_12 ?_
  refine lv_iload_n hx hb dX7_lays_15 rfl (lv_at hl 2 rfl) ?_
  refine lv_iload_n hx hb dX7_lays_16 rfl (lv_at hl 0 rfl) ?_
  refine lv_ishr hx hb dX7_lays_17 ?_
  refine lv_topi (fun x_11 ex_11 => ?_)
  refine lv_i2b (v := (x_11.toInt8.toInt32)) hx hb dX7_lays_18 rfl ?_
  refine va_bast hx hb hK hP hD hS 1 2 rfl rfl (in_c rfl) dX7_lays_19 (fun H locs hP hD hS => ?_)
  generalize upd f_9 (Int32.toNatClampNeg 3) (vp_nar .byte (x_11.toInt8.toInt32)) = f_12 at hP hD
  have hP : va_P D vwCl [(h0, .inr (6, [.ref c_now, .ref c_was, .int i_undone, .ref c_kept, .ref c_isKept, .ref c_aside, .long i_turning, .int i_turnMany, .int i_turnCurrent, .ref c_wanted, .int i_costs, .int i_misses, .ref c_tape, .int 3, .int i_spot, .int i_wrong, .int i_number, .int i_numberAt, .int i_quoted, .int i_quotedMany, .int i_loseCell, .int i_done, .int i_deep])), (c_tape, .inl (q 2, 400, .inl f_12))] H := hP
  have hD : va_D _ [(h0, .inr (6, [.ref c_now, .ref c_was, .int i_undone, .ref c_kept, .ref c_isKept, .ref c_aside, .long i_turning, .int i_turnMany, .int i_turnCurrent, .ref c_wanted, .int i_costs, .int i_misses, .ref c_tape, .int 3, .int i_spot, .int i_wrong, .int i_number, .int i_numberAt, .int i_quoted, .int i_quotedMany, .int i_loseCell, .int i_done, .int i_deep])), (c_tape, .inl (q 2, 400, .inl f_12))] := hD
  refine lv_aload_n hx hb dX7_lays_20 rfl (lv_at hl 1 rfl) ?_
  refine lv_dup hx hb dX7_lays_21 rfl ?_
  refine fl_get (C := RX7) (T := TX7) (N := 23) (ci := 6) (v := .int 3) hx hb ht in_X7 hown hK hP 0 rfl rfl 13 (by decide) mw_1143 rfl dX7_lays_22 ?_
  refine lv_iconst (v := 1) hx hb dX7_lays_25 (by decide) ?_
  refine lv_iadd hx hb dX7_lays_26 ?_
  refine ab_i (v := 4) (by decide) ?_
  refine fl_put (C := RX7) (T := TX7) (N := 23) (ci := 6) (v := .int 4) (ws2 := [(h0, .inr (6, [.ref c_now, .ref c_was, .int i_undone, .ref c_kept, .ref c_isKept, .ref c_aside, .long i_turning, .int i_turnMany, .int i_turnCurrent, .ref c_wanted, .int i_costs, .int i_misses, .ref c_tape, .int 4, .int i_spot, .int i_wrong, .int i_number, .int i_numberAt, .int i_quoted, .int i_quotedMany, .int i_loseCell, .int i_done, .int i_deep])), (c_tape, .inl (q 2, 400, .inl f_12))]) hx hb ht in_X7 tyX7_ok nmX7 hown hK hP hD hS 0 rfl rfl 13 (by decide) mw_1143 rfl rfl rfl (Nat.le_of_ble_eq_true rfl) dX7_lays_27 rfl (fun H locs hP hD hS => ?_)
  refine lv_iinc (v := (-8)) (lv' := [(2, .int (-8)), (0, .ref h0), (1, .int x)]) hx hb dX7_lays_30 hl (k := 0) rfl (by decide) (by decide) rfl (fun ls hl => ?_)
  refine lv_goto (tgt := 3) hx hb dX7_lays_33 (by decide) ?_
  refine lv_iload_n hx hb dX7_lays_3 rfl (lv_at hl 0 rfl) ?_
  refine lv_if_lt (tgt := 36) hx hb dX7_lays_4 (by decide) (fun c_13 => ?_) (fun c9 => absurd (by decide) c9)
  have hP := hP.sub (ws' := [(h0, .inr (6, [.ref c_now, .ref c_was, .int i_undone, .ref c_kept, .ref c_isKept, .ref c_aside, .long i_turning, .int i_turnMany, .int i_turnCurrent, .ref c_wanted, .int i_costs, .int i_misses, .ref c_tape, .int 4, .int i_spot, .int i_wrong, .int i_number, .int i_numberAt, .int i_quoted, .int i_quotedMany, .int i_loseCell, .int i_done, .int i_deep])), (c_tape, .inl (q 2, 400, .inl f_12))]) [0, 1] rfl
  have hD := hD.sub (ws' := [(h0, .inr (6, [.ref c_now, .ref c_was, .int i_undone, .ref c_kept, .ref c_isKept, .ref c_aside, .long i_turning, .int i_turnMany, .int i_turnCurrent, .ref c_wanted, .int i_costs, .int i_misses, .ref c_tape, .int 4, .int i_spot, .int i_wrong, .int i_number, .int i_numberAt, .int i_quoted, .int i_quotedMany, .int i_loseCell, .int i_done, .int i_deep])), (c_tape, .inl (q 2, 400, .inl f_12))]) [0, 1] (by decide) rfl
  exact mt_vret f_12 hx hb hr hk (trivial) hP hD hS dX7_lays_36

set_option maxHeartbeats 4000000 in
set_option maxRecDepth 100000 in
theorem cm_lays_4 {l : Launch} {D : va_G} {q : Nat → ClassId} {sz : Nat} {h0 c_now c_was c_kept c_isKept c_aside c_wanted c_tape : Nat} {i_undone i_turnMany i_turnCurrent i_costs i_misses i_spot i_wrong i_number i_numberAt i_quoted i_quotedMany i_loseCell i_done i_deep : Int32} {i_turning : Int64} {x : Int32} {f : Nat → Int32} : Met l yX7_lays (Cond.code yX7_lays cX7_lays 3 none :: w_all) ({ frames := 0, cells := 0, slots := 0, locals := 0 }) (mt_P D q [.ref h0, .int x] [(h0, .inr (6, [.ref c_now, .ref c_was, .int i_undone, .ref c_kept, .ref c_isKept, .ref c_aside, .long i_turning, .int i_turnMany, .int i_turnCurrent, .ref c_wanted, .int i_costs, .int i_misses, .ref c_tape, .int 4, .int i_spot, .int i_wrong, .int i_number, .int i_numberAt, .int i_quoted, .int i_quotedMany, .int i_loseCell, .int i_done, .int i_deep])), (c_tape, .inl (q 2, 400, .inl f))] sz) (va_Qv (fun u : (Nat → Int32) => True) (mt_B D [(h0, .inr (6, [.ref c_now, .ref c_was, .int i_undone, .ref c_kept, .ref c_isKept, .ref c_aside, .long i_turning, .int i_turnMany, .int i_turnCurrent, .ref c_wanted, .int i_costs, .int i_misses, .ref c_tape, .int 4, .int i_spot, .int i_wrong, .int i_number, .int i_numberAt, .int i_quoted, .int i_quotedMany, .int i_loseCell, .int i_done, .int i_deep])), (c_tape, .inl (q 2, 400, .inl f))] sz (fun u => [(h0, .inr (6, [.ref c_now, .ref c_was, .int i_undone, .ref c_kept, .ref c_isKept, .ref c_aside, .long i_turning, .int i_turnMany, .int i_turnCurrent, .ref c_wanted, .int i_costs, .int i_misses, .ref c_tape, .int 8, .int i_spot, .int i_wrong, .int i_number, .int i_numberAt, .int i_quoted, .int i_quotedMany, .int i_loseCell, .int i_done, .int i_deep])), (c_tape, .inl (q 2, 400, .inl u))])) (va_A [(h0, .inr (6, [.ref c_now, .ref c_was, .int i_undone, .ref c_kept, .ref c_isKept, .ref c_aside, .long i_turning, .int i_turnMany, .int i_turnCurrent, .ref c_wanted, .int i_costs, .int i_misses, .ref c_tape, .int 4, .int i_spot, .int i_wrong, .int i_number, .int i_numberAt, .int i_quoted, .int i_quotedMany, .int i_loseCell, .int i_done, .int i_deep])), (c_tape, .inl (q 2, 400, .inl f))] sz)) 0 0 (va_A [(h0, .inr (6, [.ref c_now, .ref c_was, .int i_undone, .ref c_kept, .ref c_isKept, .ref c_aside, .long i_turning, .int i_turnMany, .int i_turnCurrent, .ref c_wanted, .int i_costs, .int i_misses, .ref c_tape, .int 4, .int i_spot, .int i_wrong, .int i_number, .int i_numberAt, .int i_quoted, .int i_quotedMany, .int i_loseCell, .int i_done, .int i_deep])), (c_tape, .inl (q 2, 400, .inl f))] sz) := by
  refine mt_start (by decide) (Nat.le_of_ble_eq_true rfl) ?_
  intro p e s m below meth c ls hx hb hr hml hown ht hk hin hP hQ hD hA hS hV hl
  have hK := hQ.1
  have hown : s.vm.findClass RX7 = some m.cls := hown
  have hl : lv_has ls 3 [(0, .ref h0), (1, .int x)] := hl
  refine lv_bipush (v := 24) hx hb dX7_lays_0 (by decide) ?_
  refine lv_istore_n (lv' := [(2, .int 24), (0, .ref h0), (1, .int x)]) hx hb dX7_lays_2 rfl hl (by decide) rfl (fun ls hl => ?_)
  refine lv_iload_n hx hb dX7_lays_3 rfl (lv_at hl 0 rfl) ?_
  refine lv_if_lt (tgt := 36) hx hb dX7_lays_4 (by decide) (fun c9 => absurd c9 (by decide)) (fun c_1 => ?_)
  refine lv_aload_n hx hb dX7_lays_7 rfl (lv_at hl 1 rfl) ?_
  refine fl_get (C := RX7) (T := TX7) (N := 23) (ci := 6) (v := .ref c_tape) hx hb ht in_X7 hown hK hP 0 rfl rfl 12 (by decide) mw_1142 rfl dX7_lays_8 ?_
  refine lv_aload_n hx hb dX7_lays_11 rfl (lv_at hl 1 rfl) ?_
  refine fl_get (C := RX7) (T := TX7) (N := 23) (ci := 6) (v := .int 4) hx hb ht in_X7 hown hK hP 0 rfl rfl 13 (by decide) mw_1143 rfl dX7_lays_12 ?_
  refine lv_iload_n hx hb dX7_lays_15 rfl (lv_at hl 2 rfl) ?_
  refine lv_iload_n hx hb dX7_lays_16 rfl (lv_at hl 0 rfl) ?_
  refine lv_ishr hx hb dX7_lays_17 ?_
  refine lv_topi (fun x_2 ex_2 => ?_)
  refine lv_i2b (v := (x_2.toInt8.toInt32)) hx hb dX7_lays_18 rfl ?_
  refine va_bast hx hb hK hP hD hS 1 2 rfl rfl (in_c rfl) dX7_lays_19 (fun H locs hP hD hS => ?_)
  generalize upd f (Int32.toNatClampNeg 4) (vp_nar .byte (x_2.toInt8.toInt32)) = f_3 at hP hD
  have hP : va_P D vwCl [(h0, .inr (6, [.ref c_now, .ref c_was, .int i_undone, .ref c_kept, .ref c_isKept, .ref c_aside, .long i_turning, .int i_turnMany, .int i_turnCurrent, .ref c_wanted, .int i_costs, .int i_misses, .ref c_tape, .int 4, .int i_spot, .int i_wrong, .int i_number, .int i_numberAt, .int i_quoted, .int i_quotedMany, .int i_loseCell, .int i_done, .int i_deep])), (c_tape, .inl (q 2, 400, .inl f_3))] H := hP
  have hD : va_D _ [(h0, .inr (6, [.ref c_now, .ref c_was, .int i_undone, .ref c_kept, .ref c_isKept, .ref c_aside, .long i_turning, .int i_turnMany, .int i_turnCurrent, .ref c_wanted, .int i_costs, .int i_misses, .ref c_tape, .int 4, .int i_spot, .int i_wrong, .int i_number, .int i_numberAt, .int i_quoted, .int i_quotedMany, .int i_loseCell, .int i_done, .int i_deep])), (c_tape, .inl (q 2, 400, .inl f_3))] := hD
  refine lv_aload_n hx hb dX7_lays_20 rfl (lv_at hl 1 rfl) ?_
  refine lv_dup hx hb dX7_lays_21 rfl ?_
  refine fl_get (C := RX7) (T := TX7) (N := 23) (ci := 6) (v := .int 4) hx hb ht in_X7 hown hK hP 0 rfl rfl 13 (by decide) mw_1143 rfl dX7_lays_22 ?_
  refine lv_iconst (v := 1) hx hb dX7_lays_25 (by decide) ?_
  refine lv_iadd hx hb dX7_lays_26 ?_
  refine ab_i (v := 5) (by decide) ?_
  refine fl_put (C := RX7) (T := TX7) (N := 23) (ci := 6) (v := .int 5) (ws2 := [(h0, .inr (6, [.ref c_now, .ref c_was, .int i_undone, .ref c_kept, .ref c_isKept, .ref c_aside, .long i_turning, .int i_turnMany, .int i_turnCurrent, .ref c_wanted, .int i_costs, .int i_misses, .ref c_tape, .int 5, .int i_spot, .int i_wrong, .int i_number, .int i_numberAt, .int i_quoted, .int i_quotedMany, .int i_loseCell, .int i_done, .int i_deep])), (c_tape, .inl (q 2, 400, .inl f_3))]) hx hb ht in_X7 tyX7_ok nmX7 hown hK hP hD hS 0 rfl rfl 13 (by decide) mw_1143 rfl rfl rfl (Nat.le_of_ble_eq_true rfl) dX7_lays_27 rfl (fun H locs hP hD hS => ?_)
  refine lv_iinc (v := 16) (lv' := [(2, .int 16), (0, .ref h0), (1, .int x)]) hx hb dX7_lays_30 hl (k := 0) rfl (by decide) (by decide) rfl (fun ls hl => ?_)
  refine lv_goto (tgt := 3) hx hb dX7_lays_33 (by decide) ?_
  refine lv_iload_n hx hb dX7_lays_3 rfl (lv_at hl 0 rfl) ?_
  refine lv_if_lt (tgt := 36) hx hb dX7_lays_4 (by decide) (fun c9 => absurd c9 (by decide)) (fun c_4 => ?_)
  refine lv_aload_n hx hb dX7_lays_7 rfl (lv_at hl 1 rfl) ?_
  refine fl_get (C := RX7) (T := TX7) (N := 23) (ci := 6) (v := .ref c_tape) hx hb ht in_X7 hown hK hP 0 rfl rfl 12 (by decide) mw_1142 rfl dX7_lays_8 ?_
  refine lv_aload_n hx hb dX7_lays_11 rfl (lv_at hl 1 rfl) ?_
  refine fl_get (C := RX7) (T := TX7) (N := 23) (ci := 6) (v := .int 5) hx hb ht in_X7 hown hK hP 0 rfl rfl 13 (by decide) mw_1143 rfl dX7_lays_12 ?_
  refine lv_iload_n hx hb dX7_lays_15 rfl (lv_at hl 2 rfl) ?_
  refine lv_iload_n hx hb dX7_lays_16 rfl (lv_at hl 0 rfl) ?_
  refine lv_ishr hx hb dX7_lays_17 ?_
  refine lv_topi (fun x_5 ex_5 => ?_)
  refine lv_i2b (v := (x_5.toInt8.toInt32)) hx hb dX7_lays_18 rfl ?_
  refine va_bast hx hb hK hP hD hS 1 2 rfl rfl (in_c rfl) dX7_lays_19 (fun H locs hP hD hS => ?_)
  generalize upd f_3 (Int32.toNatClampNeg 5) (vp_nar .byte (x_5.toInt8.toInt32)) = f_6 at hP hD
  have hP : va_P D vwCl [(h0, .inr (6, [.ref c_now, .ref c_was, .int i_undone, .ref c_kept, .ref c_isKept, .ref c_aside, .long i_turning, .int i_turnMany, .int i_turnCurrent, .ref c_wanted, .int i_costs, .int i_misses, .ref c_tape, .int 5, .int i_spot, .int i_wrong, .int i_number, .int i_numberAt, .int i_quoted, .int i_quotedMany, .int i_loseCell, .int i_done, .int i_deep])), (c_tape, .inl (q 2, 400, .inl f_6))] H := hP
  have hD : va_D _ [(h0, .inr (6, [.ref c_now, .ref c_was, .int i_undone, .ref c_kept, .ref c_isKept, .ref c_aside, .long i_turning, .int i_turnMany, .int i_turnCurrent, .ref c_wanted, .int i_costs, .int i_misses, .ref c_tape, .int 5, .int i_spot, .int i_wrong, .int i_number, .int i_numberAt, .int i_quoted, .int i_quotedMany, .int i_loseCell, .int i_done, .int i_deep])), (c_tape, .inl (q 2, 400, .inl f_6))] := hD
  refine lv_aload_n hx hb dX7_lays_20 rfl (lv_at hl 1 rfl) ?_
  refine lv_dup hx hb dX7_lays_21 rfl ?_
  refine fl_get (C := RX7) (T := TX7) (N := 23) (ci := 6) (v := .int 5) hx hb ht in_X7 hown hK hP 0 rfl rfl 13 (by decide) mw_1143 rfl dX7_lays_22 ?_
  refine lv_iconst (v := 1) hx hb dX7_lays_25 (by decide) ?_
  refine lv_iadd hx hb dX7_lays_26 ?_
  refine ab_i (v := 6) (by decide) ?_
  refine fl_put (C := RX7) (T := TX7) (N := 23) (ci := 6) (v := .int 6) (ws2 := [(h0, .inr (6, [.ref c_now, .ref c_was, .int i_undone, .ref c_kept, .ref c_isKept, .ref c_aside, .long i_turning, .int i_turnMany, .int i_turnCurrent, .ref c_wanted, .int i_costs, .int i_misses, .ref c_tape, .int 6, .int i_spot, .int i_wrong, .int i_number, .int i_numberAt, .int i_quoted, .int i_quotedMany, .int i_loseCell, .int i_done, .int i_deep])), (c_tape, .inl (q 2, 400, .inl f_6))]) hx hb ht in_X7 tyX7_ok nmX7 hown hK hP hD hS 0 rfl rfl 13 (by decide) mw_1143 rfl rfl rfl (Nat.le_of_ble_eq_true rfl) dX7_lays_27 rfl (fun H locs hP hD hS => ?_)
  refine lv_iinc (v := 8) (lv' := [(2, .int 8), (0, .ref h0), (1, .int x)]) hx hb dX7_lays_30 hl (k := 0) rfl (by decide) (by decide) rfl (fun ls hl => ?_)
  refine lv_goto (tgt := 3) hx hb dX7_lays_33 (by decide) ?_
  refine lv_iload_n hx hb dX7_lays_3 rfl (lv_at hl 0 rfl) ?_
  refine lv_if_lt (tgt := 36) hx hb dX7_lays_4 (by decide) (fun c9 => absurd c9 (by decide)) (fun c_7 => ?_)
  refine lv_aload_n hx hb dX7_lays_7 rfl (lv_at hl 1 rfl) ?_
  refine fl_get (C := RX7) (T := TX7) (N := 23) (ci := 6) (v := .ref c_tape) hx hb ht in_X7 hown hK hP 0 rfl rfl 12 (by decide) mw_1142 rfl dX7_lays_8 ?_
  refine lv_aload_n hx hb dX7_lays_11 rfl (lv_at hl 1 rfl) ?_
  refine fl_get (C := RX7) (T := TX7) (N := 23) (ci := 6) (v := .int 6) hx hb ht in_X7 hown hK hP 0 rfl rfl 13 (by decide) mw_1143 rfl dX7_lays_12 ?_
  refine lv_iload_n hx hb dX7_lays_15 rfl (lv_at hl 2 rfl) ?_
  refine lv_iload_n hx hb dX7_lays_16 rfl (lv_at hl 0 rfl) ?_
  refine lv_ishr hx hb dX7_lays_17 ?_
  refine lv_topi (fun x_8 ex_8 => ?_)
  refine lv_i2b (v := (x_8.toInt8.toInt32)) hx hb dX7_lays_18 rfl ?_
  refine va_bast hx hb hK hP hD hS 1 2 rfl rfl (in_c rfl) dX7_lays_19 (fun H locs hP hD hS => ?_)
  generalize upd f_6 (Int32.toNatClampNeg 6) (vp_nar .byte (x_8.toInt8.toInt32)) = f_9 at hP hD
  have hP : va_P D vwCl [(h0, .inr (6, [.ref c_now, .ref c_was, .int i_undone, .ref c_kept, .ref c_isKept, .ref c_aside, .long i_turning, .int i_turnMany, .int i_turnCurrent, .ref c_wanted, .int i_costs, .int i_misses, .ref c_tape, .int 6, .int i_spot, .int i_wrong, .int i_number, .int i_numberAt, .int i_quoted, .int i_quotedMany, .int i_loseCell, .int i_done, .int i_deep])), (c_tape, .inl (q 2, 400, .inl f_9))] H := hP
  have hD : va_D _ [(h0, .inr (6, [.ref c_now, .ref c_was, .int i_undone, .ref c_kept, .ref c_isKept, .ref c_aside, .long i_turning, .int i_turnMany, .int i_turnCurrent, .ref c_wanted, .int i_costs, .int i_misses, .ref c_tape, .int 6, .int i_spot, .int i_wrong, .int i_number, .int i_numberAt, .int i_quoted, .int i_quotedMany, .int i_loseCell, .int i_done, .int i_deep])), (c_tape, .inl (q 2, 400, .inl f_9))] := hD
  refine lv_aload_n hx hb dX7_lays_20 rfl (lv_at hl 1 rfl) ?_
  refine lv_dup hx hb dX7_lays_21 rfl ?_
  refine fl_get (C := RX7) (T := TX7) (N := 23) (ci := 6) (v := .int 6) hx hb ht in_X7 hown hK hP 0 rfl rfl 13 (by decide) mw_1143 rfl dX7_lays_22 ?_
  refine lv_iconst (v := 1) hx hb dX7_lays_25 (by decide) ?_
  refine lv_iadd hx hb dX7_lays_26 ?_
  refine ab_i (v := 7) (by decide) ?_
  refine fl_put (C := RX7) (T := TX7) (N := 23) (ci := 6) (v := .int 7) (ws2 := [(h0, .inr (6, [.ref c_now, .ref c_was, .int i_undone, .ref c_kept, .ref c_isKept, .ref c_aside, .long i_turning, .int i_turnMany, .int i_turnCurrent, .ref c_wanted, .int i_costs, .int i_misses, .ref c_tape, .int 7, .int i_spot, .int i_wrong, .int i_number, .int i_numberAt, .int i_quoted, .int i_quotedMany, .int i_loseCell, .int i_done, .int i_deep])), (c_tape, .inl (q 2, 400, .inl f_9))]) hx hb ht in_X7 tyX7_ok nmX7 hown hK hP hD hS 0 rfl rfl 13 (by decide) mw_1143 rfl rfl rfl (Nat.le_of_ble_eq_true rfl) dX7_lays_27 rfl (fun H locs hP hD hS => ?_)
  refine lv_iinc (v := 0) (lv' := [(2, .int 0), (0, .ref h0), (1, .int x)]) hx hb dX7_lays_30 hl (k := 0) rfl (by decide) (by decide) rfl (fun ls hl => ?_)
  refine lv_goto (tgt := 3) hx hb dX7_lays_33 (by decide) ?_
  refine lv_iload_n hx hb dX7_lays_3 rfl (lv_at hl 0 rfl) ?_
  refine lv_if_lt (tgt := 36) hx hb dX7_lays_4 (by decide) (fun c9 => absurd c9 (by decide)) (fun c_10 => ?_)
  refine lv_aload_n hx hb dX7_lays_7 rfl (lv_at hl 1 rfl) ?_
  refine fl_get (C := RX7) (T := TX7) (N := 23) (ci := 6) (v := .ref c_tape) hx hb ht in_X7 hown hK hP 0 rfl rfl 12 (by decide) mw_1142 rfl dX7_lays_8 ?_
  refine lv_aload_n hx hb dX7_lays_11 rfl (lv_at hl 1 rfl) ?_
  refine fl_get (C := RX7) (T := TX7) (N := 23) (ci := 6) (v := .int 7) hx hb ht in_X7 hown hK hP 0 rfl rfl 13 (by decide) mw_1143 rfl dX7_lays_12 ?_
  refine lv_iload_n hx hb dX7_lays_15 rfl (lv_at hl 2 rfl) ?_
  refine lv_iload_n hx hb dX7_lays_16 rfl (lv_at hl 0 rfl) ?_
  refine lv_ishr hx hb dX7_lays_17 ?_
  refine lv_topi (fun x_11 ex_11 => ?_)
  refine lv_i2b (v := (x_11.toInt8.toInt32)) hx hb dX7_lays_18 rfl ?_
  refine va_bast hx hb hK hP hD hS 1 2 rfl rfl (in_c rfl) dX7_lays_19 (fun H locs hP hD hS => ?_)
  generalize upd f_9 (Int32.toNatClampNeg 7) (vp_nar .byte (x_11.toInt8.toInt32)) = f_12 at hP hD
  have hP : va_P D vwCl [(h0, .inr (6, [.ref c_now, .ref c_was, .int i_undone, .ref c_kept, .ref c_isKept, .ref c_aside, .long i_turning, .int i_turnMany, .int i_turnCurrent, .ref c_wanted, .int i_costs, .int i_misses, .ref c_tape, .int 7, .int i_spot, .int i_wrong, .int i_number, .int i_numberAt, .int i_quoted, .int i_quotedMany, .int i_loseCell, .int i_done, .int i_deep])), (c_tape, .inl (q 2, 400, .inl f_12))] H := hP
  have hD : va_D _ [(h0, .inr (6, [.ref c_now, .ref c_was, .int i_undone, .ref c_kept, .ref c_isKept, .ref c_aside, .long i_turning, .int i_turnMany, .int i_turnCurrent, .ref c_wanted, .int i_costs, .int i_misses, .ref c_tape, .int 7, .int i_spot, .int i_wrong, .int i_number, .int i_numberAt, .int i_quoted, .int i_quotedMany, .int i_loseCell, .int i_done, .int i_deep])), (c_tape, .inl (q 2, 400, .inl f_12))] := hD
  refine lv_aload_n hx hb dX7_lays_20 rfl (lv_at hl 1 rfl) ?_
  refine lv_dup hx hb dX7_lays_21 rfl ?_
  refine fl_get (C := RX7) (T := TX7) (N := 23) (ci := 6) (v := .int 7) hx hb ht in_X7 hown hK hP 0 rfl rfl 13 (by decide) mw_1143 rfl dX7_lays_22 ?_
  refine lv_iconst (v := 1) hx hb dX7_lays_25 (by decide) ?_
  refine lv_iadd hx hb dX7_lays_26 ?_
  refine ab_i (v := 8) (by decide) ?_
  refine fl_put (C := RX7) (T := TX7) (N := 23) (ci := 6) (v := .int 8) (ws2 := [(h0, .inr (6, [.ref c_now, .ref c_was, .int i_undone, .ref c_kept, .ref c_isKept, .ref c_aside, .long i_turning, .int i_turnMany, .int i_turnCurrent, .ref c_wanted, .int i_costs, .int i_misses, .ref c_tape, .int 8, .int i_spot, .int i_wrong, .int i_number, .int i_numberAt, .int i_quoted, .int i_quotedMany, .int i_loseCell, .int i_done, .int i_deep])), (c_tape, .inl (q 2, 400, .inl f_12))]) hx hb ht in_X7 tyX7_ok nmX7 hown hK hP hD hS 0 rfl rfl 13 (by decide) mw_1143 rfl rfl rfl (Nat.le_of_ble_eq_true rfl) dX7_lays_27 rfl (fun H locs hP hD hS => ?_)
  refine lv_iinc (v := (-8)) (lv' := [(2, .int (-8)), (0, .ref h0), (1, .int x)]) hx hb dX7_lays_30 hl (k := 0) rfl (by decide) (by decide) rfl (fun ls hl => ?_)
  refine lv_goto (tgt := 3) hx hb dX7_lays_33 (by decide) ?_
  refine lv_iload_n hx hb dX7_lays_3 rfl (lv_at hl 0 rfl) ?_
  refine lv_if_lt (tgt := 36) hx hb dX7_lays_4 (by decide) (fun c_13 => ?_) (fun c9 => absurd (by decide) c9)
  have hP := hP.sub (ws' := [(h0, .inr (6, [.ref c_now, .ref c_was, .int i_undone, .ref c_kept, .ref c_isKept, .ref c_aside, .long i_turning, .int i_turnMany, .int i_turnCurrent, .ref c_wanted, .int i_costs, .int i_misses, .ref c_tape, .int 8, .int i_spot, .int i_wrong, .int i_number, .int i_numberAt, .int i_quoted, .int i_quotedMany, .int i_loseCell, .int i_done, .int i_deep])), (c_tape, .inl (q 2, 400, .inl f_12))]) [0, 1] rfl
  have hD := hD.sub (ws' := [(h0, .inr (6, [.ref c_now, .ref c_was, .int i_undone, .ref c_kept, .ref c_isKept, .ref c_aside, .long i_turning, .int i_turnMany, .int i_turnCurrent, .ref c_wanted, .int i_costs, .int i_misses, .ref c_tape, .int 8, .int i_spot, .int i_wrong, .int i_number, .int i_numberAt, .int i_quoted, .int i_quotedMany, .int i_loseCell, .int i_done, .int i_deep])), (c_tape, .inl (q 2, 400, .inl f_12))]) [0, 1] (by decide) rfl
  exact mt_vret f_12 hx hb hr hk (trivial) hP hD hS dX7_lays_36

set_option maxHeartbeats 4000000 in
set_option maxRecDepth 100000 in
theorem cm_lays_8 {l : Launch} {D : va_G} {q : Nat → ClassId} {sz : Nat} {h0 c_now c_was c_kept c_isKept c_aside c_wanted c_tape : Nat} {i_undone i_turnMany i_turnCurrent i_costs i_misses i_spot i_wrong i_number i_numberAt i_quoted i_quotedMany i_loseCell i_done i_deep : Int32} {i_turning : Int64} {x : Int32} {f : Nat → Int32} : Met l yX7_lays (Cond.code yX7_lays cX7_lays 3 none :: w_all) ({ frames := 0, cells := 0, slots := 0, locals := 0 }) (mt_P D q [.ref h0, .int x] [(h0, .inr (6, [.ref c_now, .ref c_was, .int i_undone, .ref c_kept, .ref c_isKept, .ref c_aside, .long i_turning, .int i_turnMany, .int i_turnCurrent, .ref c_wanted, .int i_costs, .int i_misses, .ref c_tape, .int 8, .int i_spot, .int i_wrong, .int i_number, .int i_numberAt, .int i_quoted, .int i_quotedMany, .int i_loseCell, .int i_done, .int i_deep])), (c_tape, .inl (q 2, 400, .inl f))] sz) (va_Qv (fun u : (Nat → Int32) => True) (mt_B D [(h0, .inr (6, [.ref c_now, .ref c_was, .int i_undone, .ref c_kept, .ref c_isKept, .ref c_aside, .long i_turning, .int i_turnMany, .int i_turnCurrent, .ref c_wanted, .int i_costs, .int i_misses, .ref c_tape, .int 8, .int i_spot, .int i_wrong, .int i_number, .int i_numberAt, .int i_quoted, .int i_quotedMany, .int i_loseCell, .int i_done, .int i_deep])), (c_tape, .inl (q 2, 400, .inl f))] sz (fun u => [(h0, .inr (6, [.ref c_now, .ref c_was, .int i_undone, .ref c_kept, .ref c_isKept, .ref c_aside, .long i_turning, .int i_turnMany, .int i_turnCurrent, .ref c_wanted, .int i_costs, .int i_misses, .ref c_tape, .int 12, .int i_spot, .int i_wrong, .int i_number, .int i_numberAt, .int i_quoted, .int i_quotedMany, .int i_loseCell, .int i_done, .int i_deep])), (c_tape, .inl (q 2, 400, .inl u))])) (va_A [(h0, .inr (6, [.ref c_now, .ref c_was, .int i_undone, .ref c_kept, .ref c_isKept, .ref c_aside, .long i_turning, .int i_turnMany, .int i_turnCurrent, .ref c_wanted, .int i_costs, .int i_misses, .ref c_tape, .int 8, .int i_spot, .int i_wrong, .int i_number, .int i_numberAt, .int i_quoted, .int i_quotedMany, .int i_loseCell, .int i_done, .int i_deep])), (c_tape, .inl (q 2, 400, .inl f))] sz)) 0 0 (va_A [(h0, .inr (6, [.ref c_now, .ref c_was, .int i_undone, .ref c_kept, .ref c_isKept, .ref c_aside, .long i_turning, .int i_turnMany, .int i_turnCurrent, .ref c_wanted, .int i_costs, .int i_misses, .ref c_tape, .int 8, .int i_spot, .int i_wrong, .int i_number, .int i_numberAt, .int i_quoted, .int i_quotedMany, .int i_loseCell, .int i_done, .int i_deep])), (c_tape, .inl (q 2, 400, .inl f))] sz) := by
  refine mt_start (by decide) (Nat.le_of_ble_eq_true rfl) ?_
  intro p e s m below meth c ls hx hb hr hml hown ht hk hin hP hQ hD hA hS hV hl
  have hK := hQ.1
  have hown : s.vm.findClass RX7 = some m.cls := hown
  have hl : lv_has ls 3 [(0, .ref h0), (1, .int x)] := hl
  refine lv_bipush (v := 24) hx hb dX7_lays_0 (by decide) ?_
  refine lv_istore_n (lv' := [(2, .int 24), (0, .ref h0), (1, .int x)]) hx hb dX7_lays_2 rfl hl (by decide) rfl (fun ls hl => ?_)
  refine lv_iload_n hx hb dX7_lays_3 rfl (lv_at hl 0 rfl) ?_
  refine lv_if_lt (tgt := 36) hx hb dX7_lays_4 (by decide) (fun c9 => absurd c9 (by decide)) (fun c_1 => ?_)
  refine lv_aload_n hx hb dX7_lays_7 rfl (lv_at hl 1 rfl) ?_
  refine fl_get (C := RX7) (T := TX7) (N := 23) (ci := 6) (v := .ref c_tape) hx hb ht in_X7 hown hK hP 0 rfl rfl 12 (by decide) mw_1142 rfl dX7_lays_8 ?_
  refine lv_aload_n hx hb dX7_lays_11 rfl (lv_at hl 1 rfl) ?_
  refine fl_get (C := RX7) (T := TX7) (N := 23) (ci := 6) (v := .int 8) hx hb ht in_X7 hown hK hP 0 rfl rfl 13 (by decide) mw_1143 rfl dX7_lays_12 ?_
  refine lv_iload_n hx hb dX7_lays_15 rfl (lv_at hl 2 rfl) ?_
  refine lv_iload_n hx hb dX7_lays_16 rfl (lv_at hl 0 rfl) ?_
  refine lv_ishr hx hb dX7_lays_17 ?_
  refine lv_topi (fun x_2 ex_2 => ?_)
  refine lv_i2b (v := (x_2.toInt8.toInt32)) hx hb dX7_lays_18 rfl ?_
  refine va_bast hx hb hK hP hD hS 1 2 rfl rfl (in_c rfl) dX7_lays_19 (fun H locs hP hD hS => ?_)
  generalize upd f (Int32.toNatClampNeg 8) (vp_nar .byte (x_2.toInt8.toInt32)) = f_3 at hP hD
  have hP : va_P D vwCl [(h0, .inr (6, [.ref c_now, .ref c_was, .int i_undone, .ref c_kept, .ref c_isKept, .ref c_aside, .long i_turning, .int i_turnMany, .int i_turnCurrent, .ref c_wanted, .int i_costs, .int i_misses, .ref c_tape, .int 8, .int i_spot, .int i_wrong, .int i_number, .int i_numberAt, .int i_quoted, .int i_quotedMany, .int i_loseCell, .int i_done, .int i_deep])), (c_tape, .inl (q 2, 400, .inl f_3))] H := hP
  have hD : va_D _ [(h0, .inr (6, [.ref c_now, .ref c_was, .int i_undone, .ref c_kept, .ref c_isKept, .ref c_aside, .long i_turning, .int i_turnMany, .int i_turnCurrent, .ref c_wanted, .int i_costs, .int i_misses, .ref c_tape, .int 8, .int i_spot, .int i_wrong, .int i_number, .int i_numberAt, .int i_quoted, .int i_quotedMany, .int i_loseCell, .int i_done, .int i_deep])), (c_tape, .inl (q 2, 400, .inl f_3))] := hD
  refine lv_aload_n hx hb dX7_lays_20 rfl (lv_at hl 1 rfl) ?_
  refine lv_dup hx hb dX7_lays_21 rfl ?_
  refine fl_get (C := RX7) (T := TX7) (N := 23) (ci := 6) (v := .int 8) hx hb ht in_X7 hown hK hP 0 rfl rfl 13 (by decide) mw_1143 rfl dX7_lays_22 ?_
  refine lv_iconst (v := 1) hx hb dX7_lays_25 (by decide) ?_
  refine lv_iadd hx hb dX7_lays_26 ?_
  refine ab_i (v := 9) (by decide) ?_
  refine fl_put (C := RX7) (T := TX7) (N := 23) (ci := 6) (v := .int 9) (ws2 := [(h0, .inr (6, [.ref c_now, .ref c_was, .int i_undone, .ref c_kept, .ref c_isKept, .ref c_aside, .long i_turning, .int i_turnMany, .int i_turnCurrent, .ref c_wanted, .int i_costs, .int i_misses, .ref c_tape, .int 9, .int i_spot, .int i_wrong, .int i_number, .int i_numberAt, .int i_quoted, .int i_quotedMany, .int i_loseCell, .int i_done, .int i_deep])), (c_tape, .inl (q 2, 400, .inl f_3))]) hx hb ht in_X7 tyX7_ok nmX7 hown hK hP hD hS 0 rfl rfl 13 (by decide) mw_1143 rfl rfl rfl (Nat.le_of_ble_eq_true rfl) dX7_lays_27 rfl (fun H locs hP hD hS => ?_)
  refine lv_iinc (v := 16) (lv' := [(2, .int 16), (0, .ref h0), (1, .int x)]) hx hb dX7_lays_30 hl (k := 0) rfl (by decide) (by decide) rfl (fun ls hl => ?_)
  refine lv_goto (tgt := 3) hx hb dX7_lays_33 (by decide) ?_
  refine lv_iload_n hx hb dX7_lays_3 rfl (lv_at hl 0 rfl) ?_
  refine lv_if_lt (tgt := 36) hx hb dX7_lays_4 (by decide) (fun c9 => absurd c9 (by decide)) (fun c_4 => ?_)
  refine lv_aload_n hx hb dX7_lays_7 rfl (lv_at hl 1 rfl) ?_
  refine fl_get (C := RX7) (T := TX7) (N := 23) (ci := 6) (v := .ref c_tape) hx hb ht in_X7 hown hK hP 0 rfl rfl 12 (by decide) mw_1142 rfl dX7_lays_8 ?_
  refine lv_aload_n hx hb dX7_lays_11 rfl (lv_at hl 1 rfl) ?_
  refine fl_get (C := RX7) (T := TX7) (N := 23) (ci := 6) (v := .int 9) hx hb ht in_X7 hown hK hP 0 rfl rfl 13 (by decide) mw_1143 rfl dX7_lays_12 ?_
  refine lv_iload_n hx hb dX7_lays_15 rfl (lv_at hl 2 rfl) ?_
  refine lv_iload_n hx hb dX7_lays_16 rfl (lv_at hl 0 rfl) ?_
  refine lv_ishr hx hb dX7_lays_17 ?_
  refine lv_topi (fun x_5 ex_5 => ?_)
  refine lv_i2b (v := (x_5.toInt8.toInt32)) hx hb dX7_lays_18 rfl ?_
  refine va_bast hx hb hK hP hD hS 1 2 rfl rfl (in_c rfl) dX7_lays_19 (fun H locs hP hD hS => ?_)
  generalize upd f_3 (Int32.toNatClampNeg 9) (vp_nar .byte (x_5.toInt8.toInt32)) = f_6 at hP hD
  have hP : va_P D vwCl [(h0, .inr (6, [.ref c_now, .ref c_was, .int i_undone, .ref c_kept, .ref c_isKept, .ref c_aside, .long i_turning, .int i_turnMany, .int i_turnCurrent, .ref c_wanted, .int i_costs, .int i_misses, .ref c_tape, .int 9, .int i_spot, .int i_wrong, .int i_number, .int i_numberAt, .int i_quoted, .int i_quotedMany, .int i_loseCell, .int i_done, .int i_deep])), (c_tape, .inl (q 2, 400, .inl f_6))] H := hP
  have hD : va_D _ [(h0, .inr (6, [.ref c_now, .ref c_was, .int i_undone, .ref c_kept, .ref c_isKept, .ref c_aside, .long i_turning, .int i_turnMany, .int i_turnCurrent, .ref c_wanted, .int i_costs, .int i_misses, .ref c_tape, .int 9, .int i_spot, .int i_wrong, .int i_number, .int i_numberAt, .int i_quoted, .int i_quotedMany, .int i_loseCell, .int i_done, .int i_deep])), (c_tape, .inl (q 2, 400, .inl f_6))] := hD
  refine lv_aload_n hx hb dX7_lays_20 rfl (lv_at hl 1 rfl) ?_
  refine lv_dup hx hb dX7_lays_21 rfl ?_
  refine fl_get (C := RX7) (T := TX7) (N := 23) (ci := 6) (v := .int 9) hx hb ht in_X7 hown hK hP 0 rfl rfl 13 (by decide) mw_1143 rfl dX7_lays_22 ?_
  refine lv_iconst (v := 1) hx hb dX7_lays_25 (by decide) ?_
  refine lv_iadd hx hb dX7_lays_26 ?_
  refine ab_i (v := 10) (by decide) ?_
  refine fl_put (C := RX7) (T := TX7) (N := 23) (ci := 6) (v := .int 10) (ws2 := [(h0, .inr (6, [.ref c_now, .ref c_was, .int i_undone, .ref c_kept, .ref c_isKept, .ref c_aside, .long i_turning, .int i_turnMany, .int i_turnCurrent, .ref c_wanted, .int i_costs, .int i_misses, .ref c_tape, .int 10, .int i_spot, .int i_wrong, .int i_number, .int i_numberAt, .int i_quoted, .int i_quotedMany, .int i_loseCell, .int i_done, .int i_deep])), (c_tape, .inl (q 2, 400, .inl f_6))]) hx hb ht in_X7 tyX7_ok nmX7 hown hK hP hD hS 0 rfl rfl 13 (by decide) mw_1143 rfl rfl rfl (Nat.le_of_ble_eq_true rfl) dX7_lays_27 rfl (fun H locs hP hD hS => ?_)
  refine lv_iinc (v := 8) (lv' := [(2, .int 8), (0, .ref h0), (1, .int x)]) hx hb dX7_lays_30 hl (k := 0) rfl (by decide) (by decide) rfl (fun ls hl => ?_)
  refine lv_goto (tgt := 3) hx hb dX7_lays_33 (by decide) ?_
  refine lv_iload_n hx hb dX7_lays_3 rfl (lv_at hl 0 rfl) ?_
  refine lv_if_lt (tgt := 36) hx hb dX7_lays_4 (by decide) (fun c9 => absurd c9 (by decide)) (fun c_7 => ?_)
  refine lv_aload_n hx hb dX7_lays_7 rfl (lv_at hl 1 rfl) ?_
  refine fl_get (C := RX7) (T := TX7) (N := 23) (ci := 6) (v := .ref c_tape) hx hb ht in_X7 hown hK hP 0 rfl rfl 12 (by decide) mw_1142 rfl dX7_lays_8 ?_
  refine lv_aload_n hx hb dX7_lays_11 rfl (lv_at hl 1 rfl) ?_
  refine fl_get (C := RX7) (T := TX7) (N := 23) (ci := 6) (v := .int 10) hx hb ht in_X7 hown hK hP 0 rfl rfl 13 (by decide) mw_1143 rfl dX7_lays_12 ?_
  refine lv_iload_n hx hb dX7_lays_15 rfl (lv_at hl 2 rfl) ?_
  refine lv_iload_n hx hb dX7_lays_16 rfl (lv_at hl 0 rfl) ?_
  refine lv_ishr hx hb dX7_lays_17 ?_
  refine lv_topi (fun x_8 ex_8 => ?_)
  refine lv_i2b (v := (x_8.toInt8.toInt32)) hx hb dX7_lays_18 rfl ?_
  refine va_bast hx hb hK hP hD hS 1 2 rfl rfl (in_c rfl) dX7_lays_19 (fun H locs hP hD hS => ?_)
  generalize upd f_6 (Int32.toNatClampNeg 10) (vp_nar .byte (x_8.toInt8.toInt32)) = f_9 at hP hD
  have hP : va_P D vwCl [(h0, .inr (6, [.ref c_now, .ref c_was, .int i_undone, .ref c_kept, .ref c_isKept, .ref c_aside, .long i_turning, .int i_turnMany, .int i_turnCurrent, .ref c_wanted, .int i_costs, .int i_misses, .ref c_tape, .int 10, .int i_spot, .int i_wrong, .int i_number, .int i_numberAt, .int i_quoted, .int i_quotedMany, .int i_loseCell, .int i_done, .int i_deep])), (c_tape, .inl (q 2, 400, .inl f_9))] H := hP
  have hD : va_D _ [(h0, .inr (6, [.ref c_now, .ref c_was, .int i_undone, .ref c_kept, .ref c_isKept, .ref c_aside, .long i_turning, .int i_turnMany, .int i_turnCurrent, .ref c_wanted, .int i_costs, .int i_misses, .ref c_tape, .int 10, .int i_spot, .int i_wrong, .int i_number, .int i_numberAt, .int i_quoted, .int i_quotedMany, .int i_loseCell, .int i_done, .int i_deep])), (c_tape, .inl (q 2, 400, .inl f_9))] := hD
  refine lv_aload_n hx hb dX7_lays_20 rfl (lv_at hl 1 rfl) ?_
  refine lv_dup hx hb dX7_lays_21 rfl ?_
  refine fl_get (C := RX7) (T := TX7) (N := 23) (ci := 6) (v := .int 10) hx hb ht in_X7 hown hK hP 0 rfl rfl 13 (by decide) mw_1143 rfl dX7_lays_22 ?_
  refine lv_iconst (v := 1) hx hb dX7_lays_25 (by decide) ?_
  refine lv_iadd hx hb dX7_lays_26 ?_
  refine ab_i (v := 11) (by decide) ?_
  refine fl_put (C := RX7) (T := TX7) (N := 23) (ci := 6) (v := .int 11) (ws2 := [(h0, .inr (6, [.ref c_now, .ref c_was, .int i_undone, .ref c_kept, .ref c_isKept, .ref c_aside, .long i_turning, .int i_turnMany, .int i_turnCurrent, .ref c_wanted, .int i_costs, .int i_misses, .ref c_tape, .int 11, .int i_spot, .int i_wrong, .int i_number, .int i_numberAt, .int i_quoted, .int i_quotedMany, .int i_loseCell, .int i_done, .int i_deep])), (c_tape, .inl (q 2, 400, .inl f_9))]) hx hb ht in_X7 tyX7_ok nmX7 hown hK hP hD hS 0 rfl rfl 13 (by decide) mw_1143 rfl rfl rfl (Nat.le_of_ble_eq_true rfl) dX7_lays_27 rfl (fun H locs hP hD hS => ?_)
  refine lv_iinc (v := 0) (lv' := [(2, .int 0), (0, .ref h0), (1, .int x)]) hx hb dX7_lays_30 hl (k := 0) rfl (by decide) (by decide) rfl (fun ls hl => ?_)
  refine lv_goto (tgt := 3) hx hb dX7_lays_33 (by decide) ?_
  refine lv_iload_n hx hb dX7_lays_3 rfl (lv_at hl 0 rfl) ?_
  refine lv_if_lt (tgt := 36) hx hb dX7_lays_4 (by decide) (fun c9 => absurd c9 (by decide)) (fun c_10 => ?_)
  refine lv_aload_n hx hb dX7_lays_7 rfl (lv_at hl 1 rfl) ?_
  refine fl_get (C := RX7) (T := TX7) (N := 23) (ci := 6) (v := .ref c_tape) hx hb ht in_X7 hown hK hP 0 rfl rfl 12 (by decide) mw_1142 rfl dX7_lays_8 ?_
  refine lv_aload_n hx hb dX7_lays_11 rfl (lv_at hl 1 rfl) ?_
  refine fl_get (C := RX7) (T := TX7) (N := 23) (ci := 6) (v := .int 11) hx hb ht in_X7 hown hK hP 0 rfl rfl 13 (by decide) mw_1143 rfl dX7_lays_12 ?_
  refine lv_iload_n hx hb dX7_lays_15 rfl (lv_at hl 2 rfl) ?_
  refine lv_iload_n hx hb dX7_lays_16 rfl (lv_at hl 0 rfl) ?_
  refine lv_ishr hx hb dX7_lays_17 ?_
  refine lv_topi (fun x_11 ex_11 => ?_)
  refine lv_i2b (v := (x_11.toInt8.toInt32)) hx hb dX7_lays_18 rfl ?_
  refine va_bast hx hb hK hP hD hS 1 2 rfl rfl (in_c rfl) dX7_lays_19 (fun H locs hP hD hS => ?_)
  generalize upd f_9 (Int32.toNatClampNeg 11) (vp_nar .byte (x_11.toInt8.toInt32)) = f_12 at hP hD
  have hP : va_P D vwCl [(h0, .inr (6, [.ref c_now, .ref c_was, .int i_undone, .ref c_kept, .ref c_isKept, .ref c_aside, .long i_turning, .int i_turnMany, .int i_turnCurrent, .ref c_wanted, .int i_costs, .int i_misses, .ref c_tape, .int 11, .int i_spot, .int i_wrong, .int i_number, .int i_numberAt, .int i_quoted, .int i_quotedMany, .int i_loseCell, .int i_done, .int i_deep])), (c_tape, .inl (q 2, 400, .inl f_12))] H := hP
  have hD : va_D _ [(h0, .inr (6, [.ref c_now, .ref c_was, .int i_undone, .ref c_kept, .ref c_isKept, .ref c_aside, .long i_turning, .int i_turnMany, .int i_turnCurrent, .ref c_wanted, .int i_costs, .int i_misses, .ref c_tape, .int 11, .int i_spot, .int i_wrong, .int i_number, .int i_numberAt, .int i_quoted, .int i_quotedMany, .int i_loseCell, .int i_done, .int i_deep])), (c_tape, .inl (q 2, 400, .inl f_12))] := hD
  refine lv_aload_n hx hb dX7_lays_20 rfl (lv_at hl 1 rfl) ?_
  refine lv_dup hx hb dX7_lays_21 rfl ?_
  refine fl_get (C := RX7) (T := TX7) (N := 23) (ci := 6) (v := .int 11) hx hb ht in_X7 hown hK hP 0 rfl rfl 13 (by decide) mw_1143 rfl dX7_lays_22 ?_
  refine lv_iconst (v := 1) hx hb dX7_lays_25 (by decide) ?_
  refine lv_iadd hx hb dX7_lays_26 ?_
  refine ab_i (v := 12) (by decide) ?_
  refine fl_put (C := RX7) (T := TX7) (N := 23) (ci := 6) (v := .int 12) (ws2 := [(h0, .inr (6, [.ref c_now, .ref c_was, .int i_undone, .ref c_kept, .ref c_isKept, .ref c_aside, .long i_turning, .int i_turnMany, .int i_turnCurrent, .ref c_wanted, .int i_costs, .int i_misses, .ref c_tape, .int 12, .int i_spot, .int i_wrong, .int i_number, .int i_numberAt, .int i_quoted, .int i_quotedMany, .int i_loseCell, .int i_done, .int i_deep])), (c_tape, .inl (q 2, 400, .inl f_12))]) hx hb ht in_X7 tyX7_ok nmX7 hown hK hP hD hS 0 rfl rfl 13 (by decide) mw_1143 rfl rfl rfl (Nat.le_of_ble_eq_true rfl) dX7_lays_27 rfl (fun H locs hP hD hS => ?_)
  refine lv_iinc (v := (-8)) (lv' := [(2, .int (-8)), (0, .ref h0), (1, .int x)]) hx hb dX7_lays_30 hl (k := 0) rfl (by decide) (by decide) rfl (fun ls hl => ?_)
  refine lv_goto (tgt := 3) hx hb dX7_lays_33 (by decide) ?_
  refine lv_iload_n hx hb dX7_lays_3 rfl (lv_at hl 0 rfl) ?_
  refine lv_if_lt (tgt := 36) hx hb dX7_lays_4 (by decide) (fun c_13 => ?_) (fun c9 => absurd (by decide) c9)
  have hP := hP.sub (ws' := [(h0, .inr (6, [.ref c_now, .ref c_was, .int i_undone, .ref c_kept, .ref c_isKept, .ref c_aside, .long i_turning, .int i_turnMany, .int i_turnCurrent, .ref c_wanted, .int i_costs, .int i_misses, .ref c_tape, .int 12, .int i_spot, .int i_wrong, .int i_number, .int i_numberAt, .int i_quoted, .int i_quotedMany, .int i_loseCell, .int i_done, .int i_deep])), (c_tape, .inl (q 2, 400, .inl f_12))]) [0, 1] rfl
  have hD := hD.sub (ws' := [(h0, .inr (6, [.ref c_now, .ref c_was, .int i_undone, .ref c_kept, .ref c_isKept, .ref c_aside, .long i_turning, .int i_turnMany, .int i_turnCurrent, .ref c_wanted, .int i_costs, .int i_misses, .ref c_tape, .int 12, .int i_spot, .int i_wrong, .int i_number, .int i_numberAt, .int i_quoted, .int i_quotedMany, .int i_loseCell, .int i_done, .int i_deep])), (c_tape, .inl (q 2, 400, .inl f_12))]) [0, 1] (by decide) rfl
  exact mt_vret f_12 hx hb hr hk (trivial) hP hD hS dX7_lays_36

set_option maxHeartbeats 4000000 in
set_option maxRecDepth 100000 in
theorem cm_lays_12 {l : Launch} {D : va_G} {q : Nat → ClassId} {sz : Nat} {h0 c_now c_was c_kept c_isKept c_aside c_wanted c_tape : Nat} {i_undone i_turnMany i_turnCurrent i_costs i_misses i_spot i_wrong i_number i_numberAt i_quoted i_quotedMany i_loseCell i_done i_deep : Int32} {i_turning : Int64} {x : Int32} {f : Nat → Int32} : Met l yX7_lays (Cond.code yX7_lays cX7_lays 3 none :: w_all) ({ frames := 0, cells := 0, slots := 0, locals := 0 }) (mt_P D q [.ref h0, .int x] [(h0, .inr (6, [.ref c_now, .ref c_was, .int i_undone, .ref c_kept, .ref c_isKept, .ref c_aside, .long i_turning, .int i_turnMany, .int i_turnCurrent, .ref c_wanted, .int i_costs, .int i_misses, .ref c_tape, .int 12, .int i_spot, .int i_wrong, .int i_number, .int i_numberAt, .int i_quoted, .int i_quotedMany, .int i_loseCell, .int i_done, .int i_deep])), (c_tape, .inl (q 2, 400, .inl f))] sz) (va_Qv (fun u : (Nat → Int32) => True) (mt_B D [(h0, .inr (6, [.ref c_now, .ref c_was, .int i_undone, .ref c_kept, .ref c_isKept, .ref c_aside, .long i_turning, .int i_turnMany, .int i_turnCurrent, .ref c_wanted, .int i_costs, .int i_misses, .ref c_tape, .int 12, .int i_spot, .int i_wrong, .int i_number, .int i_numberAt, .int i_quoted, .int i_quotedMany, .int i_loseCell, .int i_done, .int i_deep])), (c_tape, .inl (q 2, 400, .inl f))] sz (fun u => [(h0, .inr (6, [.ref c_now, .ref c_was, .int i_undone, .ref c_kept, .ref c_isKept, .ref c_aside, .long i_turning, .int i_turnMany, .int i_turnCurrent, .ref c_wanted, .int i_costs, .int i_misses, .ref c_tape, .int 16, .int i_spot, .int i_wrong, .int i_number, .int i_numberAt, .int i_quoted, .int i_quotedMany, .int i_loseCell, .int i_done, .int i_deep])), (c_tape, .inl (q 2, 400, .inl u))])) (va_A [(h0, .inr (6, [.ref c_now, .ref c_was, .int i_undone, .ref c_kept, .ref c_isKept, .ref c_aside, .long i_turning, .int i_turnMany, .int i_turnCurrent, .ref c_wanted, .int i_costs, .int i_misses, .ref c_tape, .int 12, .int i_spot, .int i_wrong, .int i_number, .int i_numberAt, .int i_quoted, .int i_quotedMany, .int i_loseCell, .int i_done, .int i_deep])), (c_tape, .inl (q 2, 400, .inl f))] sz)) 0 0 (va_A [(h0, .inr (6, [.ref c_now, .ref c_was, .int i_undone, .ref c_kept, .ref c_isKept, .ref c_aside, .long i_turning, .int i_turnMany, .int i_turnCurrent, .ref c_wanted, .int i_costs, .int i_misses, .ref c_tape, .int 12, .int i_spot, .int i_wrong, .int i_number, .int i_numberAt, .int i_quoted, .int i_quotedMany, .int i_loseCell, .int i_done, .int i_deep])), (c_tape, .inl (q 2, 400, .inl f))] sz) := by
  refine mt_start (by decide) (Nat.le_of_ble_eq_true rfl) ?_
  intro p e s m below meth c ls hx hb hr hml hown ht hk hin hP hQ hD hA hS hV hl
  have hK := hQ.1
  have hown : s.vm.findClass RX7 = some m.cls := hown
  have hl : lv_has ls 3 [(0, .ref h0), (1, .int x)] := hl
  refine lv_bipush (v := 24) hx hb dX7_lays_0 (by decide) ?_
  refine lv_istore_n (lv' := [(2, .int 24), (0, .ref h0), (1, .int x)]) hx hb dX7_lays_2 rfl hl (by decide) rfl (fun ls hl => ?_)
  refine lv_iload_n hx hb dX7_lays_3 rfl (lv_at hl 0 rfl) ?_
  refine lv_if_lt (tgt := 36) hx hb dX7_lays_4 (by decide) (fun c9 => absurd c9 (by decide)) (fun c_1 => ?_)
  refine lv_aload_n hx hb dX7_lays_7 rfl (lv_at hl 1 rfl) ?_
  refine fl_get (C := RX7) (T := TX7) (N := 23) (ci := 6) (v := .ref c_tape) hx hb ht in_X7 hown hK hP 0 rfl rfl 12 (by decide) mw_1142 rfl dX7_lays_8 ?_
  refine lv_aload_n hx hb dX7_lays_11 rfl (lv_at hl 1 rfl) ?_
  refine fl_get (C := RX7) (T := TX7) (N := 23) (ci := 6) (v := .int 12) hx hb ht in_X7 hown hK hP 0 rfl rfl 13 (by decide) mw_1143 rfl dX7_lays_12 ?_
  refine lv_iload_n hx hb dX7_lays_15 rfl (lv_at hl 2 rfl) ?_
  refine lv_iload_n hx hb dX7_lays_16 rfl (lv_at hl 0 rfl) ?_
  refine lv_ishr hx hb dX7_lays_17 ?_
  refine lv_topi (fun x_2 ex_2 => ?_)
  refine lv_i2b (v := (x_2.toInt8.toInt32)) hx hb dX7_lays_18 rfl ?_
  refine va_bast hx hb hK hP hD hS 1 2 rfl rfl (in_c rfl) dX7_lays_19 (fun H locs hP hD hS => ?_)
  generalize upd f (Int32.toNatClampNeg 12) (vp_nar .byte (x_2.toInt8.toInt32)) = f_3 at hP hD
  have hP : va_P D vwCl [(h0, .inr (6, [.ref c_now, .ref c_was, .int i_undone, .ref c_kept, .ref c_isKept, .ref c_aside, .long i_turning, .int i_turnMany, .int i_turnCurrent, .ref c_wanted, .int i_costs, .int i_misses, .ref c_tape, .int 12, .int i_spot, .int i_wrong, .int i_number, .int i_numberAt, .int i_quoted, .int i_quotedMany, .int i_loseCell, .int i_done, .int i_deep])), (c_tape, .inl (q 2, 400, .inl f_3))] H := hP
  have hD : va_D _ [(h0, .inr (6, [.ref c_now, .ref c_was, .int i_undone, .ref c_kept, .ref c_isKept, .ref c_aside, .long i_turning, .int i_turnMany, .int i_turnCurrent, .ref c_wanted, .int i_costs, .int i_misses, .ref c_tape, .int 12, .int i_spot, .int i_wrong, .int i_number, .int i_numberAt, .int i_quoted, .int i_quotedMany, .int i_loseCell, .int i_done, .int i_deep])), (c_tape, .inl (q 2, 400, .inl f_3))] := hD
  refine lv_aload_n hx hb dX7_lays_20 rfl (lv_at hl 1 rfl) ?_
  refine lv_dup hx hb dX7_lays_21 rfl ?_
  refine fl_get (C := RX7) (T := TX7) (N := 23) (ci := 6) (v := .int 12) hx hb ht in_X7 hown hK hP 0 rfl rfl 13 (by decide) mw_1143 rfl dX7_lays_22 ?_
  refine lv_iconst (v := 1) hx hb dX7_lays_25 (by decide) ?_
  refine lv_iadd hx hb dX7_lays_26 ?_
  refine ab_i (v := 13) (by decide) ?_
  refine fl_put (C := RX7) (T := TX7) (N := 23) (ci := 6) (v := .int 13) (ws2 := [(h0, .inr (6, [.ref c_now, .ref c_was, .int i_undone, .ref c_kept, .ref c_isKept, .ref c_aside, .long i_turning, .int i_turnMany, .int i_turnCurrent, .ref c_wanted, .int i_costs, .int i_misses, .ref c_tape, .int 13, .int i_spot, .int i_wrong, .int i_number, .int i_numberAt, .int i_quoted, .int i_quotedMany, .int i_loseCell, .int i_done, .int i_deep])), (c_tape, .inl (q 2, 400, .inl f_3))]) hx hb ht in_X7 tyX7_ok nmX7 hown hK hP hD hS 0 rfl rfl 13 (by decide) mw_1143 rfl rfl rfl (Nat.le_of_ble_eq_true rfl) dX7_lays_27 rfl (fun H locs hP hD hS => ?_)
  refine lv_iinc (v := 16) (lv' := [(2, .int 16), (0, .ref h0), (1, .int x)]) hx hb dX7_lays_30 hl (k := 0) rfl (by decide) (by decide) rfl (fun ls hl => ?_)
  refine lv_goto (tgt := 3) hx hb dX7_lays_33 (by decide) ?_
  refine lv_iload_n hx hb dX7_lays_3 rfl (lv_at hl 0 rfl) ?_
  refine lv_if_lt (tgt := 36) hx hb dX7_lays_4 (by decide) (fun c9 => absurd c9 (by decide)) (fun c_4 => ?_)
  refine lv_aload_n hx hb dX7_lays_7 rfl (lv_at hl 1 rfl) ?_
  refine fl_get (C := RX7) (T := TX7) (N := 23) (ci := 6) (v := .ref c_tape) hx hb ht in_X7 hown hK hP 0 rfl rfl 12 (by decide) mw_1142 rfl dX7_lays_8 ?_
  refine lv_aload_n hx hb dX7_lays_11 rfl (lv_at hl 1 rfl) ?_
  refine fl_get (C := RX7) (T := TX7) (N := 23) (ci := 6) (v := .int 13) hx hb ht in_X7 hown hK hP 0 rfl rfl 13 (by decide) mw_1143 rfl dX7_lays_12 ?_
  refine lv_iload_n hx hb dX7_lays_15 rfl (lv_at hl 2 rfl) ?_
  refine lv_iload_n hx hb dX7_lays_16 rfl (lv_at hl 0 rfl) ?_
  refine lv_ishr hx hb dX7_lays_17 ?_
  refine lv_topi (fun x_5 ex_5 => ?_)
  refine lv_i2b (v := (x_5.toInt8.toInt32)) hx hb dX7_lays_18 rfl ?_
  refine va_bast hx hb hK hP hD hS 1 2 rfl rfl (in_c rfl) dX7_lays_19 (fun H locs hP hD hS => ?_)
  generalize upd f_3 (Int32.toNatClampNeg 13) (vp_nar .byte (x_5.toInt8.toInt32)) = f_6 at hP hD
  have hP : va_P D vwCl [(h0, .inr (6, [.ref c_now, .ref c_was, .int i_undone, .ref c_kept, .ref c_isKept, .ref c_aside, .long i_turning, .int i_turnMany, .int i_turnCurrent, .ref c_wanted, .int i_costs, .int i_misses, .ref c_tape, .int 13, .int i_spot, .int i_wrong, .int i_number, .int i_numberAt, .int i_quoted, .int i_quotedMany, .int i_loseCell, .int i_done, .int i_deep])), (c_tape, .inl (q 2, 400, .inl f_6))] H := hP
  have hD : va_D _ [(h0, .inr (6, [.ref c_now, .ref c_was, .int i_undone, .ref c_kept, .ref c_isKept, .ref c_aside, .long i_turning, .int i_turnMany, .int i_turnCurrent, .ref c_wanted, .int i_costs, .int i_misses, .ref c_tape, .int 13, .int i_spot, .int i_wrong, .int i_number, .int i_numberAt, .int i_quoted, .int i_quotedMany, .int i_loseCell, .int i_done, .int i_deep])), (c_tape, .inl (q 2, 400, .inl f_6))] := hD
  refine lv_aload_n hx hb dX7_lays_20 rfl (lv_at hl 1 rfl) ?_
  refine lv_dup hx hb dX7_lays_21 rfl ?_
  refine fl_get (C := RX7) (T := TX7) (N := 23) (ci := 6) (v := .int 13) hx hb ht in_X7 hown hK hP 0 rfl rfl 13 (by decide) mw_1143 rfl dX7_lays_22 ?_
  refine lv_iconst (v := 1) hx hb dX7_lays_25 (by decide) ?_
  refine lv_iadd hx hb dX7_lays_26 ?_
  refine ab_i (v := 14) (by decide) ?_
  refine fl_put (C := RX7) (T := TX7) (N := 23) (ci := 6) (v := .int 14) (ws2 := [(h0, .inr (6, [.ref c_now, .ref c_was, .int i_undone, .ref c_kept, .ref c_isKept, .ref c_aside, .long i_turning, .int i_turnMany, .int i_turnCurrent, .ref c_wanted, .int i_costs, .int i_misses, .ref c_tape, .int 14, .int i_spot, .int i_wrong, .int i_number, .int i_numberAt, .int i_quoted, .int i_quotedMany, .int i_loseCell, .int i_done, .int i_deep])), (c_tape, .inl (q 2, 400, .inl f_6))]) hx hb ht in_X7 tyX7_ok nmX7 hown hK hP hD hS 0 rfl rfl 13 (by decide) mw_1143 rfl rfl rfl (Nat.le_of_ble_eq_true rfl) dX7_lays_27 rfl (fun H locs hP hD hS => ?_)
  refine lv_iinc (v := 8) (lv' := [(2, .int 8), (0, .ref h0), (1, .int x)]) hx hb dX7_lays_30 hl (k := 0) rfl (by decide) (by decide) rfl (fun ls hl => ?_)
  refine lv_goto (tgt := 3) hx hb dX7_lays_33 (by decide) ?_
  refine lv_iload_n hx hb dX7_lays_3 rfl (lv_at hl 0 rfl) ?_
  refine lv_if_lt (tgt := 36) hx hb dX7_lays_4 (by decide) (fun c9 => absurd c9 (by decide)) (fun c_7 => ?_)
  refine lv_aload_n hx hb dX7_lays_7 rfl (lv_at hl 1 rfl) ?_
  refine fl_get (C := RX7) (T := TX7) (N := 23) (ci := 6) (v := .ref c_tape) hx hb ht in_X7 hown hK hP 0 rfl rfl 12 (by decide) mw_1142 rfl dX7_lays_8 ?_
  refine lv_aload_n hx hb dX7_lays_11 rfl (lv_at hl 1 rfl) ?_
  refine fl_get (C := RX7) (T := TX7) (N := 23) (ci := 6) (v := .int 14) hx hb ht in_X7 hown hK hP 0 rfl rfl 13 (by decide) mw_1143 rfl dX7_lays_12 ?_
  refine lv_iload_n hx hb dX7_lays_15 rfl (lv_at hl 2 rfl) ?_
  refine lv_iload_n hx hb dX7_lays_16 rfl (lv_at hl 0 rfl) ?_
  refine lv_ishr hx hb dX7_lays_17 ?_
  refine lv_topi (fun x_8 ex_8 => ?_)
  refine lv_i2b (v := (x_8.toInt8.toInt32)) hx hb dX7_lays_18 rfl ?_
  refine va_bast hx hb hK hP hD hS 1 2 rfl rfl (in_c rfl) dX7_lays_19 (fun H locs hP hD hS => ?_)
  generalize upd f_6 (Int32.toNatClampNeg 14) (vp_nar .byte (x_8.toInt8.toInt32)) = f_9 at hP hD
  have hP : va_P D vwCl [(h0, .inr (6, [.ref c_now, .ref c_was, .int i_undone, .ref c_kept, .ref c_isKept, .ref c_aside, .long i_turning, .int i_turnMany, .int i_turnCurrent, .ref c_wanted, .int i_costs, .int i_misses, .ref c_tape, .int 14, .int i_spot, .int i_wrong, .int i_number, .int i_numberAt, .int i_quoted, .int i_quotedMany, .int i_loseCell, .int i_done, .int i_deep])), (c_tape, .inl (q 2, 400, .inl f_9))] H := hP
  have hD : va_D _ [(h0, .inr (6, [.ref c_now, .ref c_was, .int i_undone, .ref c_kept, .ref c_isKept, .ref c_aside, .long i_turning, .int i_turnMany, .int i_turnCurrent, .ref c_wanted, .int i_costs, .int i_misses, .ref c_tape, .int 14, .int i_spot, .int i_wrong, .int i_number, .int i_numberAt, .int i_quoted, .int i_quotedMany, .int i_loseCell, .int i_done, .int i_deep])), (c_tape, .inl (q 2, 400, .inl f_9))] := hD
  refine lv_aload_n hx hb dX7_lays_20 rfl (lv_at hl 1 rfl) ?_
  refine lv_dup hx hb dX7_lays_21 rfl ?_
  refine fl_get (C := RX7) (T := TX7) (N := 23) (ci := 6) (v := .int 14) hx hb ht in_X7 hown hK hP 0 rfl rfl 13 (by decide) mw_1143 rfl dX7_lays_22 ?_
  refine lv_iconst (v := 1) hx hb dX7_lays_25 (by decide) ?_
  refine lv_iadd hx hb dX7_lays_26 ?_
  refine ab_i (v := 15) (by decide) ?_
  refine fl_put (C := RX7) (T := TX7) (N := 23) (ci := 6) (v := .int 15) (ws2 := [(h0, .inr (6, [.ref c_now, .ref c_was, .int i_undone, .ref c_kept, .ref c_isKept, .ref c_aside, .long i_turning, .int i_turnMany, .int i_turnCurrent, .ref c_wanted, .int i_costs, .int i_misses, .ref c_tape, .int 15, .int i_spot, .int i_wrong, .int i_number, .int i_numberAt, .int i_quoted, .int i_quotedMany, .int i_loseCell, .int i_done, .int i_deep])), (c_tape, .inl (q 2, 400, .inl f_9))]) hx hb ht in_X7 tyX7_ok nmX7 hown hK hP hD hS 0 rfl rfl 13 (by decide) mw_1143 rfl rfl rfl (Nat.le_of_ble_eq_true rfl) dX7_lays_27 rfl (fun H locs hP hD hS => ?_)
  refine lv_iinc (v := 0) (lv' := [(2, .int 0), (0, .ref h0), (1, .int x)]) hx hb dX7_lays_30 hl (k := 0) rfl (by decide) (by decide) rfl (fun ls hl => ?_)
  refine lv_goto (tgt := 3) hx hb dX7_lays_33 (by decide) ?_
  refine lv_iload_n hx hb dX7_lays_3 rfl (lv_at hl 0 rfl) ?_
  refine lv_if_lt (tgt := 36) hx hb dX7_lays_4 (by decide) (fun c9 => absurd c9 (by decide)) (fun c_10 => ?_)
  refine lv_aload_n hx hb dX7_lays_7 rfl (lv_at hl 1 rfl) ?_
  refine fl_get (C := RX7) (T := TX7) (N := 23) (ci := 6) (v := .ref c_tape) hx hb ht in_X7 hown hK hP 0 rfl rfl 12 (by decide) mw_1142 rfl dX7_lays_8 ?_
  refine lv_aload_n hx hb dX7_lays_11 rfl (lv_at hl 1 rfl) ?_
  refine fl_get (C := RX7) (T := TX7) (N := 23) (ci := 6) (v := .int 15) hx hb ht in_X7 hown hK hP 0 rfl rfl 13 (by decide) mw_1143 rfl dX7_lays_12 ?_
  refine lv_iload_n hx hb dX7_lays_15 rfl (lv_at hl 2 rfl) ?_
  refine lv_iload_n hx hb dX7_lays_16 rfl (lv_at hl 0 rfl) ?_
  refine lv_ishr hx hb dX7_lays_17 ?_
  refine lv_topi (fun x_11 ex_11 => ?_)
  refine lv_i2b (v := (x_11.toInt8.toInt32)) hx hb dX7_lays_18 rfl ?_
  refine va_bast hx hb hK hP hD hS 1 2 rfl rfl (in_c rfl) dX7_lays_19 (fun H locs hP hD hS => ?_)
  generalize upd f_9 (Int32.toNatClampNeg 15) (vp_nar .byte (x_11.toInt8.toInt32)) = f_12 at hP hD
  have hP : va_P D vwCl [(h0, .inr (6, [.ref c_now, .ref c_was, .int i_undone, .ref c_kept, .ref c_isKept, .ref c_aside, .long i_turning, .int i_turnMany, .int i_turnCurrent, .ref c_wanted, .int i_costs, .int i_misses, .ref c_tape, .int 15, .int i_spot, .int i_wrong, .int i_number, .int i_numberAt, .int i_quoted, .int i_quotedMany, .int i_loseCell, .int i_done, .int i_deep])), (c_tape, .inl (q 2, 400, .inl f_12))] H := hP
  have hD : va_D _ [(h0, .inr (6, [.ref c_now, .ref c_was, .int i_undone, .ref c_kept, .ref c_isKept, .ref c_aside, .long i_turning, .int i_turnMany, .int i_turnCurrent, .ref c_wanted, .int i_costs, .int i_misses, .ref c_tape, .int 15, .int i_spot, .int i_wrong, .int i_number, .int i_numberAt, .int i_quoted, .int i_quotedMany, .int i_loseCell, .int i_done, .int i_deep])), (c_tape, .inl (q 2, 400, .inl f_12))] := hD
  refine lv_aload_n hx hb dX7_lays_20 rfl (lv_at hl 1 rfl) ?_
  refine lv_dup hx hb dX7_lays_21 rfl ?_
  refine fl_get (C := RX7) (T := TX7) (N := 23) (ci := 6) (v := .int 15) hx hb ht in_X7 hown hK hP 0 rfl rfl 13 (by decide) mw_1143 rfl dX7_lays_22 ?_
  refine lv_iconst (v := 1) hx hb dX7_lays_25 (by decide) ?_
  refine lv_iadd hx hb dX7_lays_26 ?_
  refine ab_i (v := 16) (by decide) ?_
  refine fl_put (C := RX7) (T := TX7) (N := 23) (ci := 6) (v := .int 16) (ws2 := [(h0, .inr (6, [.ref c_now, .ref c_was, .int i_undone, .ref c_kept, .ref c_isKept, .ref c_aside, .long i_turning, .int i_turnMany, .int i_turnCurrent, .ref c_wanted, .int i_costs, .int i_misses, .ref c_tape, .int 16, .int i_spot, .int i_wrong, .int i_number, .int i_numberAt, .int i_quoted, .int i_quotedMany, .int i_loseCell, .int i_done, .int i_deep])), (c_tape, .inl (q 2, 400, .inl f_12))]) hx hb ht in_X7 tyX7_ok nmX7 hown hK hP hD hS 0 rfl rfl 13 (by decide) mw_1143 rfl rfl rfl (Nat.le_of_ble_eq_true rfl) dX7_lays_27 rfl (fun H locs hP hD hS => ?_)
  refine lv_iinc (v := (-8)) (lv' := [(2, .int (-8)), (0, .ref h0), (1, .int x)]) hx hb dX7_lays_30 hl (k := 0) rfl (by decide) (by decide) rfl (fun ls hl => ?_)
  refine lv_goto (tgt := 3) hx hb dX7_lays_33 (by decide) ?_
  refine lv_iload_n hx hb dX7_lays_3 rfl (lv_at hl 0 rfl) ?_
  refine lv_if_lt (tgt := 36) hx hb dX7_lays_4 (by decide) (fun c_13 => ?_) (fun c9 => absurd (by decide) c9)
  have hP := hP.sub (ws' := [(h0, .inr (6, [.ref c_now, .ref c_was, .int i_undone, .ref c_kept, .ref c_isKept, .ref c_aside, .long i_turning, .int i_turnMany, .int i_turnCurrent, .ref c_wanted, .int i_costs, .int i_misses, .ref c_tape, .int 16, .int i_spot, .int i_wrong, .int i_number, .int i_numberAt, .int i_quoted, .int i_quotedMany, .int i_loseCell, .int i_done, .int i_deep])), (c_tape, .inl (q 2, 400, .inl f_12))]) [0, 1] rfl
  have hD := hD.sub (ws' := [(h0, .inr (6, [.ref c_now, .ref c_was, .int i_undone, .ref c_kept, .ref c_isKept, .ref c_aside, .long i_turning, .int i_turnMany, .int i_turnCurrent, .ref c_wanted, .int i_costs, .int i_misses, .ref c_tape, .int 16, .int i_spot, .int i_wrong, .int i_number, .int i_numberAt, .int i_quoted, .int i_quotedMany, .int i_loseCell, .int i_done, .int i_deep])), (c_tape, .inl (q 2, 400, .inl f_12))]) [0, 1] (by decide) rfl
  exact mt_vret f_12 hx hb hr hk (trivial) hP hD hS dX7_lays_36

set_option maxHeartbeats 4000000 in
set_option maxRecDepth 100000 in
theorem cm_lays_16 {l : Launch} {D : va_G} {q : Nat → ClassId} {sz : Nat} {h0 c_now c_was c_kept c_isKept c_aside c_wanted c_tape : Nat} {i_undone i_turnMany i_turnCurrent i_costs i_misses i_spot i_wrong i_number i_numberAt i_quoted i_quotedMany i_loseCell i_done i_deep : Int32} {i_turning : Int64} {x : Int32} {f : Nat → Int32} : Met l yX7_lays (Cond.code yX7_lays cX7_lays 3 none :: w_all) ({ frames := 0, cells := 0, slots := 0, locals := 0 }) (mt_P D q [.ref h0, .int x] [(h0, .inr (6, [.ref c_now, .ref c_was, .int i_undone, .ref c_kept, .ref c_isKept, .ref c_aside, .long i_turning, .int i_turnMany, .int i_turnCurrent, .ref c_wanted, .int i_costs, .int i_misses, .ref c_tape, .int 16, .int i_spot, .int i_wrong, .int i_number, .int i_numberAt, .int i_quoted, .int i_quotedMany, .int i_loseCell, .int i_done, .int i_deep])), (c_tape, .inl (q 2, 400, .inl f))] sz) (va_Qv (fun u : (Nat → Int32) => True) (mt_B D [(h0, .inr (6, [.ref c_now, .ref c_was, .int i_undone, .ref c_kept, .ref c_isKept, .ref c_aside, .long i_turning, .int i_turnMany, .int i_turnCurrent, .ref c_wanted, .int i_costs, .int i_misses, .ref c_tape, .int 16, .int i_spot, .int i_wrong, .int i_number, .int i_numberAt, .int i_quoted, .int i_quotedMany, .int i_loseCell, .int i_done, .int i_deep])), (c_tape, .inl (q 2, 400, .inl f))] sz (fun u => [(h0, .inr (6, [.ref c_now, .ref c_was, .int i_undone, .ref c_kept, .ref c_isKept, .ref c_aside, .long i_turning, .int i_turnMany, .int i_turnCurrent, .ref c_wanted, .int i_costs, .int i_misses, .ref c_tape, .int 20, .int i_spot, .int i_wrong, .int i_number, .int i_numberAt, .int i_quoted, .int i_quotedMany, .int i_loseCell, .int i_done, .int i_deep])), (c_tape, .inl (q 2, 400, .inl u))])) (va_A [(h0, .inr (6, [.ref c_now, .ref c_was, .int i_undone, .ref c_kept, .ref c_isKept, .ref c_aside, .long i_turning, .int i_turnMany, .int i_turnCurrent, .ref c_wanted, .int i_costs, .int i_misses, .ref c_tape, .int 16, .int i_spot, .int i_wrong, .int i_number, .int i_numberAt, .int i_quoted, .int i_quotedMany, .int i_loseCell, .int i_done, .int i_deep])), (c_tape, .inl (q 2, 400, .inl f))] sz)) 0 0 (va_A [(h0, .inr (6, [.ref c_now, .ref c_was, .int i_undone, .ref c_kept, .ref c_isKept, .ref c_aside, .long i_turning, .int i_turnMany, .int i_turnCurrent, .ref c_wanted, .int i_costs, .int i_misses, .ref c_tape, .int 16, .int i_spot, .int i_wrong, .int i_number, .int i_numberAt, .int i_quoted, .int i_quotedMany, .int i_loseCell, .int i_done, .int i_deep])), (c_tape, .inl (q 2, 400, .inl f))] sz) := by
  refine mt_start (by decide) (Nat.le_of_ble_eq_true rfl) ?_
  intro p e s m below meth c ls hx hb hr hml hown ht hk hin hP hQ hD hA hS hV hl
  have hK := hQ.1
  have hown : s.vm.findClass RX7 = some m.cls := hown
  have hl : lv_has ls 3 [(0, .ref h0), (1, .int x)] := hl
  refine lv_bipush (v := 24) hx hb dX7_lays_0 (by decide) ?_
  refine lv_istore_n (lv' := [(2, .int 24), (0, .ref h0), (1, .int x)]) hx hb dX7_lays_2 rfl hl (by decide) rfl (fun ls hl => ?_)
  refine lv_iload_n hx hb dX7_lays_3 rfl (lv_at hl 0 rfl) ?_
  refine lv_if_lt (tgt := 36) hx hb dX7_lays_4 (by decide) (fun c9 => absurd c9 (by decide)) (fun c_1 => ?_)
  refine lv_aload_n hx hb dX7_lays_7 rfl (lv_at hl 1 rfl) ?_
  refine fl_get (C := RX7) (T := TX7) (N := 23) (ci := 6) (v := .ref c_tape) hx hb ht in_X7 hown hK hP 0 rfl rfl 12 (by decide) mw_1142 rfl dX7_lays_8 ?_
  refine lv_aload_n hx hb dX7_lays_11 rfl (lv_at hl 1 rfl) ?_
  refine fl_get (C := RX7) (T := TX7) (N := 23) (ci := 6) (v := .int 16) hx hb ht in_X7 hown hK hP 0 rfl rfl 13 (by decide) mw_1143 rfl dX7_lays_12 ?_
  refine lv_iload_n hx hb dX7_lays_15 rfl (lv_at hl 2 rfl) ?_
  refine lv_iload_n hx hb dX7_lays_16 rfl (lv_at hl 0 rfl) ?_
  refine lv_ishr hx hb dX7_lays_17 ?_
  refine lv_topi (fun x_2 ex_2 => ?_)
  refine lv_i2b (v := (x_2.toInt8.toInt32)) hx hb dX7_lays_18 rfl ?_
  refine va_bast hx hb hK hP hD hS 1 2 rfl rfl (in_c rfl) dX7_lays_19 (fun H locs hP hD hS => ?_)
  generalize upd f (Int32.toNatClampNeg 16) (vp_nar .byte (x_2.toInt8.toInt32)) = f_3 at hP hD
  have hP : va_P D vwCl [(h0, .inr (6, [.ref c_now, .ref c_was, .int i_undone, .ref c_kept, .ref c_isKept, .ref c_aside, .long i_turning, .int i_turnMany, .int i_turnCurrent, .ref c_wanted, .int i_costs, .int i_misses, .ref c_tape, .int 16, .int i_spot, .int i_wrong, .int i_number, .int i_numberAt, .int i_quoted, .int i_quotedMany, .int i_loseCell, .int i_done, .int i_deep])), (c_tape, .inl (q 2, 400, .inl f_3))] H := hP
  have hD : va_D _ [(h0, .inr (6, [.ref c_now, .ref c_was, .int i_undone, .ref c_kept, .ref c_isKept, .ref c_aside, .long i_turning, .int i_turnMany, .int i_turnCurrent, .ref c_wanted, .int i_costs, .int i_misses, .ref c_tape, .int 16, .int i_spot, .int i_wrong, .int i_number, .int i_numberAt, .int i_quoted, .int i_quotedMany, .int i_loseCell, .int i_done, .int i_deep])), (c_tape, .inl (q 2, 400, .inl f_3))] := hD
  refine lv_aload_n hx hb dX7_lays_20 rfl (lv_at hl 1 rfl) ?_
  refine lv_dup hx hb dX7_lays_21 rfl ?_
  refine fl_get (C := RX7) (T := TX7) (N := 23) (ci := 6) (v := .int 16) hx hb ht in_X7 hown hK hP 0 rfl rfl 13 (by decide) mw_1143 rfl dX7_lays_22 ?_
  refine lv_iconst (v := 1) hx hb dX7_lays_25 (by decide) ?_
  refine lv_iadd hx hb dX7_lays_26 ?_
  refine ab_i (v := 17) (by decide) ?_
  refine fl_put (C := RX7) (T := TX7) (N := 23) (ci := 6) (v := .int 17) (ws2 := [(h0, .inr (6, [.ref c_now, .ref c_was, .int i_undone, .ref c_kept, .ref c_isKept, .ref c_aside, .long i_turning, .int i_turnMany, .int i_turnCurrent, .ref c_wanted, .int i_costs, .int i_misses, .ref c_tape, .int 17, .int i_spot, .int i_wrong, .int i_number, .int i_numberAt, .int i_quoted, .int i_quotedMany, .int i_loseCell, .int i_done, .int i_deep])), (c_tape, .inl (q 2, 400, .inl f_3))]) hx hb ht in_X7 tyX7_ok nmX7 hown hK hP hD hS 0 rfl rfl 13 (by decide) mw_1143 rfl rfl rfl (Nat.le_of_ble_eq_true rfl) dX7_lays_27 rfl (fun H locs hP hD hS => ?_)
  refine lv_iinc (v := 16) (lv' := [(2, .int 16), (0, .ref h0), (1, .int x)]) hx hb dX7_lays_30 hl (k := 0) rfl (by decide) (by decide) rfl (fun ls hl => ?_)
  refine lv_goto (tgt := 3) hx hb dX7_lays_33 (by decide) ?_
  refine lv_iload_n hx hb dX7_lays_3 rfl (lv_at hl 0 rfl) ?_
  refine lv_if_lt (tgt := 36) hx hb dX7_lays_4 (by decide) (fun c9 => absurd c9 (by decide)) (fun c_4 => ?_)
  refine lv_aload_n hx hb dX7_lays_7 rfl (lv_at hl 1 rfl) ?_
  refine fl_get (C := RX7) (T := TX7) (N := 23) (ci := 6) (v := .ref c_tape) hx hb ht in_X7 hown hK hP 0 rfl rfl 12 (by decide) mw_1142 rfl dX7_lays_8 ?_
  refine lv_aload_n hx hb dX7_lays_11 rfl (lv_at hl 1 rfl) ?_
  refine fl_get (C := RX7) (T := TX7) (N := 23) (ci := 6) (v := .int 17) hx hb ht in_X7 hown hK hP 0 rfl rfl 13 (by decide) mw_1143 rfl dX7_lays_12 ?_
  refine lv_iload_n hx hb dX7_lays_15 rfl (lv_at hl 2 rfl) ?_
  refine lv_iload_n hx hb dX7_lays_16 rfl (lv_at hl 0 rfl) ?_
  refine lv_ishr hx hb dX7_lays_17 ?_
  refine lv_topi (fun x_5 ex_5 => ?_)
  refine lv_i2b (v := (x_5.toInt8.toInt32)) hx hb dX7_lays_18 rfl ?_
  refine va_bast hx hb hK hP hD hS 1 2 rfl rfl (in_c rfl) dX7_lays_19 (fun H locs hP hD hS => ?_)
  generalize upd f_3 (Int32.toNatClampNeg 17) (vp_nar .byte (x_5.toInt8.toInt32)) = f_6 at hP hD
  have hP : va_P D vwCl [(h0, .inr (6, [.ref c_now, .ref c_was, .int i_undone, .ref c_kept, .ref c_isKept, .ref c_aside, .long i_turning, .int i_turnMany, .int i_turnCurrent, .ref c_wanted, .int i_costs, .int i_misses, .ref c_tape, .int 17, .int i_spot, .int i_wrong, .int i_number, .int i_numberAt, .int i_quoted, .int i_quotedMany, .int i_loseCell, .int i_done, .int i_deep])), (c_tape, .inl (q 2, 400, .inl f_6))] H := hP
  have hD : va_D _ [(h0, .inr (6, [.ref c_now, .ref c_was, .int i_undone, .ref c_kept, .ref c_isKept, .ref c_aside, .long i_turning, .int i_turnMany, .int i_turnCurrent, .ref c_wanted, .int i_costs, .int i_misses, .ref c_tape, .int 17, .int i_spot, .int i_wrong, .int i_number, .int i_numberAt, .int i_quoted, .int i_quotedMany, .int i_loseCell, .int i_done, .int i_deep])), (c_tape, .inl (q 2, 400, .inl f_6))] := hD
  refine lv_aload_n hx hb dX7_lays_20 rfl (lv_at hl 1 rfl) ?_
  refine lv_dup hx hb dX7_lays_21 rfl ?_
  refine fl_get (C := RX7) (T := TX7) (N := 23) (ci := 6) (v := .int 17) hx hb ht in_X7 hown hK hP 0 rfl rfl 13 (by decide) mw_1143 rfl dX7_lays_22 ?_
  refine lv_iconst (v := 1) hx hb dX7_lays_25 (by decide) ?_
  refine lv_iadd hx hb dX7_lays_26 ?_
  refine ab_i (v := 18) (by decide) ?_
  refine fl_put (C := RX7) (T := TX7) (N := 23) (ci := 6) (v := .int 18) (ws2 := [(h0, .inr (6, [.ref c_now, .ref c_was, .int i_undone, .ref c_kept, .ref c_isKept, .ref c_aside, .long i_turning, .int i_turnMany, .int i_turnCurrent, .ref c_wanted, .int i_costs, .int i_misses, .ref c_tape, .int 18, .int i_spot, .int i_wrong, .int i_number, .int i_numberAt, .int i_quoted, .int i_quotedMany, .int i_loseCell, .int i_done, .int i_deep])), (c_tape, .inl (q 2, 400, .inl f_6))]) hx hb ht in_X7 tyX7_ok nmX7 hown hK hP hD hS 0 rfl rfl 13 (by decide) mw_1143 rfl rfl rfl (Nat.le_of_ble_eq_true rfl) dX7_lays_27 rfl (fun H locs hP hD hS => ?_)
  refine lv_iinc (v := 8) (lv' := [(2, .int 8), (0, .ref h0), (1, .int x)]) hx hb dX7_lays_30 hl (k := 0) rfl (by decide) (by decide) rfl (fun ls hl => ?_)
  refine lv_goto (tgt := 3) hx hb dX7_lays_33 (by decide) ?_
  refine lv_iload_n hx hb dX7_lays_3 rfl (lv_at hl 0 rfl) ?_
  refine lv_if_lt (tgt := 36) hx hb dX7_lays_4 (by decide) (fun c9 => absurd c9 (by decide)) (fun c_7 => ?_)
  refine lv_aload_n hx hb dX7_lays_7 rfl (lv_at hl 1 rfl) ?_
  refine fl_get (C := RX7) (T := TX7) (N := 23) (ci := 6) (v := .ref c_tape) hx hb ht in_X7 hown hK hP 0 rfl rfl 12 (by decide) mw_1142 rfl dX7_lays_8 ?_
  refine lv_aload_n hx hb dX7_lays_11 rfl (lv_at hl 1 rfl) ?_
  refine fl_get (C := RX7) (T := TX7) (N := 23) (ci := 6) (v := .int 18) hx hb ht in_X7 hown hK hP 0 rfl rfl 13 (by decide) mw_1143 rfl dX7_lays_12 ?_
  refine lv_iload_n hx hb dX7_lays_15 rfl (lv_at hl 2 rfl) ?_
  refine lv_iload_n hx hb dX7_lays_16 rfl (lv_at hl 0 rfl) ?_
  refine lv_ishr hx hb dX7_lays_17 ?_
  refine lv_topi (fun x_8 ex_8 => ?_)
  refine lv_i2b (v := (x_8.toInt8.toInt32)) hx hb dX7_lays_18 rfl ?_
  refine va_bast hx hb hK hP hD hS 1 2 rfl rfl (in_c rfl) dX7_lays_19 (fun H locs hP hD hS => ?_)
  generalize upd f_6 (Int32.toNatClampNeg 18) (vp_nar .byte (x_8.toInt8.toInt32)) = f_9 at hP hD
  have hP : va_P D vwCl [(h0, .inr (6, [.ref c_now, .ref c_was, .int i_undone, .ref c_kept, .ref c_isKept, .ref c_aside, .long i_turning, .int i_turnMany, .int i_turnCurrent, .ref c_wanted, .int i_costs, .int i_misses, .ref c_tape, .int 18, .int i_spot, .int i_wrong, .int i_number, .int i_numberAt, .int i_quoted, .int i_quotedMany, .int i_loseCell, .int i_done, .int i_deep])), (c_tape, .inl (q 2, 400, .inl f_9))] H := hP
  have hD : va_D _ [(h0, .inr (6, [.ref c_now, .ref c_was, .int i_undone, .ref c_kept, .ref c_isKept, .ref c_aside, .long i_turning, .int i_turnMany, .int i_turnCurrent, .ref c_wanted, .int i_costs, .int i_misses, .ref c_tape, .int 18, .int i_spot, .int i_wrong, .int i_number, .int i_numberAt, .int i_quoted, .int i_quotedMany, .int i_loseCell, .int i_done, .int i_deep])), (c_tape, .inl (q 2, 400, .inl f_9))] := hD
  refine lv_aload_n hx hb dX7_lays_20 rfl (lv_at hl 1 rfl) ?_
  refine lv_dup hx hb dX7_lays_21 rfl ?_
  refine fl_get (C := RX7) (T := TX7) (N := 23) (ci := 6) (v := .int 18) hx hb ht in_X7 hown hK hP 0 rfl rfl 13 (by decide) mw_1143 rfl dX7_lays_22 ?_
  refine lv_iconst (v := 1) hx hb dX7_lays_25 (by decide) ?_
  refine lv_iadd hx hb dX7_lays_26 ?_
  refine ab_i (v := 19) (by decide) ?_
  refine fl_put (C := RX7) (T := TX7) (N := 23) (ci := 6) (v := .int 19) (ws2 := [(h0, .inr (6, [.ref c_now, .ref c_was, .int i_undone, .ref c_kept, .ref c_isKept, .ref c_aside, .long i_turning, .int i_turnMany, .int i_turnCurrent, .ref c_wanted, .int i_costs, .int i_misses, .ref c_tape, .int 19, .int i_spot, .int i_wrong, .int i_number, .int i_numberAt, .int i_quoted, .int i_quotedMany, .int i_loseCell, .int i_done, .int i_deep])), (c_tape, .inl (q 2, 400, .inl f_9))]) hx hb ht in_X7 tyX7_ok nmX7 hown hK hP hD hS 0 rfl rfl 13 (by decide) mw_1143 rfl rfl rfl (Nat.le_of_ble_eq_true rfl) dX7_lays_27 rfl (fun H locs hP hD hS => ?_)
  refine lv_iinc (v := 0) (lv' := [(2, .int 0), (0, .ref h0), (1, .int x)]) hx hb dX7_lays_30 hl (k := 0) rfl (by decide) (by decide) rfl (fun ls hl => ?_)
  refine lv_goto (tgt := 3) hx hb dX7_lays_33 (by decide) ?_
  refine lv_iload_n hx hb dX7_lays_3 rfl (lv_at hl 0 rfl) ?_
  refine lv_if_lt (tgt := 36) hx hb dX7_lays_4 (by decide) (fun c9 => absurd c9 (by decide)) (fun c_10 => ?_)
  refine lv_aload_n hx hb dX7_lays_7 rfl (lv_at hl 1 rfl) ?_
  refine fl_get (C := RX7) (T := TX7) (N := 23) (ci := 6) (v := .ref c_tape) hx hb ht in_X7 hown hK hP 0 rfl rfl 12 (by decide) mw_1142 rfl dX7_lays_8 ?_
  refine lv_aload_n hx hb dX7_lays_11 rfl (lv_at hl 1 rfl) ?_
  refine fl_get (C := RX7) (T := TX7) (N := 23) (ci := 6) (v := .int 19) hx hb ht in_X7 hown hK hP 0 rfl rfl 13 (by decide) mw_1143 rfl dX7_lays_12 ?_
  refine lv_iload_n hx hb dX7_lays_15 rfl (lv_at hl 2 rfl) ?_
  refine lv_iload_n hx hb dX7_lays_16 rfl (lv_at hl 0 rfl) ?_
  refine lv_ishr hx hb dX7_lays_17 ?_
  refine lv_topi (fun x_11 ex_11 => ?_)
  refine lv_i2b (v := (x_11.toInt8.toInt32)) hx hb dX7_lays_18 rfl ?_
  refine va_bast hx hb hK hP hD hS 1 2 rfl rfl (in_c rfl) dX7_lays_19 (fun H locs hP hD hS => ?_)
  generalize upd f_9 (Int32.toNatClampNeg 19) (vp_nar .byte (x_11.toInt8.toInt32)) = f_12 at hP hD
  have hP : va_P D vwCl [(h0, .inr (6, [.ref c_now, .ref c_was, .int i_undone, .ref c_kept, .ref c_isKept, .ref c_aside, .long i_turning, .int i_turnMany, .int i_turnCurrent, .ref c_wanted, .int i_costs, .int i_misses, .ref c_tape, .int 19, .int i_spot, .int i_wrong, .int i_number, .int i_numberAt, .int i_quoted, .int i_quotedMany, .int i_loseCell, .int i_done, .int i_deep])), (c_tape, .inl (q 2, 400, .inl f_12))] H := hP
  have hD : va_D _ [(h0, .inr (6, [.ref c_now, .ref c_was, .int i_undone, .ref c_kept, .ref c_isKept, .ref c_aside, .long i_turning, .int i_turnMany, .int i_turnCurrent, .ref c_wanted, .int i_costs, .int i_misses, .ref c_tape, .int 19, .int i_spot, .int i_wrong, .int i_number, .int i_numberAt, .int i_quoted, .int i_quotedMany, .int i_loseCell, .int i_done, .int i_deep])), (c_tape, .inl (q 2, 400, .inl f_12))] := hD
  refine lv_aload_n hx hb dX7_lays_20 rfl (lv_at hl 1 rfl) ?_
  refine lv_dup hx hb dX7_lays_21 rfl ?_
  refine fl_get (C := RX7) (T := TX7) (N := 23) (ci := 6) (v := .int 19) hx hb ht in_X7 hown hK hP 0 rfl rfl 13 (by decide) mw_1143 rfl dX7_lays_22 ?_
  refine lv_iconst (v := 1) hx hb dX7_lays_25 (by decide) ?_
  refine lv_iadd hx hb dX7_lays_26 ?_
  refine ab_i (v := 20) (by decide) ?_
  refine fl_put (C := RX7) (T := TX7) (N := 23) (ci := 6) (v := .int 20) (ws2 := [(h0, .inr (6, [.ref c_now, .ref c_was, .int i_undone, .ref c_kept, .ref c_isKept, .ref c_aside, .long i_turning, .int i_turnMany, .int i_turnCurrent, .ref c_wanted, .int i_costs, .int i_misses, .ref c_tape, .int 20, .int i_spot, .int i_wrong, .int i_number, .int i_numberAt, .int i_quoted, .int i_quotedMany, .int i_loseCell, .int i_done, .int i_deep])), (c_tape, .inl (q 2, 400, .inl f_12))]) hx hb ht in_X7 tyX7_ok nmX7 hown hK hP hD hS 0 rfl rfl 13 (by decide) mw_1143 rfl rfl rfl (Nat.le_of_ble_eq_true rfl) dX7_lays_27 rfl (fun H locs hP hD hS => ?_)
  refine lv_iinc (v := (-8)) (lv' := [(2, .int (-8)), (0, .ref h0), (1, .int x)]) hx hb dX7_lays_30 hl (k := 0) rfl (by decide) (by decide) rfl (fun ls hl => ?_)
  refine lv_goto (tgt := 3) hx hb dX7_lays_33 (by decide) ?_
  refine lv_iload_n hx hb dX7_lays_3 rfl (lv_at hl 0 rfl) ?_
  refine lv_if_lt (tgt := 36) hx hb dX7_lays_4 (by decide) (fun c_13 => ?_) (fun c9 => absurd (by decide) c9)
  have hP := hP.sub (ws' := [(h0, .inr (6, [.ref c_now, .ref c_was, .int i_undone, .ref c_kept, .ref c_isKept, .ref c_aside, .long i_turning, .int i_turnMany, .int i_turnCurrent, .ref c_wanted, .int i_costs, .int i_misses, .ref c_tape, .int 20, .int i_spot, .int i_wrong, .int i_number, .int i_numberAt, .int i_quoted, .int i_quotedMany, .int i_loseCell, .int i_done, .int i_deep])), (c_tape, .inl (q 2, 400, .inl f_12))]) [0, 1] rfl
  have hD := hD.sub (ws' := [(h0, .inr (6, [.ref c_now, .ref c_was, .int i_undone, .ref c_kept, .ref c_isKept, .ref c_aside, .long i_turning, .int i_turnMany, .int i_turnCurrent, .ref c_wanted, .int i_costs, .int i_misses, .ref c_tape, .int 20, .int i_spot, .int i_wrong, .int i_number, .int i_numberAt, .int i_quoted, .int i_quotedMany, .int i_loseCell, .int i_done, .int i_deep])), (c_tape, .inl (q 2, 400, .inl f_12))]) [0, 1] (by decide) rfl
  exact mt_vret f_12 hx hb hr hk (trivial) hP hD hS dX7_lays_36
