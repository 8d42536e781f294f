set_option maxHeartbeats 4000000 in
set_option maxRecDepth 100000 in
theorem ct_in_T {l : Launch} {D : va_G} {q : Nat → ClassId} {v lo hi : Int64} (h : lo ≤ v ∧ v ≤ hi) : Met l yX7_in (Cond.code yX7_in cX7_in 6 (some .boolean) :: w_all) ({ frames := 0, cells := 0, slots := 0, locals := 0 }) (rd_P D q [.long v, .long lo, .long hi] []) (vp_Si (fun r => r = 1)) 0 0 (fun _ => False) := by
  refine rd_start (by decide) (Nat.le_of_ble_eq_true rfl) ?_
  intro p e s m below meth c ls hx hb hr hml hown ht hk hP hQ hV hl
  have hK := hQ.1
  have hown : s.vm.findClass RX7 = some m.cls := hown
  have hl : lv_has ls 6 [(0, .long v), (2, .long lo), (4, .long hi)] := hl
  refine lv_lload_n hx hb dX7_in_0 rfl (lv_at hl 0 rfl) ?_
  refine lv_lload_n hx hb dX7_in_1 rfl (lv_at hl 1 rfl) ?_
  refine W.lcmp hx hb dX7_in_2 ?_
  refine lv_if_lt (tgt := 17) hx hb dX7_in_3 (by decide) (fun c9 => by have g0 := h; have g1 := c9; simp only [lg_cmp_ge, lg_cmp_le, lg_cmp_gt, lg_cmp_lt, lg_cmp_eq] at g1; simp only [Int32.lt_iff_toInt_lt, Int32.le_iff_toInt_le, ← Int32.toInt_inj, Int32.reduceToInt, Int64.lt_iff_toInt_lt, Int64.le_iff_toInt_le, ← Int64.toInt_inj, Int64.reduceToInt, Int32.toInt_toInt64] at g0 g1; omega) (fun c_1 => ?_)
  refine lv_lload_n hx hb dX7_in_6 rfl (lv_at hl 0 rfl) ?_
  refine lv_lload hx hb dX7_in_7 (lv_at hl 2 rfl) ?_
  refine W.lcmp hx hb dX7_in_9 ?_
  refine lv_if_gt (tgt := 17) hx hb dX7_in_10 (by decide) (fun c9 => by have g0 := h; have g1 := c9; simp only [lg_cmp_ge, lg_cmp_le, lg_cmp_gt, lg_cmp_lt, lg_cmp_eq] at g1; simp only [Int32.lt_iff_toInt_lt, Int32.le_iff_toInt_le, ← Int32.toInt_inj, Int32.reduceToInt, Int64.lt_iff_toInt_lt, Int64.le_iff_toInt_le, ← Int64.toInt_inj, Int64.reduceToInt, Int32.toInt_toInt64] at g0 g1; omega) (fun c_2 => ?_)
  refine lv_iconst (v := 1) hx hb dX7_in_13 (by decide) ?_
  refine lv_goto (tgt := 18) hx hb dX7_in_14 (by decide) ?_
  exact rd_zret hx hb hr hk rfl (rfl) dX7_in_18

set_option maxHeartbeats 4000000 in
set_option maxRecDepth 100000 in
theorem ct_in_F {l : Launch} {D : va_G} {q : Nat → ClassId} {v lo hi : Int64} (h : ¬ (lo ≤ v ∧ v ≤ hi)) : Met l yX7_in (Cond.code yX7_in cX7_in 6 (some .boolean) :: w_all) ({ frames := 0, cells := 0, slots := 0, locals := 0 }) (rd_P D q [.long v, .long lo, .long hi] []) (vp_Si (fun r => r = 0)) 0 0 (fun _ => False) := by
  refine rd_start (by decide) (Nat.le_of_ble_eq_true rfl) ?_
  intro p e s m below meth c ls hx hb hr hml hown ht hk hP hQ hV hl
  have hK := hQ.1
  have hown : s.vm.findClass RX7 = some m.cls := hown
  have hl : lv_has ls 6 [(0, .long v), (2, .long lo), (4, .long hi)] := hl
  refine lv_lload_n hx hb dX7_in_0 rfl (lv_at hl 0 rfl) ?_
  refine lv_lload_n hx hb dX7_in_1 rfl (lv_at hl 1 rfl) ?_
  refine W.lcmp hx hb dX7_in_2 ?_
  refine lv_if_lt (tgt := 17) hx hb dX7_in_3 (by decide) (fun c_1 => ?_) (fun c_1 => ?_)
  · refine lv_iconst (v := 0) hx hb dX7_in_17 (by decide) ?_
    exact rd_zret hx hb hr hk rfl (rfl) dX7_in_18
  · refine lv_lload_n hx hb dX7_in_6 rfl (lv_at hl 0 rfl) ?_
    refine lv_lload hx hb dX7_in_7 (lv_at hl 2 rfl) ?_
    refine W.lcmp hx hb dX7_in_9 ?_
    refine lv_if_gt (tgt := 17) hx hb dX7_in_10 (by decide) (fun c_2 => ?_) (fun c9 => by have g0 := h; have g1 := c9; have g2 := c_1; simp only [lg_cmp_ge, lg_cmp_le, lg_cmp_gt, lg_cmp_lt, lg_cmp_eq] at g1 g2; simp only [Int32.lt_iff_toInt_lt, Int32.le_iff_toInt_le, ← Int32.toInt_inj, Int32.reduceToInt, Int64.lt_iff_toInt_lt, Int64.le_iff_toInt_le, ← Int64.toInt_inj, Int64.reduceToInt, Int32.toInt_toInt64] at g0 g1 g2; omega)
    refine lv_iconst (v := 0) hx hb dX7_in_17 (by decide) ?_
    exact rd_zret hx hb hr hk rfl (rfl) dX7_in_18

set_option maxHeartbeats 4000000 in
set_option maxRecDepth 100000 in
theorem cm_rows {l : Launch} {D : va_G} {q : Nat → ClassId} {h0 c_now c_was c_kept c_isKept c_aside c_wanted c_tape : Nat} {i_undone i_turnMany i_turnCurrent i_costs i_misses i_taped i_spot i_wrong i_number i_numberAt i_quoted i_quotedMany i_loseCell i_done i_deep : Int32} {i_turning : Int64} : Met l yX7_rows (Cond.code yX7_rows cX7_rows 1 (some .int) :: w_all) ({ frames := 0, cells := 0, slots := 0, locals := 0 }) (rd_P D q [.ref h0] [(h0, .inr (6, [.ref c_now, .ref c_was, .int i_undone, .ref c_kept, .ref c_isKept, .ref c_aside, .long i_turning, .int i_turnMany, .int i_turnCurrent, .ref c_wanted, .int i_costs, .int i_misses, .ref c_tape, .int i_taped, .int i_spot, .int i_wrong, .int i_number, .int i_numberAt, .int i_quoted, .int i_quotedMany, .int i_loseCell, .int i_done, .int i_deep])), (c_now, .inl (q 1, 6896, .inr (.inl (fun _ => 0))))]) (vp_Si (fun r => r = 0)) 0 0 (fun _ => False) := by
  refine rd_start (by decide) (Nat.le_of_ble_eq_true rfl) ?_
  intro p e s m below meth c ls hx hb hr hml hown ht hk hP hQ hV hl
  have hK := hQ.1
  have hown : s.vm.findClass RX7 = some m.cls := hown
  have hl : lv_has ls 1 [(0, .ref h0)] := hl
  refine lv_aload_n hx hb dX7_rows_0 rfl (lv_at hl 0 rfl) ?_
  refine fl_get (C := RX7) (T := TX7) (N := 23) (ci := 6) (v := .ref c_now) hx hb ht in_X7 hown hK hP 0 rfl rfl 0 (by decide) mw_1130 rfl dX7_rows_1 ?_
  refine lv_iconst (v := 0) hx hb dX7_rows_4 (by decide) ?_
  refine va_lald hx hb hK hP 1 1 rfl rfl (in_c rfl) dX7_rows_5 ?_
  refine ab_l (v := 0) rfl ?_
  refine lv_l2i (v := 0) hx hb dX7_rows_6 (by decide) ?_
  exact rd_iret hx hb hr hk (rfl) dX7_rows_7

set_option maxHeartbeats 4000000 in
set_option maxRecDepth 100000 in
theorem cm_wide {l : Launch} {D : va_G} {q : Nat → ClassId} {h0 c_now c_was c_kept c_isKept c_aside c_wanted c_tape : Nat} {i_undone i_turnMany i_turnCurrent i_costs i_misses i_taped i_spot i_wrong i_number i_numberAt i_quoted i_quotedMany i_loseCell i_done i_deep : Int32} {i_turning : Int64} : Met l yX7_wide (Cond.code yX7_wide cX7_wide 1 (some .int) :: w_all) ({ frames := 0, cells := 0, slots := 0, locals := 0 }) (rd_P D q [.ref h0] [(h0, .inr (6, [.ref c_now, .ref c_was, .int i_undone, .ref c_kept, .ref c_isKept, .ref c_aside, .long i_turning, .int i_turnMany, .int i_turnCurrent, .ref c_wanted, .int i_costs, .int i_misses, .ref c_tape, .int i_taped, .int i_spot, .int i_wrong, .int i_number, .int i_numberAt, .int i_quoted, .int i_quotedMany, .int i_loseCell, .int i_done, .int i_deep])), (c_now, .inl (q 1, 6896, .inr (.inl (fun _ => 0))))]) (vp_Si (fun r => r = 0)) 0 0 (fun _ => False) := by
  refine rd_start (by decide) (Nat.le_of_ble_eq_true rfl) ?_
  intro p e s m below meth c ls hx hb hr hml hown ht hk hP hQ hV hl
  have hK := hQ.1
  have hown : s.vm.findClass RX7 = some m.cls := hown
  have hl : lv_has ls 1 [(0, .ref h0)] := hl
  refine lv_aload_n hx hb dX7_wide_0 rfl (lv_at hl 0 rfl) ?_
  refine fl_get (C := RX7) (T := TX7) (N := 23) (ci := 6) (v := .ref c_now) hx hb ht in_X7 hown hK hP 0 rfl rfl 0 (by decide) mw_1130 rfl dX7_wide_1 ?_
  refine lv_iconst (v := 1) hx hb dX7_wide_4 (by decide) ?_
  refine va_lald hx hb hK hP 1 1 rfl rfl (in_c rfl) dX7_wide_5 ?_
  refine ab_l (v := 0) rfl ?_
  refine lv_l2i (v := 0) hx hb dX7_wide_6 (by decide) ?_
  exact rd_iret hx hb hr hk (rfl) dX7_wide_7

set_option maxHeartbeats 4000000 in
set_option maxRecDepth 100000 in
theorem cm_cells {l : Launch} {D : va_G} {q : Nat → ClassId} {h0 c_now c_was c_kept c_isKept c_aside c_wanted c_tape : Nat} {i_undone i_turnMany i_turnCurrent i_costs i_misses i_taped i_spot i_wrong i_number i_numberAt i_quoted i_quotedMany i_loseCell i_done i_deep : Int32} {i_turning : Int64} : Met l yX7_cells (Cond.code yX7_cells cX7_cells 1 (some .int) :: w_all) ({ frames := 1, cells := 0, slots := 0, locals := 20 }) (rd_P D q [.ref h0] [(h0, .inr (6, [.ref c_now, .ref c_was, .int i_undone, .ref c_kept, .ref c_isKept, .ref c_aside, .long i_turning, .int i_turnMany, .int i_turnCurrent, .ref c_wanted, .int i_costs, .int i_misses, .ref c_tape, .int i_taped, .int i_spot, .int i_wrong, .int i_number, .int i_numberAt, .int i_quoted, .int i_quotedMany, .int i_loseCell, .int i_done, .int i_deep])), (c_now, .inl (q 1, 6896, .inr (.inl (fun _ => 0))))]) (vp_Si (fun r => r = 0)) 0 0 (fun _ => False) := by
  refine rd_start (by decide) (Nat.le_of_ble_eq_true rfl) ?_
  intro p e s m below meth c ls hx hb hr hml hown ht hk hP hQ hV hl
  have hK := hQ.1
  have hown : s.vm.findClass RX7 = some m.cls := hown
  have hl : lv_has ls 1 [(0, .ref h0)] := hl
  refine lv_aload_n hx hb dX7_cells_0 rfl (lv_at hl 0 rfl) ?_
  refine vp_callSi (rd_wV (wc := [(h0, .inr (6, [.ref c_now, .ref c_was, .int i_undone, .ref c_kept, .ref c_isKept, .ref c_aside, .long i_turning, .int i_turnMany, .int i_turnCurrent, .ref c_wanted, .int i_costs, .int i_misses, .ref c_tape, .int i_taped, .int i_spot, .int i_wrong, .int i_number, .int i_numberAt, .int i_quoted, .int i_quotedMany, .int i_loseCell, .int i_done, .int i_deep])), (c_now, .inl (q 1, 6896, .inr (.inl (fun _ => 0))))]) (As := []) (rest := []) hx hb hml hown ht (cm_rows) wd_X7_rows mw_1209 hQ hV va_S.rf (hP.sub [0, 1] rfl) rfl rfl rfl hl.1 rfl (Nat.le_of_ble_eq_true rfl) dX7_cells_1 ⟨Nat.le_of_ble_eq_true rfl, Nat.le_of_ble_eq_true rfl, rfl, rfl⟩ ⟨Nat.le_of_ble_eq_true rfl, Nat.le_of_ble_eq_true rfl⟩) (fun r_1 er_1 => ?_)
  obtain rfl : r_1 = 0 := er_1
  refine lv_aload_n hx hb dX7_cells_4 rfl (lv_at hl 0 rfl) ?_
  refine vp_callSi (rd_wV (wc := [(h0, .inr (6, [.ref c_now, .ref c_was, .int i_undone, .ref c_kept, .ref c_isKept, .ref c_aside, .long i_turning, .int i_turnMany, .int i_turnCurrent, .ref c_wanted, .int i_costs, .int i_misses, .ref c_tape, .int i_taped, .int i_spot, .int i_wrong, .int i_number, .int i_numberAt, .int i_quoted, .int i_quotedMany, .int i_loseCell, .int i_done, .int i_deep])), (c_now, .inl (q 1, 6896, .inr (.inl (fun _ => 0))))]) (As := []) (rest := [.int 0]) hx hb hml hown ht (cm_wide) wd_X7_wide mw_1220 hQ hV va_S.rf (hP.sub [0, 1] rfl) rfl rfl rfl hl.1 rfl (Nat.le_of_ble_eq_true rfl) dX7_cells_5 ⟨Nat.le_of_ble_eq_true rfl, Nat.le_of_ble_eq_true rfl, rfl, rfl⟩ ⟨Nat.le_of_ble_eq_true rfl, Nat.le_of_ble_eq_true rfl⟩) (fun r_2 er_2 => ?_)
  obtain rfl : r_2 = 0 := er_2
  refine lv_imul hx hb dX7_cells_8 ?_
  refine ab_i (v := 0) (by decide) ?_
  exact rd_iret hx hb hr hk (rfl) dX7_cells_9

set_option maxHeartbeats 4000000 in
set_option maxRecDepth 100000 in
theorem cm_drums {l : Launch} {D : va_G} {q : Nat → ClassId} {h0 c_now c_was c_kept c_isKept c_aside c_wanted c_tape : Nat} {i_undone i_turnMany i_turnCurrent i_costs i_misses i_taped i_spot i_wrong i_number i_numberAt i_quoted i_quotedMany i_loseCell i_done i_deep : Int32} {i_turning : Int64} : Met l yX7_drums (Cond.code yX7_drums cX7_drums 1 (some .int) :: w_all) ({ frames := 0, cells := 0, slots := 0, locals := 0 }) (rd_P D q [.ref h0] [(h0, .inr (6, [.ref c_now, .ref c_was, .int i_undone, .ref c_kept, .ref c_isKept, .ref c_aside, .long i_turning, .int i_turnMany, .int i_turnCurrent, .ref c_wanted, .int i_costs, .int i_misses, .ref c_tape, .int i_taped, .int i_spot, .int i_wrong, .int i_number, .int i_numberAt, .int i_quoted, .int i_quotedMany, .int i_loseCell, .int i_done, .int i_deep])), (c_now, .inl (q 1, 6896, .inr (.inl (fun _ => 0))))]) (vp_Si (fun r => r = 0)) 0 0 (fun _ => False) := by
  refine rd_start (by decide) (Nat.le_of_ble_eq_true rfl) ?_
  intro p e s m below meth c ls hx hb hr hml hown ht hk hP hQ hV hl
  have hK := hQ.1
  have hown : s.vm.findClass RX7 = some m.cls := hown
  have hl : lv_has ls 1 [(0, .ref h0)] := hl
  refine lv_aload_n hx hb dX7_drums_0 rfl (lv_at hl 0 rfl) ?_
  refine fl_get (C := RX7) (T := TX7) (N := 23) (ci := 6) (v := .ref c_now) hx hb ht in_X7 hown hK hP 0 rfl rfl 0 (by decide) mw_1130 rfl dX7_drums_1 ?_
  refine lv_iconst (v := 3) hx hb dX7_drums_4 (by decide) ?_
  refine va_lald hx hb hK hP 1 1 rfl rfl (in_c rfl) dX7_drums_5 ?_
  refine ab_l (v := 0) rfl ?_
  refine lv_l2i (v := 0) hx hb dX7_drums_6 (by decide) ?_
  exact rd_iret hx hb hr hk (rfl) dX7_drums_7

set_option maxHeartbeats 4000000 in
set_option maxRecDepth 100000 in
theorem cm_isBoard {l : Launch} {D : va_G} {q : Nat → ClassId} {h0 c_now c_was c_kept c_isKept c_aside c_wanted c_tape : Nat} {i_undone i_turnMany i_turnCurrent i_costs i_misses i_taped i_spot i_wrong i_number i_numberAt i_quoted i_quotedMany i_loseCell i_done i_deep : Int32} {i_turning : Int64} : Met l yX7_isBoard (Cond.code yX7_isBoard cX7_isBoard 1 (some .boolean) :: w_all) ({ frames := 1, cells := 0, slots := 0, locals := 20 }) (rd_P D q [.ref h0] [(h0, .inr (6, [.ref c_now, .ref c_was, .int i_undone, .ref c_kept, .ref c_isKept, .ref c_aside, .long i_turning, .int i_turnMany, .int i_turnCurrent, .ref c_wanted, .int i_costs, .int i_misses, .ref c_tape, .int i_taped, .int i_spot, .int i_wrong, .int i_number, .int i_numberAt, .int i_quoted, .int i_quotedMany, .int i_loseCell, .int i_done, .int i_deep])), (c_now, .inl (q 1, 6896, .inr (.inl (fun _ => 0))))]) (vp_Si (fun r => r = 0)) 0 0 (fun _ => False) := by
  refine rd_start (by decide) (Nat.le_of_ble_eq_true rfl) ?_
  intro p e s m below meth c ls hx hb hr hml hown ht hk hP hQ hV hl
  have hK := hQ.1
  have hown : s.vm.findClass RX7 = some m.cls := hown
  have hl : lv_has ls 1 [(0, .ref h0)] := hl
  refine lv_aload_n hx hb dX7_isBoard_0 rfl (lv_at hl 0 rfl) ?_
  refine vp_callSi (rd_wV (wc := [(h0, .inr (6, [.ref c_now, .ref c_was, .int i_undone, .ref c_kept, .ref c_isKept, .ref c_aside, .long i_turning, .int i_turnMany, .int i_turnCurrent, .ref c_wanted, .int i_costs, .int i_misses, .ref c_tape, .int i_taped, .int i_spot, .int i_wrong, .int i_number, .int i_numberAt, .int i_quoted, .int i_quotedMany, .int i_loseCell, .int i_done, .int i_deep])), (c_now, .inl (q 1, 6896, .inr (.inl (fun _ => 0))))]) (As := []) (rest := []) hx hb hml hown ht (cm_drums) wd_X7_drums mw_1287 hQ hV va_S.rf (hP.sub [0, 1] rfl) rfl rfl rfl hl.1 rfl (Nat.le_of_ble_eq_true rfl) dX7_isBoard_1 ⟨Nat.le_of_ble_eq_true rfl, Nat.le_of_ble_eq_true rfl, rfl, rfl⟩ ⟨Nat.le_of_ble_eq_true rfl, Nat.le_of_ble_eq_true rfl⟩) (fun r_1 er_1 => ?_)
  obtain rfl : r_1 = 0 := er_1
  refine lv_if_le (tgt := 11) hx hb dX7_isBoard_4 (by decide) (fun c_2 => ?_) (fun c9 => absurd (by decide) c9)
  refine lv_iconst (v := 0) hx hb dX7_isBoard_11 (by decide) ?_
  exact rd_zret hx hb hr hk rfl (rfl) dX7_isBoard_12

set_option maxHeartbeats 4000000 in
set_option maxRecDepth 100000 in
theorem cm_isCell {l : Launch} {D : va_G} {q : Nat → ClassId} {h0 c_now c_was c_kept c_isKept c_aside c_wanted c_tape : Nat} {i_undone i_turnMany i_turnCurrent i_costs i_misses i_taped i_spot i_wrong i_number i_numberAt i_quoted i_quotedMany i_loseCell i_done i_deep : Int32} {i_turning : Int64} {x : Int32} : Met l yX7_isCell (Cond.code yX7_isCell cX7_isCell 2 (some .boolean) :: w_all) ({ frames := 2, cells := 0, slots := 0, locals := 40 }) (rd_P D q [.ref h0, .int x] [(h0, .inr (6, [.ref c_now, .ref c_was, .int i_undone, .ref c_kept, .ref c_isKept, .ref c_aside, .long i_turning, .int i_turnMany, .int i_turnCurrent, .ref c_wanted, .int i_costs, .int i_misses, .ref c_tape, .int i_taped, .int i_spot, .int i_wrong, .int i_number, .int i_numberAt, .int i_quoted, .int i_quotedMany, .int i_loseCell, .int i_done, .int i_deep])), (c_now, .inl (q 1, 6896, .inr (.inl (fun _ => 0))))]) (vp_Si (fun r => r = 0)) 0 0 (fun _ => False) := by
  refine rd_start (by decide) (Nat.le_of_ble_eq_true rfl) ?_
  intro p e s m below meth c ls hx hb hr hml hown ht hk hP hQ hV hl
  have hK := hQ.1
  have hown : s.vm.findClass RX7 = some m.cls := hown
  have hl : lv_has ls 2 [(0, .ref h0), (1, .int x)] := hl
  refine lv_iload_n hx hb dX7_isCell_0 rfl (lv_at hl 1 rfl) ?_
  refine lv_i2l (v := x.toInt64) hx hb dX7_isCell_1 rfl ?_
  refine lv_lconst (v := 0) hx hb dX7_isCell_2 (by decide) ?_
  refine lv_aload_n hx hb dX7_isCell_3 rfl (lv_at hl 0 rfl) ?_
  refine vp_callSi (rd_wV (wc := [(h0, .inr (6, [.ref c_now, .ref c_was, .int i_undone, .ref c_kept, .ref c_isKept, .ref c_aside, .long i_turning, .int i_turnMany, .int i_turnCurrent, .ref c_wanted, .int i_costs, .int i_misses, .ref c_tape, .int i_taped, .int i_spot, .int i_wrong, .int i_number, .int i_numberAt, .int i_quoted, .int i_quotedMany, .int i_loseCell, .int i_done, .int i_deep])), (c_now, .inl (q 1, 6896, .inr (.inl (fun _ => 0))))]) (As := []) (rest := [.long 0, .long (x.toInt64)]) hx hb hml hown ht (cm_cells) wd_X7_cells mw_1295 hQ hV va_S.rf (hP.sub [0, 1] rfl) rfl rfl rfl hl.1 rfl (Nat.le_of_ble_eq_true rfl) dX7_isCell_4 ⟨Nat.le_of_ble_eq_true rfl, Nat.le_of_ble_eq_true rfl, rfl, rfl⟩ ⟨Nat.le_of_ble_eq_true rfl, Nat.le_of_ble_eq_true rfl⟩) (fun r_1 er_1 => ?_)
  obtain rfl : r_1 = 0 := er_1
  refine lv_iconst (v := 1) hx hb dX7_isCell_7 (by decide) ?_
  refine lv_isub hx hb dX7_isCell_8 ?_
  refine ab_i (v := (-1)) (by decide) ?_
  refine lv_i2l (v := (-1)) hx hb dX7_isCell_9 (by decide) ?_
  refine vp_callSi (rd_wS (wc := []) (As := [.long (x.toInt64), .long 0, .long (-1)]) (rest := []) hx hb hml hown ht (ct_in_F (by intro h9; have g0 := h9; (try simp only [lg_cmp_ge, lg_cmp_le, lg_cmp_gt, lg_cmp_lt, lg_cmp_eq] at g0); (try simp only [Int32.lt_iff_toInt_lt, Int32.le_iff_toInt_le, ← Int32.toInt_inj, Int32.reduceToInt, Int64.lt_iff_toInt_lt, Int64.le_iff_toInt_le, ← Int64.toInt_inj, Int64.reduceToInt, Int32.toInt_toInt64] at g0); omega)) wd_X7_in mw_1213 hQ hV va_S.rf (hP.sub [] rfl) rfl hl.1 rfl (Nat.le_of_ble_eq_true rfl) dX7_isCell_10 ⟨Nat.le_of_ble_eq_true rfl, Nat.le_of_ble_eq_true rfl, rfl, rfl⟩ ⟨Nat.le_of_ble_eq_true rfl, Nat.le_of_ble_eq_true rfl⟩) (fun r_2 er_2 => ?_)
  obtain rfl : r_2 = 0 := er_2
  exact rd_zret hx hb hr hk rfl (rfl) dX7_isCell_13

set_option maxHeartbeats 4000000 in
set_option maxRecDepth 100000 in
theorem cm_isRow {l : Launch} {D : va_G} {q : Nat → ClassId} {h0 c_now c_was c_kept c_isKept c_aside c_wanted c_tape : Nat} {i_undone i_turnMany i_turnCurrent i_costs i_misses i_taped i_spot i_wrong i_number i_numberAt i_quoted i_quotedMany i_loseCell i_done i_deep : Int32} {i_turning : Int64} {x : Int32} : Met l yX7_isRow (Cond.code yX7_isRow cX7_isRow 2 (some .boolean) :: w_all) ({ frames := 1, cells := 0, slots := 0, locals := 25 }) (rd_P D q [.ref h0, .int x] [(h0, .inr (6, [.ref c_now, .ref c_was, .int i_undone, .ref c_kept, .ref c_isKept, .ref c_aside, .long i_turning, .int i_turnMany, .int i_turnCurrent, .ref c_wanted, .int i_costs, .int i_misses, .ref c_tape, .int i_taped, .int i_spot, .int i_wrong, .int i_number, .int i_numberAt, .int i_quoted, .int i_quotedMany, .int i_loseCell, .int i_done, .int i_deep])), (c_now, .inl (q 1, 6896, .inr (.inl (fun _ => 0))))]) (vp_Si (fun r => r = 0)) 0 0 (fun _ => False) := by
  refine rd_start (by decide) (Nat.le_of_ble_eq_true rfl) ?_
  intro p e s m below meth c ls hx hb hr hml hown ht hk hP hQ hV hl
  have hK := hQ.1
  have hown : s.vm.findClass RX7 = some m.cls := hown
  have hl : lv_has ls 2 [(0, .ref h0), (1, .int x)] := hl
  refine lv_iload_n hx hb dX7_isRow_0 rfl (lv_at hl 1 rfl) ?_
  refine lv_i2l (v := x.toInt64) hx hb dX7_isRow_1 rfl ?_
  refine lv_lconst (v := 0) hx hb dX7_isRow_2 (by decide) ?_
  refine lv_aload_n hx hb dX7_isRow_3 rfl (lv_at hl 0 rfl) ?_
  refine vp_callSi (rd_wV (wc := [(h0, .inr (6, [.ref c_now, .ref c_was, .int i_undone, .ref c_kept, .ref c_isKept, .ref c_aside, .long i_turning, .int i_turnMany, .int i_turnCurrent, .ref c_wanted, .int i_costs, .int i_misses, .ref c_tape, .int i_taped, .int i_spot, .int i_wrong, .int i_number, .int i_numberAt, .int i_quoted, .int i_quotedMany, .int i_loseCell, .int i_done, .int i_deep])), (c_now, .inl (q 1, 6896, .inr (.inl (fun _ => 0))))]) (As := []) (rest := [.long 0, .long (x.toInt64)]) hx hb hml hown ht (cm_rows) wd_X7_rows mw_1209 hQ hV va_S.rf (hP.sub [0, 1] rfl) rfl rfl rfl hl.1 rfl (Nat.le_of_ble_eq_true rfl) dX7_isRow_4 ⟨Nat.le_of_ble_eq_true rfl, Nat.le_of_ble_eq_true rfl, rfl, rfl⟩ ⟨Nat.le_of_ble_eq_true rfl, Nat.le_of_ble_eq_true rfl⟩) (fun r_1 er_1 => ?_)
  obtain rfl : r_1 = 0 := er_1
  refine lv_iconst (v := 1) hx hb dX7_isRow_7 (by decide) ?_
  refine lv_isub hx hb dX7_isRow_8 ?_
  refine ab_i (v := (-1)) (by decide) ?_
  refine lv_i2l (v := (-1)) hx hb dX7_isRow_9 (by decide) ?_
  refine vp_callSi (rd_wS (wc := []) (As := [.long (x.toInt64), .long 0, .long (-1)]) (rest := []) hx hb hml hown ht (ct_in_F (by intro h9; have g0 := h9; (try simp only [lg_cmp_ge, lg_cmp_le, lg_cmp_gt, lg_cmp_lt, lg_cmp_eq] at g0); (try simp only [Int32.lt_iff_toInt_lt, Int32.le_iff_toInt_le, ← Int32.toInt_inj, Int32.reduceToInt, Int64.lt_iff_toInt_lt, Int64.le_iff_toInt_le, ← Int64.toInt_inj, Int64.reduceToInt, Int32.toInt_toInt64] at g0); omega)) wd_X7_in mw_1213 hQ hV va_S.rf (hP.sub [] rfl) rfl hl.1 rfl (Nat.le_of_ble_eq_true rfl) dX7_isRow_10 ⟨Nat.le_of_ble_eq_true rfl, Nat.le_of_ble_eq_true rfl, rfl, rfl⟩ ⟨Nat.le_of_ble_eq_true rfl, Nat.le_of_ble_eq_true rfl⟩) (fun r_2 er_2 => ?_)
  obtain rfl : r_2 = 0 := er_2
  exact rd_zret hx hb hr hk rfl (rfl) dX7_isRow_13

set_option maxHeartbeats 4000000 in
set_option maxRecDepth 100000 in
theorem cm_isDrum {l : Launch} {D : va_G} {q : Nat → ClassId} {h0 c_now c_was c_kept c_isKept c_aside c_wanted c_tape : Nat} {i_undone i_turnMany i_turnCurrent i_costs i_misses i_taped i_spot i_wrong i_number i_numberAt i_quoted i_quotedMany i_loseCell i_done i_deep : Int32} {i_turning : Int64} {x : Int32} : Met l yX7_isDrum (Cond.code yX7_isDrum cX7_isDrum 2 (some .boolean) :: w_all) ({ frames := 1, cells := 0, slots := 0, locals := 25 }) (rd_P D q [.ref h0, .int x] [(h0, .inr (6, [.ref c_now, .ref c_was, .int i_undone, .ref c_kept, .ref c_isKept, .ref c_aside, .long i_turning, .int i_turnMany, .int i_turnCurrent, .ref c_wanted, .int i_costs, .int i_misses, .ref c_tape, .int i_taped, .int i_spot, .int i_wrong, .int i_number, .int i_numberAt, .int i_quoted, .int i_quotedMany, .int i_loseCell, .int i_done, .int i_deep])), (c_now, .inl (q 1, 6896, .inr (.inl (fun _ => 0))))]) (vp_Si (fun r => r = 0)) 0 0 (fun _ => False) := by
  refine rd_start (by decide) (Nat.le_of_ble_eq_true rfl) ?_
  intro p e s m below meth c ls hx hb hr hml hown ht hk hP hQ hV hl
  have hK := hQ.1
  have hown : s.vm.findClass RX7 = some m.cls := hown
  have hl : lv_has ls 2 [(0, .ref h0), (1, .int x)] := hl
  refine lv_iload_n hx hb dX7_isDrum_0 rfl (lv_at hl 1 rfl) ?_
  refine lv_i2l (v := x.toInt64) hx hb dX7_isDrum_1 rfl ?_
  refine lv_lconst (v := 0) hx hb dX7_isDrum_2 (by decide) ?_
  refine lv_aload_n hx hb dX7_isDrum_3 rfl (lv_at hl 0 rfl) ?_
  refine vp_callSi (rd_wV (wc := [(h0, .inr (6, [.ref c_now, .ref c_was, .int i_undone, .ref c_kept, .ref c_isKept, .ref c_aside, .long i_turning, .int i_turnMany, .int i_turnCurrent, .ref c_wanted, .int i_costs, .int i_misses, .ref c_tape, .int i_taped, .int i_spot, .int i_wrong, .int i_number, .int i_numberAt, .int i_quoted, .int i_quotedMany, .int i_loseCell, .int i_done, .int i_deep])), (c_now, .inl (q 1, 6896, .inr (.inl (fun _ => 0))))]) (As := []) (rest := [.long 0, .long (x.toInt64)]) hx hb hml hown ht (cm_drums) wd_X7_drums mw_1287 hQ hV va_S.rf (hP.sub [0, 1] rfl) rfl rfl rfl hl.1 rfl (Nat.le_of_ble_eq_true rfl) dX7_isDrum_4 ⟨Nat.le_of_ble_eq_true rfl, Nat.le_of_ble_eq_true rfl, rfl, rfl⟩ ⟨Nat.le_of_ble_eq_true rfl, Nat.le_of_ble_eq_true rfl⟩) (fun r_1 er_1 => ?_)
  obtain rfl : r_1 = 0 := er_1
  refine lv_iconst (v := 1) hx hb dX7_isDrum_7 (by decide) ?_
  refine lv_isub hx hb dX7_isDrum_8 ?_
  refine ab_i (v := (-1)) (by decide) ?_
  refine lv_i2l (v := (-1)) hx hb dX7_isDrum_9 (by decide) ?_
  refine vp_callSi (rd_wS (wc := []) (As := [.long (x.toInt64), .long 0, .long (-1)]) (rest := []) hx hb hml hown ht (ct_in_F (by intro h9; have g0 := h9; (try simp only [lg_cmp_ge, lg_cmp_le, lg_cmp_gt, lg_cmp_lt, lg_cmp_eq] at g0); (try simp only [Int32.lt_iff_toInt_lt, Int32.le_iff_toInt_le, ← Int32.toInt_inj, Int32.reduceToInt, Int64.lt_iff_toInt_lt, Int64.le_iff_toInt_le, ← Int64.toInt_inj, Int64.reduceToInt, Int32.toInt_toInt64] at g0); omega)) wd_X7_in mw_1213 hQ hV va_S.rf (hP.sub [] rfl) rfl hl.1 rfl (Nat.le_of_ble_eq_true rfl) dX7_isDrum_10 ⟨Nat.le_of_ble_eq_true rfl, Nat.le_of_ble_eq_true rfl, rfl, rfl⟩ ⟨Nat.le_of_ble_eq_true rfl, Nat.le_of_ble_eq_true rfl⟩) (fun r_2 er_2 => ?_)
  obtain rfl : r_2 = 0 := er_2
  exact rd_zret hx hb hr hk rfl (rfl) dX7_isDrum_13

set_option maxHeartbeats 4000000 in
set_option maxRecDepth 100000 in
theorem cm_isFlap {l : Launch} {D : va_G} {q : Nat → ClassId} {h0 c_now c_was c_kept c_isKept c_aside c_wanted c_tape : Nat} {i_undone i_turnMany i_turnCurrent i_costs i_misses i_taped i_spot i_wrong i_number i_numberAt i_quoted i_quotedMany i_loseCell i_done i_deep : Int32} {i_turning : Int64} {x y : Int32} : Met l yX7_isFlap (Cond.code yX7_isFlap cX7_isFlap 3 (some .boolean) :: w_all) ({ frames := 3, cells := 0, slots := 0, locals := 61 }) (rd_P D q [.ref h0, .int x, .int y] [(h0, .inr (6, [.ref c_now, .ref c_was, .int i_undone, .ref c_kept, .ref c_isKept, .ref c_aside, .long i_turning, .int i_turnMany, .int i_turnCurrent, .ref c_wanted, .int i_costs, .int i_misses, .ref c_tape, .int i_taped, .int i_spot, .int i_wrong, .int i_number, .int i_numberAt, .int i_quoted, .int i_quotedMany, .int i_loseCell, .int i_done, .int i_deep])), (c_now, .inl (q 1, 6896, .inr (.inl (fun _ => 0))))]) (vp_Si (fun r => r = 0)) 0 0 (fun _ => False) := by
  refine rd_start (by decide) (Nat.le_of_ble_eq_true rfl) ?_
  intro p e s m below meth c ls hx hb hr hml hown ht hk hP hQ hV hl
  have hK := hQ.1
  have hown : s.vm.findClass RX7 = some m.cls := hown
  have hl : lv_has ls 3 [(0, .ref h0), (1, .int x), (2, .int y)] := hl
  refine lv_aload_n hx hb dX7_isFlap_0 rfl (lv_at hl 0 rfl) ?_
  refine lv_iload_n hx hb dX7_isFlap_1 rfl (lv_at hl 1 rfl) ?_
  refine vp_callSi (rd_wV (wc := [(h0, .inr (6, [.ref c_now, .ref c_was, .int i_undone, .ref c_kept, .ref c_isKept, .ref c_aside, .long i_turning, .int i_turnMany, .int i_turnCurrent, .ref c_wanted, .int i_costs, .int i_misses, .ref c_tape, .int i_taped, .int i_spot, .int i_wrong, .int i_number, .int i_numberAt, .int i_quoted, .int i_quotedMany, .int i_loseCell, .int i_done, .int i_deep])), (c_now, .inl (q 1, 6896, .inr (.inl (fun _ => 0))))]) (As := [.int x]) (rest := []) hx hb hml hown ht (cm_isCell) wd_X7_isCell mw_1340 hQ hV va_S.rf (hP.sub [0, 1] rfl) rfl rfl rfl hl.1 rfl (Nat.le_of_ble_eq_true rfl) dX7_isFlap_2 ⟨Nat.le_of_ble_eq_true rfl, Nat.le_of_ble_eq_true rfl, rfl, rfl⟩ ⟨Nat.le_of_ble_eq_true rfl, Nat.le_of_ble_eq_true rfl⟩) (fun r_1 er_1 => ?_)
  obtain rfl : r_1 = 0 := er_1
  refine lv_if_eq (tgt := 29) hx hb dX7_isFlap_5 (by decide) (fun c_2 => ?_) (fun c9 => absurd (by decide) c9)
  refine lv_iconst (v := 0) hx hb dX7_isFlap_29 (by decide) ?_
  exact rd_zret hx hb hr hk rfl (rfl) dX7_isFlap_30
