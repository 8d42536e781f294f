def wp_X7_isSign (post : Int32 → Prop) (x0 : Int32) : Prop := wp_X7_in (fun r_1 => ((r_1 = 0 → post 0) ∧ (¬ r_1 = 0 → ((x0 = 39 → post 0) ∧ (¬ x0 = 39 → post 1))))) (Int32.toInt64 x0) (32 : Int64) (126 : Int64)
set_option maxHeartbeats 4000000 in
set_option maxRecDepth 100000 in
theorem c2_X7_isSign {l : Launch} {D : va_G} {q : Nat → ClassId} {x0 : Int32} {post : Int32 → Prop} (h : wp_X7_isSign post x0) : Met l yX7_isSign (Cond.code yX7_isSign cX7_isSign 1 (some .boolean) :: w_all) ({ frames := 1, cells := 0, slots := 0, locals := 25 } : Room) (rd_P D q [.int x0] (([] : va_W))) (vp_Si post) 0 0 (fun _ => False) := by
  refine rd_start (by decide) (Nat.le_of_ble_eq_true rfl) ?_
  intro p e s m below meth c ls hx hb hr hml hown ht hk hP hQ hV hl
  have hK := hQ.1
  have hown : s.vm.findClass RX7 = some m.cls := hown
  have hl : lv_has ls 1 [(0, .int x0)] := hl
  unfold wp_X7_isSign at h
  refine lv_iload_n hx hb dX7_isSign_0 rfl (lv_at hl 0 rfl) ?_
  refine lv_i2l (v := (Int32.toInt64 x0)) hx hb dX7_isSign_1 rfl ?_
  refine lv_ldc2 (v := 32) hx hb hown (ht _ mw_1231) dX7_isSign_2 ?_
  refine lv_ldc2 (v := 126) hx hb hown (ht _ mw_1232) dX7_isSign_5 ?_
  refine vp_callSi (rd_wS (wc := ([] : va_W)) (As := [.long (Int32.toInt64 x0), .long 32, .long 126]) (rest := []) hx hb hml hown ht (c2_X7_in h) wd_X7_in mw_1213 hQ hV va_S.rf (hP.sub [] rfl) rfl hl.1 rfl (Nat.le_of_ble_eq_true rfl) dX7_isSign_8 ⟨Nat.le_of_ble_eq_true rfl, Nat.le_of_ble_eq_true rfl, rfl, rfl⟩ ⟨Nat.le_of_ble_eq_true rfl, Nat.le_of_ble_eq_true rfl⟩) (fun r_1 h => ?_)
  try dsimp only at h
  refine lv_if_eq (tgt := 24) hx hb dX7_isSign_11 (by decide) (fun c_3 => ?_) (fun c_3 => ?_)
  · replace h := h.1 c_3
    refine lv_iconst (v := 0) hx hb dX7_isSign_24 (by decide) ?_
    exact rd_zret hx hb hr hk rfl h dX7_isSign_25
  · replace h := h.2 c_3
    refine lv_iload_n hx hb dX7_isSign_14 rfl (lv_at hl 0 rfl) ?_
    refine lv_bipush (v := 39) hx hb dX7_isSign_15 (by decide) ?_
    refine lv_icmp_eq (tgt := 24) hx hb dX7_isSign_17 (by decide) (fun c_4 => ?_) (fun c_4 => ?_)
    · replace h := h.1 c_4
      refine lv_iconst (v := 0) hx hb dX7_isSign_24 (by decide) ?_
      exact rd_zret hx hb hr hk rfl h dX7_isSign_25
    · replace h := h.2 c_4
      refine lv_iconst (v := 1) hx hb dX7_isSign_20 (by decide) ?_
      refine lv_goto (tgt := 25) hx hb dX7_isSign_21 (by decide) ?_
      exact rd_zret hx hb hr hk rfl h dX7_isSign_25

def wp_X7_rows (post : Int32 → Prop) (s0 : Md) : Prop := post (Int64.toInt32 ((s0.2.2.1 0) (Int32.toNatClampNeg 0)))
set_option maxHeartbeats 4000000 in
set_option maxRecDepth 100000 in
theorem c2_X7_rows {l : Launch} {D : va_G} {q : Nat → ClassId} {a0 : Nat → Nat} {s0 : Md} {post : Int32 → Prop} (h : wp_X7_rows post s0) : Met l yX7_rows (Cond.code yX7_rows cX7_rows 1 (some .int) :: w_all) ({ frames := 0, cells := 0, slots := 0, locals := 0 } : Room) (rd_P D q [.ref (a0 0)] (md_v a0 q s0)) (vp_Si post) 0 0 (fun _ => False) := by
  refine rd_start (by decide) (Nat.le_of_ble_eq_true rfl) ?_
  intro p e s m below meth c ls hx hb hr hml hown ht hk hP hQ hV hl
  have hK := hQ.1
  have hown : s.vm.findClass RX7 = some m.cls := hown
  have hl : lv_has ls 1 [(0, .ref (a0 0))] := hl
  have hP : va_P D vwCl [((a0 0), .inr (6, [.ref (a0 1), .ref (a0 2), .int (s0.1 0), .ref (a0 3), .ref (a0 5), .ref (a0 4), .long s0.2.1, .int (s0.1 1), .int (s0.1 2), .ref (a0 6), .int (s0.1 3), .int (s0.1 4), .ref (a0 7), .int (s0.1 5), .int (s0.1 6), .int (s0.1 7), .int (s0.1 8), .int (s0.1 9), .int (s0.1 10), .int (s0.1 11), .int (s0.1 12), .int (s0.1 13), .int (s0.1 14)])), ((a0 1), .inl (q 1, 6896, .inr (.inl (s0.2.2.1 0)))), ((a0 2), .inl (q 1, 68960, .inr (.inl (s0.2.2.1 1)))), ((a0 3), .inl (q 1, 13792, .inr (.inl (s0.2.2.1 2)))), ((a0 4), .inl (q 1, 6896, .inr (.inl (s0.2.2.1 3)))), ((a0 5), .inl (q 3, 2, .inl (s0.2.2.2 0))), ((a0 6), .inl (q 0, 40, .inl (s0.2.2.2 1))), ((a0 7), .inl (q 2, 400, .inl (s0.2.2.2 2)))] s.heap := hP
  unfold wp_X7_rows at h
  refine lv_aload_n hx hb dX7_rows_0 rfl (lv_at hl 0 rfl) ?_
  refine fl_get (C := RX7) (T := TX7) (N := 23) (ci := 6) (v := .ref (a0 1)) hx hb ht in_X7 hown hK hP 0 rfl rfl 0 (by decide) mw_1130 rfl dX7_rows_1 ?_
  refine lv_iconst (v := 0) hx hb dX7_rows_4 (by decide) ?_
  refine va_lald hx hb hK hP 1 1 rfl rfl (in_c rfl) dX7_rows_5 ?_
  refine lv_l2i (v := (Int64.toInt32 ((s0.2.2.1 0) (Int32.toNatClampNeg 0)))) hx hb dX7_rows_6 rfl ?_
  exact rd_iret hx hb hr hk h dX7_rows_7

def wp_X7_wide (post : Int32 → Prop) (s0 : Md) : Prop := post (Int64.toInt32 ((s0.2.2.1 0) (Int32.toNatClampNeg 1)))
set_option maxHeartbeats 4000000 in
set_option maxRecDepth 100000 in
theorem c2_X7_wide {l : Launch} {D : va_G} {q : Nat → ClassId} {a0 : Nat → Nat} {s0 : Md} {post : Int32 → Prop} (h : wp_X7_wide post s0) : Met l yX7_wide (Cond.code yX7_wide cX7_wide 1 (some .int) :: w_all) ({ frames := 0, cells := 0, slots := 0, locals := 0 } : Room) (rd_P D q [.ref (a0 0)] (md_v a0 q s0)) (vp_Si post) 0 0 (fun _ => False) := by
  refine rd_start (by decide) (Nat.le_of_ble_eq_true rfl) ?_
  intro p e s m below meth c ls hx hb hr hml hown ht hk hP hQ hV hl
  have hK := hQ.1
  have hown : s.vm.findClass RX7 = some m.cls := hown
  have hl : lv_has ls 1 [(0, .ref (a0 0))] := hl
  have hP : va_P D vwCl [((a0 0), .inr (6, [.ref (a0 1), .ref (a0 2), .int (s0.1 0), .ref (a0 3), .ref (a0 5), .ref (a0 4), .long s0.2.1, .int (s0.1 1), .int (s0.1 2), .ref (a0 6), .int (s0.1 3), .int (s0.1 4), .ref (a0 7), .int (s0.1 5), .int (s0.1 6), .int (s0.1 7), .int (s0.1 8), .int (s0.1 9), .int (s0.1 10), .int (s0.1 11), .int (s0.1 12), .int (s0.1 13), .int (s0.1 14)])), ((a0 1), .inl (q 1, 6896, .inr (.inl (s0.2.2.1 0)))), ((a0 2), .inl (q 1, 68960, .inr (.inl (s0.2.2.1 1)))), ((a0 3), .inl (q 1, 13792, .inr (.inl (s0.2.2.1 2)))), ((a0 4), .inl (q 1, 6896, .inr (.inl (s0.2.2.1 3)))), ((a0 5), .inl (q 3, 2, .inl (s0.2.2.2 0))), ((a0 6), .inl (q 0, 40, .inl (s0.2.2.2 1))), ((a0 7), .inl (q 2, 400, .inl (s0.2.2.2 2)))] s.heap := hP
  unfold wp_X7_wide at h
  refine lv_aload_n hx hb dX7_wide_0 rfl (lv_at hl 0 rfl) ?_
  refine fl_get (C := RX7) (T := TX7) (N := 23) (ci := 6) (v := .ref (a0 1)) hx hb ht in_X7 hown hK hP 0 rfl rfl 0 (by decide) mw_1130 rfl dX7_wide_1 ?_
  refine lv_iconst (v := 1) hx hb dX7_wide_4 (by decide) ?_
  refine va_lald hx hb hK hP 1 1 rfl rfl (in_c rfl) dX7_wide_5 ?_
  refine lv_l2i (v := (Int64.toInt32 ((s0.2.2.1 0) (Int32.toNatClampNeg 1)))) hx hb dX7_wide_6 rfl ?_
  exact rd_iret hx hb hr hk h dX7_wide_7

def wp_X7_cells (post : Int32 → Prop) (s0 : Md) : Prop := wp_X7_rows (fun r_1 => wp_X7_wide (fun r_3 => post (r_1 * r_3)) s0) s0
set_option maxHeartbeats 4000000 in
set_option maxRecDepth 100000 in
theorem c2_X7_cells {l : Launch} {D : va_G} {q : Nat → ClassId} {a0 : Nat → Nat} {s0 : Md} {post : Int32 → Prop} (h : wp_X7_cells post s0) : Met l yX7_cells (Cond.code yX7_cells cX7_cells 1 (some .int) :: w_all) ({ frames := 1, cells := 0, slots := 0, locals := 20 } : Room) (rd_P D q [.ref (a0 0)] (md_v a0 q s0)) (vp_Si post) 0 0 (fun _ => False) := by
  refine rd_start (by decide) (Nat.le_of_ble_eq_true rfl) ?_
  intro p e s m below meth c ls hx hb hr hml hown ht hk hP hQ hV hl
  have hK := hQ.1
  have hown : s.vm.findClass RX7 = some m.cls := hown
  have hl : lv_has ls 1 [(0, .ref (a0 0))] := hl
  have hP : va_P D vwCl [((a0 0), .inr (6, [.ref (a0 1), .ref (a0 2), .int (s0.1 0), .ref (a0 3), .ref (a0 5), .ref (a0 4), .long s0.2.1, .int (s0.1 1), .int (s0.1 2), .ref (a0 6), .int (s0.1 3), .int (s0.1 4), .ref (a0 7), .int (s0.1 5), .int (s0.1 6), .int (s0.1 7), .int (s0.1 8), .int (s0.1 9), .int (s0.1 10), .int (s0.1 11), .int (s0.1 12), .int (s0.1 13), .int (s0.1 14)])), ((a0 1), .inl (q 1, 6896, .inr (.inl (s0.2.2.1 0)))), ((a0 2), .inl (q 1, 68960, .inr (.inl (s0.2.2.1 1)))), ((a0 3), .inl (q 1, 13792, .inr (.inl (s0.2.2.1 2)))), ((a0 4), .inl (q 1, 6896, .inr (.inl (s0.2.2.1 3)))), ((a0 5), .inl (q 3, 2, .inl (s0.2.2.2 0))), ((a0 6), .inl (q 0, 40, .inl (s0.2.2.2 1))), ((a0 7), .inl (q 2, 400, .inl (s0.2.2.2 2)))] s.heap := hP
  unfold wp_X7_cells at h
  refine lv_aload_n hx hb dX7_cells_0 rfl (lv_at hl 0 rfl) ?_
  refine vp_callSi (rd_wV (wc := md_v a0 q s0) (As := []) (rest := []) hx hb hml hown ht (c2_X7_rows h) wd_X7_rows mw_1209 hQ hV va_S.rf (hP.sub [0, 1, 2, 3, 4, 5, 6, 7] rfl) rfl rfl rfl hl.1 rfl (Nat.le_of_ble_eq_true rfl) dX7_cells_1 ⟨Nat.le_of_ble_eq_true rfl, Nat.le_of_ble_eq_true rfl, rfl, rfl⟩ ⟨Nat.le_of_ble_eq_true rfl, Nat.le_of_ble_eq_true rfl⟩) (fun r_1 h => ?_)
  try dsimp only at h
  refine lv_aload_n hx hb dX7_cells_4 rfl (lv_at hl 0 rfl) ?_
  refine vp_callSi (rd_wV (wc := md_v a0 q s0) (As := []) (rest := [.int r_1]) hx hb hml hown ht (c2_X7_wide h) wd_X7_wide mw_1220 hQ hV va_S.rf (hP.sub [0, 1, 2, 3, 4, 5, 6, 7] rfl) rfl rfl rfl hl.1 rfl (Nat.le_of_ble_eq_true rfl) dX7_cells_5 ⟨Nat.le_of_ble_eq_true rfl, Nat.le_of_ble_eq_true rfl, rfl, rfl⟩ ⟨Nat.le_of_ble_eq_true rfl, Nat.le_of_ble_eq_true rfl⟩) (fun r_3 h => ?_)
  try dsimp only at h
  refine lv_imul hx hb dX7_cells_8 ?_
  exact rd_iret hx hb hr hk h dX7_cells_9

def wp_X7_drums (post : Int32 → Prop) (s0 : Md) : Prop := post (Int64.toInt32 ((s0.2.2.1 0) (Int32.toNatClampNeg 3)))
set_option maxHeartbeats 4000000 in
set_option maxRecDepth 100000 in
theorem c2_X7_drums {l : Launch} {D : va_G} {q : Nat → ClassId} {a0 : Nat → Nat} {s0 : Md} {post : Int32 → Prop} (h : wp_X7_drums post s0) : Met l yX7_drums (Cond.code yX7_drums cX7_drums 1 (some .int) :: w_all) ({ frames := 0, cells := 0, slots := 0, locals := 0 } : Room) (rd_P D q [.ref (a0 0)] (md_v a0 q s0)) (vp_Si post) 0 0 (fun _ => False) := by
  refine rd_start (by decide) (Nat.le_of_ble_eq_true rfl) ?_
  intro p e s m below meth c ls hx hb hr hml hown ht hk hP hQ hV hl
  have hK := hQ.1
  have hown : s.vm.findClass RX7 = some m.cls := hown
  have hl : lv_has ls 1 [(0, .ref (a0 0))] := hl
  have hP : va_P D vwCl [((a0 0), .inr (6, [.ref (a0 1), .ref (a0 2), .int (s0.1 0), .ref (a0 3), .ref (a0 5), .ref (a0 4), .long s0.2.1, .int (s0.1 1), .int (s0.1 2), .ref (a0 6), .int (s0.1 3), .int (s0.1 4), .ref (a0 7), .int (s0.1 5), .int (s0.1 6), .int (s0.1 7), .int (s0.1 8), .int (s0.1 9), .int (s0.1 10), .int (s0.1 11), .int (s0.1 12), .int (s0.1 13), .int (s0.1 14)])), ((a0 1), .inl (q 1, 6896, .inr (.inl (s0.2.2.1 0)))), ((a0 2), .inl (q 1, 68960, .inr (.inl (s0.2.2.1 1)))), ((a0 3), .inl (q 1, 13792, .inr (.inl (s0.2.2.1 2)))), ((a0 4), .inl (q 1, 6896, .inr (.inl (s0.2.2.1 3)))), ((a0 5), .inl (q 3, 2, .inl (s0.2.2.2 0))), ((a0 6), .inl (q 0, 40, .inl (s0.2.2.2 1))), ((a0 7), .inl (q 2, 400, .inl (s0.2.2.2 2)))] s.heap := hP
  unfold wp_X7_drums at h
  refine lv_aload_n hx hb dX7_drums_0 rfl (lv_at hl 0 rfl) ?_
  refine fl_get (C := RX7) (T := TX7) (N := 23) (ci := 6) (v := .ref (a0 1)) hx hb ht in_X7 hown hK hP 0 rfl rfl 0 (by decide) mw_1130 rfl dX7_drums_1 ?_
  refine lv_iconst (v := 3) hx hb dX7_drums_4 (by decide) ?_
  refine va_lald hx hb hK hP 1 1 rfl rfl (in_c rfl) dX7_drums_5 ?_
  refine lv_l2i (v := (Int64.toInt32 ((s0.2.2.1 0) (Int32.toNatClampNeg 3)))) hx hb dX7_drums_6 rfl ?_
  exact rd_iret hx hb hr hk h dX7_drums_7

def wp_X7_isBoard (post : Int32 → Prop) (s0 : Md) : Prop := wp_X7_drums (fun r_1 => ((r_1 ≤ 0 → post 0) ∧ (¬ r_1 ≤ 0 → post 1))) s0
set_option maxHeartbeats 4000000 in
set_option maxRecDepth 100000 in
theorem c2_X7_isBoard {l : Launch} {D : va_G} {q : Nat → ClassId} {a0 : Nat → Nat} {s0 : Md} {post : Int32 → Prop} (h : wp_X7_isBoard post s0) : Met l yX7_isBoard (Cond.code yX7_isBoard cX7_isBoard 1 (some .boolean) :: w_all) ({ frames := 1, cells := 0, slots := 0, locals := 20 } : Room) (rd_P D q [.ref (a0 0)] (md_v a0 q s0)) (vp_Si post) 0 0 (fun _ => False) := by
  refine rd_start (by decide) (Nat.le_of_ble_eq_true rfl) ?_
  intro p e s m below meth c ls hx hb hr hml hown ht hk hP hQ hV hl
  have hK := hQ.1
  have hown : s.vm.findClass RX7 = some m.cls := hown
  have hl : lv_has ls 1 [(0, .ref (a0 0))] := hl
  have hP : va_P D vwCl [((a0 0), .inr (6, [.ref (a0 1), .ref (a0 2), .int (s0.1 0), .ref (a0 3), .ref (a0 5), .ref (a0 4), .long s0.2.1, .int (s0.1 1), .int (s0.1 2), .ref (a0 6), .int (s0.1 3), .int (s0.1 4), .ref (a0 7), .int (s0.1 5), .int (s0.1 6), .int (s0.1 7), .int (s0.1 8), .int (s0.1 9), .int (s0.1 10), .int (s0.1 11), .int (s0.1 12), .int (s0.1 13), .int (s0.1 14)])), ((a0 1), .inl (q 1, 6896, .inr (.inl (s0.2.2.1 0)))), ((a0 2), .inl (q 1, 68960, .inr (.inl (s0.2.2.1 1)))), ((a0 3), .inl (q 1, 13792, .inr (.inl (s0.2.2.1 2)))), ((a0 4), .inl (q 1, 6896, .inr (.inl (s0.2.2.1 3)))), ((a0 5), .inl (q 3, 2, .inl (s0.2.2.2 0))), ((a0 6), .inl (q 0, 40, .inl (s0.2.2.2 1))), ((a0 7), .inl (q 2, 400, .inl (s0.2.2.2 2)))] s.heap := hP
  unfold wp_X7_isBoard at h
  refine lv_aload_n hx hb dX7_isBoard_0 rfl (lv_at hl 0 rfl) ?_
  refine vp_callSi (rd_wV (wc := md_v a0 q s0) (As := []) (rest := []) hx hb hml hown ht (c2_X7_drums h) wd_X7_drums mw_1287 hQ hV va_S.rf (hP.sub [0, 1, 2, 3, 4, 5, 6, 7] rfl) rfl rfl rfl hl.1 rfl (Nat.le_of_ble_eq_true rfl) dX7_isBoard_1 ⟨Nat.le_of_ble_eq_true rfl, Nat.le_of_ble_eq_true rfl, rfl, rfl⟩ ⟨Nat.le_of_ble_eq_true rfl, Nat.le_of_ble_eq_true rfl⟩) (fun r_1 h => ?_)
  try dsimp only at h
  refine lv_if_le (tgt := 11) hx hb dX7_isBoard_4 (by decide) (fun c_3 => ?_) (fun c_3 => ?_)
  · replace h := h.1 c_3
    refine lv_iconst (v := 0) hx hb dX7_isBoard_11 (by decide) ?_
    exact rd_zret hx hb hr hk rfl h dX7_isBoard_12
  · replace h := h.2 c_3
    refine lv_iconst (v := 1) hx hb dX7_isBoard_7 (by decide) ?_
    refine lv_goto (tgt := 12) hx hb dX7_isBoard_8 (by decide) ?_
    exact rd_zret hx hb hr hk rfl h dX7_isBoard_12

def wp_X7_isCell (post : Int32 → Prop) (s0 : Md) (x1 : Int32) : Prop := wp_X7_cells (fun r_1 => wp_X7_in (fun r_3 => narrow .boolean (.int r_3) = .int r_3 ∧ post r_3) (Int32.toInt64 x1) (0 : Int64) (Int32.toInt64 (r_1 - 1))) s0
set_option maxHeartbeats 4000000 in
set_option maxRecDepth 100000 in
theorem c2_X7_isCell {l : Launch} {D : va_G} {q : Nat → ClassId} {a0 : Nat → Nat} {s0 : Md} {x1 : Int32} {post : Int32 → Prop} (h : wp_X7_isCell post s0 x1) : Met l yX7_isCell (Cond.code yX7_isCell cX7_isCell 2 (some .boolean) :: w_all) ({ frames := 2, cells := 0, slots := 0, locals := 40 } : Room) (rd_P D q [.ref (a0 0), .int x1] (md_v a0 q s0)) (vp_Si post) 0 0 (fun _ => False) := by
  refine rd_start (by decide) (Nat.le_of_ble_eq_true rfl) ?_
  intro p e s m below meth c ls hx hb hr hml hown ht hk hP hQ hV hl
  have hK := hQ.1
  have hown : s.vm.findClass RX7 = some m.cls := hown
  have hl : lv_has ls 2 [(0, .ref (a0 0)), (1, .int x1)] := hl
  have hP : va_P D vwCl [((a0 0), .inr (6, [.ref (a0 1), .ref (a0 2), .int (s0.1 0), .ref (a0 3), .ref (a0 5), .ref (a0 4), .long s0.2.1, .int (s0.1 1), .int (s0.1 2), .ref (a0 6), .int (s0.1 3), .int (s0.1 4), .ref (a0 7), .int (s0.1 5), .int (s0.1 6), .int (s0.1 7), .int (s0.1 8), .int (s0.1 9), .int (s0.1 10), .int (s0.1 11), .int (s0.1 12), .int (s0.1 13), .int (s0.1 14)])), ((a0 1), .inl (q 1, 6896, .inr (.inl (s0.2.2.1 0)))), ((a0 2), .inl (q 1, 68960, .inr (.inl (s0.2.2.1 1)))), ((a0 3), .inl (q 1, 13792, .inr (.inl (s0.2.2.1 2)))), ((a0 4), .inl (q 1, 6896, .inr (.inl (s0.2.2.1 3)))), ((a0 5), .inl (q 3, 2, .inl (s0.2.2.2 0))), ((a0 6), .inl (q 0, 40, .inl (s0.2.2.2 1))), ((a0 7), .inl (q 2, 400, .inl (s0.2.2.2 2)))] s.heap := hP
  unfold wp_X7_isCell at h
  refine lv_iload_n hx hb dX7_isCell_0 rfl (lv_at hl 1 rfl) ?_
  refine lv_i2l (v := (Int32.toInt64 x1)) hx hb dX7_isCell_1 rfl ?_
  refine lv_lconst (v := 0) hx hb dX7_isCell_2 (by decide) ?_
  refine lv_aload_n hx hb dX7_isCell_3 rfl (lv_at hl 0 rfl) ?_
  refine vp_callSi (rd_wV (wc := md_v a0 q s0) (As := []) (rest := [.long 0, .long (Int32.toInt64 x1)]) hx hb hml hown ht (c2_X7_cells h) wd_X7_cells mw_1295 hQ hV va_S.rf (hP.sub [0, 1, 2, 3, 4, 5, 6, 7] rfl) rfl rfl rfl hl.1 rfl (Nat.le_of_ble_eq_true rfl) dX7_isCell_4 ⟨Nat.le_of_ble_eq_true rfl, Nat.le_of_ble_eq_true rfl, rfl, rfl⟩ ⟨Nat.le_of_ble_eq_true rfl, Nat.le_of_ble_eq_true rfl⟩) (fun r_1 h => ?_)
  try dsimp only at h
  refine lv_iconst (v := 1) hx hb dX7_isCell_7 (by decide) ?_
  refine lv_isub hx hb dX7_isCell_8 ?_
  refine lv_i2l (v := (Int32.toInt64 (r_1 - 1))) hx hb dX7_isCell_9 rfl ?_
  refine vp_callSi (rd_wS (wc := ([] : va_W)) (As := [.long (Int32.toInt64 x1), .long 0, .long (Int32.toInt64 (r_1 - 1))]) (rest := []) hx hb hml hown ht (c2_X7_in h) wd_X7_in mw_1213 hQ hV va_S.rf (hP.sub [] rfl) rfl hl.1 rfl (Nat.le_of_ble_eq_true rfl) dX7_isCell_10 ⟨Nat.le_of_ble_eq_true rfl, Nat.le_of_ble_eq_true rfl, rfl, rfl⟩ ⟨Nat.le_of_ble_eq_true rfl, Nat.le_of_ble_eq_true rfl⟩) (fun r_3 h => ?_)
  try dsimp only at h
  obtain ⟨g_5, h⟩ := h
  exact rd_zret hx hb hr hk g_5 h dX7_isCell_13

def wp_X7_isRow (post : Int32 → Prop) (s0 : Md) (x1 : Int32) : Prop := wp_X7_rows (fun r_1 => wp_X7_in (fun r_3 => narrow .boolean (.int r_3) = .int r_3 ∧ post r_3) (Int32.toInt64 x1) (0 : Int64) (Int32.toInt64 (r_1 - 1))) s0
set_option maxHeartbeats 4000000 in
set_option maxRecDepth 100000 in
theorem c2_X7_isRow {l : Launch} {D : va_G} {q : Nat → ClassId} {a0 : Nat → Nat} {s0 : Md} {x1 : Int32} {post : Int32 → Prop} (h : wp_X7_isRow post s0 x1) : Met l yX7_isRow (Cond.code yX7_isRow cX7_isRow 2 (some .boolean) :: w_all) ({ frames := 1, cells := 0, slots := 0, locals := 25 } : Room) (rd_P D q [.ref (a0 0), .int x1] (md_v a0 q s0)) (vp_Si post) 0 0 (fun _ => False) := by
  refine rd_start (by decide) (Nat.le_of_ble_eq_true rfl) ?_
  intro p e s m below meth c ls hx hb hr hml hown ht hk hP hQ hV hl
  have hK := hQ.1
  have hown : s.vm.findClass RX7 = some m.cls := hown
  have hl : lv_has ls 2 [(0, .ref (a0 0)), (1, .int x1)] := hl
  have hP : va_P D vwCl [((a0 0), .inr (6, [.ref (a0 1), .ref (a0 2), .int (s0.1 0), .ref (a0 3), .ref (a0 5), .ref (a0 4), .long s0.2.1, .int (s0.1 1), .int (s0.1 2), .ref (a0 6), .int (s0.1 3), .int (s0.1 4), .ref (a0 7), .int (s0.1 5), .int (s0.1 6), .int (s0.1 7), .int (s0.1 8), .int (s0.1 9), .int (s0.1 10), .int (s0.1 11), .int (s0.1 12), .int (s0.1 13), .int (s0.1 14)])), ((a0 1), .inl (q 1, 6896, .inr (.inl (s0.2.2.1 0)))), ((a0 2), .inl (q 1, 68960, .inr (.inl (s0.2.2.1 1)))), ((a0 3), .inl (q 1, 13792, .inr (.inl (s0.2.2.1 2)))), ((a0 4), .inl (q 1, 6896, .inr (.inl (s0.2.2.1 3)))), ((a0 5), .inl (q 3, 2, .inl (s0.2.2.2 0))), ((a0 6), .inl (q 0, 40, .inl (s0.2.2.2 1))), ((a0 7), .inl (q 2, 400, .inl (s0.2.2.2 2)))] s.heap := hP
  unfold wp_X7_isRow at h
  refine lv_iload_n hx hb dX7_isRow_0 rfl (lv_at hl 1 rfl) ?_
  refine lv_i2l (v := (Int32.toInt64 x1)) hx hb dX7_isRow_1 rfl ?_
  refine lv_lconst (v := 0) hx hb dX7_isRow_2 (by decide) ?_
  refine lv_aload_n hx hb dX7_isRow_3 rfl (lv_at hl 0 rfl) ?_
  refine vp_callSi (rd_wV (wc := md_v a0 q s0) (As := []) (rest := [.long 0, .long (Int32.toInt64 x1)]) hx hb hml hown ht (c2_X7_rows h) wd_X7_rows mw_1209 hQ hV va_S.rf (hP.sub [0, 1, 2, 3, 4, 5, 6, 7] rfl) rfl rfl rfl hl.1 rfl (Nat.le_of_ble_eq_true rfl) dX7_isRow_4 ⟨Nat.le_of_ble_eq_true rfl, Nat.le_of_ble_eq_true rfl, rfl, rfl⟩ ⟨Nat.le_of_ble_eq_true rfl, Nat.le_of_ble_eq_true rfl⟩) (fun r_1 h => ?_)
  try dsimp only at h
  refine lv_iconst (v := 1) hx hb dX7_isRow_7 (by decide) ?_
  refine lv_isub hx hb dX7_isRow_8 ?_
  refine lv_i2l (v := (Int32.toInt64 (r_1 - 1))) hx hb dX7_isRow_9 rfl ?_
  refine vp_callSi (rd_wS (wc := ([] : va_W)) (As := [.long (Int32.toInt64 x1), .long 0, .long (Int32.toInt64 (r_1 - 1))]) (rest := []) hx hb hml hown ht (c2_X7_in h) wd_X7_in mw_1213 hQ hV va_S.rf (hP.sub [] rfl) rfl hl.1 rfl (Nat.le_of_ble_eq_true rfl) dX7_isRow_10 ⟨Nat.le_of_ble_eq_true rfl, Nat.le_of_ble_eq_true rfl, rfl, rfl⟩ ⟨Nat.le_of_ble_eq_true rfl, Nat.le_of_ble_eq_true rfl⟩) (fun r_3 h => ?_)
  try dsimp only at h
  obtain ⟨g_5, h⟩ := h
  exact rd_zret hx hb hr hk g_5 h dX7_isRow_13

def wp_X7_isDrum (post : Int32 → Prop) (s0 : Md) (x1 : Int32) : Prop := wp_X7_drums (fun r_1 => wp_X7_in (fun r_3 => narrow .boolean (.int r_3) = .int r_3 ∧ post r_3) (Int32.toInt64 x1) (0 : Int64) (Int32.toInt64 (r_1 - 1))) s0
set_option maxHeartbeats 4000000 in
set_option maxRecDepth 100000 in
theorem c2_X7_isDrum {l : Launch} {D : va_G} {q : Nat → ClassId} {a0 : Nat → Nat} {s0 : Md} {x1 : Int32} {post : Int32 → Prop} (h : wp_X7_isDrum post s0 x1) : Met l yX7_isDrum (Cond.code yX7_isDrum cX7_isDrum 2 (some .boolean) :: w_all) ({ frames := 1, cells := 0, slots := 0, locals := 25 } : Room) (rd_P D q [.ref (a0 0), .int x1] (md_v a0 q s0)) (vp_Si post) 0 0 (fun _ => False) := by
  refine rd_start (by decide) (Nat.le_of_ble_eq_true rfl) ?_
  intro p e s m below meth c ls hx hb hr hml hown ht hk hP hQ hV hl
  have hK := hQ.1
  have hown : s.vm.findClass RX7 = some m.cls := hown
  have hl : lv_has ls 2 [(0, .ref (a0 0)), (1, .int x1)] := hl
  have hP : va_P D vwCl [((a0 0), .inr (6, [.ref (a0 1), .ref (a0 2), .int (s0.1 0), .ref (a0 3), .ref (a0 5), .ref (a0 4), .long s0.2.1, .int (s0.1 1), .int (s0.1 2), .ref (a0 6), .int (s0.1 3), .int (s0.1 4), .ref (a0 7), .int (s0.1 5), .int (s0.1 6), .int (s0.1 7), .int (s0.1 8), .int (s0.1 9), .int (s0.1 10), .int (s0.1 11), .int (s0.1 12), .int (s0.1 13), .int (s0.1 14)])), ((a0 1), .inl (q 1, 6896, .inr (.inl (s0.2.2.1 0)))), ((a0 2), .inl (q 1, 68960, .inr (.inl (s0.2.2.1 1)))), ((a0 3), .inl (q 1, 13792, .inr (.inl (s0.2.2.1 2)))), ((a0 4), .inl (q 1, 6896, .inr (.inl (s0.2.2.1 3)))), ((a0 5), .inl (q 3, 2, .inl (s0.2.2.2 0))), ((a0 6), .inl (q 0, 40, .inl (s0.2.2.2 1))), ((a0 7), .inl (q 2, 400, .inl (s0.2.2.2 2)))] s.heap := hP
  unfold wp_X7_isDrum at h
  refine lv_iload_n hx hb dX7_isDrum_0 rfl (lv_at hl 1 rfl) ?_
  refine lv_i2l (v := (Int32.toInt64 x1)) hx hb dX7_isDrum_1 rfl ?_
  refine lv_lconst (v := 0) hx hb dX7_isDrum_2 (by decide) ?_
  refine lv_aload_n hx hb dX7_isDrum_3 rfl (lv_at hl 0 rfl) ?_
  refine vp_callSi (rd_wV (wc := md_v a0 q s0) (As := []) (rest := [.long 0, .long (Int32.toInt64 x1)]) hx hb hml hown ht (c2_X7_drums h) wd_X7_drums mw_1287 hQ hV va_S.rf (hP.sub [0, 1, 2, 3, 4, 5, 6, 7] rfl) rfl rfl rfl hl.1 rfl (Nat.le_of_ble_eq_true rfl) dX7_isDrum_4 ⟨Nat.le_of_ble_eq_true rfl, Nat.le_of_ble_eq_true rfl, rfl, rfl⟩ ⟨Nat.le_of_ble_eq_true rfl, Nat.le_of_ble_eq_true rfl⟩) (fun r_1 h => ?_)
  try dsimp only at h
  refine lv_iconst (v := 1) hx hb dX7_isDrum_7 (by decide) ?_
  refine lv_isub hx hb dX7_isDrum_8 ?_
  refine lv_i2l (v := (Int32.toInt64 (r_1 - 1))) hx hb dX7_isDrum_9 rfl ?_
  refine vp_callSi (rd_wS (wc := ([] : va_W)) (As := [.long (Int32.toInt64 x1), .long 0, .long (Int32.toInt64 (r_1 - 1))]) (rest := []) hx hb hml hown ht (c2_X7_in h) wd_X7_in mw_1213 hQ hV va_S.rf (hP.sub [] rfl) rfl hl.1 rfl (Nat.le_of_ble_eq_true rfl) dX7_isDrum_10 ⟨Nat.le_of_ble_eq_true rfl, Nat.le_of_ble_eq_true rfl, rfl, rfl⟩ ⟨Nat.le_of_ble_eq_true rfl, Nat.le_of_ble_eq_true rfl⟩) (fun r_3 h => ?_)
  try dsimp only at h
  obtain ⟨g_5, h⟩ := h
  exact rd_zret hx hb hr hk g_5 h dX7_isDrum_13

def wp_X7_of (post : Int32 → Prop) (s0 : Md) (x1 : Int32) (x2 : Int32) : Prop := vp_in ((176 + (8 * x1)) + x2) 6896 ∧ post (Int64.toInt32 ((s0.2.2.1 0) (Int32.toNatClampNeg ((176 + (8 * x1)) + x2))))
set_option maxHeartbeats 4000000 in
set_option maxRecDepth 100000 in
theorem c2_X7_of {l : Launch} {D : va_G} {q : Nat → ClassId} {a0 : Nat → Nat} {s0 : Md} {x1 : Int32} {x2 : Int32} {post : Int32 → Prop} (h : wp_X7_of post s0 x1 x2) : Met l yX7_of (Cond.code yX7_of cX7_of 3 (some .int) :: w_all) ({ frames := 0, cells := 0, slots := 0, locals := 0 } : Room) (rd_P D q [.ref (a0 0), .int x1, .int x2] (md_v a0 q s0)) (vp_Si post) 0 0 (fun _ => False) := by
  refine rd_start (by decide) (Nat.le_of_ble_eq_true rfl) ?_
  intro p e s m below meth c ls hx hb hr hml hown ht hk hP hQ hV hl
  have hK := hQ.1
  have hown : s.vm.findClass RX7 = some m.cls := hown
  have hl : lv_has ls 3 [(0, .ref (a0 0)), (1, .int x1), (2, .int x2)] := hl
  have hP : va_P D vwCl [((a0 0), .inr (6, [.ref (a0 1), .ref (a0 2), .int (s0.1 0), .ref (a0 3), .ref (a0 5), .ref (a0 4), .long s0.2.1, .int (s0.1 1), .int (s0.1 2), .ref (a0 6), .int (s0.1 3), .int (s0.1 4), .ref (a0 7), .int (s0.1 5), .int (s0.1 6), .int (s0.1 7), .int (s0.1 8), .int (s0.1 9), .int (s0.1 10), .int (s0.1 11), .int (s0.1 12), .int (s0.1 13), .int (s0.1 14)])), ((a0 1), .inl (q 1, 6896, .inr (.inl (s0.2.2.1 0)))), ((a0 2), .inl (q 1, 68960, .inr (.inl (s0.2.2.1 1)))), ((a0 3), .inl (q 1, 13792, .inr (.inl (s0.2.2.1 2)))), ((a0 4), .inl (q 1, 6896, .inr (.inl (s0.2.2.1 3)))), ((a0 5), .inl (q 3, 2, .inl (s0.2.2.2 0))), ((a0 6), .inl (q 0, 40, .inl (s0.2.2.2 1))), ((a0 7), .inl (q 2, 400, .inl (s0.2.2.2 2)))] s.heap := hP
  unfold wp_X7_of at h
  refine lv_aload_n hx hb dX7_of_0 rfl (lv_at hl 0 rfl) ?_
  refine fl_get (C := RX7) (T := TX7) (N := 23) (ci := 6) (v := .ref (a0 1)) hx hb ht in_X7 hown hK hP 0 rfl rfl 0 (by decide) mw_1130 rfl dX7_of_1 ?_
  refine lv_sipush (v := 176) hx hb dX7_of_4 (by decide) ?_
  refine lv_bipush (v := 8) hx hb dX7_of_7 (by decide) ?_
  refine lv_iload_n hx hb dX7_of_9 rfl (lv_at hl 1 rfl) ?_
  refine lv_imul hx hb dX7_of_10 ?_
  refine lv_iadd hx hb dX7_of_11 ?_
  refine lv_iload_n hx hb dX7_of_12 rfl (lv_at hl 2 rfl) ?_
  refine lv_iadd hx hb dX7_of_13 ?_
  obtain ⟨g_1, h⟩ := h
  refine va_lald hx hb hK hP 1 1 rfl rfl g_1 dX7_of_14 ?_
  refine lv_l2i (v := (Int64.toInt32 ((s0.2.2.1 0) (Int32.toNatClampNeg ((176 + (8 * x1)) + x2))))) hx hb dX7_of_15 rfl ?_
  exact rd_iret hx hb hr hk h dX7_of_16

def wp_X7_sets (post : Md → Prop) (s0 : Md) (x1 : Int32) (x2 : Int32) (y3 : Int64) : Prop := vp_in ((176 + (8 * x1)) + x2) 6896 ∧ post (s0.1, s0.2.1, (va_up s0.2.2.1 0 (vp_updL (s0.2.2.1 0) (Int32.toNatClampNeg ((176 + (8 * x1)) + x2)) y3)), s0.2.2.2)
set_option maxHeartbeats 4000000 in
set_option maxRecDepth 100000 in
theorem c2_X7_sets {l : Launch} {D : va_G} {q : Nat → ClassId} {sz : Nat} {a0 : Nat → Nat} {s0 : Md} {x1 : Int32} {x2 : Int32} {y3 : Int64} {post : Md → Prop} (h : wp_X7_sets post s0 x1 x2 y3) : Met l yX7_sets (Cond.code yX7_sets cX7_sets 5 none :: w_all) ({ frames := 0, cells := 0, slots := 0, locals := 0 } : Room) (mt_P D q [.ref (a0 0), .int x1, .int x2, .long y3] (md_v a0 q s0) sz) (va_Qv (fun u : Md => post u) (mt_B D (md_v a0 q s0) sz (fun u : Md => md_v a0 q u)) (va_A (md_v a0 q s0) sz)) 0 0 (va_A (md_v a0 q s0) sz) := by
  refine mt_start (by decide) (Nat.le_of_ble_eq_true rfl) ?_
  intro p e s m below meth c ls hx hb hr hml hown ht hk hin hP hQ hD hA hS hV hl
  have hK := hQ.1
  have hown : s.vm.findClass RX7 = some m.cls := hown
  have hl : lv_has ls 5 [(0, .ref (a0 0)), (1, .int x1), (2, .int x2), (3, .long y3)] := hl
  have hP : va_P D vwCl [((a0 0), .inr (6, [.ref (a0 1), .ref (a0 2), .int (s0.1 0), .ref (a0 3), .ref (a0 5), .ref (a0 4), .long s0.2.1, .int (s0.1 1), .int (s0.1 2), .ref (a0 6), .int (s0.1 3), .int (s0.1 4), .ref (a0 7), .int (s0.1 5), .int (s0.1 6), .int (s0.1 7), .int (s0.1 8), .int (s0.1 9), .int (s0.1 10), .int (s0.1 11), .int (s0.1 12), .int (s0.1 13), .int (s0.1 14)])), ((a0 1), .inl (q 1, 6896, .inr (.inl (s0.2.2.1 0)))), ((a0 2), .inl (q 1, 68960, .inr (.inl (s0.2.2.1 1)))), ((a0 3), .inl (q 1, 13792, .inr (.inl (s0.2.2.1 2)))), ((a0 4), .inl (q 1, 6896, .inr (.inl (s0.2.2.1 3)))), ((a0 5), .inl (q 3, 2, .inl (s0.2.2.2 0))), ((a0 6), .inl (q 0, 40, .inl (s0.2.2.2 1))), ((a0 7), .inl (q 2, 400, .inl (s0.2.2.2 2)))] s.heap := hP
  have hD : va_D _ [((a0 0), .inr (6, [.ref (a0 1), .ref (a0 2), .int (s0.1 0), .ref (a0 3), .ref (a0 5), .ref (a0 4), .long s0.2.1, .int (s0.1 1), .int (s0.1 2), .ref (a0 6), .int (s0.1 3), .int (s0.1 4), .ref (a0 7), .int (s0.1 5), .int (s0.1 6), .int (s0.1 7), .int (s0.1 8), .int (s0.1 9), .int (s0.1 10), .int (s0.1 11), .int (s0.1 12), .int (s0.1 13), .int (s0.1 14)])), ((a0 1), .inl (q 1, 6896, .inr (.inl (s0.2.2.1 0)))), ((a0 2), .inl (q 1, 68960, .inr (.inl (s0.2.2.1 1)))), ((a0 3), .inl (q 1, 13792, .inr (.inl (s0.2.2.1 2)))), ((a0 4), .inl (q 1, 6896, .inr (.inl (s0.2.2.1 3)))), ((a0 5), .inl (q 3, 2, .inl (s0.2.2.2 0))), ((a0 6), .inl (q 0, 40, .inl (s0.2.2.2 1))), ((a0 7), .inl (q 2, 400, .inl (s0.2.2.2 2)))] := hD
  unfold wp_X7_sets at h
  refine lv_aload_n hx hb dX7_sets_0 rfl (lv_at hl 0 rfl) ?_
  refine fl_get (C := RX7) (T := TX7) (N := 23) (ci := 6) (v := .ref (a0 1)) hx hb ht in_X7 hown hK hP 0 rfl rfl 0 (by decide) mw_1130 rfl dX7_sets_1 ?_
  refine lv_sipush (v := 176) hx hb dX7_sets_4 (by decide) ?_
  refine lv_bipush (v := 8) hx hb dX7_sets_7 (by decide) ?_
  refine lv_iload_n hx hb dX7_sets_9 rfl (lv_at hl 1 rfl) ?_
  refine lv_imul hx hb dX7_sets_10 ?_
  refine lv_iadd hx hb dX7_sets_11 ?_
  refine lv_iload_n hx hb dX7_sets_12 rfl (lv_at hl 2 rfl) ?_
  refine lv_iadd hx hb dX7_sets_13 ?_
  refine lv_lload_n hx hb dX7_sets_14 rfl (lv_at hl 3 rfl) ?_
  obtain ⟨g_1, h⟩ := h
  refine va_last hx hb hK hP hD hS 1 1 rfl rfl g_1 dX7_sets_15 (fun H locs hP hD hS => ?_)
  have hP : va_P D vwCl [((a0 0), .inr (6, [.ref (a0 1), .ref (a0 2), .int (s0.1 0), .ref (a0 3), .ref (a0 5), .ref (a0 4), .long s0.2.1, .int (s0.1 1), .int (s0.1 2), .ref (a0 6), .int (s0.1 3), .int (s0.1 4), .ref (a0 7), .int (s0.1 5), .int (s0.1 6), .int (s0.1 7), .int (s0.1 8), .int (s0.1 9), .int (s0.1 10), .int (s0.1 11), .int (s0.1 12), .int (s0.1 13), .int (s0.1 14)])), ((a0 1), .inl (q 1, 6896, .inr (.inl (vp_updL (s0.2.2.1 0) (Int32.toNatClampNeg ((176 + (8 * x1)) + x2)) y3)))), ((a0 2), .inl (q 1, 68960, .inr (.inl (s0.2.2.1 1)))), ((a0 3), .inl (q 1, 13792, .inr (.inl (s0.2.2.1 2)))), ((a0 4), .inl (q 1, 6896, .inr (.inl (s0.2.2.1 3)))), ((a0 5), .inl (q 3, 2, .inl (s0.2.2.2 0))), ((a0 6), .inl (q 0, 40, .inl (s0.2.2.2 1))), ((a0 7), .inl (q 2, 400, .inl (s0.2.2.2 2)))] H := hP
  have hD : va_D _ [((a0 0), .inr (6, [.ref (a0 1), .ref (a0 2), .int (s0.1 0), .ref (a0 3), .ref (a0 5), .ref (a0 4), .long s0.2.1, .int (s0.1 1), .int (s0.1 2), .ref (a0 6), .int (s0.1 3), .int (s0.1 4), .ref (a0 7), .int (s0.1 5), .int (s0.1 6), .int (s0.1 7), .int (s0.1 8), .int (s0.1 9), .int (s0.1 10), .int (s0.1 11), .int (s0.1 12), .int (s0.1 13), .int (s0.1 14)])), ((a0 1), .inl (q 1, 6896, .inr (.inl (vp_updL (s0.2.2.1 0) (Int32.toNatClampNeg ((176 + (8 * x1)) + x2)) y3)))), ((a0 2), .inl (q 1, 68960, .inr (.inl (s0.2.2.1 1)))), ((a0 3), .inl (q 1, 13792, .inr (.inl (s0.2.2.1 2)))), ((a0 4), .inl (q 1, 6896, .inr (.inl (s0.2.2.1 3)))), ((a0 5), .inl (q 3, 2, .inl (s0.2.2.2 0))), ((a0 6), .inl (q 0, 40, .inl (s0.2.2.2 1))), ((a0 7), .inl (q 2, 400, .inl (s0.2.2.2 2)))] := hD
  exact mt_vret (s0.1, s0.2.1, (va_up s0.2.2.1 0 (vp_updL (s0.2.2.1 0) (Int32.toNatClampNeg ((176 + (8 * x1)) + x2)) y3)), s0.2.2.2) hx hb hr hk h (hP.sub (ws' := md_v a0 q (s0.1, s0.2.1, (va_up s0.2.2.1 0 (vp_updL (s0.2.2.1 0) (Int32.toNatClampNeg ((176 + (8 * x1)) + x2)) y3)), s0.2.2.2)) [0, 1, 2, 3, 4, 5, 6, 7] rfl) (hD.sub (ws' := md_v a0 q (s0.1, s0.2.1, (va_up s0.2.2.1 0 (vp_updL (s0.2.2.1 0) (Int32.toNatClampNeg ((176 + (8 * x1)) + x2)) y3)), s0.2.2.2)) [0, 1, 2, 3, 4, 5, 6, 7] (by decide) rfl) hS dX7_sets_16

def wp_X7_wornOf (post : Int64 → Prop) (s0 : Md) (x1 : Int32) : Prop := vp_in ((176 + (8 * x1)) + 7) 6896 ∧ post ((s0.2.2.1 0) (Int32.toNatClampNeg ((176 + (8 * x1)) + 7)))
set_option maxHeartbeats 4000000 in
set_option maxRecDepth 100000 in
theorem c2_X7_wornOf {l : Launch} {D : va_G} {q : Nat → ClassId} {a0 : Nat → Nat} {s0 : Md} {x1 : Int32} {post : Int64 → Prop} (h : wp_X7_wornOf post s0 x1) : Met l yX7_wornOf (Cond.code yX7_wornOf cX7_wornOf 2 (some .long) :: w_all) ({ frames := 0, cells := 0, slots := 0, locals := 0 } : Room) (rd_P D q [.ref (a0 0), .int x1] (md_v a0 q s0)) (vp_Sl post) 0 0 (fun _ => False) := by
  refine rd_start (by decide) (Nat.le_of_ble_eq_true rfl) ?_
  intro p e s m below meth c ls hx hb hr hml hown ht hk hP hQ hV hl
  have hK := hQ.1
  have hown : s.vm.findClass RX7 = some m.cls := hown
  have hl : lv_has ls 2 [(0, .ref (a0 0)), (1, .int x1)] := hl
  have hP : va_P D vwCl [((a0 0), .inr (6, [.ref (a0 1), .ref (a0 2), .int (s0.1 0), .ref (a0 3), .ref (a0 5), .ref (a0 4), .long s0.2.1, .int (s0.1 1), .int (s0.1 2), .ref (a0 6), .int (s0.1 3), .int (s0.1 4), .ref (a0 7), .int (s0.1 5), .int (s0.1 6), .int (s0.1 7), .int (s0.1 8), .int (s0.1 9), .int (s0.1 10), .int (s0.1 11), .int (s0.1 12), .int (s0.1 13), .int (s0.1 14)])), ((a0 1), .inl (q 1, 6896, .inr (.inl (s0.2.2.1 0)))), ((a0 2), .inl (q 1, 68960, .inr (.inl (s0.2.2.1 1)))), ((a0 3), .inl (q 1, 13792, .inr (.inl (s0.2.2.1 2)))), ((a0 4), .inl (q 1, 6896, .inr (.inl (s0.2.2.1 3)))), ((a0 5), .inl (q 3, 2, .inl (s0.2.2.2 0))), ((a0 6), .inl (q 0, 40, .inl (s0.2.2.2 1))), ((a0 7), .inl (q 2, 400, .inl (s0.2.2.2 2)))] s.heap := hP
  unfold wp_X7_wornOf at h
  refine lv_aload_n hx hb dX7_wornOf_0 rfl (lv_at hl 0 rfl) ?_
  refine fl_get (C := RX7) (T := TX7) (N := 23) (ci := 6) (v := .ref (a0 1)) hx hb ht in_X7 hown hK hP 0 rfl rfl 0 (by decide) mw_1130 rfl dX7_wornOf_1 ?_
  refine lv_sipush (v := 176) hx hb dX7_wornOf_4 (by decide) ?_
  refine lv_bipush (v := 8) hx hb dX7_wornOf_7 (by decide) ?_
  refine lv_iload_n hx hb dX7_wornOf_9 rfl (lv_at hl 1 rfl) ?_
  refine lv_imul hx hb dX7_wornOf_10 ?_
  refine lv_iadd hx hb dX7_wornOf_11 ?_
  refine lv_bipush (v := 7) hx hb dX7_wornOf_12 (by decide) ?_
  refine lv_iadd hx hb dX7_wornOf_14 ?_
  obtain ⟨g_1, h⟩ := h
  refine va_lald hx hb hK hP 1 1 rfl rfl g_1 dX7_wornOf_15 ?_
  exact rd_lret hx hb hr hk h dX7_wornOf_16

def wp_X7_currentOf (post : Int32 → Prop) (s0 : Md) (x1 : Int32) : Prop := vp_in (8 + (42 * x1)) 6896 ∧ post (Int64.toInt32 ((s0.2.2.1 0) (Int32.toNatClampNeg (8 + (42 * x1)))))
set_option maxHeartbeats 4000000 in
set_option maxRecDepth 100000 in
theorem c2_X7_currentOf {l : Launch} {D : va_G} {q : Nat → ClassId} {a0 : Nat → Nat} {s0 : Md} {x1 : Int32} {post : Int32 → Prop} (h : wp_X7_currentOf post s0 x1) : Met l yX7_currentOf (Cond.code yX7_currentOf cX7_currentOf 2 (some .int) :: w_all) ({ frames := 0, cells := 0, slots := 0, locals := 0 } : Room) (rd_P D q [.ref (a0 0), .int x1] (md_v a0 q s0)) (vp_Si post) 0 0 (fun _ => False) := by
  refine rd_start (by decide) (Nat.le_of_ble_eq_true rfl) ?_
  intro p e s m below meth c ls hx hb hr hml hown ht hk hP hQ hV hl
  have hK := hQ.1
  have hown : s.vm.findClass RX7 = some m.cls := hown
  have hl : lv_has ls 2 [(0, .ref (a0 0)), (1, .int x1)] := hl
  have hP : va_P D vwCl [((a0 0), .inr (6, [.ref (a0 1), .ref (a0 2), .int (s0.1 0), .ref (a0 3), .ref (a0 5), .ref (a0 4), .long s0.2.1, .int (s0.1 1), .int (s0.1 2), .ref (a0 6), .int (s0.1 3), .int (s0.1 4), .ref (a0 7), .int (s0.1 5), .int (s0.1 6), .int (s0.1 7), .int (s0.1 8), .int (s0.1 9), .int (s0.1 10), .int (s0.1 11), .int (s0.1 12), .int (s0.1 13), .int (s0.1 14)])), ((a0 1), .inl (q 1, 6896, .inr (.inl (s0.2.2.1 0)))), ((a0 2), .inl (q 1, 68960, .inr (.inl (s0.2.2.1 1)))), ((a0 3), .inl (q 1, 13792, .inr (.inl (s0.2.2.1 2)))), ((a0 4), .inl (q 1, 6896, .inr (.inl (s0.2.2.1 3)))), ((a0 5), .inl (q 3, 2, .inl (s0.2.2.2 0))), ((a0 6), .inl (q 0, 40, .inl (s0.2.2.2 1))), ((a0 7), .inl (q 2, 400, .inl (s0.2.2.2 2)))] s.heap := hP
  unfold wp_X7_currentOf at h
  refine lv_aload_n hx hb dX7_currentOf_0 rfl (lv_at hl 0 rfl) ?_
  refine fl_get (C := RX7) (T := TX7) (N := 23) (ci := 6) (v := .ref (a0 1)) hx hb ht in_X7 hown hK hP 0 rfl rfl 0 (by decide) mw_1130 rfl dX7_currentOf_1 ?_
  refine lv_bipush (v := 8) hx hb dX7_currentOf_4 (by decide) ?_
  refine lv_bipush (v := 42) hx hb dX7_currentOf_6 (by decide) ?_
  refine lv_iload_n hx hb dX7_currentOf_8 rfl (lv_at hl 1 rfl) ?_
  refine lv_imul hx hb dX7_currentOf_9 ?_
  refine lv_iadd hx hb dX7_currentOf_10 ?_
  obtain ⟨g_1, h⟩ := h
  refine va_lald hx hb hK hP 1 1 rfl rfl g_1 dX7_currentOf_11 ?_
  refine lv_l2i (v := (Int64.toInt32 ((s0.2.2.1 0) (Int32.toNatClampNeg (8 + (42 * x1)))))) hx hb dX7_currentOf_12 rfl ?_
  exact rd_iret hx hb hr hk h dX7_currentOf_13

def wp_X7_flapsOf (post : Int32 → Prop) (s0 : Md) (x1 : Int32) : Prop := vp_in ((8 + (42 * x1)) + 1) 6896 ∧ post (Int64.toInt32 ((s0.2.2.1 0) (Int32.toNatClampNeg ((8 + (42 * x1)) + 1))))
set_option maxHeartbeats 4000000 in
set_option maxRecDepth 100000 in
theorem c2_X7_flapsOf {l : Launch} {D : va_G} {q : Nat → ClassId} {a0 : Nat → Nat} {s0 : Md} {x1 : Int32} {post : Int32 → Prop} (h : wp_X7_flapsOf post s0 x1) : Met l yX7_flapsOf (Cond.code yX7_flapsOf cX7_flapsOf 2 (some .int) :: w_all) ({ frames := 0, cells := 0, slots := 0, locals := 0 } : Room) (rd_P D q [.ref (a0 0), .int x1] (md_v a0 q s0)) (vp_Si post) 0 0 (fun _ => False) := by
  refine rd_start (by decide) (Nat.le_of_ble_eq_true rfl) ?_
  intro p e s m below meth c ls hx hb hr hml hown ht hk hP hQ hV hl
  have hK := hQ.1
  have hown : s.vm.findClass RX7 = some m.cls := hown
  have hl : lv_has ls 2 [(0, .ref (a0 0)), (1, .int x1)] := hl
  have hP : va_P D vwCl [((a0 0), .inr (6, [.ref (a0 1), .ref (a0 2), .int (s0.1 0), .ref (a0 3), .ref (a0 5), .ref (a0 4), .long s0.2.1, .int (s0.1 1), .int (s0.1 2), .ref (a0 6), .int (s0.1 3), .int (s0.1 4), .ref (a0 7), .int (s0.1 5), .int (s0.1 6), .int (s0.1 7), .int (s0.1 8), .int (s0.1 9), .int (s0.1 10), .int (s0.1 11), .int (s0.1 12), .int (s0.1 13), .int (s0.1 14)])), ((a0 1), .inl (q 1, 6896, .inr (.inl (s0.2.2.1 0)))), ((a0 2), .inl (q 1, 68960, .inr (.inl (s0.2.2.1 1)))), ((a0 3), .inl (q 1, 13792, .inr (.inl (s0.2.2.1 2)))), ((a0 4), .inl (q 1, 6896, .inr (.inl (s0.2.2.1 3)))), ((a0 5), .inl (q 3, 2, .inl (s0.2.2.2 0))), ((a0 6), .inl (q 0, 40, .inl (s0.2.2.2 1))), ((a0 7), .inl (q 2, 400, .inl (s0.2.2.2 2)))] s.heap := hP
  unfold wp_X7_flapsOf at h
  refine lv_aload_n hx hb dX7_flapsOf_0 rfl (lv_at hl 0 rfl) ?_
  refine fl_get (C := RX7) (T := TX7) (N := 23) (ci := 6) (v := .ref (a0 1)) hx hb ht in_X7 hown hK hP 0 rfl rfl 0 (by decide) mw_1130 rfl dX7_flapsOf_1 ?_
  refine lv_bipush (v := 8) hx hb dX7_flapsOf_4 (by decide) ?_
  refine lv_bipush (v := 42) hx hb dX7_flapsOf_6 (by decide) ?_
  refine lv_iload_n hx hb dX7_flapsOf_8 rfl (lv_at hl 1 rfl) ?_
  refine lv_imul hx hb dX7_flapsOf_9 ?_
  refine lv_iadd hx hb dX7_flapsOf_10 ?_
  refine lv_iconst (v := 1) hx hb dX7_flapsOf_11 (by decide) ?_
  refine lv_iadd hx hb dX7_flapsOf_12 ?_
  obtain ⟨g_1, h⟩ := h
  refine va_lald hx hb hK hP 1 1 rfl rfl g_1 dX7_flapsOf_13 ?_
  refine lv_l2i (v := (Int64.toInt32 ((s0.2.2.1 0) (Int32.toNatClampNeg ((8 + (42 * x1)) + 1))))) hx hb dX7_flapsOf_14 rfl ?_
  exact rd_iret hx hb hr hk h dX7_flapsOf_15

def wp_X7_signOf (post : Int32 → Prop) (s0 : Md) (x1 : Int32) (x2 : Int32) : Prop := vp_in (((8 + (42 * x1)) + 2) + x2) 6896 ∧ post (Int64.toInt32 ((s0.2.2.1 0) (Int32.toNatClampNeg (((8 + (42 * x1)) + 2) + x2))))
set_option maxHeartbeats 4000000 in
set_option maxRecDepth 100000 in
theorem c2_X7_signOf {l : Launch} {D : va_G} {q : Nat → ClassId} {a0 : Nat → Nat} {s0 : Md} {x1 : Int32} {x2 : Int32} {post : Int32 → Prop} (h : wp_X7_signOf post s0 x1 x2) : Met l yX7_signOf (Cond.code yX7_signOf cX7_signOf 3 (some .int) :: w_all) ({ frames := 0, cells := 0, slots := 0, locals := 0 } : Room) (rd_P D q [.ref (a0 0), .int x1, .int x2] (md_v a0 q s0)) (vp_Si post) 0 0 (fun _ => False) := by
  refine rd_start (by decide) (Nat.le_of_ble_eq_true rfl) ?_
  intro p e s m below meth c ls hx hb hr hml hown ht hk hP hQ hV hl
  have hK := hQ.1
  have hown : s.vm.findClass RX7 = some m.cls := hown
  have hl : lv_has ls 3 [(0, .ref (a0 0)), (1, .int x1), (2, .int x2)] := hl
  have hP : va_P D vwCl [((a0 0), .inr (6, [.ref (a0 1), .ref (a0 2), .int (s0.1 0), .ref (a0 3), .ref (a0 5), .ref (a0 4), .long s0.2.1, .int (s0.1 1), .int (s0.1 2), .ref (a0 6), .int (s0.1 3), .int (s0.1 4), .ref (a0 7), .int (s0.1 5), .int (s0.1 6), .int (s0.1 7), .int (s0.1 8), .int (s0.1 9), .int (s0.1 10), .int (s0.1 11), .int (s0.1 12), .int (s0.1 13), .int (s0.1 14)])), ((a0 1), .inl (q 1, 6896, .inr (.inl (s0.2.2.1 0)))), ((a0 2), .inl (q 1, 68960, .inr (.inl (s0.2.2.1 1)))), ((a0 3), .inl (q 1, 13792, .inr (.inl (s0.2.2.1 2)))), ((a0 4), .inl (q 1, 6896, .inr (.inl (s0.2.2.1 3)))), ((a0 5), .inl (q 3, 2, .inl (s0.2.2.2 0))), ((a0 6), .inl (q 0, 40, .inl (s0.2.2.2 1))), ((a0 7), .inl (q 2, 400, .inl (s0.2.2.2 2)))] s.heap := hP
  unfold wp_X7_signOf at h
  refine lv_aload_n hx hb dX7_signOf_0 rfl (lv_at hl 0 rfl) ?_
  refine fl_get (C := RX7) (T := TX7) (N := 23) (ci := 6) (v := .ref (a0 1)) hx hb ht in_X7 hown hK hP 0 rfl rfl 0 (by decide) mw_1130 rfl dX7_signOf_1 ?_
  refine lv_bipush (v := 8) hx hb dX7_signOf_4 (by decide) ?_
  refine lv_bipush (v := 42) hx hb dX7_signOf_6 (by decide) ?_
  refine lv_iload_n hx hb dX7_signOf_8 rfl (lv_at hl 1 rfl) ?_
  refine lv_imul hx hb dX7_signOf_9 ?_
  refine lv_iadd hx hb dX7_signOf_10 ?_
  refine lv_iconst (v := 2) hx hb dX7_signOf_11 (by decide) ?_
  refine lv_iadd hx hb dX7_signOf_12 ?_
  refine lv_iload_n hx hb dX7_signOf_13 rfl (lv_at hl 2 rfl) ?_
  refine lv_iadd hx hb dX7_signOf_14 ?_
  obtain ⟨g_1, h⟩ := h
  refine va_lald hx hb hK hP 1 1 rfl rfl g_1 dX7_signOf_15 ?_
  refine lv_l2i (v := (Int64.toInt32 ((s0.2.2.1 0) (Int32.toNatClampNeg (((8 + (42 * x1)) + 2) + x2))))) hx hb dX7_signOf_16 rfl ?_
  exact rd_iret hx hb hr hk h dX7_signOf_17

def wp_X7_flaps (post : Int32 → Prop) (s0 : Md) (x1 : Int32) : Prop := wp_X7_of (fun r_1 => wp_X7_flapsOf (fun r_3 => post r_3) s0 r_1) s0 x1 (0 : Int32)
set_option maxHeartbeats 4000000 in
set_option maxRecDepth 100000 in
theorem c2_X7_flaps {l : Launch} {D : va_G} {q : Nat → ClassId} {a0 : Nat → Nat} {s0 : Md} {x1 : Int32} {post : Int32 → Prop} (h : wp_X7_flaps post s0 x1) : Met l yX7_flaps (Cond.code yX7_flaps cX7_flaps 2 (some .int) :: w_all) ({ frames := 1, cells := 0, slots := 0, locals := 22 } : Room) (rd_P D q [.ref (a0 0), .int x1] (md_v a0 q s0)) (vp_Si post) 0 0 (fun _ => False) := by
  refine rd_start (by decide) (Nat.le_of_ble_eq_true rfl) ?_
  intro p e s m below meth c ls hx hb hr hml hown ht hk hP hQ hV hl
  have hK := hQ.1
  have hown : s.vm.findClass RX7 = some m.cls := hown
  have hl : lv_has ls 2 [(0, .ref (a0 0)), (1, .int x1)] := hl
  have hP : va_P D vwCl [((a0 0), .inr (6, [.ref (a0 1), .ref (a0 2), .int (s0.1 0), .ref (a0 3), .ref (a0 5), .ref (a0 4), .long s0.2.1, .int (s0.1 1), .int (s0.1 2), .ref (a0 6), .int (s0.1 3), .int (s0.1 4), .ref (a0 7), .int (s0.1 5), .int (s0.1 6), .int (s0.1 7), .int (s0.1 8), .int (s0.1 9), .int (s0.1 10), .int (s0.1 11), .int (s0.1 12), .int (s0.1 13), .int (s0.1 14)])), ((a0 1), .inl (q 1, 6896, .inr (.inl (s0.2.2.1 0)))), ((a0 2), .inl (q 1, 68960, .inr (.inl (s0.2.2.1 1)))), ((a0 3), .inl (q 1, 13792, .inr (.inl (s0.2.2.1 2)))), ((a0 4), .inl (q 1, 6896, .inr (.inl (s0.2.2.1 3)))), ((a0 5), .inl (q 3, 2, .inl (s0.2.2.2 0))), ((a0 6), .inl (q 0, 40, .inl (s0.2.2.2 1))), ((a0 7), .inl (q 2, 400, .inl (s0.2.2.2 2)))] s.heap := hP
  unfold wp_X7_flaps at h
  refine lv_aload_n hx hb dX7_flaps_0 rfl (lv_at hl 0 rfl) ?_
  refine lv_aload_n hx hb dX7_flaps_1 rfl (lv_at hl 0 rfl) ?_
  refine lv_iload_n hx hb dX7_flaps_2 rfl (lv_at hl 1 rfl) ?_
  refine lv_iconst (v := 0) hx hb dX7_flaps_3 (by decide) ?_
  refine vp_callSi (rd_wV (wc := md_v a0 q s0) (As := [.int x1, .int 0]) (rest := [.ref (a0 0)]) hx hb hml hown ht (c2_X7_of h) wd_X7_of mw_1249 hQ hV va_S.rf (hP.sub [0, 1, 2, 3, 4, 5, 6, 7] rfl) rfl rfl rfl hl.1 rfl (Nat.le_of_ble_eq_true rfl) dX7_flaps_4 ⟨Nat.le_of_ble_eq_true rfl, Nat.le_of_ble_eq_true rfl, rfl, rfl⟩ ⟨Nat.le_of_ble_eq_true rfl, Nat.le_of_ble_eq_true rfl⟩) (fun r_1 h => ?_)
  try dsimp only at h
  refine vp_callSi (rd_wV (wc := md_v a0 q s0) (As := [.int r_1]) (rest := []) hx hb hml hown ht (c2_X7_flapsOf h) wd_X7_flapsOf mw_1253 hQ hV va_S.rf (hP.sub [0, 1, 2, 3, 4, 5, 6, 7] rfl) rfl rfl rfl hl.1 rfl (Nat.le_of_ble_eq_true rfl) dX7_flaps_7 ⟨Nat.le_of_ble_eq_true rfl, Nat.le_of_ble_eq_true rfl, rfl, rfl⟩ ⟨Nat.le_of_ble_eq_true rfl, Nat.le_of_ble_eq_true rfl⟩) (fun r_3 h => ?_)
  try dsimp only at h
  exact rd_iret hx hb hr hk h dX7_flaps_10

def wp_X7_current (post : Int32 → Prop) (s0 : Md) (x1 : Int32) : Prop := wp_X7_of (fun r_1 => wp_X7_currentOf (fun r_3 => post r_3) s0 r_1) s0 x1 (0 : Int32)
set_option maxHeartbeats 4000000 in
set_option maxRecDepth 100000 in
theorem c2_X7_current {l : Launch} {D : va_G} {q : Nat → ClassId} {a0 : Nat → Nat} {s0 : Md} {x1 : Int32} {post : Int32 → Prop} (h : wp_X7_current post s0 x1) : Met l yX7_current (Cond.code yX7_current cX7_current 2 (some .int) :: w_all) ({ frames := 1, cells := 0, slots := 0, locals := 22 } : Room) (rd_P D q [.ref (a0 0), .int x1] (md_v a0 q s0)) (vp_Si post) 0 0 (fun _ => False) := by
  refine rd_start (by decide) (Nat.le_of_ble_eq_true rfl) ?_
  intro p e s m below meth c ls hx hb hr hml hown ht hk hP hQ hV hl
  have hK := hQ.1
  have hown : s.vm.findClass RX7 = some m.cls := hown
  have hl : lv_has ls 2 [(0, .ref (a0 0)), (1, .int x1)] := hl
  have hP : va_P D vwCl [((a0 0), .inr (6, [.ref (a0 1), .ref (a0 2), .int (s0.1 0), .ref (a0 3), .ref (a0 5), .ref (a0 4), .long s0.2.1, .int (s0.1 1), .int (s0.1 2), .ref (a0 6), .int (s0.1 3), .int (s0.1 4), .ref (a0 7), .int (s0.1 5), .int (s0.1 6), .int (s0.1 7), .int (s0.1 8), .int (s0.1 9), .int (s0.1 10), .int (s0.1 11), .int (s0.1 12), .int (s0.1 13), .int (s0.1 14)])), ((a0 1), .inl (q 1, 6896, .inr (.inl (s0.2.2.1 0)))), ((a0 2), .inl (q 1, 68960, .inr (.inl (s0.2.2.1 1)))), ((a0 3), .inl (q 1, 13792, .inr (.inl (s0.2.2.1 2)))), ((a0 4), .inl (q 1, 6896, .inr (.inl (s0.2.2.1 3)))), ((a0 5), .inl (q 3, 2, .inl (s0.2.2.2 0))), ((a0 6), .inl (q 0, 40, .inl (s0.2.2.2 1))), ((a0 7), .inl (q 2, 400, .inl (s0.2.2.2 2)))] s.heap := hP
  unfold wp_X7_current at h
  refine lv_aload_n hx hb dX7_current_0 rfl (lv_at hl 0 rfl) ?_
  refine lv_aload_n hx hb dX7_current_1 rfl (lv_at hl 0 rfl) ?_
  refine lv_iload_n hx hb dX7_current_2 rfl (lv_at hl 1 rfl) ?_
  refine lv_iconst (v := 0) hx hb dX7_current_3 (by decide) ?_
  refine vp_callSi (rd_wV (wc := md_v a0 q s0) (As := [.int x1, .int 0]) (rest := [.ref (a0 0)]) hx hb hml hown ht (c2_X7_of h) wd_X7_of mw_1249 hQ hV va_S.rf (hP.sub [0, 1, 2, 3, 4, 5, 6, 7] rfl) rfl rfl rfl hl.1 rfl (Nat.le_of_ble_eq_true rfl) dX7_current_4 ⟨Nat.le_of_ble_eq_true rfl, Nat.le_of_ble_eq_true rfl, rfl, rfl⟩ ⟨Nat.le_of_ble_eq_true rfl, Nat.le_of_ble_eq_true rfl⟩) (fun r_1 h => ?_)
  try dsimp only at h
  refine vp_callSi (rd_wV (wc := md_v a0 q s0) (As := [.int r_1]) (rest := []) hx hb hml hown ht (c2_X7_currentOf h) wd_X7_currentOf mw_1320 hQ hV va_S.rf (hP.sub [0, 1, 2, 3, 4, 5, 6, 7] rfl) rfl rfl rfl hl.1 rfl (Nat.le_of_ble_eq_true rfl) dX7_current_7 ⟨Nat.le_of_ble_eq_true rfl, Nat.le_of_ble_eq_true rfl, rfl, rfl⟩ ⟨Nat.le_of_ble_eq_true rfl, Nat.le_of_ble_eq_true rfl⟩) (fun r_3 h => ?_)
  try dsimp only at h
  exact rd_iret hx hb hr hk h dX7_current_10

def wp_X7_on (post : Int32 → Prop) (x0 : Int32) (x1 : Int32) (x2 : Int32) : Prop := ¬ x2 = 0 ∧ post (((x1 - x0) + x2) - ((x1 - x0) + x2) / x2 * x2)
set_option maxHeartbeats 4000000 in
set_option maxRecDepth 100000 in
theorem c2_X7_on {l : Launch} {D : va_G} {q : Nat → ClassId} {x0 : Int32} {x1 : Int32} {x2 : Int32} {post : Int32 → Prop} (h : wp_X7_on post x0 x1 x2) : Met l yX7_on (Cond.code yX7_on cX7_on 3 (some .int) :: w_all) ({ frames := 0, cells := 0, slots := 0, locals := 0 } : Room) (rd_P D q [.int x0, .int x1, .int x2] (([] : va_W))) (vp_Si post) 0 0 (fun _ => False) := by
  refine rd_start (by decide) (Nat.le_of_ble_eq_true rfl) ?_
  intro p e s m below meth c ls hx hb hr hml hown ht hk hP hQ hV hl
  have hK := hQ.1
  have hown : s.vm.findClass RX7 = some m.cls := hown
  have hl : lv_has ls 3 [(0, .int x0), (1, .int x1), (2, .int x2)] := hl
  unfold wp_X7_on at h
  refine lv_iload_n hx hb dX7_on_0 rfl (lv_at hl 1 rfl) ?_
  refine lv_iload_n hx hb dX7_on_1 rfl (lv_at hl 0 rfl) ?_
  refine lv_isub hx hb dX7_on_2 ?_
  refine lv_iload_n hx hb dX7_on_3 rfl (lv_at hl 2 rfl) ?_
  refine lv_iadd hx hb dX7_on_4 ?_
  refine lv_iload_n hx hb dX7_on_5 rfl (lv_at hl 2 rfl) ?_
  obtain ⟨g_1, h⟩ := h
  refine lv_irem hx hb dX7_on_6 g_1 ?_
  exact rd_iret hx hb hr hk h dX7_on_7

def wp_X7_leftOf (post : Int32 → Prop) (s0 : Md) (x1 : Int32) : Prop := wp_X7_of (fun r_1 => wp_X7_of (fun r_3 => wp_X7_flaps (fun r_5 => wp_X7_on (fun r_7 => post r_7) r_1 r_3 r_5) s0 x1) s0 x1 (3 : Int32)) s0 x1 (2 : Int32)
set_option maxHeartbeats 4000000 in
set_option maxRecDepth 100000 in
theorem c2_X7_leftOf {l : Launch} {D : va_G} {q : Nat → ClassId} {a0 : Nat → Nat} {s0 : Md} {x1 : Int32} {post : Int32 → Prop} (h : wp_X7_leftOf post s0 x1) : Met l yX7_leftOf (Cond.code yX7_leftOf cX7_leftOf 2 (some .int) :: w_all) ({ frames := 2, cells := 0, slots := 0, locals := 43 } : Room) (rd_P D q [.ref (a0 0), .int x1] (md_v a0 q s0)) (vp_Si post) 0 0 (fun _ => False) := by
  refine rd_start (by decide) (Nat.le_of_ble_eq_true rfl) ?_
  intro p e s m below meth c ls hx hb hr hml hown ht hk hP hQ hV hl
  have hK := hQ.1
  have hown : s.vm.findClass RX7 = some m.cls := hown
  have hl : lv_has ls 2 [(0, .ref (a0 0)), (1, .int x1)] := hl
  have hP : va_P D vwCl [((a0 0), .inr (6, [.ref (a0 1), .ref (a0 2), .int (s0.1 0), .ref (a0 3), .ref (a0 5), .ref (a0 4), .long s0.2.1, .int (s0.1 1), .int (s0.1 2), .ref (a0 6), .int (s0.1 3), .int (s0.1 4), .ref (a0 7), .int (s0.1 5), .int (s0.1 6), .int (s0.1 7), .int (s0.1 8), .int (s0.1 9), .int (s0.1 10), .int (s0.1 11), .int (s0.1 12), .int (s0.1 13), .int (s0.1 14)])), ((a0 1), .inl (q 1, 6896, .inr (.inl (s0.2.2.1 0)))), ((a0 2), .inl (q 1, 68960, .inr (.inl (s0.2.2.1 1)))), ((a0 3), .inl (q 1, 13792, .inr (.inl (s0.2.2.1 2)))), ((a0 4), .inl (q 1, 6896, .inr (.inl (s0.2.2.1 3)))), ((a0 5), .inl (q 3, 2, .inl (s0.2.2.2 0))), ((a0 6), .inl (q 0, 40, .inl (s0.2.2.2 1))), ((a0 7), .inl (q 2, 400, .inl (s0.2.2.2 2)))] s.heap := hP
  unfold wp_X7_leftOf at h
  refine lv_aload_n hx hb dX7_leftOf_0 rfl (lv_at hl 0 rfl) ?_
  refine lv_iload_n hx hb dX7_leftOf_1 rfl (lv_at hl 1 rfl) ?_
  refine lv_iconst (v := 2) hx hb dX7_leftOf_2 (by decide) ?_
  refine vp_callSi (rd_wV (wc := md_v a0 q s0) (As := [.int x1, .int 2]) (rest := []) hx hb hml hown ht (c2_X7_of h) wd_X7_of mw_1249 hQ hV va_S.rf (hP.sub [0, 1, 2, 3, 4, 5, 6, 7] rfl) rfl rfl rfl hl.1 rfl (Nat.le_of_ble_eq_true rfl) dX7_leftOf_3 ⟨Nat.le_of_ble_eq_true rfl, Nat.le_of_ble_eq_true rfl, rfl, rfl⟩ ⟨Nat.le_of_ble_eq_true rfl, Nat.le_of_ble_eq_true rfl⟩) (fun r_1 h => ?_)
  try dsimp only at h
  refine lv_aload_n hx hb dX7_leftOf_6 rfl (lv_at hl 0 rfl) ?_
  refine lv_iload_n hx hb dX7_leftOf_7 rfl (lv_at hl 1 rfl) ?_
  refine lv_iconst (v := 3) hx hb dX7_leftOf_8 (by decide) ?_
  refine vp_callSi (rd_wV (wc := md_v a0 q s0) (As := [.int x1, .int 3]) (rest := [.int r_1]) hx hb hml hown ht (c2_X7_of h) wd_X7_of mw_1249 hQ hV va_S.rf (hP.sub [0, 1, 2, 3, 4, 5, 6, 7] rfl) rfl rfl rfl hl.1 rfl (Nat.le_of_ble_eq_true rfl) dX7_leftOf_9 ⟨Nat.le_of_ble_eq_true rfl, Nat.le_of_ble_eq_true rfl, rfl, rfl⟩ ⟨Nat.le_of_ble_eq_true rfl, Nat.le_of_ble_eq_true rfl⟩) (fun r_3 h => ?_)
  try dsimp only at h
  refine lv_aload_n hx hb dX7_leftOf_12 rfl (lv_at hl 0 rfl) ?_
  refine lv_iload_n hx hb dX7_leftOf_13 rfl (lv_at hl 1 rfl) ?_
  refine vp_callSi (rd_wV (wc := md_v a0 q s0) (As := [.int x1]) (rest := [.int r_3, .int r_1]) hx hb hml hown ht (c2_X7_flaps h) wd_X7_flaps mw_1245 hQ hV va_S.rf (hP.sub [0, 1, 2, 3, 4, 5, 6, 7] rfl) rfl rfl rfl hl.1 rfl (Nat.le_of_ble_eq_true rfl) dX7_leftOf_14 ⟨Nat.le_of_ble_eq_true rfl, Nat.le_of_ble_eq_true rfl, rfl, rfl⟩ ⟨Nat.le_of_ble_eq_true rfl, Nat.le_of_ble_eq_true rfl⟩) (fun r_5 h => ?_)
  try dsimp only at h
  refine vp_callSi (rd_wS (wc := ([] : va_W)) (As := [.int r_1, .int r_3, .int r_5]) (rest := []) hx hb hml hown ht (c2_X7_on h) wd_X7_on mw_1268 hQ hV va_S.rf (hP.sub [] rfl) rfl hl.1 rfl (Nat.le_of_ble_eq_true rfl) dX7_leftOf_17 ⟨Nat.le_of_ble_eq_true rfl, Nat.le_of_ble_eq_true rfl, rfl, rfl⟩ ⟨Nat.le_of_ble_eq_true rfl, Nat.le_of_ble_eq_true rfl⟩) (fun r_7 h => ?_)
  try dsimp only at h
  exact rd_iret hx hb hr hk h dX7_leftOf_20

def wp_X7_bits_L4 (post : Int32 → Prop) (e32 : Int64 → Int32 → Int32 → Prop) : Nat → Int64 → Int32 → Int32 → Prop
  | 0, _, _, _ => False
  | n4 + 1, w0, z2, z3 => ((64 ≤ z3 → e32 w0 z2 z3) ∧ (¬ 64 ≤ z3 → wp_X7_isIn (fun r_2 => ((r_2 = 0 → wp_X7_bits_L4 post e32 n4 w0 (z2 + 0) (z3 + 1)) ∧ (¬ r_2 = 0 → wp_X7_bits_L4 post e32 n4 w0 (z2 + 1) (z3 + 1)))) w0 z3))
def wp_X7_bits (post : Int32 → Prop) (y0 : Int64) : Prop := (∃ n4, wp_X7_bits_L4 post (fun w0 z2 z3 => post z2) n4 y0 0 0)
set_option maxHeartbeats 4000000 in
set_option maxRecDepth 100000 in
theorem c2_X7_bits {l : Launch} {D : va_G} {q : Nat → ClassId} {y0 : Int64} {post : Int32 → Prop} (h : wp_X7_bits post y0) : Met l yX7_bits (Cond.code yX7_bits cX7_bits 4 (some .int) :: w_all) ({ frames := 1, cells := 0, slots := 0, locals := 22 } : Room) (rd_P D q [.long y0] (([] : va_W))) (vp_Si post) 0 0 (fun _ => False) := by
  refine rd_start (by decide) (Nat.le_of_ble_eq_true rfl) ?_
  intro p e s m below meth c ls hx hb hr hml hown ht hk hP hQ hV hl
  have hK := hQ.1
  have hown : s.vm.findClass RX7 = some m.cls := hown
  have hl : lv_has ls 4 [(0, .long y0)] := hl
  unfold wp_X7_bits at h
  refine lv_iconst (v := 0) hx hb dX7_bits_0 (by decide) ?_
  refine lv_istore_n (lv' := [(2, .int 0), (0, .long y0)]) hx hb dX7_bits_1 rfl hl (by decide) rfl (fun ls hl => ?_)
  refine lv_iconst (v := 0) hx hb dX7_bits_2 (by decide) ?_
  refine lv_istore_n (lv' := [(3, .int 0), (2, .int 0), (0, .long y0)]) hx hb dX7_bits_3 rfl hl (by decide) rfl (fun ls hl => ?_)
  have lp4 : ∀ (e32 : Int64 → Int32 → Int32 → Prop) (k32 : ∀ (w0 : Int64) (z2 : Int32) (z3 : Int32) (ls : Array Slot), e32 w0 z2 z3 → lv_has ls 4 [(0, .long w0), (2, .int z2), (3, .int z3)] → W p l e ({ frames := 1, cells := 0, slots := 0, locals := 22 } : Room) s m [.long y0].toArray below meth c s.heap [] 0 0 (MQ below (vp_Si post) [.long y0].toArray s 0 0 (fun _ => False)) (F0 m 32 ls [])) (n : Nat) (w0 : Int64) (z2 : Int32) (z3 : Int32) (ls : Array Slot), wp_X7_bits_L4 post e32 n w0 z2 z3 → lv_has ls 4 [(0, .long w0), (2, .int z2), (3, .int z3)] → W p l e ({ frames := 1, cells := 0, slots := 0, locals := 22 } : Room) s m [.long y0].toArray below meth c s.heap [] 0 0 (MQ below (vp_Si post) [.long y0].toArray s 0 0 (fun _ => False)) (F0 m 4 ls []) := by
    intro e32 k32 n
    induction n with
    | zero =>
      intro w0 z2 z3 ls h
      exact h.elim
    | succ n ih =>
      intro w0 z2 z3 ls h hl
      unfold wp_X7_bits_L4 at h
      refine lv_iload_n hx hb dX7_bits_4 rfl (lv_at hl 2 rfl) ?_
      refine lv_bipush (v := 64) hx hb dX7_bits_5 (by decide) ?_
      refine lv_icmp_ge (tgt := 32) hx hb dX7_bits_7 (by decide) (fun c_1 => ?_) (fun c_1 => ?_)
      · replace h := h.1 c_1
        exact k32 _ _ _ ls h (lv_sub hl [0, 1, 2] rfl)
      · replace h := h.2 c_1
        refine lv_iload_n hx hb dX7_bits_10 rfl (lv_at hl 1 rfl) ?_
        refine lv_lload_n hx hb dX7_bits_11 rfl (lv_at hl 0 rfl) ?_
        refine lv_iload_n hx hb dX7_bits_12 rfl (lv_at hl 2 rfl) ?_
        refine vp_callSi (rd_wS (wc := ([] : va_W)) (As := [.long w0, .int z3]) (rest := [.int z2]) hx hb hml hown ht (c2_X7_isIn h) wd_X7_isIn mw_1265 hQ hV va_S.rf (hP.sub [] rfl) rfl hl.1 rfl (Nat.le_of_ble_eq_true rfl) dX7_bits_13 ⟨Nat.le_of_ble_eq_true rfl, Nat.le_of_ble_eq_true rfl, rfl, rfl⟩ ⟨Nat.le_of_ble_eq_true rfl, Nat.le_of_ble_eq_true rfl⟩) (fun r_2 h => ?_)
        try dsimp only at h
        refine lv_if_eq (tgt := 23) hx hb dX7_bits_16 (by decide) (fun c_4 => ?_) (fun c_4 => ?_)
        · replace h := h.1 c_4
          refine lv_iconst (v := 0) hx hb dX7_bits_23 (by decide) ?_
          refine lv_iadd hx hb dX7_bits_24 ?_
          refine lv_istore_n (lv' := [(2, .int (z2 + 0)), (0, .long w0), (3, .int z3)]) hx hb dX7_bits_25 rfl hl (by decide) rfl (fun ls hl => ?_)
          refine lv_iinc (v := (z3 + 1)) (lv' := [(3, .int (z3 + 1)), (2, .int (z2 + 0)), (0, .long w0)]) hx hb dX7_bits_26 hl (k := 2) rfl rfl (by decide) rfl (fun ls hl => ?_)
          refine lv_goto (tgt := 4) hx hb dX7_bits_29 (by decide) ?_
          exact ih _ _ _ ls h (lv_sub hl [2, 1, 0] rfl)
        · replace h := h.2 c_4
          refine lv_iconst (v := 1) hx hb dX7_bits_19 (by decide) ?_
          refine lv_goto (tgt := 24) hx hb dX7_bits_20 (by decide) ?_
          refine lv_iadd hx hb dX7_bits_24 ?_
          refine lv_istore_n (lv' := [(2, .int (z2 + 1)), (0, .long w0), (3, .int z3)]) hx hb dX7_bits_25 rfl hl (by decide) rfl (fun ls hl => ?_)
          refine lv_iinc (v := (z3 + 1)) (lv' := [(3, .int (z3 + 1)), (2, .int (z2 + 1)), (0, .long w0)]) hx hb dX7_bits_26 hl (k := 2) rfl rfl (by decide) rfl (fun ls hl => ?_)
          refine lv_goto (tgt := 4) hx hb dX7_bits_29 (by decide) ?_
          exact ih _ _ _ ls h (lv_sub hl [2, 1, 0] rfl)
  obtain ⟨n4, h⟩ := h
  refine lp4 _ ?_ n4 _ _ _ ls h (lv_sub hl [2, 1, 0] rfl)
  · intro w0 z2 z3 ls h hl
    try dsimp only at h
    refine lv_iload_n hx hb dX7_bits_32 rfl (lv_at hl 1 rfl) ?_
    exact rd_iret hx hb hr hk h dX7_bits_33

def wp_X7_steps (post : Md → Prop) (s0 : Md) (x1 : Int32) : Prop := wp_X7_of (fun r_1 => wp_X7_flaps (fun r_3 => ¬ r_3 = 0 ∧ wp_X7_sets (fun u_7 => wp_X7_of (fun r_8 => wp_X7_sets (fun u_11 => wp_X7_of (fun r_12 => ((r_12 ≤ 0 → wp_X7_of (fun r_15 => wp_X7_flaps (fun r_17 => ¬ r_17 = 0 ∧ wp_X7_sets (fun u_21 => wp_X7_of (fun r_22 => ((r_22 = 0 → wp_X7_of (fun r_25 => wp_X7_sets (fun u_28 => wp_X7_sets (fun u_30 => post u_30) (u_28.1, u_28.2.1, (va_up u_28.2.2.1 0 (vp_updL (u_28.2.2.1 0) (Int32.toNatClampNeg 7) (((u_28.2.2.1 0) (Int32.toNatClampNeg 7)) + (Int32.toInt64 ((r_1 + 1) - (r_1 + 1) / r_3 * r_3))))), u_28.2.2.2) x1 (2 : Int32) (0 : Int64)) u_21 x1 (6 : Int32) (Int32.toInt64 (r_25 + ((r_1 + 1) - (r_1 + 1) / r_3 * r_3)))) u_21 x1 (6 : Int32)) ∧ (¬ r_22 = 0 → post u_21))) u_21 x1 (1 : Int32)) (u_11.1, u_11.2.1, (va_up u_11.2.2.1 0 (vp_updL (u_11.2.2.1 0) (Int32.toNatClampNeg 6) (((u_11.2.2.1 0) (Int32.toNatClampNeg 6)) + 1))), u_11.2.2.2) x1 (1 : Int32) (Int32.toInt64 ((r_15 + 1) - (r_15 + 1) / r_17 * r_17))) (u_11.1, u_11.2.1, (va_up u_11.2.2.1 0 (vp_updL (u_11.2.2.1 0) (Int32.toNatClampNeg 6) (((u_11.2.2.1 0) (Int32.toNatClampNeg 6)) + 1))), u_11.2.2.2) x1) (u_11.1, u_11.2.1, (va_up u_11.2.2.1 0 (vp_updL (u_11.2.2.1 0) (Int32.toNatClampNeg 6) (((u_11.2.2.1 0) (Int32.toNatClampNeg 6)) + 1))), u_11.2.2.2) x1 (1 : Int32)) ∧ (¬ r_12 ≤ 0 → wp_X7_of (fun r_31 => wp_X7_sets (fun u_34 => post u_34) (u_11.1, u_11.2.1, (va_up u_11.2.2.1 0 (vp_updL (u_11.2.2.1 0) (Int32.toNatClampNeg 6) (((u_11.2.2.1 0) (Int32.toNatClampNeg 6)) + 1))), u_11.2.2.2) x1 (4 : Int32) (Int32.toInt64 (r_31 - 1))) (u_11.1, u_11.2.1, (va_up u_11.2.2.1 0 (vp_updL (u_11.2.2.1 0) (Int32.toNatClampNeg 6) (((u_11.2.2.1 0) (Int32.toNatClampNeg 6)) + 1))), u_11.2.2.2) x1 (4 : Int32)))) (u_11.1, u_11.2.1, (va_up u_11.2.2.1 0 (vp_updL (u_11.2.2.1 0) (Int32.toNatClampNeg 6) (((u_11.2.2.1 0) (Int32.toNatClampNeg 6)) + 1))), u_11.2.2.2) x1 (4 : Int32)) u_7 x1 (5 : Int32) (Int32.toInt64 (r_8 + 1))) u_7 x1 (5 : Int32)) s0 x1 (2 : Int32) (Int32.toInt64 ((r_1 + 1) - (r_1 + 1) / r_3 * r_3))) s0 x1) s0 x1 (2 : Int32)
set_option maxHeartbeats 4000000 in
set_option maxRecDepth 100000 in
theorem c2_X7_steps {l : Launch} {D : va_G} {q : Nat → ClassId} {sz : Nat} {a0 : Nat → Nat} {s0 : Md} {x1 : Int32} {post : Md → Prop} (h : wp_X7_steps post s0 x1) : Met l yX7_steps (Cond.code yX7_steps cX7_steps 3 none :: w_all) ({ frames := 2, cells := 0, slots := 0, locals := 43 } : Room) (mt_P D q [.ref (a0 0), .int x1] (md_v a0 q s0) sz) (va_Qv (fun u : Md => post u) (mt_B D (md_v a0 q s0) sz (fun u : Md => md_v a0 q u)) (va_A (md_v a0 q s0) sz)) 0 0 (va_A (md_v a0 q s0) sz) := by
  refine mt_start (by decide) (Nat.le_of_ble_eq_true rfl) ?_
  intro p e s m below meth c ls hx hb hr hml hown ht hk hin hP hQ hD hA hS hV hl
  have hK := hQ.1
  have hown : s.vm.findClass RX7 = some m.cls := hown
  have hl : lv_has ls 3 [(0, .ref (a0 0)), (1, .int x1)] := hl
  have hP : va_P D vwCl [((a0 0), .inr (6, [.ref (a0 1), .ref (a0 2), .int (s0.1 0), .ref (a0 3), .ref (a0 5), .ref (a0 4), .long s0.2.1, .int (s0.1 1), .int (s0.1 2), .ref (a0 6), .int (s0.1 3), .int (s0.1 4), .ref (a0 7), .int (s0.1 5), .int (s0.1 6), .int (s0.1 7), .int (s0.1 8), .int (s0.1 9), .int (s0.1 10), .int (s0.1 11), .int (s0.1 12), .int (s0.1 13), .int (s0.1 14)])), ((a0 1), .inl (q 1, 6896, .inr (.inl (s0.2.2.1 0)))), ((a0 2), .inl (q 1, 68960, .inr (.inl (s0.2.2.1 1)))), ((a0 3), .inl (q 1, 13792, .inr (.inl (s0.2.2.1 2)))), ((a0 4), .inl (q 1, 6896, .inr (.inl (s0.2.2.1 3)))), ((a0 5), .inl (q 3, 2, .inl (s0.2.2.2 0))), ((a0 6), .inl (q 0, 40, .inl (s0.2.2.2 1))), ((a0 7), .inl (q 2, 400, .inl (s0.2.2.2 2)))] s.heap := hP
  have hD : va_D _ [((a0 0), .inr (6, [.ref (a0 1), .ref (a0 2), .int (s0.1 0), .ref (a0 3), .ref (a0 5), .ref (a0 4), .long s0.2.1, .int (s0.1 1), .int (s0.1 2), .ref (a0 6), .int (s0.1 3), .int (s0.1 4), .ref (a0 7), .int (s0.1 5), .int (s0.1 6), .int (s0.1 7), .int (s0.1 8), .int (s0.1 9), .int (s0.1 10), .int (s0.1 11), .int (s0.1 12), .int (s0.1 13), .int (s0.1 14)])), ((a0 1), .inl (q 1, 6896, .inr (.inl (s0.2.2.1 0)))), ((a0 2), .inl (q 1, 68960, .inr (.inl (s0.2.2.1 1)))), ((a0 3), .inl (q 1, 13792, .inr (.inl (s0.2.2.1 2)))), ((a0 4), .inl (q 1, 6896, .inr (.inl (s0.2.2.1 3)))), ((a0 5), .inl (q 3, 2, .inl (s0.2.2.2 0))), ((a0 6), .inl (q 0, 40, .inl (s0.2.2.2 1))), ((a0 7), .inl (q 2, 400, .inl (s0.2.2.2 2)))] := hD
  unfold wp_X7_steps at h
  refine lv_aload_n hx hb dX7_steps_0 rfl (lv_at hl 0 rfl) ?_
  refine lv_iload_n hx hb dX7_steps_1 rfl (lv_at hl 1 rfl) ?_
  refine lv_iconst (v := 2) hx hb dX7_steps_2 (by decide) ?_
  refine vp_callSi (rd_wV (wc := md_v a0 q s0) (As := [.int x1, .int 2]) (rest := []) hx hb hml hown ht (c2_X7_of h) wd_X7_of mw_1249 hQ hV hS (hP.sub [0, 1, 2, 3, 4, 5, 6, 7] rfl) rfl rfl rfl hl.1 rfl (Nat.le_of_ble_eq_true rfl) dX7_steps_3 ⟨Nat.le_of_ble_eq_true rfl, Nat.le_of_ble_eq_true rfl, rfl, rfl⟩ ⟨Nat.le_of_ble_eq_true rfl, Nat.le_of_ble_eq_true rfl⟩) (fun r_1 h => ?_)
  try dsimp only at h
  refine lv_iconst (v := 1) hx hb dX7_steps_6 (by decide) ?_
  refine lv_iadd hx hb dX7_steps_7 ?_
  refine lv_aload_n hx hb dX7_steps_8 rfl (lv_at hl 0 rfl) ?_
  refine lv_iload_n hx hb dX7_steps_9 rfl (lv_at hl 1 rfl) ?_
  refine vp_callSi (rd_wV (wc := md_v a0 q s0) (As := [.int x1]) (rest := [.int (r_1 + 1)]) hx hb hml hown ht (c2_X7_flaps h) wd_X7_flaps mw_1245 hQ hV hS (hP.sub [0, 1, 2, 3, 4, 5, 6, 7] rfl) rfl rfl rfl hl.1 rfl (Nat.le_of_ble_eq_true rfl) dX7_steps_10 ⟨Nat.le_of_ble_eq_true rfl, Nat.le_of_ble_eq_true rfl, rfl, rfl⟩ ⟨Nat.le_of_ble_eq_true rfl, Nat.le_of_ble_eq_true rfl⟩) (fun r_3 h => ?_)
  try dsimp only at h
  obtain ⟨g_5, h⟩ := h
  refine lv_irem hx hb dX7_steps_13 g_5 ?_
  refine lv_istore_n (lv' := [(2, .int ((r_1 + 1) - (r_1 + 1) / r_3 * r_3)), (0, .ref (a0 0)), (1, .int x1)]) hx hb dX7_steps_14 rfl hl (by decide) rfl (fun ls hl => ?_)
  refine lv_aload_n hx hb dX7_steps_15 rfl (lv_at hl 1 rfl) ?_
  refine lv_iload_n hx hb dX7_steps_16 rfl (lv_at hl 2 rfl) ?_
  refine lv_iconst (v := 2) hx hb dX7_steps_17 (by decide) ?_
  refine lv_iload_n hx hb dX7_steps_18 rfl (lv_at hl 0 rfl) ?_
  refine lv_i2l (v := (Int32.toInt64 ((r_1 + 1) - (r_1 + 1) / r_3 * r_3))) hx hb dX7_steps_19 rfl ?_
  refine mt_gov (mt_wV (wc := md_v a0 q s0) (As := [.int x1, .int 2, .long (Int32.toInt64 ((r_1 + 1) - (r_1 + 1) / r_3 * r_3))]) (rest := []) hx hb hml hown ht (c2_X7_sets h) wd_X7_sets mw_1275 hQ hV hS hA (hP.sub [0, 1, 2, 3, 4, 5, 6, 7] rfl) (hD.sub [0, 1, 2, 3, 4, 5, 6, 7] (by decide) rfl) rfl rfl rfl hl.1 rfl (Nat.le_of_ble_eq_true rfl) dX7_steps_20 ⟨Nat.le_of_ble_eq_true rfl, Nat.le_of_ble_eq_true rfl, rfl, rfl⟩ ⟨Nat.le_of_ble_eq_true rfl, Nat.le_of_ble_eq_true rfl⟩) (wr := []) hP hD hS hA [0, 1, 2, 3, 4, 5, 6, 7] [] rfl rfl (by decide) (by decide) (fun u_7 H locs h hP hD hS => ?_)
  try dsimp only at h
  have hP : va_P D vwCl [((a0 0), .inr (6, [.ref (a0 1), .ref (a0 2), .int (u_7.1 0), .ref (a0 3), .ref (a0 5), .ref (a0 4), .long u_7.2.1, .int (u_7.1 1), .int (u_7.1 2), .ref (a0 6), .int (u_7.1 3), .int (u_7.1 4), .ref (a0 7), .int (u_7.1 5), .int (u_7.1 6), .int (u_7.1 7), .int (u_7.1 8), .int (u_7.1 9), .int (u_7.1 10), .int (u_7.1 11), .int (u_7.1 12), .int (u_7.1 13), .int (u_7.1 14)])), ((a0 1), .inl (q 1, 6896, .inr (.inl (u_7.2.2.1 0)))), ((a0 2), .inl (q 1, 68960, .inr (.inl (u_7.2.2.1 1)))), ((a0 3), .inl (q 1, 13792, .inr (.inl (u_7.2.2.1 2)))), ((a0 4), .inl (q 1, 6896, .inr (.inl (u_7.2.2.1 3)))), ((a0 5), .inl (q 3, 2, .inl (u_7.2.2.2 0))), ((a0 6), .inl (q 0, 40, .inl (u_7.2.2.2 1))), ((a0 7), .inl (q 2, 400, .inl (u_7.2.2.2 2)))] H := hP
  have hD : va_D _ [((a0 0), .inr (6, [.ref (a0 1), .ref (a0 2), .int (u_7.1 0), .ref (a0 3), .ref (a0 5), .ref (a0 4), .long u_7.2.1, .int (u_7.1 1), .int (u_7.1 2), .ref (a0 6), .int (u_7.1 3), .int (u_7.1 4), .ref (a0 7), .int (u_7.1 5), .int (u_7.1 6), .int (u_7.1 7), .int (u_7.1 8), .int (u_7.1 9), .int (u_7.1 10), .int (u_7.1 11), .int (u_7.1 12), .int (u_7.1 13), .int (u_7.1 14)])), ((a0 1), .inl (q 1, 6896, .inr (.inl (u_7.2.2.1 0)))), ((a0 2), .inl (q 1, 68960, .inr (.inl (u_7.2.2.1 1)))), ((a0 3), .inl (q 1, 13792, .inr (.inl (u_7.2.2.1 2)))), ((a0 4), .inl (q 1, 6896, .inr (.inl (u_7.2.2.1 3)))), ((a0 5), .inl (q 3, 2, .inl (u_7.2.2.2 0))), ((a0 6), .inl (q 0, 40, .inl (u_7.2.2.2 1))), ((a0 7), .inl (q 2, 400, .inl (u_7.2.2.2 2)))] := hD
  refine lv_aload_n hx hb dX7_steps_23 rfl (lv_at hl 1 rfl) ?_
  refine lv_iload_n hx hb dX7_steps_24 rfl (lv_at hl 2 rfl) ?_
  refine lv_iconst (v := 5) hx hb dX7_steps_25 (by decide) ?_
  refine lv_aload_n hx hb dX7_steps_26 rfl (lv_at hl 1 rfl) ?_
  refine lv_iload_n hx hb dX7_steps_27 rfl (lv_at hl 2 rfl) ?_
  refine lv_iconst (v := 5) hx hb dX7_steps_28 (by decide) ?_
  refine vp_callSi (rd_wV (wc := md_v a0 q u_7) (As := [.int x1, .int 5]) (rest := [.int 5, .int x1, .ref (a0 0)]) hx hb hml hown ht (c2_X7_of h) wd_X7_of mw_1249 hQ hV hS (hP.sub [0, 1, 2, 3, 4, 5, 6, 7] rfl) rfl rfl rfl hl.1 rfl (Nat.le_of_ble_eq_true rfl) dX7_steps_29 ⟨Nat.le_of_ble_eq_true rfl, Nat.le_of_ble_eq_true rfl, rfl, rfl⟩ ⟨Nat.le_of_ble_eq_true rfl, Nat.le_of_ble_eq_true rfl⟩) (fun r_8 h => ?_)
  try dsimp only at h
  refine lv_iconst (v := 1) hx hb dX7_steps_32 (by decide) ?_
  refine lv_iadd hx hb dX7_steps_33 ?_
  refine lv_i2l (v := (Int32.toInt64 (r_8 + 1))) hx hb dX7_steps_34 rfl ?_
  refine mt_gov (mt_wV (wc := md_v a0 q u_7) (As := [.int x1, .int 5, .long (Int32.toInt64 (r_8 + 1))]) (rest := []) hx hb hml hown ht (c2_X7_sets h) wd_X7_sets mw_1275 hQ hV hS hA (hP.sub [0, 1, 2, 3, 4, 5, 6, 7] rfl) (hD.sub [0, 1, 2, 3, 4, 5, 6, 7] (by decide) rfl) rfl rfl rfl hl.1 rfl (Nat.le_of_ble_eq_true rfl) dX7_steps_35 ⟨Nat.le_of_ble_eq_true rfl, Nat.le_of_ble_eq_true rfl, rfl, rfl⟩ ⟨Nat.le_of_ble_eq_true rfl, Nat.le_of_ble_eq_true rfl⟩) (wr := []) hP hD hS hA [0, 1, 2, 3, 4, 5, 6, 7] [] rfl rfl (by decide) (by decide) (fun u_11 H locs h hP hD hS => ?_)
  try dsimp only at h
  have hP : va_P D vwCl [((a0 0), .inr (6, [.ref (a0 1), .ref (a0 2), .int (u_11.1 0), .ref (a0 3), .ref (a0 5), .ref (a0 4), .long u_11.2.1, .int (u_11.1 1), .int (u_11.1 2), .ref (a0 6), .int (u_11.1 3), .int (u_11.1 4), .ref (a0 7), .int (u_11.1 5), .int (u_11.1 6), .int (u_11.1 7), .int (u_11.1 8), .int (u_11.1 9), .int (u_11.1 10), .int (u_11.1 11), .int (u_11.1 12), .int (u_11.1 13), .int (u_11.1 14)])), ((a0 1), .inl (q 1, 6896, .inr (.inl (u_11.2.2.1 0)))), ((a0 2), .inl (q 1, 68960, .inr (.inl (u_11.2.2.1 1)))), ((a0 3), .inl (q 1, 13792, .inr (.inl (u_11.2.2.1 2)))), ((a0 4), .inl (q 1, 6896, .inr (.inl (u_11.2.2.1 3)))), ((a0 5), .inl (q 3, 2, .inl (u_11.2.2.2 0))), ((a0 6), .inl (q 0, 40, .inl (u_11.2.2.2 1))), ((a0 7), .inl (q 2, 400, .inl (u_11.2.2.2 2)))] H := hP
  have hD : va_D _ [((a0 0), .inr (6, [.ref (a0 1), .ref (a0 2), .int (u_11.1 0), .ref (a0 3), .ref (a0 5), .ref (a0 4), .long u_11.2.1, .int (u_11.1 1), .int (u_11.1 2), .ref (a0 6), .int (u_11.1 3), .int (u_11.1 4), .ref (a0 7), .int (u_11.1 5), .int (u_11.1 6), .int (u_11.1 7), .int (u_11.1 8), .int (u_11.1 9), .int (u_11.1 10), .int (u_11.1 11), .int (u_11.1 12), .int (u_11.1 13), .int (u_11.1 14)])), ((a0 1), .inl (q 1, 6896, .inr (.inl (u_11.2.2.1 0)))), ((a0 2), .inl (q 1, 68960, .inr (.inl (u_11.2.2.1 1)))), ((a0 3), .inl (q 1, 13792, .inr (.inl (u_11.2.2.1 2)))), ((a0 4), .inl (q 1, 6896, .inr (.inl (u_11.2.2.1 3)))), ((a0 5), .inl (q 3, 2, .inl (u_11.2.2.2 0))), ((a0 6), .inl (q 0, 40, .inl (u_11.2.2.2 1))), ((a0 7), .inl (q 2, 400, .inl (u_11.2.2.2 2)))] := hD
  refine lv_aload_n hx hb dX7_steps_38 rfl (lv_at hl 1 rfl) ?_
  refine fl_get (C := RX7) (T := TX7) (N := 23) (ci := 6) (v := .ref (a0 1)) hx hb ht in_X7 hown hK hP 0 rfl rfl 0 (by decide) mw_1130 rfl dX7_steps_39 ?_
  refine lv_bipush (v := 6) hx hb dX7_steps_42 (by decide) ?_
  refine lv_dup2_11 hx hb dX7_steps_44 rfl rfl ?_
  refine va_lald hx hb hK hP 1 1 rfl rfl (in_c rfl) dX7_steps_45 ?_
  refine lv_lconst (v := 1) hx hb dX7_steps_46 (by decide) ?_
  refine lv_ladd hx hb dX7_steps_47 ?_
  refine va_last hx hb hK hP hD hS 1 1 rfl rfl (in_c rfl) dX7_steps_48 (fun H locs hP hD hS => ?_)
  have hP : va_P D vwCl [((a0 0), .inr (6, [.ref (a0 1), .ref (a0 2), .int (u_11.1 0), .ref (a0 3), .ref (a0 5), .ref (a0 4), .long u_11.2.1, .int (u_11.1 1), .int (u_11.1 2), .ref (a0 6), .int (u_11.1 3), .int (u_11.1 4), .ref (a0 7), .int (u_11.1 5), .int (u_11.1 6), .int (u_11.1 7), .int (u_11.1 8), .int (u_11.1 9), .int (u_11.1 10), .int (u_11.1 11), .int (u_11.1 12), .int (u_11.1 13), .int (u_11.1 14)])), ((a0 1), .inl (q 1, 6896, .inr (.inl (vp_updL (u_11.2.2.1 0) (Int32.toNatClampNeg 6) (((u_11.2.2.1 0) (Int32.toNatClampNeg 6)) + 1))))), ((a0 2), .inl (q 1, 68960, .inr (.inl (u_11.2.2.1 1)))), ((a0 3), .inl (q 1, 13792, .inr (.inl (u_11.2.2.1 2)))), ((a0 4), .inl (q 1, 6896, .inr (.inl (u_11.2.2.1 3)))), ((a0 5), .inl (q 3, 2, .inl (u_11.2.2.2 0))), ((a0 6), .inl (q 0, 40, .inl (u_11.2.2.2 1))), ((a0 7), .inl (q 2, 400, .inl (u_11.2.2.2 2)))] H := hP
  have hD : va_D _ [((a0 0), .inr (6, [.ref (a0 1), .ref (a0 2), .int (u_11.1 0), .ref (a0 3), .ref (a0 5), .ref (a0 4), .long u_11.2.1, .int (u_11.1 1), .int (u_11.1 2), .ref (a0 6), .int (u_11.1 3), .int (u_11.1 4), .ref (a0 7), .int (u_11.1 5), .int (u_11.1 6), .int (u_11.1 7), .int (u_11.1 8), .int (u_11.1 9), .int (u_11.1 10), .int (u_11.1 11), .int (u_11.1 12), .int (u_11.1 13), .int (u_11.1 14)])), ((a0 1), .inl (q 1, 6896, .inr (.inl (vp_updL (u_11.2.2.1 0) (Int32.toNatClampNeg 6) (((u_11.2.2.1 0) (Int32.toNatClampNeg 6)) + 1))))), ((a0 2), .inl (q 1, 68960, .inr (.inl (u_11.2.2.1 1)))), ((a0 3), .inl (q 1, 13792, .inr (.inl (u_11.2.2.1 2)))), ((a0 4), .inl (q 1, 6896, .inr (.inl (u_11.2.2.1 3)))), ((a0 5), .inl (q 3, 2, .inl (u_11.2.2.2 0))), ((a0 6), .inl (q 0, 40, .inl (u_11.2.2.2 1))), ((a0 7), .inl (q 2, 400, .inl (u_11.2.2.2 2)))] := hD
  refine lv_aload_n hx hb dX7_steps_49 rfl (lv_at hl 1 rfl) ?_
  refine lv_iload_n hx hb dX7_steps_50 rfl (lv_at hl 2 rfl) ?_
  refine lv_iconst (v := 4) hx hb dX7_steps_51 (by decide) ?_
  refine vp_callSi (rd_wV (wc := md_v a0 q (u_11.1, u_11.2.1, (va_up u_11.2.2.1 0 (vp_updL (u_11.2.2.1 0) (Int32.toNatClampNeg 6) (((u_11.2.2.1 0) (Int32.toNatClampNeg 6)) + 1))), u_11.2.2.2)) (As := [.int x1, .int 4]) (rest := []) hx hb hml hown ht (c2_X7_of h) wd_X7_of mw_1249 hQ hV hS (hP.sub [0, 1, 2, 3, 4, 5, 6, 7] rfl) rfl rfl rfl hl.1 rfl (Nat.le_of_ble_eq_true rfl) dX7_steps_52 ⟨Nat.le_of_ble_eq_true rfl, Nat.le_of_ble_eq_true rfl, rfl, rfl⟩ ⟨Nat.le_of_ble_eq_true rfl, Nat.le_of_ble_eq_true rfl⟩) (fun r_12 h => ?_)
  try dsimp only at h
  refine lv_if_le (tgt := 74) hx hb dX7_steps_55 (by decide) (fun c_14 => ?_) (fun c_14 => ?_)
  · replace h := h.1 c_14
    refine lv_aload_n hx hb dX7_steps_74 rfl (lv_at hl 1 rfl) ?_
    refine lv_iload_n hx hb dX7_steps_75 rfl (lv_at hl 2 rfl) ?_
    refine lv_iconst (v := 1) hx hb dX7_steps_76 (by decide) ?_
    refine lv_aload_n hx hb dX7_steps_77 rfl (lv_at hl 1 rfl) ?_
    refine lv_iload_n hx hb dX7_steps_78 rfl (lv_at hl 2 rfl) ?_
    refine lv_iconst (v := 1) hx hb dX7_steps_79 (by decide) ?_
    refine vp_callSi (rd_wV (wc := md_v a0 q (u_11.1, u_11.2.1, (va_up u_11.2.2.1 0 (vp_updL (u_11.2.2.1 0) (Int32.toNatClampNeg 6) (((u_11.2.2.1 0) (Int32.toNatClampNeg 6)) + 1))), u_11.2.2.2)) (As := [.int x1, .int 1]) (rest := [.int 1, .int x1, .ref (a0 0)]) hx hb hml hown ht (c2_X7_of h) wd_X7_of mw_1249 hQ hV hS (hP.sub [0, 1, 2, 3, 4, 5, 6, 7] rfl) rfl rfl rfl hl.1 rfl (Nat.le_of_ble_eq_true rfl) dX7_steps_80 ⟨Nat.le_of_ble_eq_true rfl, Nat.le_of_ble_eq_true rfl, rfl, rfl⟩ ⟨Nat.le_of_ble_eq_true rfl, Nat.le_of_ble_eq_true rfl⟩) (fun r_15 h => ?_)
    try dsimp only at h
    refine lv_iconst (v := 1) hx hb dX7_steps_83 (by decide) ?_
    refine lv_iadd hx hb dX7_steps_84 ?_
    refine lv_aload_n hx hb dX7_steps_85 rfl (lv_at hl 1 rfl) ?_
    refine lv_iload_n hx hb dX7_steps_86 rfl (lv_at hl 2 rfl) ?_
    refine vp_callSi (rd_wV (wc := md_v a0 q (u_11.1, u_11.2.1, (va_up u_11.2.2.1 0 (vp_updL (u_11.2.2.1 0) (Int32.toNatClampNeg 6) (((u_11.2.2.1 0) (Int32.toNatClampNeg 6)) + 1))), u_11.2.2.2)) (As := [.int x1]) (rest := [.int (r_15 + 1), .int 1, .int x1, .ref (a0 0)]) hx hb hml hown ht (c2_X7_flaps h) wd_X7_flaps mw_1245 hQ hV hS (hP.sub [0, 1, 2, 3, 4, 5, 6, 7] rfl) rfl rfl rfl hl.1 rfl (Nat.le_of_ble_eq_true rfl) dX7_steps_87 ⟨Nat.le_of_ble_eq_true rfl, Nat.le_of_ble_eq_true rfl, rfl, rfl⟩ ⟨Nat.le_of_ble_eq_true rfl, Nat.le_of_ble_eq_true rfl⟩) (fun r_17 h => ?_)
    try dsimp only at h
    obtain ⟨g_19, h⟩ := h
    refine lv_irem hx hb dX7_steps_90 g_19 ?_
    refine lv_i2l (v := (Int32.toInt64 ((r_15 + 1) - (r_15 + 1) / r_17 * r_17))) hx hb dX7_steps_91 rfl ?_
    refine mt_gov (mt_wV (wc := md_v a0 q (u_11.1, u_11.2.1, (va_up u_11.2.2.1 0 (vp_updL (u_11.2.2.1 0) (Int32.toNatClampNeg 6) (((u_11.2.2.1 0) (Int32.toNatClampNeg 6)) + 1))), u_11.2.2.2)) (As := [.int x1, .int 1, .long (Int32.toInt64 ((r_15 + 1) - (r_15 + 1) / r_17 * r_17))]) (rest := []) hx hb hml hown ht (c2_X7_sets h) wd_X7_sets mw_1275 hQ hV hS hA (hP.sub [0, 1, 2, 3, 4, 5, 6, 7] rfl) (hD.sub [0, 1, 2, 3, 4, 5, 6, 7] (by decide) rfl) rfl rfl rfl hl.1 rfl (Nat.le_of_ble_eq_true rfl) dX7_steps_92 ⟨Nat.le_of_ble_eq_true rfl, Nat.le_of_ble_eq_true rfl, rfl, rfl⟩ ⟨Nat.le_of_ble_eq_true rfl, Nat.le_of_ble_eq_true rfl⟩) (wr := []) hP hD hS hA [0, 1, 2, 3, 4, 5, 6, 7] [] rfl rfl (by decide) (by decide) (fun u_21 H locs h hP hD hS => ?_)
    try dsimp only at h
    have hP : va_P D vwCl [((a0 0), .inr (6, [.ref (a0 1), .ref (a0 2), .int (u_21.1 0), .ref (a0 3), .ref (a0 5), .ref (a0 4), .long u_21.2.1, .int (u_21.1 1), .int (u_21.1 2), .ref (a0 6), .int (u_21.1 3), .int (u_21.1 4), .ref (a0 7), .int (u_21.1 5), .int (u_21.1 6), .int (u_21.1 7), .int (u_21.1 8), .int (u_21.1 9), .int (u_21.1 10), .int (u_21.1 11), .int (u_21.1 12), .int (u_21.1 13), .int (u_21.1 14)])), ((a0 1), .inl (q 1, 6896, .inr (.inl (u_21.2.2.1 0)))), ((a0 2), .inl (q 1, 68960, .inr (.inl (u_21.2.2.1 1)))), ((a0 3), .inl (q 1, 13792, .inr (.inl (u_21.2.2.1 2)))), ((a0 4), .inl (q 1, 6896, .inr (.inl (u_21.2.2.1 3)))), ((a0 5), .inl (q 3, 2, .inl (u_21.2.2.2 0))), ((a0 6), .inl (q 0, 40, .inl (u_21.2.2.2 1))), ((a0 7), .inl (q 2, 400, .inl (u_21.2.2.2 2)))] H := hP
    have hD : va_D _ [((a0 0), .inr (6, [.ref (a0 1), .ref (a0 2), .int (u_21.1 0), .ref (a0 3), .ref (a0 5), .ref (a0 4), .long u_21.2.1, .int (u_21.1 1), .int (u_21.1 2), .ref (a0 6), .int (u_21.1 3), .int (u_21.1 4), .ref (a0 7), .int (u_21.1 5), .int (u_21.1 6), .int (u_21.1 7), .int (u_21.1 8), .int (u_21.1 9), .int (u_21.1 10), .int (u_21.1 11), .int (u_21.1 12), .int (u_21.1 13), .int (u_21.1 14)])), ((a0 1), .inl (q 1, 6896, .inr (.inl (u_21.2.2.1 0)))), ((a0 2), .inl (q 1, 68960, .inr (.inl (u_21.2.2.1 1)))), ((a0 3), .inl (q 1, 13792, .inr (.inl (u_21.2.2.1 2)))), ((a0 4), .inl (q 1, 6896, .inr (.inl (u_21.2.2.1 3)))), ((a0 5), .inl (q 3, 2, .inl (u_21.2.2.2 0))), ((a0 6), .inl (q 0, 40, .inl (u_21.2.2.2 1))), ((a0 7), .inl (q 2, 400, .inl (u_21.2.2.2 2)))] := hD
    refine lv_aload_n hx hb dX7_steps_95 rfl (lv_at hl 1 rfl) ?_
    refine lv_iload_n hx hb dX7_steps_96 rfl (lv_at hl 2 rfl) ?_
    refine lv_iconst (v := 1) hx hb dX7_steps_97 (by decide) ?_
    refine vp_callSi (rd_wV (wc := md_v a0 q u_21) (As := [.int x1, .int 1]) (rest := []) hx hb hml hown ht (c2_X7_of h) wd_X7_of mw_1249 hQ hV hS (hP.sub [0, 1, 2, 3, 4, 5, 6, 7] rfl) rfl rfl rfl hl.1 rfl (Nat.le_of_ble_eq_true rfl) dX7_steps_98 ⟨Nat.le_of_ble_eq_true rfl, Nat.le_of_ble_eq_true rfl, rfl, rfl⟩ ⟨Nat.le_of_ble_eq_true rfl, Nat.le_of_ble_eq_true rfl⟩) (fun r_22 h => ?_)
    try dsimp only at h
    refine lv_if_eq (tgt := 105) hx hb dX7_steps_101 (by decide) (fun c_24 => ?_) (fun c_24 => ?_)
    · replace h := h.1 c_24
      refine lv_aload_n hx hb dX7_steps_105 rfl (lv_at hl 1 rfl) ?_
      refine lv_iload_n hx hb dX7_steps_106 rfl (lv_at hl 2 rfl) ?_
      refine lv_bipush (v := 6) hx hb dX7_steps_107 (by decide) ?_
      refine lv_aload_n hx hb dX7_steps_109 rfl (lv_at hl 1 rfl) ?_
      refine lv_iload_n hx hb dX7_steps_110 rfl (lv_at hl 2 rfl) ?_
      refine lv_bipush (v := 6) hx hb dX7_steps_111 (by decide) ?_
      refine vp_callSi (rd_wV (wc := md_v a0 q u_21) (As := [.int x1, .int 6]) (rest := [.int 6, .int x1, .ref (a0 0)]) hx hb hml hown ht (c2_X7_of h) wd_X7_of mw_1249 hQ hV hS (hP.sub [0, 1, 2, 3, 4, 5, 6, 7] rfl) rfl rfl rfl hl.1 rfl (Nat.le_of_ble_eq_true rfl) dX7_steps_113 ⟨Nat.le_of_ble_eq_true rfl, Nat.le_of_ble_eq_true rfl, rfl, rfl⟩ ⟨Nat.le_of_ble_eq_true rfl, Nat.le_of_ble_eq_true rfl⟩) (fun r_25 h => ?_)
      try dsimp only at h
      refine lv_iload_n hx hb dX7_steps_116 rfl (lv_at hl 0 rfl) ?_
      refine lv_iadd hx hb dX7_steps_117 ?_
      refine lv_i2l (v := (Int32.toInt64 (r_25 + ((r_1 + 1) - (r_1 + 1) / r_3 * r_3)))) hx hb dX7_steps_118 rfl ?_
      refine mt_gov (mt_wV (wc := md_v a0 q u_21) (As := [.int x1, .int 6, .long (Int32.toInt64 (r_25 + ((r_1 + 1) - (r_1 + 1) / r_3 * r_3)))]) (rest := []) hx hb hml hown ht (c2_X7_sets h) wd_X7_sets mw_1275 hQ hV hS hA (hP.sub [0, 1, 2, 3, 4, 5, 6, 7] rfl) (hD.sub [0, 1, 2, 3, 4, 5, 6, 7] (by decide) rfl) rfl rfl rfl hl.1 rfl (Nat.le_of_ble_eq_true rfl) dX7_steps_119 ⟨Nat.le_of_ble_eq_true rfl, Nat.le_of_ble_eq_true rfl, rfl, rfl⟩ ⟨Nat.le_of_ble_eq_true rfl, Nat.le_of_ble_eq_true rfl⟩) (wr := []) hP hD hS hA [0, 1, 2, 3, 4, 5, 6, 7] [] rfl rfl (by decide) (by decide) (fun u_28 H locs h hP hD hS => ?_)
      try dsimp only at h
      have hP : va_P D vwCl [((a0 0), .inr (6, [.ref (a0 1), .ref (a0 2), .int (u_28.1 0), .ref (a0 3), .ref (a0 5), .ref (a0 4), .long u_28.2.1, .int (u_28.1 1), .int (u_28.1 2), .ref (a0 6), .int (u_28.1 3), .int (u_28.1 4), .ref (a0 7), .int (u_28.1 5), .int (u_28.1 6), .int (u_28.1 7), .int (u_28.1 8), .int (u_28.1 9), .int (u_28.1 10), .int (u_28.1 11), .int (u_28.1 12), .int (u_28.1 13), .int (u_28.1 14)])), ((a0 1), .inl (q 1, 6896, .inr (.inl (u_28.2.2.1 0)))), ((a0 2), .inl (q 1, 68960, .inr (.inl (u_28.2.2.1 1)))), ((a0 3), .inl (q 1, 13792, .inr (.inl (u_28.2.2.1 2)))), ((a0 4), .inl (q 1, 6896, .inr (.inl (u_28.2.2.1 3)))), ((a0 5), .inl (q 3, 2, .inl (u_28.2.2.2 0))), ((a0 6), .inl (q 0, 40, .inl (u_28.2.2.2 1))), ((a0 7), .inl (q 2, 400, .inl (u_28.2.2.2 2)))] H := hP
      have hD : va_D _ [((a0 0), .inr (6, [.ref (a0 1), .ref (a0 2), .int (u_28.1 0), .ref (a0 3), .ref (a0 5), .ref (a0 4), .long u_28.2.1, .int (u_28.1 1), .int (u_28.1 2), .ref (a0 6), .int (u_28.1 3), .int (u_28.1 4), .ref (a0 7), .int (u_28.1 5), .int (u_28.1 6), .int (u_28.1 7), .int (u_28.1 8), .int (u_28.1 9), .int (u_28.1 10), .int (u_28.1 11), .int (u_28.1 12), .int (u_28.1 13), .int (u_28.1 14)])), ((a0 1), .inl (q 1, 6896, .inr (.inl (u_28.2.2.1 0)))), ((a0 2), .inl (q 1, 68960, .inr (.inl (u_28.2.2.1 1)))), ((a0 3), .inl (q 1, 13792, .inr (.inl (u_28.2.2.1 2)))), ((a0 4), .inl (q 1, 6896, .inr (.inl (u_28.2.2.1 3)))), ((a0 5), .inl (q 3, 2, .inl (u_28.2.2.2 0))), ((a0 6), .inl (q 0, 40, .inl (u_28.2.2.2 1))), ((a0 7), .inl (q 2, 400, .inl (u_28.2.2.2 2)))] := hD
      refine lv_aload_n hx hb dX7_steps_122 rfl (lv_at hl 1 rfl) ?_
      refine fl_get (C := RX7) (T := TX7) (N := 23) (ci := 6) (v := .ref (a0 1)) hx hb ht in_X7 hown hK hP 0 rfl rfl 0 (by decide) mw_1130 rfl dX7_steps_123 ?_
      refine lv_bipush (v := 7) hx hb dX7_steps_126 (by decide) ?_
      refine lv_dup2_11 hx hb dX7_steps_128 rfl rfl ?_
      refine va_lald hx hb hK hP 1 1 rfl rfl (in_c rfl) dX7_steps_129 ?_
      refine lv_iload_n hx hb dX7_steps_130 rfl (lv_at hl 0 rfl) ?_
      refine lv_i2l (v := (Int32.toInt64 ((r_1 + 1) - (r_1 + 1) / r_3 * r_3))) hx hb dX7_steps_131 rfl ?_
      refine lv_ladd hx hb dX7_steps_132 ?_
      refine va_last hx hb hK hP hD hS 1 1 rfl rfl (in_c rfl) dX7_steps_133 (fun H locs hP hD hS => ?_)
      have hP : va_P D vwCl [((a0 0), .inr (6, [.ref (a0 1), .ref (a0 2), .int (u_28.1 0), .ref (a0 3), .ref (a0 5), .ref (a0 4), .long u_28.2.1, .int (u_28.1 1), .int (u_28.1 2), .ref (a0 6), .int (u_28.1 3), .int (u_28.1 4), .ref (a0 7), .int (u_28.1 5), .int (u_28.1 6), .int (u_28.1 7), .int (u_28.1 8), .int (u_28.1 9), .int (u_28.1 10), .int (u_28.1 11), .int (u_28.1 12), .int (u_28.1 13), .int (u_28.1 14)])), ((a0 1), .inl (q 1, 6896, .inr (.inl (vp_updL (u_28.2.2.1 0) (Int32.toNatClampNeg 7) (((u_28.2.2.1 0) (Int32.toNatClampNeg 7)) + (Int32.toInt64 ((r_1 + 1) - (r_1 + 1) / r_3 * r_3))))))), ((a0 2), .inl (q 1, 68960, .inr (.inl (u_28.2.2.1 1)))), ((a0 3), .inl (q 1, 13792, .inr (.inl (u_28.2.2.1 2)))), ((a0 4), .inl (q 1, 6896, .inr (.inl (u_28.2.2.1 3)))), ((a0 5), .inl (q 3, 2, .inl (u_28.2.2.2 0))), ((a0 6), .inl (q 0, 40, .inl (u_28.2.2.2 1))), ((a0 7), .inl (q 2, 400, .inl (u_28.2.2.2 2)))] H := hP
      have hD : va_D _ [((a0 0), .inr (6, [.ref (a0 1), .ref (a0 2), .int (u_28.1 0), .ref (a0 3), .ref (a0 5), .ref (a0 4), .long u_28.2.1, .int (u_28.1 1), .int (u_28.1 2), .ref (a0 6), .int (u_28.1 3), .int (u_28.1 4), .ref (a0 7), .int (u_28.1 5), .int (u_28.1 6), .int (u_28.1 7), .int (u_28.1 8), .int (u_28.1 9), .int (u_28.1 10), .int (u_28.1 11), .int (u_28.1 12), .int (u_28.1 13), .int (u_28.1 14)])), ((a0 1), .inl (q 1, 6896, .inr (.inl (vp_updL (u_28.2.2.1 0) (Int32.toNatClampNeg 7) (((u_28.2.2.1 0) (Int32.toNatClampNeg 7)) + (Int32.toInt64 ((r_1 + 1) - (r_1 + 1) / r_3 * r_3))))))), ((a0 2), .inl (q 1, 68960, .inr (.inl (u_28.2.2.1 1)))), ((a0 3), .inl (q 1, 13792, .inr (.inl (u_28.2.2.1 2)))), ((a0 4), .inl (q 1, 6896, .inr (.inl (u_28.2.2.1 3)))), ((a0 5), .inl (q 3, 2, .inl (u_28.2.2.2 0))), ((a0 6), .inl (q 0, 40, .inl (u_28.2.2.2 1))), ((a0 7), .inl (q 2, 400, .inl (u_28.2.2.2 2)))] := hD
      refine lv_aload_n hx hb dX7_steps_134 rfl (lv_at hl 1 rfl) ?_
      refine lv_iload_n hx hb dX7_steps_135 rfl (lv_at hl 2 rfl) ?_
      refine lv_iconst (v := 2) hx hb dX7_steps_136 (by decide) ?_
      refine lv_lconst (v := 0) hx hb dX7_steps_137 (by decide) ?_
      refine mt_gov (mt_wV (wc := md_v a0 q (u_28.1, u_28.2.1, (va_up u_28.2.2.1 0 (vp_updL (u_28.2.2.1 0) (Int32.toNatClampNeg 7) (((u_28.2.2.1 0) (Int32.toNatClampNeg 7)) + (Int32.toInt64 ((r_1 + 1) - (r_1 + 1) / r_3 * r_3))))), u_28.2.2.2)) (As := [.int x1, .int 2, .long 0]) (rest := []) hx hb hml hown ht (c2_X7_sets h) wd_X7_sets mw_1275 hQ hV hS hA (hP.sub [0, 1, 2, 3, 4, 5, 6, 7] rfl) (hD.sub [0, 1, 2, 3, 4, 5, 6, 7] (by decide) rfl) rfl rfl rfl hl.1 rfl (Nat.le_of_ble_eq_true rfl) dX7_steps_138 ⟨Nat.le_of_ble_eq_true rfl, Nat.le_of_ble_eq_true rfl, rfl, rfl⟩ ⟨Nat.le_of_ble_eq_true rfl, Nat.le_of_ble_eq_true rfl⟩) (wr := []) hP hD hS hA [0, 1, 2, 3, 4, 5, 6, 7] [] rfl rfl (by decide) (by decide) (fun u_30 H locs h hP hD hS => ?_)
      try dsimp only at h
      have hP : va_P D vwCl [((a0 0), .inr (6, [.ref (a0 1), .ref (a0 2), .int (u_30.1 0), .ref (a0 3), .ref (a0 5), .ref (a0 4), .long u_30.2.1, .int (u_30.1 1), .int (u_30.1 2), .ref (a0 6), .int (u_30.1 3), .int (u_30.1 4), .ref (a0 7), .int (u_30.1 5), .int (u_30.1 6), .int (u_30.1 7), .int (u_30.1 8), .int (u_30.1 9), .int (u_30.1 10), .int (u_30.1 11), .int (u_30.1 12), .int (u_30.1 13), .int (u_30.1 14)])), ((a0 1), .inl (q 1, 6896, .inr (.inl (u_30.2.2.1 0)))), ((a0 2), .inl (q 1, 68960, .inr (.inl (u_30.2.2.1 1)))), ((a0 3), .inl (q 1, 13792, .inr (.inl (u_30.2.2.1 2)))), ((a0 4), .inl (q 1, 6896, .inr (.inl (u_30.2.2.1 3)))), ((a0 5), .inl (q 3, 2, .inl (u_30.2.2.2 0))), ((a0 6), .inl (q 0, 40, .inl (u_30.2.2.2 1))), ((a0 7), .inl (q 2, 400, .inl (u_30.2.2.2 2)))] H := hP
      have hD : va_D _ [((a0 0), .inr (6, [.ref (a0 1), .ref (a0 2), .int (u_30.1 0), .ref (a0 3), .ref (a0 5), .ref (a0 4), .long u_30.2.1, .int (u_30.1 1), .int (u_30.1 2), .ref (a0 6), .int (u_30.1 3), .int (u_30.1 4), .ref (a0 7), .int (u_30.1 5), .int (u_30.1 6), .int (u_30.1 7), .int (u_30.1 8), .int (u_30.1 9), .int (u_30.1 10), .int (u_30.1 11), .int (u_30.1 12), .int (u_30.1 13), .int (u_30.1 14)])), ((a0 1), .inl (q 1, 6896, .inr (.inl (u_30.2.2.1 0)))), ((a0 2), .inl (q 1, 68960, .inr (.inl (u_30.2.2.1 1)))), ((a0 3), .inl (q 1, 13792, .inr (.inl (u_30.2.2.1 2)))), ((a0 4), .inl (q 1, 6896, .inr (.inl (u_30.2.2.1 3)))), ((a0 5), .inl (q 3, 2, .inl (u_30.2.2.2 0))), ((a0 6), .inl (q 0, 40, .inl (u_30.2.2.2 1))), ((a0 7), .inl (q 2, 400, .inl (u_30.2.2.2 2)))] := hD
      exact mt_vret u_30 hx hb hr hk h (hP.sub (ws' := md_v a0 q u_30) [0, 1, 2, 3, 4, 5, 6, 7] rfl) (hD.sub (ws' := md_v a0 q u_30) [0, 1, 2, 3, 4, 5, 6, 7] (by decide) rfl) hS dX7_steps_141
    · replace h := h.2 c_24
      exact mt_vret u_21 hx hb hr hk h (hP.sub (ws' := md_v a0 q u_21) [0, 1, 2, 3, 4, 5, 6, 7] rfl) (hD.sub (ws' := md_v a0 q u_21) [0, 1, 2, 3, 4, 5, 6, 7] (by decide) rfl) hS dX7_steps_104
  · replace h := h.2 c_14
    refine lv_aload_n hx hb dX7_steps_58 rfl (lv_at hl 1 rfl) ?_
    refine lv_iload_n hx hb dX7_steps_59 rfl (lv_at hl 2 rfl) ?_
    refine lv_iconst (v := 4) hx hb dX7_steps_60 (by decide) ?_
    refine lv_aload_n hx hb dX7_steps_61 rfl (lv_at hl 1 rfl) ?_
    refine lv_iload_n hx hb dX7_steps_62 rfl (lv_at hl 2 rfl) ?_
    refine lv_iconst (v := 4) hx hb dX7_steps_63 (by decide) ?_
    refine vp_callSi (rd_wV (wc := md_v a0 q (u_11.1, u_11.2.1, (va_up u_11.2.2.1 0 (vp_updL (u_11.2.2.1 0) (Int32.toNatClampNeg 6) (((u_11.2.2.1 0) (Int32.toNatClampNeg 6)) + 1))), u_11.2.2.2)) (As := [.int x1, .int 4]) (rest := [.int 4, .int x1, .ref (a0 0)]) hx hb hml hown ht (c2_X7_of h) wd_X7_of mw_1249 hQ hV hS (hP.sub [0, 1, 2, 3, 4, 5, 6, 7] rfl) rfl rfl rfl hl.1 rfl (Nat.le_of_ble_eq_true rfl) dX7_steps_64 ⟨Nat.le_of_ble_eq_true rfl, Nat.le_of_ble_eq_true rfl, rfl, rfl⟩ ⟨Nat.le_of_ble_eq_true rfl, Nat.le_of_ble_eq_true rfl⟩) (fun r_31 h => ?_)
    try dsimp only at h
    refine lv_iconst (v := 1) hx hb dX7_steps_67 (by decide) ?_
    refine lv_isub hx hb dX7_steps_68 ?_
    refine lv_i2l (v := (Int32.toInt64 (r_31 - 1))) hx hb dX7_steps_69 rfl ?_
    refine mt_gov (mt_wV (wc := md_v a0 q (u_11.1, u_11.2.1, (va_up u_11.2.2.1 0 (vp_updL (u_11.2.2.1 0) (Int32.toNatClampNeg 6) (((u_11.2.2.1 0) (Int32.toNatClampNeg 6)) + 1))), u_11.2.2.2)) (As := [.int x1, .int 4, .long (Int32.toInt64 (r_31 - 1))]) (rest := []) hx hb hml hown ht (c2_X7_sets h) wd_X7_sets mw_1275 hQ hV hS hA (hP.sub [0, 1, 2, 3, 4, 5, 6, 7] rfl) (hD.sub [0, 1, 2, 3, 4, 5, 6, 7] (by decide) rfl) rfl rfl rfl hl.1 rfl (Nat.le_of_ble_eq_true rfl) dX7_steps_70 ⟨Nat.le_of_ble_eq_true rfl, Nat.le_of_ble_eq_true rfl, rfl, rfl⟩ ⟨Nat.le_of_ble_eq_true rfl, Nat.le_of_ble_eq_true rfl⟩) (wr := []) hP hD hS hA [0, 1, 2, 3, 4, 5, 6, 7] [] rfl rfl (by decide) (by decide) (fun u_34 H locs h hP hD hS => ?_)
    try dsimp only at h
    have hP : va_P D vwCl [((a0 0), .inr (6, [.ref (a0 1), .ref (a0 2), .int (u_34.1 0), .ref (a0 3), .ref (a0 5), .ref (a0 4), .long u_34.2.1, .int (u_34.1 1), .int (u_34.1 2), .ref (a0 6), .int (u_34.1 3), .int (u_34.1 4), .ref (a0 7), .int (u_34.1 5), .int (u_34.1 6), .int (u_34.1 7), .int (u_34.1 8), .int (u_34.1 9), .int (u_34.1 10), .int (u_34.1 11), .int (u_34.1 12), .int (u_34.1 13), .int (u_34.1 14)])), ((a0 1), .inl (q 1, 6896, .inr (.inl (u_34.2.2.1 0)))), ((a0 2), .inl (q 1, 68960, .inr (.inl (u_34.2.2.1 1)))), ((a0 3), .inl (q 1, 13792, .inr (.inl (u_34.2.2.1 2)))), ((a0 4), .inl (q 1, 6896, .inr (.inl (u_34.2.2.1 3)))), ((a0 5), .inl (q 3, 2, .inl (u_34.2.2.2 0))), ((a0 6), .inl (q 0, 40, .inl (u_34.2.2.2 1))), ((a0 7), .inl (q 2, 400, .inl (u_34.2.2.2 2)))] H := hP
    have hD : va_D _ [((a0 0), .inr (6, [.ref (a0 1), .ref (a0 2), .int (u_34.1 0), .ref (a0 3), .ref (a0 5), .ref (a0 4), .long u_34.2.1, .int (u_34.1 1), .int (u_34.1 2), .ref (a0 6), .int (u_34.1 3), .int (u_34.1 4), .ref (a0 7), .int (u_34.1 5), .int (u_34.1 6), .int (u_34.1 7), .int (u_34.1 8), .int (u_34.1 9), .int (u_34.1 10), .int (u_34.1 11), .int (u_34.1 12), .int (u_34.1 13), .int (u_34.1 14)])), ((a0 1), .inl (q 1, 6896, .inr (.inl (u_34.2.2.1 0)))), ((a0 2), .inl (q 1, 68960, .inr (.inl (u_34.2.2.1 1)))), ((a0 3), .inl (q 1, 13792, .inr (.inl (u_34.2.2.1 2)))), ((a0 4), .inl (q 1, 6896, .inr (.inl (u_34.2.2.1 3)))), ((a0 5), .inl (q 3, 2, .inl (u_34.2.2.2 0))), ((a0 6), .inl (q 0, 40, .inl (u_34.2.2.2 1))), ((a0 7), .inl (q 2, 400, .inl (u_34.2.2.2 2)))] := hD
    exact mt_vret u_34 hx hb hr hk h (hP.sub (ws' := md_v a0 q u_34) [0, 1, 2, 3, 4, 5, 6, 7] rfl) (hD.sub (ws' := md_v a0 q u_34) [0, 1, 2, 3, 4, 5, 6, 7] (by decide) rfl) hS dX7_steps_73

def wp_X7_findsTurning_L33 (post : Md → Prop) (e91 : Md → Int64 → Int32 → Int32 → Int32 → Prop) : Nat → Md → Int64 → Int32 → Int32 → Int32 → Prop
  | 0, _, _, _, _, _ => False
  | n33 + 1, t0, w1, z3, z4, z5 => wp_X7_cells (fun r_4 => ((r_4 ≤ z5 → e91 t0 w1 z3 z4 z5) ∧ (¬ r_4 ≤ z5 → wp_X7_isIn (fun r_7 => ((¬ r_7 = 0 → wp_X7_findsTurning_L33 post e91 n33 t0 w1 z3 z4 (z5 + 1)) ∧ (r_7 = 0 → wp_X7_leftOf (fun r_10 => ((r_10 ≤ 0 → wp_X7_findsTurning_L33 post e91 n33 t0 w1 z3 z4 (z5 + 1)) ∧ (¬ r_10 ≤ 0 → ((z4 = (-1) → wp_X7_findsTurning_L33 post e91 n33 t0 w1 z3 z5 (z5 + 1)) ∧ (¬ z4 = (-1) → wp_X7_leftOf (fun r_14 => wp_X7_leftOf (fun r_16 => ((r_14 ≤ r_16 → wp_X7_findsTurning_L33 post e91 n33 t0 w1 z3 z4 (z5 + 1)) ∧ (¬ r_14 ≤ r_16 → wp_X7_findsTurning_L33 post e91 n33 t0 w1 z3 z5 (z5 + 1)))) t0 z4) t0 z5))))) t0 z5))) w1 z5))) t0
def wp_X7_findsTurning_L19 (post : Md → Prop) (e174 : Md → Int64 → Int32 → Prop) : Nat → Md → Int64 → Int32 → Prop
  | 0, _, _, _ => False
  | n19 + 1, t0, w1, z3 => wp_X7_cells (fun r_1 => ((r_1 ≤ z3 → e174 t0 w1 z3) ∧ (¬ r_1 ≤ z3 → (∃ n33, wp_X7_findsTurning_L33 post (fun t0 w1 z3 z4 z5 => ((¬ z4 = (-1) → wp_X7_current (fun r_20 => (((lg_cmp (Int32.toInt64 ((t0.1 2) + r_20)) ((t0.2.2.1 0) (Int32.toNatClampNeg 2))) ≤ 0 → wp_X7_current (fun r_23 => wp_X7_findsTurning_L19 post e174 n19 ((va_up (va_up t0.1 1 ((t0.1 1) + 1)) 2 ((t0.1 2) + r_23)), (t0.2.1 ||| ((1 : Int64) <<< (Int32.toInt64 z4 &&& 63))), t0.2.2.1, t0.2.2.2) (w1 ||| ((1 : Int64) <<< (Int32.toInt64 z4 &&& 63))) (z3 + 1)) ((va_up t0.1 1 ((t0.1 1) + 1)), (t0.2.1 ||| ((1 : Int64) <<< (Int32.toInt64 z4 &&& 63))), t0.2.2.1, t0.2.2.2) z4) ∧ (¬ (lg_cmp (Int32.toInt64 ((t0.1 2) + r_20)) ((t0.2.2.1 0) (Int32.toNatClampNeg 2))) ≤ 0 → wp_X7_findsTurning_L19 post e174 n19 t0 (w1 ||| ((1 : Int64) <<< (Int32.toInt64 z4 &&& 63))) (z3 + 1)))) t0 z4) ∧ (z4 = (-1) → post t0))) n33 t0 w1 z3 (-1) 0)))) t0
def wp_X7_findsTurning (post : Md → Prop) (s0 : Md) : Prop := (∃ n19, wp_X7_findsTurning_L19 post (fun t0 w1 z3 => post t0) n19 ((va_up (va_up s0.1 1 0) 2 0), 0, s0.2.2.1, s0.2.2.2) 0 0)
set_option maxHeartbeats 4000000 in
set_option maxRecDepth 100000 in
theorem c2_X7_findsTurning {l : Launch} {D : va_G} {q : Nat → ClassId} {sz : Nat} {a0 : Nat → Nat} {s0 : Md} {post : Md → Prop} (h : wp_X7_findsTurning post s0) : Met l yX7_findsTurning (Cond.code yX7_findsTurning cX7_findsTurning 6 none :: w_all) ({ frames := 3, cells := 0, slots := 0, locals := 64 } : Room) (mt_P D q [.ref (a0 0)] (md_v a0 q s0) sz) (va_Qv (fun u : Md => post u) (mt_B D (md_v a0 q s0) sz (fun u : Md => md_v a0 q u)) (va_A (md_v a0 q s0) sz)) 0 0 (va_A (md_v a0 q s0) sz) := by
  refine mt_start (by decide) (Nat.le_of_ble_eq_true rfl) ?_
  intro p e s m below meth c ls hx hb hr hml hown ht hk hin hP hQ hD hA hS hV hl
  have hK := hQ.1
  have hown : s.vm.findClass RX7 = some m.cls := hown
  have hl : lv_has ls 6 [(0, .ref (a0 0))] := hl
  have hP : va_P D vwCl [((a0 0), .inr (6, [.ref (a0 1), .ref (a0 2), .int (s0.1 0), .ref (a0 3), .ref (a0 5), .ref (a0 4), .long s0.2.1, .int (s0.1 1), .int (s0.1 2), .ref (a0 6), .int (s0.1 3), .int (s0.1 4), .ref (a0 7), .int (s0.1 5), .int (s0.1 6), .int (s0.1 7), .int (s0.1 8), .int (s0.1 9), .int (s0.1 10), .int (s0.1 11), .int (s0.1 12), .int (s0.1 13), .int (s0.1 14)])), ((a0 1), .inl (q 1, 6896, .inr (.inl (s0.2.2.1 0)))), ((a0 2), .inl (q 1, 68960, .inr (.inl (s0.2.2.1 1)))), ((a0 3), .inl (q 1, 13792, .inr (.inl (s0.2.2.1 2)))), ((a0 4), .inl (q 1, 6896, .inr (.inl (s0.2.2.1 3)))), ((a0 5), .inl (q 3, 2, .inl (s0.2.2.2 0))), ((a0 6), .inl (q 0, 40, .inl (s0.2.2.2 1))), ((a0 7), .inl (q 2, 400, .inl (s0.2.2.2 2)))] s.heap := hP
  have hD : va_D _ [((a0 0), .inr (6, [.ref (a0 1), .ref (a0 2), .int (s0.1 0), .ref (a0 3), .ref (a0 5), .ref (a0 4), .long s0.2.1, .int (s0.1 1), .int (s0.1 2), .ref (a0 6), .int (s0.1 3), .int (s0.1 4), .ref (a0 7), .int (s0.1 5), .int (s0.1 6), .int (s0.1 7), .int (s0.1 8), .int (s0.1 9), .int (s0.1 10), .int (s0.1 11), .int (s0.1 12), .int (s0.1 13), .int (s0.1 14)])), ((a0 1), .inl (q 1, 6896, .inr (.inl (s0.2.2.1 0)))), ((a0 2), .inl (q 1, 68960, .inr (.inl (s0.2.2.1 1)))), ((a0 3), .inl (q 1, 13792, .inr (.inl (s0.2.2.1 2)))), ((a0 4), .inl (q 1, 6896, .inr (.inl (s0.2.2.1 3)))), ((a0 5), .inl (q 3, 2, .inl (s0.2.2.2 0))), ((a0 6), .inl (q 0, 40, .inl (s0.2.2.2 1))), ((a0 7), .inl (q 2, 400, .inl (s0.2.2.2 2)))] := hD
  unfold wp_X7_findsTurning at h
  refine lv_aload_n hx hb dX7_findsTurning_0 rfl (lv_at hl 0 rfl) ?_
  refine lv_lconst (v := 0) hx hb dX7_findsTurning_1 (by decide) ?_
  refine fl_put (C := RX7) (T := TX7) (N := 23) (ci := 6) (v := .long 0) (ws2 := [((a0 0), .inr (6, [.ref (a0 1), .ref (a0 2), .int (s0.1 0), .ref (a0 3), .ref (a0 5), .ref (a0 4), .long 0, .int (s0.1 1), .int (s0.1 2), .ref (a0 6), .int (s0.1 3), .int (s0.1 4), .ref (a0 7), .int (s0.1 5), .int (s0.1 6), .int (s0.1 7), .int (s0.1 8), .int (s0.1 9), .int (s0.1 10), .int (s0.1 11), .int (s0.1 12), .int (s0.1 13), .int (s0.1 14)])), ((a0 1), .inl (q 1, 6896, .inr (.inl (s0.2.2.1 0)))), ((a0 2), .inl (q 1, 68960, .inr (.inl (s0.2.2.1 1)))), ((a0 3), .inl (q 1, 13792, .inr (.inl (s0.2.2.1 2)))), ((a0 4), .inl (q 1, 6896, .inr (.inl (s0.2.2.1 3)))), ((a0 5), .inl (q 3, 2, .inl (s0.2.2.2 0))), ((a0 6), .inl (q 0, 40, .inl (s0.2.2.2 1))), ((a0 7), .inl (q 2, 400, .inl (s0.2.2.2 2)))]) hx hb ht in_X7 tyX7_ok nmX7 hown hK hP hD hS 0 rfl rfl 6 (by decide) mw_1136 rfl rfl rfl (Nat.le_of_ble_eq_true rfl) dX7_findsTurning_2 rfl (fun H locs hP hD hS => ?_)
  refine lv_aload_n hx hb dX7_findsTurning_5 rfl (lv_at hl 0 rfl) ?_
  refine lv_iconst (v := 0) hx hb dX7_findsTurning_6 (by decide) ?_
  refine fl_put (C := RX7) (T := TX7) (N := 23) (ci := 6) (v := .int 0) (ws2 := [((a0 0), .inr (6, [.ref (a0 1), .ref (a0 2), .int (s0.1 0), .ref (a0 3), .ref (a0 5), .ref (a0 4), .long 0, .int 0, .int (s0.1 2), .ref (a0 6), .int (s0.1 3), .int (s0.1 4), .ref (a0 7), .int (s0.1 5), .int (s0.1 6), .int (s0.1 7), .int (s0.1 8), .int (s0.1 9), .int (s0.1 10), .int (s0.1 11), .int (s0.1 12), .int (s0.1 13), .int (s0.1 14)])), ((a0 1), .inl (q 1, 6896, .inr (.inl (s0.2.2.1 0)))), ((a0 2), .inl (q 1, 68960, .inr (.inl (s0.2.2.1 1)))), ((a0 3), .inl (q 1, 13792, .inr (.inl (s0.2.2.1 2)))), ((a0 4), .inl (q 1, 6896, .inr (.inl (s0.2.2.1 3)))), ((a0 5), .inl (q 3, 2, .inl (s0.2.2.2 0))), ((a0 6), .inl (q 0, 40, .inl (s0.2.2.2 1))), ((a0 7), .inl (q 2, 400, .inl (s0.2.2.2 2)))]) hx hb ht in_X7 tyX7_ok nmX7 hown hK hP hD hS 0 rfl rfl 7 (by decide) mw_1137 rfl rfl rfl (Nat.le_of_ble_eq_true rfl) dX7_findsTurning_7 rfl (fun H locs hP hD hS => ?_)
  refine lv_aload_n hx hb dX7_findsTurning_10 rfl (lv_at hl 0 rfl) ?_
  refine lv_iconst (v := 0) hx hb dX7_findsTurning_11 (by decide) ?_
  refine fl_put (C := RX7) (T := TX7) (N := 23) (ci := 6) (v := .int 0) (ws2 := [((a0 0), .inr (6, [.ref (a0 1), .ref (a0 2), .int (s0.1 0), .ref (a0 3), .ref (a0 5), .ref (a0 4), .long 0, .int 0, .int 0, .ref (a0 6), .int (s0.1 3), .int (s0.1 4), .ref (a0 7), .int (s0.1 5), .int (s0.1 6), .int (s0.1 7), .int (s0.1 8), .int (s0.1 9), .int (s0.1 10), .int (s0.1 11), .int (s0.1 12), .int (s0.1 13), .int (s0.1 14)])), ((a0 1), .inl (q 1, 6896, .inr (.inl (s0.2.2.1 0)))), ((a0 2), .inl (q 1, 68960, .inr (.inl (s0.2.2.1 1)))), ((a0 3), .inl (q 1, 13792, .inr (.inl (s0.2.2.1 2)))), ((a0 4), .inl (q 1, 6896, .inr (.inl (s0.2.2.1 3)))), ((a0 5), .inl (q 3, 2, .inl (s0.2.2.2 0))), ((a0 6), .inl (q 0, 40, .inl (s0.2.2.2 1))), ((a0 7), .inl (q 2, 400, .inl (s0.2.2.2 2)))]) hx hb ht in_X7 tyX7_ok nmX7 hown hK hP hD hS 0 rfl rfl 8 (by decide) mw_1138 rfl rfl rfl (Nat.le_of_ble_eq_true rfl) dX7_findsTurning_12 rfl (fun H locs hP hD hS => ?_)
  refine lv_lconst (v := 0) hx hb dX7_findsTurning_15 (by decide) ?_
  refine lv_lstore_n (lv' := [(1, .long 0), (0, .ref (a0 0))]) hx hb dX7_findsTurning_16 rfl hl (by decide) rfl (fun ls hl => ?_)
  refine lv_iconst (v := 0) hx hb dX7_findsTurning_17 (by decide) ?_
  refine lv_istore_n (lv' := [(3, .int 0), (1, .long 0), (0, .ref (a0 0))]) hx hb dX7_findsTurning_18 rfl hl (by decide) rfl (fun ls hl => ?_)
  have lp19 : ∀ (e174 : Md → Int64 → Int32 → Prop) (k174 : ∀ (t0 : Md) (w1 : Int64) (z3 : Int32) (H : Heap) (locs : List Loc) (ls : Array Slot), e174 t0 w1 z3 → va_P D vwCl (md_v a0 q t0) H → va_D (va_A (md_v a0 q s0) sz) (md_v a0 q t0) → va_S (va_A (md_v a0 q s0) sz) s.heap H locs → lv_has ls 6 [(1, .long w1), (3, .int z3), (0, .ref (a0 0))] → W p l e ({ frames := 3, cells := 0, slots := 0, locals := 64 } : Room) s m [.ref (a0 0)].toArray below meth c H locs 0 0 (MQ below (va_Qv (fun u : Md => post u) (mt_B D (md_v a0 q s0) sz (fun u : Md => md_v a0 q u)) (va_A (md_v a0 q s0) sz)) [.ref (a0 0)].toArray s 0 0 (va_A (md_v a0 q s0) sz)) (F0 m 174 ls [])) (n : Nat) (t0 : Md) (w1 : Int64) (z3 : Int32) (H : Heap) (locs : List Loc) (ls : Array Slot), wp_X7_findsTurning_L19 post e174 n t0 w1 z3 → va_P D vwCl (md_v a0 q t0) H → va_D (va_A (md_v a0 q s0) sz) (md_v a0 q t0) → va_S (va_A (md_v a0 q s0) sz) s.heap H locs → lv_has ls 6 [(1, .long w1), (3, .int z3), (0, .ref (a0 0))] → W p l e ({ frames := 3, cells := 0, slots := 0, locals := 64 } : Room) s m [.ref (a0 0)].toArray below meth c H locs 0 0 (MQ below (va_Qv (fun u : Md => post u) (mt_B D (md_v a0 q s0) sz (fun u : Md => md_v a0 q u)) (va_A (md_v a0 q s0) sz)) [.ref (a0 0)].toArray s 0 0 (va_A (md_v a0 q s0) sz)) (F0 m 19 ls []) := by
    intro e174 k174 n
    induction n with
    | zero =>
      intro t0 w1 z3 H locs ls h
      exact h.elim
    | succ n ih =>
      intro t0 w1 z3 H locs ls h hP hD hS hl
      have hP : va_P D vwCl [((a0 0), .inr (6, [.ref (a0 1), .ref (a0 2), .int (t0.1 0), .ref (a0 3), .ref (a0 5), .ref (a0 4), .long t0.2.1, .int (t0.1 1), .int (t0.1 2), .ref (a0 6), .int (t0.1 3), .int (t0.1 4), .ref (a0 7), .int (t0.1 5), .int (t0.1 6), .int (t0.1 7), .int (t0.1 8), .int (t0.1 9), .int (t0.1 10), .int (t0.1 11), .int (t0.1 12), .int (t0.1 13), .int (t0.1 14)])), ((a0 1), .inl (q 1, 6896, .inr (.inl (t0.2.2.1 0)))), ((a0 2), .inl (q 1, 68960, .inr (.inl (t0.2.2.1 1)))), ((a0 3), .inl (q 1, 13792, .inr (.inl (t0.2.2.1 2)))), ((a0 4), .inl (q 1, 6896, .inr (.inl (t0.2.2.1 3)))), ((a0 5), .inl (q 3, 2, .inl (t0.2.2.2 0))), ((a0 6), .inl (q 0, 40, .inl (t0.2.2.2 1))), ((a0 7), .inl (q 2, 400, .inl (t0.2.2.2 2)))] H := hP
      have hD : va_D _ [((a0 0), .inr (6, [.ref (a0 1), .ref (a0 2), .int (t0.1 0), .ref (a0 3), .ref (a0 5), .ref (a0 4), .long t0.2.1, .int (t0.1 1), .int (t0.1 2), .ref (a0 6), .int (t0.1 3), .int (t0.1 4), .ref (a0 7), .int (t0.1 5), .int (t0.1 6), .int (t0.1 7), .int (t0.1 8), .int (t0.1 9), .int (t0.1 10), .int (t0.1 11), .int (t0.1 12), .int (t0.1 13), .int (t0.1 14)])), ((a0 1), .inl (q 1, 6896, .inr (.inl (t0.2.2.1 0)))), ((a0 2), .inl (q 1, 68960, .inr (.inl (t0.2.2.1 1)))), ((a0 3), .inl (q 1, 13792, .inr (.inl (t0.2.2.1 2)))), ((a0 4), .inl (q 1, 6896, .inr (.inl (t0.2.2.1 3)))), ((a0 5), .inl (q 3, 2, .inl (t0.2.2.2 0))), ((a0 6), .inl (q 0, 40, .inl (t0.2.2.2 1))), ((a0 7), .inl (q 2, 400, .inl (t0.2.2.2 2)))] := hD
      unfold wp_X7_findsTurning_L19 at h
      refine lv_iload_n hx hb dX7_findsTurning_19 rfl (lv_at hl 1 rfl) ?_
      refine lv_aload_n hx hb dX7_findsTurning_20 rfl (lv_at hl 2 rfl) ?_
      refine vp_callSi (rd_wV (wc := md_v a0 q t0) (As := []) (rest := [.int z3]) hx hb hml hown ht (c2_X7_cells h) wd_X7_cells mw_1295 hQ hV hS (hP.sub [0, 1, 2, 3, 4, 5, 6, 7] rfl) rfl rfl rfl hl.1 rfl (Nat.le_of_ble_eq_true rfl) dX7_findsTurning_21 ⟨Nat.le_of_ble_eq_true rfl, Nat.le_of_ble_eq_true rfl, rfl, rfl⟩ ⟨Nat.le_of_ble_eq_true rfl, Nat.le_of_ble_eq_true rfl⟩) (fun r_1 h => ?_)
      try dsimp only at h
      refine lv_icmp_ge (tgt := 174) hx hb dX7_findsTurning_24 (by decide) (fun c_3 => ?_) (fun c_3 => ?_)
      · replace h := h.1 c_3
        exact k174 _ _ _ _ _ ls h (hP.sub (ws' := md_v a0 q t0) [0, 1, 2, 3, 4, 5, 6, 7] rfl) (hD.sub (ws' := md_v a0 q t0) [0, 1, 2, 3, 4, 5, 6, 7] (by decide) rfl) hS (lv_sub hl [0, 1, 2] rfl)
      · replace h := h.2 c_3
        refine lv_iconst (v := (-1)) hx hb dX7_findsTurning_27 (by decide) ?_
        refine lv_istore (lv' := [(4, .int (-1)), (1, .long w1), (3, .int z3), (0, .ref (a0 0))]) hx hb dX7_findsTurning_28 hl (by decide) rfl (fun ls hl => ?_)
        refine lv_iconst (v := 0) hx hb dX7_findsTurning_30 (by decide) ?_
        refine lv_istore (lv' := [(5, .int 0), (4, .int (-1)), (1, .long w1), (3, .int z3), (0, .ref (a0 0))]) hx hb dX7_findsTurning_31 hl (by decide) rfl (fun ls hl => ?_)
        have lp33 : ∀ (e91 : Md → Int64 → Int32 → Int32 → Int32 → Prop) (k91 : ∀ (t0 : Md) (w1 : Int64) (z3 : Int32) (z4 : Int32) (z5 : Int32) (H : Heap) (locs : List Loc) (ls : Array Slot), e91 t0 w1 z3 z4 z5 → va_P D vwCl (md_v a0 q t0) H → va_D (va_A (md_v a0 q s0) sz) (md_v a0 q t0) → va_S (va_A (md_v a0 q s0) sz) s.heap H locs → lv_has ls 6 [(1, .long w1), (3, .int z3), (4, .int z4), (5, .int z5), (0, .ref (a0 0))] → W p l e ({ frames := 3, cells := 0, slots := 0, locals := 64 } : Room) s m [.ref (a0 0)].toArray below meth c H locs 0 0 (MQ below (va_Qv (fun u : Md => post u) (mt_B D (md_v a0 q s0) sz (fun u : Md => md_v a0 q u)) (va_A (md_v a0 q s0) sz)) [.ref (a0 0)].toArray s 0 0 (va_A (md_v a0 q s0) sz)) (F0 m 91 ls [])) (n : Nat) (t0 : Md) (w1 : Int64) (z3 : Int32) (z4 : Int32) (z5 : Int32) (H : Heap) (locs : List Loc) (ls : Array Slot), wp_X7_findsTurning_L33 post e91 n t0 w1 z3 z4 z5 → va_P D vwCl (md_v a0 q t0) H → va_D (va_A (md_v a0 q s0) sz) (md_v a0 q t0) → va_S (va_A (md_v a0 q s0) sz) s.heap H locs → lv_has ls 6 [(1, .long w1), (3, .int z3), (4, .int z4), (5, .int z5), (0, .ref (a0 0))] → W p l e ({ frames := 3, cells := 0, slots := 0, locals := 64 } : Room) s m [.ref (a0 0)].toArray below meth c H locs 0 0 (MQ below (va_Qv (fun u : Md => post u) (mt_B D (md_v a0 q s0) sz (fun u : Md => md_v a0 q u)) (va_A (md_v a0 q s0) sz)) [.ref (a0 0)].toArray s 0 0 (va_A (md_v a0 q s0) sz)) (F0 m 33 ls []) := by
          intro e91 k91 n
          induction n with
          | zero =>
            intro t0 w1 z3 z4 z5 H locs ls h
            exact h.elim
          | succ n ih =>
            intro t0 w1 z3 z4 z5 H locs ls h hP hD hS hl
            have hP : va_P D vwCl [((a0 0), .inr (6, [.ref (a0 1), .ref (a0 2), .int (t0.1 0), .ref (a0 3), .ref (a0 5), .ref (a0 4), .long t0.2.1, .int (t0.1 1), .int (t0.1 2), .ref (a0 6), .int (t0.1 3), .int (t0.1 4), .ref (a0 7), .int (t0.1 5), .int (t0.1 6), .int (t0.1 7), .int (t0.1 8), .int (t0.1 9), .int (t0.1 10), .int (t0.1 11), .int (t0.1 12), .int (t0.1 13), .int (t0.1 14)])), ((a0 1), .inl (q 1, 6896, .inr (.inl (t0.2.2.1 0)))), ((a0 2), .inl (q 1, 68960, .inr (.inl (t0.2.2.1 1)))), ((a0 3), .inl (q 1, 13792, .inr (.inl (t0.2.2.1 2)))), ((a0 4), .inl (q 1, 6896, .inr (.inl (t0.2.2.1 3)))), ((a0 5), .inl (q 3, 2, .inl (t0.2.2.2 0))), ((a0 6), .inl (q 0, 40, .inl (t0.2.2.2 1))), ((a0 7), .inl (q 2, 400, .inl (t0.2.2.2 2)))] H := hP
            have hD : va_D _ [((a0 0), .inr (6, [.ref (a0 1), .ref (a0 2), .int (t0.1 0), .ref (a0 3), .ref (a0 5), .ref (a0 4), .long t0.2.1, .int (t0.1 1), .int (t0.1 2), .ref (a0 6), .int (t0.1 3), .int (t0.1 4), .ref (a0 7), .int (t0.1 5), .int (t0.1 6), .int (t0.1 7), .int (t0.1 8), .int (t0.1 9), .int (t0.1 10), .int (t0.1 11), .int (t0.1 12), .int (t0.1 13), .int (t0.1 14)])), ((a0 1), .inl (q 1, 6896, .inr (.inl (t0.2.2.1 0)))), ((a0 2), .inl (q 1, 68960, .inr (.inl (t0.2.2.1 1)))), ((a0 3), .inl (q 1, 13792, .inr (.inl (t0.2.2.1 2)))), ((a0 4), .inl (q 1, 6896, .inr (.inl (t0.2.2.1 3)))), ((a0 5), .inl (q 3, 2, .inl (t0.2.2.2 0))), ((a0 6), .inl (q 0, 40, .inl (t0.2.2.2 1))), ((a0 7), .inl (q 2, 400, .inl (t0.2.2.2 2)))] := hD
            unfold wp_X7_findsTurning_L33 at h
            refine lv_iload hx hb dX7_findsTurning_33 (lv_at hl 3 rfl) ?_
            refine lv_aload_n hx hb dX7_findsTurning_35 rfl (lv_at hl 4 rfl) ?_
            refine vp_callSi (rd_wV (wc := md_v a0 q t0) (As := []) (rest := [.int z5]) hx hb hml hown ht (c2_X7_cells h) wd_X7_cells mw_1295 hQ hV hS (hP.sub [0, 1, 2, 3, 4, 5, 6, 7] rfl) rfl rfl rfl hl.1 rfl (Nat.le_of_ble_eq_true rfl) dX7_findsTurning_36 ⟨Nat.le_of_ble_eq_true rfl, Nat.le_of_ble_eq_true rfl, rfl, rfl⟩ ⟨Nat.le_of_ble_eq_true rfl, Nat.le_of_ble_eq_true rfl⟩) (fun r_4 h => ?_)
            try dsimp only at h
            refine lv_icmp_ge (tgt := 91) hx hb dX7_findsTurning_39 (by decide) (fun c_6 => ?_) (fun c_6 => ?_)
            · replace h := h.1 c_6
              exact k91 _ _ _ _ _ _ _ ls h (hP.sub (ws' := md_v a0 q t0) [0, 1, 2, 3, 4, 5, 6, 7] rfl) (hD.sub (ws' := md_v a0 q t0) [0, 1, 2, 3, 4, 5, 6, 7] (by decide) rfl) hS (lv_sub hl [0, 1, 2, 3, 4] rfl)
            · replace h := h.2 c_6
              refine lv_lload_n hx hb dX7_findsTurning_42 rfl (lv_at hl 0 rfl) ?_
              refine lv_iload hx hb dX7_findsTurning_43 (lv_at hl 3 rfl) ?_
              refine vp_callSi (rd_wS (wc := ([] : va_W)) (As := [.long w1, .int z5]) (rest := []) hx hb hml hown ht (c2_X7_isIn h) wd_X7_isIn mw_1265 hQ hV hS (hP.sub [] rfl) rfl hl.1 rfl (Nat.le_of_ble_eq_true rfl) dX7_findsTurning_45 ⟨Nat.le_of_ble_eq_true rfl, Nat.le_of_ble_eq_true rfl, rfl, rfl⟩ ⟨Nat.le_of_ble_eq_true rfl, Nat.le_of_ble_eq_true rfl⟩) (fun r_7 h => ?_)
              try dsimp only at h
              refine lv_if_ne (tgt := 85) hx hb dX7_findsTurning_48 (by decide) (fun c_9 => ?_) (fun c_9 => ?_)
              · replace h := h.1 c_9
                refine lv_iinc (v := (z5 + 1)) (lv' := [(5, .int (z5 + 1)), (1, .long w1), (3, .int z3), (4, .int z4), (0, .ref (a0 0))]) hx hb dX7_findsTurning_85 hl (k := 3) rfl rfl (by decide) rfl (fun ls hl => ?_)
                refine lv_goto (tgt := 33) hx hb dX7_findsTurning_88 (by decide) ?_
                exact ih _ _ _ _ _ _ _ ls h (hP.sub (ws' := md_v a0 q t0) [0, 1, 2, 3, 4, 5, 6, 7] rfl) (hD.sub (ws' := md_v a0 q t0) [0, 1, 2, 3, 4, 5, 6, 7] (by decide) rfl) hS (lv_sub hl [1, 2, 3, 0, 4] rfl)
              · replace h := h.2 c_9
                refine lv_aload_n hx hb dX7_findsTurning_51 rfl (lv_at hl 4 rfl) ?_
                refine lv_iload hx hb dX7_findsTurning_52 (lv_at hl 3 rfl) ?_
                refine vp_callSi (rd_wV (wc := md_v a0 q t0) (As := [.int z5]) (rest := []) hx hb hml hown ht (c2_X7_leftOf h) wd_X7_leftOf mw_1312 hQ hV hS (hP.sub [0, 1, 2, 3, 4, 5, 6, 7] rfl) rfl rfl rfl hl.1 rfl (Nat.le_of_ble_eq_true rfl) dX7_findsTurning_54 ⟨Nat.le_of_ble_eq_true rfl, Nat.le_of_ble_eq_true rfl, rfl, rfl⟩ ⟨Nat.le_of_ble_eq_true rfl, Nat.le_of_ble_eq_true rfl⟩) (fun r_10 h => ?_)
                try dsimp only at h
                refine lv_if_le (tgt := 85) hx hb dX7_findsTurning_57 (by decide) (fun c_12 => ?_) (fun c_12 => ?_)
                · replace h := h.1 c_12
                  refine lv_iinc (v := (z5 + 1)) (lv' := [(5, .int (z5 + 1)), (1, .long w1), (3, .int z3), (4, .int z4), (0, .ref (a0 0))]) hx hb dX7_findsTurning_85 hl (k := 3) rfl rfl (by decide) rfl (fun ls hl => ?_)
                  refine lv_goto (tgt := 33) hx hb dX7_findsTurning_88 (by decide) ?_
                  exact ih _ _ _ _ _ _ _ ls h (hP.sub (ws' := md_v a0 q t0) [0, 1, 2, 3, 4, 5, 6, 7] rfl) (hD.sub (ws' := md_v a0 q t0) [0, 1, 2, 3, 4, 5, 6, 7] (by decide) rfl) hS (lv_sub hl [1, 2, 3, 0, 4] rfl)
                · replace h := h.2 c_12
                  refine lv_iload hx hb dX7_findsTurning_60 (lv_at hl 2 rfl) ?_
                  refine lv_iconst (v := (-1)) hx hb dX7_findsTurning_62 (by decide) ?_
                  refine lv_icmp_eq (tgt := 81) hx hb dX7_findsTurning_63 (by decide) (fun c_13 => ?_) (fun c_13 => ?_)
                  · replace h := h.1 c_13
                    refine lv_iload hx hb dX7_findsTurning_81 (lv_at hl 3 rfl) ?_
                    refine lv_istore (lv' := [(4, .int z5), (1, .long w1), (3, .int z3), (5, .int z5), (0, .ref (a0 0))]) hx hb dX7_findsTurning_83 hl (by decide) rfl (fun ls hl => ?_)
                    refine lv_iinc (v := (z5 + 1)) (lv' := [(5, .int (z5 + 1)), (4, .int z5), (1, .long w1), (3, .int z3), (0, .ref (a0 0))]) hx hb dX7_findsTurning_85 hl (k := 3) rfl rfl (by decide) rfl (fun ls hl => ?_)
                    refine lv_goto (tgt := 33) hx hb dX7_findsTurning_88 (by decide) ?_
                    exact ih _ _ _ _ _ _ _ ls h (hP.sub (ws' := md_v a0 q t0) [0, 1, 2, 3, 4, 5, 6, 7] rfl) (hD.sub (ws' := md_v a0 q t0) [0, 1, 2, 3, 4, 5, 6, 7] (by decide) rfl) hS (lv_sub hl [2, 3, 1, 0, 4] rfl)
                  · replace h := h.2 c_13
                    refine lv_aload_n hx hb dX7_findsTurning_66 rfl (lv_at hl 4 rfl) ?_
                    refine lv_iload hx hb dX7_findsTurning_67 (lv_at hl 3 rfl) ?_
                    refine vp_callSi (rd_wV (wc := md_v a0 q t0) (As := [.int z5]) (rest := []) hx hb hml hown ht (c2_X7_leftOf h) wd_X7_leftOf mw_1312 hQ hV hS (hP.sub [0, 1, 2, 3, 4, 5, 6, 7] rfl) rfl rfl rfl hl.1 rfl (Nat.le_of_ble_eq_true rfl) dX7_findsTurning_69 ⟨Nat.le_of_ble_eq_true rfl, Nat.le_of_ble_eq_true rfl, rfl, rfl⟩ ⟨Nat.le_of_ble_eq_true rfl, Nat.le_of_ble_eq_true rfl⟩) (fun r_14 h => ?_)
                    try dsimp only at h
                    refine lv_aload_n hx hb dX7_findsTurning_72 rfl (lv_at hl 4 rfl) ?_
                    refine lv_iload hx hb dX7_findsTurning_73 (lv_at hl 2 rfl) ?_
                    refine vp_callSi (rd_wV (wc := md_v a0 q t0) (As := [.int z4]) (rest := [.int r_14]) hx hb hml hown ht (c2_X7_leftOf h) wd_X7_leftOf mw_1312 hQ hV hS (hP.sub [0, 1, 2, 3, 4, 5, 6, 7] rfl) rfl rfl rfl hl.1 rfl (Nat.le_of_ble_eq_true rfl) dX7_findsTurning_75 ⟨Nat.le_of_ble_eq_true rfl, Nat.le_of_ble_eq_true rfl, rfl, rfl⟩ ⟨Nat.le_of_ble_eq_true rfl, Nat.le_of_ble_eq_true rfl⟩) (fun r_16 h => ?_)
                    try dsimp only at h
                    refine lv_icmp_le (tgt := 85) hx hb dX7_findsTurning_78 (by decide) (fun c_18 => ?_) (fun c_18 => ?_)
                    · replace h := h.1 c_18
                      refine lv_iinc (v := (z5 + 1)) (lv' := [(5, .int (z5 + 1)), (1, .long w1), (3, .int z3), (4, .int z4), (0, .ref (a0 0))]) hx hb dX7_findsTurning_85 hl (k := 3) rfl rfl (by decide) rfl (fun ls hl => ?_)
                      refine lv_goto (tgt := 33) hx hb dX7_findsTurning_88 (by decide) ?_
                      exact ih _ _ _ _ _ _ _ ls h (hP.sub (ws' := md_v a0 q t0) [0, 1, 2, 3, 4, 5, 6, 7] rfl) (hD.sub (ws' := md_v a0 q t0) [0, 1, 2, 3, 4, 5, 6, 7] (by decide) rfl) hS (lv_sub hl [1, 2, 3, 0, 4] rfl)
                    · replace h := h.2 c_18
                      refine lv_iload hx hb dX7_findsTurning_81 (lv_at hl 3 rfl) ?_
                      refine lv_istore (lv' := [(4, .int z5), (1, .long w1), (3, .int z3), (5, .int z5), (0, .ref (a0 0))]) hx hb dX7_findsTurning_83 hl (by decide) rfl (fun ls hl => ?_)
                      refine lv_iinc (v := (z5 + 1)) (lv' := [(5, .int (z5 + 1)), (4, .int z5), (1, .long w1), (3, .int z3), (0, .ref (a0 0))]) hx hb dX7_findsTurning_85 hl (k := 3) rfl rfl (by decide) rfl (fun ls hl => ?_)
                      refine lv_goto (tgt := 33) hx hb dX7_findsTurning_88 (by decide) ?_
                      exact ih _ _ _ _ _ _ _ ls h (hP.sub (ws' := md_v a0 q t0) [0, 1, 2, 3, 4, 5, 6, 7] rfl) (hD.sub (ws' := md_v a0 q t0) [0, 1, 2, 3, 4, 5, 6, 7] (by decide) rfl) hS (lv_sub hl [2, 3, 1, 0, 4] rfl)
        obtain ⟨n33, h⟩ := h
        refine lp33 _ ?_ n33 _ _ _ _ _ _ _ ls h (hP.sub (ws' := md_v a0 q t0) [0, 1, 2, 3, 4, 5, 6, 7] rfl) (hD.sub (ws' := md_v a0 q t0) [0, 1, 2, 3, 4, 5, 6, 7] (by decide) rfl) hS (lv_sub hl [2, 3, 1, 0, 4] rfl)
        · intro t0 w1 z3 z4 z5 H locs ls h hP hD hS hl
          try dsimp only at h
          have hP : va_P D vwCl [((a0 0), .inr (6, [.ref (a0 1), .ref (a0 2), .int (t0.1 0), .ref (a0 3), .ref (a0 5), .ref (a0 4), .long t0.2.1, .int (t0.1 1), .int (t0.1 2), .ref (a0 6), .int (t0.1 3), .int (t0.1 4), .ref (a0 7), .int (t0.1 5), .int (t0.1 6), .int (t0.1 7), .int (t0.1 8), .int (t0.1 9), .int (t0.1 10), .int (t0.1 11), .int (t0.1 12), .int (t0.1 13), .int (t0.1 14)])), ((a0 1), .inl (q 1, 6896, .inr (.inl (t0.2.2.1 0)))), ((a0 2), .inl (q 1, 68960, .inr (.inl (t0.2.2.1 1)))), ((a0 3), .inl (q 1, 13792, .inr (.inl (t0.2.2.1 2)))), ((a0 4), .inl (q 1, 6896, .inr (.inl (t0.2.2.1 3)))), ((a0 5), .inl (q 3, 2, .inl (t0.2.2.2 0))), ((a0 6), .inl (q 0, 40, .inl (t0.2.2.2 1))), ((a0 7), .inl (q 2, 400, .inl (t0.2.2.2 2)))] H := hP
          have hD : va_D _ [((a0 0), .inr (6, [.ref (a0 1), .ref (a0 2), .int (t0.1 0), .ref (a0 3), .ref (a0 5), .ref (a0 4), .long t0.2.1, .int (t0.1 1), .int (t0.1 2), .ref (a0 6), .int (t0.1 3), .int (t0.1 4), .ref (a0 7), .int (t0.1 5), .int (t0.1 6), .int (t0.1 7), .int (t0.1 8), .int (t0.1 9), .int (t0.1 10), .int (t0.1 11), .int (t0.1 12), .int (t0.1 13), .int (t0.1 14)])), ((a0 1), .inl (q 1, 6896, .inr (.inl (t0.2.2.1 0)))), ((a0 2), .inl (q 1, 68960, .inr (.inl (t0.2.2.1 1)))), ((a0 3), .inl (q 1, 13792, .inr (.inl (t0.2.2.1 2)))), ((a0 4), .inl (q 1, 6896, .inr (.inl (t0.2.2.1 3)))), ((a0 5), .inl (q 3, 2, .inl (t0.2.2.2 0))), ((a0 6), .inl (q 0, 40, .inl (t0.2.2.2 1))), ((a0 7), .inl (q 2, 400, .inl (t0.2.2.2 2)))] := hD
          refine lv_iload hx hb dX7_findsTurning_91 (lv_at hl 2 rfl) ?_
          refine lv_iconst (v := (-1)) hx hb dX7_findsTurning_93 (by decide) ?_
          refine lv_icmp_ne (tgt := 98) hx hb dX7_findsTurning_94 (by decide) (fun c_19 => ?_) (fun c_19 => ?_)
          · replace h := h.1 c_19
            refine lv_lload_n hx hb dX7_findsTurning_98 rfl (lv_at hl 0 rfl) ?_
            refine lv_lconst (v := 1) hx hb dX7_findsTurning_99 (by decide) ?_
            refine lv_iload hx hb dX7_findsTurning_100 (lv_at hl 2 rfl) ?_
            refine lv_lshl (v := ((1 : Int64) <<< (Int32.toInt64 z4 &&& 63))) hx hb dX7_findsTurning_102 rfl ?_
            refine lv_lor hx hb dX7_findsTurning_103 ?_
            refine lv_lstore_n (lv' := [(1, .long (w1 ||| ((1 : Int64) <<< (Int32.toInt64 z4 &&& 63)))), (3, .int z3), (4, .int z4), (5, .int z5), (0, .ref (a0 0))]) hx hb dX7_findsTurning_104 rfl hl (by decide) rfl (fun ls hl => ?_)
            refine lv_aload_n hx hb dX7_findsTurning_105 rfl (lv_at hl 4 rfl) ?_
            refine fl_get (C := RX7) (T := TX7) (N := 23) (ci := 6) (v := .int (t0.1 2)) hx hb ht in_X7 hown hK hP 0 rfl rfl 8 (by decide) mw_1138 rfl dX7_findsTurning_106 ?_
            refine lv_aload_n hx hb dX7_findsTurning_109 rfl (lv_at hl 4 rfl) ?_
            refine lv_iload hx hb dX7_findsTurning_110 (lv_at hl 2 rfl) ?_
            refine vp_callSi (rd_wV (wc := md_v a0 q t0) (As := [.int z4]) (rest := [.int (t0.1 2)]) hx hb hml hown ht (c2_X7_current h) wd_X7_current mw_1316 hQ hV hS (hP.sub [0, 1, 2, 3, 4, 5, 6, 7] rfl) rfl rfl rfl hl.1 rfl (Nat.le_of_ble_eq_true rfl) dX7_findsTurning_112 ⟨Nat.le_of_ble_eq_true rfl, Nat.le_of_ble_eq_true rfl, rfl, rfl⟩ ⟨Nat.le_of_ble_eq_true rfl, Nat.le_of_ble_eq_true rfl⟩) (fun r_20 h => ?_)
            try dsimp only at h
            refine lv_iadd hx hb dX7_findsTurning_115 ?_
            refine lv_i2l (v := (Int32.toInt64 ((t0.1 2) + r_20))) hx hb dX7_findsTurning_116 rfl ?_
            refine lv_aload_n hx hb dX7_findsTurning_117 rfl (lv_at hl 4 rfl) ?_
            refine fl_get (C := RX7) (T := TX7) (N := 23) (ci := 6) (v := .ref (a0 1)) hx hb ht in_X7 hown hK hP 0 rfl rfl 0 (by decide) mw_1130 rfl dX7_findsTurning_118 ?_
            refine lv_iconst (v := 2) hx hb dX7_findsTurning_121 (by decide) ?_
            refine va_lald hx hb hK hP 1 1 rfl rfl (in_c rfl) dX7_findsTurning_122 ?_
            refine W.lcmp hx hb dX7_findsTurning_123 ?_
            refine lv_if_le (tgt := 130) hx hb dX7_findsTurning_124 (by decide) (fun c_22 => ?_) (fun c_22 => ?_)
            · replace h := h.1 c_22
              refine lv_aload_n hx hb dX7_findsTurning_130 rfl (lv_at hl 4 rfl) ?_
              refine lv_dup hx hb dX7_findsTurning_131 rfl ?_
              refine fl_get (C := RX7) (T := TX7) (N := 23) (ci := 6) (v := .long t0.2.1) hx hb ht in_X7 hown hK hP 0 rfl rfl 6 (by decide) mw_1136 rfl dX7_findsTurning_132 ?_
              refine lv_lconst (v := 1) hx hb dX7_findsTurning_135 (by decide) ?_
              refine lv_iload hx hb dX7_findsTurning_136 (lv_at hl 2 rfl) ?_
              refine lv_lshl (v := ((1 : Int64) <<< (Int32.toInt64 z4 &&& 63))) hx hb dX7_findsTurning_138 rfl ?_
              refine lv_lor hx hb dX7_findsTurning_139 ?_
              refine fl_put (C := RX7) (T := TX7) (N := 23) (ci := 6) (v := .long (t0.2.1 ||| ((1 : Int64) <<< (Int32.toInt64 z4 &&& 63)))) (ws2 := [((a0 0), .inr (6, [.ref (a0 1), .ref (a0 2), .int (t0.1 0), .ref (a0 3), .ref (a0 5), .ref (a0 4), .long (t0.2.1 ||| ((1 : Int64) <<< (Int32.toInt64 z4 &&& 63))), .int (t0.1 1), .int (t0.1 2), .ref (a0 6), .int (t0.1 3), .int (t0.1 4), .ref (a0 7), .int (t0.1 5), .int (t0.1 6), .int (t0.1 7), .int (t0.1 8), .int (t0.1 9), .int (t0.1 10), .int (t0.1 11), .int (t0.1 12), .int (t0.1 13), .int (t0.1 14)])), ((a0 1), .inl (q 1, 6896, .inr (.inl (t0.2.2.1 0)))), ((a0 2), .inl (q 1, 68960, .inr (.inl (t0.2.2.1 1)))), ((a0 3), .inl (q 1, 13792, .inr (.inl (t0.2.2.1 2)))), ((a0 4), .inl (q 1, 6896, .inr (.inl (t0.2.2.1 3)))), ((a0 5), .inl (q 3, 2, .inl (t0.2.2.2 0))), ((a0 6), .inl (q 0, 40, .inl (t0.2.2.2 1))), ((a0 7), .inl (q 2, 400, .inl (t0.2.2.2 2)))]) hx hb ht in_X7 tyX7_ok nmX7 hown hK hP hD hS 0 rfl rfl 6 (by decide) mw_1136 rfl rfl rfl (Nat.le_of_ble_eq_true rfl) dX7_findsTurning_140 rfl (fun H locs hP hD hS => ?_)
              refine lv_aload_n hx hb dX7_findsTurning_143 rfl (lv_at hl 4 rfl) ?_
              refine lv_dup hx hb dX7_findsTurning_144 rfl ?_
              refine fl_get (C := RX7) (T := TX7) (N := 23) (ci := 6) (v := .int (t0.1 1)) hx hb ht in_X7 hown hK hP 0 rfl rfl 7 (by decide) mw_1137 rfl dX7_findsTurning_145 ?_
              refine lv_iconst (v := 1) hx hb dX7_findsTurning_148 (by decide) ?_
              refine lv_iadd hx hb dX7_findsTurning_149 ?_
              refine fl_put (C := RX7) (T := TX7) (N := 23) (ci := 6) (v := .int ((t0.1 1) + 1)) (ws2 := [((a0 0), .inr (6, [.ref (a0 1), .ref (a0 2), .int (t0.1 0), .ref (a0 3), .ref (a0 5), .ref (a0 4), .long (t0.2.1 ||| ((1 : Int64) <<< (Int32.toInt64 z4 &&& 63))), .int ((t0.1 1) + 1), .int (t0.1 2), .ref (a0 6), .int (t0.1 3), .int (t0.1 4), .ref (a0 7), .int (t0.1 5), .int (t0.1 6), .int (t0.1 7), .int (t0.1 8), .int (t0.1 9), .int (t0.1 10), .int (t0.1 11), .int (t0.1 12), .int (t0.1 13), .int (t0.1 14)])), ((a0 1), .inl (q 1, 6896, .inr (.inl (t0.2.2.1 0)))), ((a0 2), .inl (q 1, 68960, .inr (.inl (t0.2.2.1 1)))), ((a0 3), .inl (q 1, 13792, .inr (.inl (t0.2.2.1 2)))), ((a0 4), .inl (q 1, 6896, .inr (.inl (t0.2.2.1 3)))), ((a0 5), .inl (q 3, 2, .inl (t0.2.2.2 0))), ((a0 6), .inl (q 0, 40, .inl (t0.2.2.2 1))), ((a0 7), .inl (q 2, 400, .inl (t0.2.2.2 2)))]) hx hb ht in_X7 tyX7_ok nmX7 hown hK hP hD hS 0 rfl rfl 7 (by decide) mw_1137 rfl rfl rfl (Nat.le_of_ble_eq_true rfl) dX7_findsTurning_150 rfl (fun H locs hP hD hS => ?_)
              refine lv_aload_n hx hb dX7_findsTurning_153 rfl (lv_at hl 4 rfl) ?_
              refine lv_dup hx hb dX7_findsTurning_154 rfl ?_
              refine fl_get (C := RX7) (T := TX7) (N := 23) (ci := 6) (v := .int (t0.1 2)) hx hb ht in_X7 hown hK hP 0 rfl rfl 8 (by decide) mw_1138 rfl dX7_findsTurning_155 ?_
              refine lv_aload_n hx hb dX7_findsTurning_158 rfl (lv_at hl 4 rfl) ?_
              refine lv_iload hx hb dX7_findsTurning_159 (lv_at hl 2 rfl) ?_
              refine vp_callSi (rd_wV (wc := md_v a0 q ((va_up t0.1 1 ((t0.1 1) + 1)), (t0.2.1 ||| ((1 : Int64) <<< (Int32.toInt64 z4 &&& 63))), t0.2.2.1, t0.2.2.2)) (As := [.int z4]) (rest := [.int (t0.1 2), .ref (a0 0)]) hx hb hml hown ht (c2_X7_current h) wd_X7_current mw_1316 hQ hV hS (hP.sub [0, 1, 2, 3, 4, 5, 6, 7] rfl) rfl rfl rfl hl.1 rfl (Nat.le_of_ble_eq_true rfl) dX7_findsTurning_161 ⟨Nat.le_of_ble_eq_true rfl, Nat.le_of_ble_eq_true rfl, rfl, rfl⟩ ⟨Nat.le_of_ble_eq_true rfl, Nat.le_of_ble_eq_true rfl⟩) (fun r_23 h => ?_)
              try dsimp only at h
              refine lv_iadd hx hb dX7_findsTurning_164 ?_
              refine fl_put (C := RX7) (T := TX7) (N := 23) (ci := 6) (v := .int ((t0.1 2) + r_23)) (ws2 := [((a0 0), .inr (6, [.ref (a0 1), .ref (a0 2), .int (t0.1 0), .ref (a0 3), .ref (a0 5), .ref (a0 4), .long (t0.2.1 ||| ((1 : Int64) <<< (Int32.toInt64 z4 &&& 63))), .int ((t0.1 1) + 1), .int ((t0.1 2) + r_23), .ref (a0 6), .int (t0.1 3), .int (t0.1 4), .ref (a0 7), .int (t0.1 5), .int (t0.1 6), .int (t0.1 7), .int (t0.1 8), .int (t0.1 9), .int (t0.1 10), .int (t0.1 11), .int (t0.1 12), .int (t0.1 13), .int (t0.1 14)])), ((a0 1), .inl (q 1, 6896, .inr (.inl (t0.2.2.1 0)))), ((a0 2), .inl (q 1, 68960, .inr (.inl (t0.2.2.1 1)))), ((a0 3), .inl (q 1, 13792, .inr (.inl (t0.2.2.1 2)))), ((a0 4), .inl (q 1, 6896, .inr (.inl (t0.2.2.1 3)))), ((a0 5), .inl (q 3, 2, .inl (t0.2.2.2 0))), ((a0 6), .inl (q 0, 40, .inl (t0.2.2.2 1))), ((a0 7), .inl (q 2, 400, .inl (t0.2.2.2 2)))]) hx hb ht in_X7 tyX7_ok nmX7 hown hK hP hD hS 0 rfl rfl 8 (by decide) mw_1138 rfl rfl rfl (Nat.le_of_ble_eq_true rfl) dX7_findsTurning_165 rfl (fun H locs hP hD hS => ?_)
              refine lv_iinc (v := (z3 + 1)) (lv' := [(3, .int (z3 + 1)), (1, .long (w1 ||| ((1 : Int64) <<< (Int32.toInt64 z4 &&& 63)))), (4, .int z4), (5, .int z5), (0, .ref (a0 0))]) hx hb dX7_findsTurning_168 hl (k := 1) rfl rfl (by decide) rfl (fun ls hl => ?_)
              refine lv_goto (tgt := 19) hx hb dX7_findsTurning_171 (by decide) ?_
              exact ih _ _ _ _ _ ls h (hP.sub (ws' := md_v a0 q ((va_up (va_up t0.1 1 ((t0.1 1) + 1)) 2 ((t0.1 2) + r_23)), (t0.2.1 ||| ((1 : Int64) <<< (Int32.toInt64 z4 &&& 63))), t0.2.2.1, t0.2.2.2)) [0, 1, 2, 3, 4, 5, 6, 7] rfl) (hD.sub (ws' := md_v a0 q ((va_up (va_up t0.1 1 ((t0.1 1) + 1)) 2 ((t0.1 2) + r_23)), (t0.2.1 ||| ((1 : Int64) <<< (Int32.toInt64 z4 &&& 63))), t0.2.2.1, t0.2.2.2)) [0, 1, 2, 3, 4, 5, 6, 7] (by decide) rfl) hS (lv_sub hl [1, 0, 4] rfl)
            · replace h := h.2 c_22
              refine lv_goto (tgt := 168) hx hb dX7_findsTurning_127 (by decide) ?_
              refine lv_iinc (v := (z3 + 1)) (lv' := [(3, .int (z3 + 1)), (1, .long (w1 ||| ((1 : Int64) <<< (Int32.toInt64 z4 &&& 63)))), (4, .int z4), (5, .int z5), (0, .ref (a0 0))]) hx hb dX7_findsTurning_168 hl (k := 1) rfl rfl (by decide) rfl (fun ls hl => ?_)
              refine lv_goto (tgt := 19) hx hb dX7_findsTurning_171 (by decide) ?_
              exact ih _ _ _ _ _ ls h (hP.sub (ws' := md_v a0 q t0) [0, 1, 2, 3, 4, 5, 6, 7] rfl) (hD.sub (ws' := md_v a0 q t0) [0, 1, 2, 3, 4, 5, 6, 7] (by decide) rfl) hS (lv_sub hl [1, 0, 4] rfl)
          · replace h := h.2 c_19
            exact mt_vret t0 hx hb hr hk h (hP.sub (ws' := md_v a0 q t0) [0, 1, 2, 3, 4, 5, 6, 7] rfl) (hD.sub (ws' := md_v a0 q t0) [0, 1, 2, 3, 4, 5, 6, 7] (by decide) rfl) hS dX7_findsTurning_97
  obtain ⟨n19, h⟩ := h
  refine lp19 _ ?_ n19 _ _ _ _ _ ls h (hP.sub (ws' := md_v a0 q ((va_up (va_up s0.1 1 0) 2 0), 0, s0.2.2.1, s0.2.2.2)) [0, 1, 2, 3, 4, 5, 6, 7] rfl) (hD.sub (ws' := md_v a0 q ((va_up (va_up s0.1 1 0) 2 0), 0, s0.2.2.1, s0.2.2.2)) [0, 1, 2, 3, 4, 5, 6, 7] (by decide) rfl) hS (lv_sub hl [1, 0, 2] rfl)
  · intro t0 w1 z3 H locs ls h hP hD hS hl
    try dsimp only at h
    have hP : va_P D vwCl [((a0 0), .inr (6, [.ref (a0 1), .ref (a0 2), .int (t0.1 0), .ref (a0 3), .ref (a0 5), .ref (a0 4), .long t0.2.1, .int (t0.1 1), .int (t0.1 2), .ref (a0 6), .int (t0.1 3), .int (t0.1 4), .ref (a0 7), .int (t0.1 5), .int (t0.1 6), .int (t0.1 7), .int (t0.1 8), .int (t0.1 9), .int (t0.1 10), .int (t0.1 11), .int (t0.1 12), .int (t0.1 13), .int (t0.1 14)])), ((a0 1), .inl (q 1, 6896, .inr (.inl (t0.2.2.1 0)))), ((a0 2), .inl (q 1, 68960, .inr (.inl (t0.2.2.1 1)))), ((a0 3), .inl (q 1, 13792, .inr (.inl (t0.2.2.1 2)))), ((a0 4), .inl (q 1, 6896, .inr (.inl (t0.2.2.1 3)))), ((a0 5), .inl (q 3, 2, .inl (t0.2.2.2 0))), ((a0 6), .inl (q 0, 40, .inl (t0.2.2.2 1))), ((a0 7), .inl (q 2, 400, .inl (t0.2.2.2 2)))] H := hP
    have hD : va_D _ [((a0 0), .inr (6, [.ref (a0 1), .ref (a0 2), .int (t0.1 0), .ref (a0 3), .ref (a0 5), .ref (a0 4), .long t0.2.1, .int (t0.1 1), .int (t0.1 2), .ref (a0 6), .int (t0.1 3), .int (t0.1 4), .ref (a0 7), .int (t0.1 5), .int (t0.1 6), .int (t0.1 7), .int (t0.1 8), .int (t0.1 9), .int (t0.1 10), .int (t0.1 11), .int (t0.1 12), .int (t0.1 13), .int (t0.1 14)])), ((a0 1), .inl (q 1, 6896, .inr (.inl (t0.2.2.1 0)))), ((a0 2), .inl (q 1, 68960, .inr (.inl (t0.2.2.1 1)))), ((a0 3), .inl (q 1, 13792, .inr (.inl (t0.2.2.1 2)))), ((a0 4), .inl (q 1, 6896, .inr (.inl (t0.2.2.1 3)))), ((a0 5), .inl (q 3, 2, .inl (t0.2.2.2 0))), ((a0 6), .inl (q 0, 40, .inl (t0.2.2.2 1))), ((a0 7), .inl (q 2, 400, .inl (t0.2.2.2 2)))] := hD
    exact mt_vret t0 hx hb hr hk h (hP.sub (ws' := md_v a0 q t0) [0, 1, 2, 3, 4, 5, 6, 7] rfl) (hD.sub (ws' := md_v a0 q t0) [0, 1, 2, 3, 4, 5, 6, 7] (by decide) rfl) hS dX7_findsTurning_174
