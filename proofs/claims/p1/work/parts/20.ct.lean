set_option maxHeartbeats 4000000 in
set_option maxRecDepth 100000 in
theorem cf_whyNotRow {l : Launch} {D : va_G} {q : Nat → ClassId} {a : Nat → Nat} {x : Int32} : Met l yX6_whyNotRow (Cond.code yX6_whyNotRow cX6_whyNotRow 2 (some .int) :: w_all) ({ frames := 1, cells := 0, slots := 0, locals := 21 }) (rd_P D q [.ref (a 0), .int x] (fb_w a q)) (vp_Si (fun r => r = (-1))) 0 0 (fun _ => False) := by
  refine rd_start (by decide) (Nat.le_of_ble_eq_true rfl) ?_
  intro p e s m below meth c ls hx hb hr hml hown ht hk hP hQ hV hl
  have hK := hQ.1
  have hown : s.vm.findClass RX6 = some m.cls := hown
  have hl : lv_has ls 2 [(0, .ref (a 0)), (1, .int x)] := hl
  have hP := hP.sub (ws' := [((a 0), .inr (5, [.ref (a 1), .ref (a 3), .ref (a 16), .ref (a 29), .ref (a 33), .ref (a 41), .ref (a 43)])), ((a 3), .inr (0, [.int 0, .int 0, .int 0, .int 0, .int 0, .int 0, .ref (a 4), .ref (a 5), .ref (a 6), .ref (a 7), .ref (a 8), .ref (a 9), .ref (a 10), .ref (a 11), .ref (a 12), .ref (a 13), .ref (a 14), .ref (a 15)]))]) [0, 3] rfl
  refine lv_aload_n hx hb dX6_whyNotRow_0 rfl (lv_at hl 0 rfl) ?_
  refine fl_get (C := RX6) (T := TX6) (N := 7) (ci := 5) (v := .ref (a 3)) hx hb ht in_X6 hown hK hP 0 rfl rfl 1 (by decide) mw_356 rfl dX6_whyNotRow_1 ?_
  refine lv_iload_n hx hb dX6_whyNotRow_4 rfl (lv_at hl 1 rfl) ?_
  refine vp_callSi (rd_wV (wc := [((a 3), .inr (0, [.int 0, .int 0, .int 0, .int 0, .int 0, .int 0, .ref (a 4), .ref (a 5), .ref (a 6), .ref (a 7), .ref (a 8), .ref (a 9), .ref (a 10), .ref (a 11), .ref (a 12), .ref (a 13), .ref (a 14), .ref (a 15)]))]) (As := [.int x]) (rest := []) hx hb hml hown ht (ct_Board_hasRow) wd_X0_hasRow mw_621 hQ hV va_S.rf (hP.sub [1] rfl) rfl rfl rfl hl.1 rfl (Nat.le_of_ble_eq_true rfl) dX6_whyNotRow_5 ⟨Nat.le_of_ble_eq_true rfl, Nat.le_of_ble_eq_true rfl, rfl, rfl⟩ ⟨Nat.le_of_ble_eq_true rfl, Nat.le_of_ble_eq_true rfl⟩) (fun r_1 er_1 => ?_)
  obtain rfl : r_1 = 0 := er_1
  refine lv_if_ne (tgt := 13) hx hb dX6_whyNotRow_8 (by decide) (fun c9 => absurd c9 (by decide)) (fun c_2 => ?_)
  refine lv_iconst (v := (-1)) hx hb dX6_whyNotRow_11 (by decide) ?_
  exact rd_iret hx hb hr hk (rfl) dX6_whyNotRow_12

set_option maxHeartbeats 4000000 in
set_option maxRecDepth 100000 in
theorem cf_tick {l : Launch} {D : va_G} {q : Nat → ClassId} {a : Nat → Nat} {x : Int32} : Met l yX6_tick (Cond.code yX6_tick cX6_tick 2 (some .int) :: w_all) ({ frames := 1, cells := 0, slots := 0, locals := 20 }) (rd_P D q [.ref (a 0), .int x] (fb_w a q)) (vp_Si (fun r => r = (-1))) 0 0 (fun _ => False) := by
  refine rd_start (by decide) (Nat.le_of_ble_eq_true rfl) ?_
  intro p e s m below meth c ls hx hb hr hml hown ht hk hP hQ hV hl
  have hK := hQ.1
  have hown : s.vm.findClass RX6 = some m.cls := hown
  have hl : lv_has ls 2 [(0, .ref (a 0)), (1, .int x)] := hl
  have hP := hP.sub (ws' := [((a 0), .inr (5, [.ref (a 1), .ref (a 3), .ref (a 16), .ref (a 29), .ref (a 33), .ref (a 41), .ref (a 43)])), ((a 3), .inr (0, [.int 0, .int 0, .int 0, .int 0, .int 0, .int 0, .ref (a 4), .ref (a 5), .ref (a 6), .ref (a 7), .ref (a 8), .ref (a 9), .ref (a 10), .ref (a 11), .ref (a 12), .ref (a 13), .ref (a 14), .ref (a 15)]))]) [0, 3] rfl
  refine lv_aload_n hx hb dX6_tick_0 rfl (lv_at hl 0 rfl) ?_
  refine fl_get (C := RX6) (T := TX6) (N := 7) (ci := 5) (v := .ref (a 3)) hx hb ht in_X6 hown hK hP 0 rfl rfl 1 (by decide) mw_356 rfl dX6_tick_1 ?_
  refine vp_callSi (rd_wV (wc := [((a 3), .inr (0, [.int 0, .int 0, .int 0, .int 0, .int 0, .int 0, .ref (a 4), .ref (a 5), .ref (a 6), .ref (a 7), .ref (a 8), .ref (a 9), .ref (a 10), .ref (a 11), .ref (a 12), .ref (a 13), .ref (a 14), .ref (a 15)]))]) (As := []) (rest := []) hx hb hml hown ht (ct_Board_isThere) wd_X0_isThere mw_677 hQ hV va_S.rf (hP.sub [1] rfl) rfl rfl rfl hl.1 rfl (Nat.le_of_ble_eq_true rfl) dX6_tick_4 ⟨Nat.le_of_ble_eq_true rfl, Nat.le_of_ble_eq_true rfl, rfl, rfl⟩ ⟨Nat.le_of_ble_eq_true rfl, Nat.le_of_ble_eq_true rfl⟩) (fun r_1 er_1 => ?_)
  obtain rfl : r_1 = 0 := er_1
  refine lv_if_eq (tgt := 21) hx hb dX6_tick_7 (by decide) (fun c_2 => ?_) (fun c9 => absurd (by decide) c9)
  refine lv_iconst (v := (-1)) hx hb dX6_tick_21 (by decide) ?_
  exact rd_iret hx hb hr hk (rfl) dX6_tick_22

set_option maxHeartbeats 4000000 in
set_option maxRecDepth 100000 in
theorem cf_settle {l : Launch} {D : va_G} {q : Nat → ClassId} {a : Nat → Nat} : Met l yX6_settle (Cond.code yX6_settle cX6_settle 1 (some .int) :: w_all) ({ frames := 1, cells := 0, slots := 0, locals := 20 }) (rd_P D q [.ref (a 0)] (fb_w a q)) (vp_Si (fun r => r = (-1))) 0 0 (fun _ => False) := by
  refine rd_start (by decide) (Nat.le_of_ble_eq_true rfl) ?_
  intro p e s m below meth c ls hx hb hr hml hown ht hk hP hQ hV hl
  have hK := hQ.1
  have hown : s.vm.findClass RX6 = some m.cls := hown
  have hl : lv_has ls 1 [(0, .ref (a 0))] := hl
  have hP := hP.sub (ws' := [((a 0), .inr (5, [.ref (a 1), .ref (a 3), .ref (a 16), .ref (a 29), .ref (a 33), .ref (a 41), .ref (a 43)])), ((a 3), .inr (0, [.int 0, .int 0, .int 0, .int 0, .int 0, .int 0, .ref (a 4), .ref (a 5), .ref (a 6), .ref (a 7), .ref (a 8), .ref (a 9), .ref (a 10), .ref (a 11), .ref (a 12), .ref (a 13), .ref (a 14), .ref (a 15)]))]) [0, 3] rfl
  refine lv_aload_n hx hb dX6_settle_0 rfl (lv_at hl 0 rfl) ?_
  refine fl_get (C := RX6) (T := TX6) (N := 7) (ci := 5) (v := .ref (a 3)) hx hb ht in_X6 hown hK hP 0 rfl rfl 1 (by decide) mw_356 rfl dX6_settle_1 ?_
  refine vp_callSi (rd_wV (wc := [((a 3), .inr (0, [.int 0, .int 0, .int 0, .int 0, .int 0, .int 0, .ref (a 4), .ref (a 5), .ref (a 6), .ref (a 7), .ref (a 8), .ref (a 9), .ref (a 10), .ref (a 11), .ref (a 12), .ref (a 13), .ref (a 14), .ref (a 15)]))]) (As := []) (rest := []) hx hb hml hown ht (ct_Board_isThere) wd_X0_isThere mw_677 hQ hV va_S.rf (hP.sub [1] rfl) rfl rfl rfl hl.1 rfl (Nat.le_of_ble_eq_true rfl) dX6_settle_4 ⟨Nat.le_of_ble_eq_true rfl, Nat.le_of_ble_eq_true rfl, rfl, rfl⟩ ⟨Nat.le_of_ble_eq_true rfl, Nat.le_of_ble_eq_true rfl⟩) (fun r_1 er_1 => ?_)
  obtain rfl : r_1 = 0 := er_1
  refine lv_if_ne (tgt := 12) hx hb dX6_settle_7 (by decide) (fun c9 => absurd c9 (by decide)) (fun c_2 => ?_)
  refine lv_iconst (v := (-1)) hx hb dX6_settle_10 (by decide) ?_
  exact rd_iret hx hb hr hk (rfl) dX6_settle_11

set_option maxHeartbeats 4000000 in
set_option maxRecDepth 100000 in
theorem cf_lose {l : Launch} {D : va_G} {q : Nat → ClassId} {a : Nat → Nat} {x : Int32} {y : Int32} : Met l yX6_lose (Cond.code yX6_lose cX6_lose 4 (some .int) :: w_all) ({ frames := 2, cells := 0, slots := 0, locals := 41 }) (rd_P D q [.ref (a 0), .int x, .int y] (fb_w a q)) (vp_Si (fun r => r = (-1))) 0 0 (fun _ => False) := by
  refine rd_start (by decide) (Nat.le_of_ble_eq_true rfl) ?_
  intro p e s m below meth c ls hx hb hr hml hown ht hk hP hQ hV hl
  have hK := hQ.1
  have hown : s.vm.findClass RX6 = some m.cls := hown
  have hl : lv_has ls 4 [(0, .ref (a 0)), (1, .int x), (2, .int y)] := hl
  have hP := hP.sub (ws' := [((a 0), .inr (5, [.ref (a 1), .ref (a 3), .ref (a 16), .ref (a 29), .ref (a 33), .ref (a 41), .ref (a 43)])), ((a 3), .inr (0, [.int 0, .int 0, .int 0, .int 0, .int 0, .int 0, .ref (a 4), .ref (a 5), .ref (a 6), .ref (a 7), .ref (a 8), .ref (a 9), .ref (a 10), .ref (a 11), .ref (a 12), .ref (a 13), .ref (a 14), .ref (a 15)]))]) [0, 3] rfl
  refine lv_aload_n hx hb dX6_lose_0 rfl (lv_at hl 0 rfl) ?_
  refine fl_get (C := RX6) (T := TX6) (N := 7) (ci := 5) (v := .ref (a 3)) hx hb ht in_X6 hown hK hP 0 rfl rfl 1 (by decide) mw_356 rfl dX6_lose_1 ?_
  refine lv_iload_n hx hb dX6_lose_4 rfl (lv_at hl 1 rfl) ?_
  refine vp_callSi (rd_wV (wc := [((a 3), .inr (0, [.int 0, .int 0, .int 0, .int 0, .int 0, .int 0, .ref (a 4), .ref (a 5), .ref (a 6), .ref (a 7), .ref (a 8), .ref (a 9), .ref (a 10), .ref (a 11), .ref (a 12), .ref (a 13), .ref (a 14), .ref (a 15)]))]) (As := [.int x]) (rest := []) hx hb hml hown ht (ct_Board_hasCell) wd_X0_hasCell mw_730 hQ hV va_S.rf (hP.sub [1] rfl) rfl rfl rfl hl.1 rfl (Nat.le_of_ble_eq_true rfl) dX6_lose_5 ⟨Nat.le_of_ble_eq_true rfl, Nat.le_of_ble_eq_true rfl, rfl, rfl⟩ ⟨Nat.le_of_ble_eq_true rfl, Nat.le_of_ble_eq_true rfl⟩) (fun r_1 er_1 => ?_)
  obtain rfl : r_1 = 0 := er_1
  refine lv_if_eq (tgt := 21) hx hb dX6_lose_8 (by decide) (fun c_2 => ?_) (fun c9 => absurd (by decide) c9)
  refine lv_iconst (v := (-1)) hx hb dX6_lose_21 (by decide) ?_
  exact rd_iret hx hb hr hk (rfl) dX6_lose_22

set_option maxHeartbeats 4000000 in
set_option maxRecDepth 100000 in
theorem cf_wear {l : Launch} {D : va_G} {q : Nat → ClassId} {a : Nat → Nat} {x : Int32} {y : Int32} : Met l yX6_wear (Cond.code yX6_wear cX6_wear 3 (some .int) :: w_all) ({ frames := 3, cells := 0, slots := 0, locals := 63 }) (rd_P D q [.ref (a 0), .int x, .int y] (fb_w a q)) (vp_Si (fun r => r = (-1))) 0 0 (fun _ => False) := by
  refine rd_start (by decide) (Nat.le_of_ble_eq_true rfl) ?_
  intro p e s m below meth c ls hx hb hr hml hown ht hk hP hQ hV hl
  have hK := hQ.1
  have hown : s.vm.findClass RX6 = some m.cls := hown
  have hl : lv_has ls 3 [(0, .ref (a 0)), (1, .int x), (2, .int y)] := hl
  have hP := hP.sub (ws' := [((a 0), .inr (5, [.ref (a 1), .ref (a 3), .ref (a 16), .ref (a 29), .ref (a 33), .ref (a 41), .ref (a 43)])), ((a 3), .inr (0, [.int 0, .int 0, .int 0, .int 0, .int 0, .int 0, .ref (a 4), .ref (a 5), .ref (a 6), .ref (a 7), .ref (a 8), .ref (a 9), .ref (a 10), .ref (a 11), .ref (a 12), .ref (a 13), .ref (a 14), .ref (a 15)]))]) [0, 3] rfl
  refine lv_aload_n hx hb dX6_wear_0 rfl (lv_at hl 0 rfl) ?_
  refine fl_get (C := RX6) (T := TX6) (N := 7) (ci := 5) (v := .ref (a 3)) hx hb ht in_X6 hown hK hP 0 rfl rfl 1 (by decide) mw_356 rfl dX6_wear_1 ?_
  refine lv_iload_n hx hb dX6_wear_4 rfl (lv_at hl 1 rfl) ?_
  refine lv_iload_n hx hb dX6_wear_5 rfl (lv_at hl 2 rfl) ?_
  refine vp_callSi (rd_wV (wc := [((a 3), .inr (0, [.int 0, .int 0, .int 0, .int 0, .int 0, .int 0, .ref (a 4), .ref (a 5), .ref (a 6), .ref (a 7), .ref (a 8), .ref (a 9), .ref (a 10), .ref (a 11), .ref (a 12), .ref (a 13), .ref (a 14), .ref (a 15)]))]) (As := [.int x, .int y]) (rest := []) hx hb hml hown ht (ct_Board_hasFlap) wd_X0_hasFlap mw_736 hQ hV va_S.rf (hP.sub [1] rfl) rfl rfl rfl hl.1 rfl (Nat.le_of_ble_eq_true rfl) dX6_wear_6 ⟨Nat.le_of_ble_eq_true rfl, Nat.le_of_ble_eq_true rfl, rfl, rfl⟩ ⟨Nat.le_of_ble_eq_true rfl, Nat.le_of_ble_eq_true rfl⟩) (fun r_1 er_1 => ?_)
  obtain rfl : r_1 = 0 := er_1
  refine lv_if_eq (tgt := 16) hx hb dX6_wear_9 (by decide) (fun c_2 => ?_) (fun c9 => absurd (by decide) c9)
  refine lv_iconst (v := (-1)) hx hb dX6_wear_16 (by decide) ?_
  exact rd_iret hx hb hr hk (rfl) dX6_wear_17

set_option maxHeartbeats 4000000 in
set_option maxRecDepth 100000 in
theorem cf_mend {l : Launch} {D : va_G} {q : Nat → ClassId} {a : Nat → Nat} {x : Int32} {y : Int32} : Met l yX6_mend (Cond.code yX6_mend cX6_mend 3 (some .int) :: w_all) ({ frames := 3, cells := 0, slots := 0, locals := 63 }) (rd_P D q [.ref (a 0), .int x, .int y] (fb_w a q)) (vp_Si (fun r => r = (-1))) 0 0 (fun _ => False) := by
  refine rd_start (by decide) (Nat.le_of_ble_eq_true rfl) ?_
  intro p e s m below meth c ls hx hb hr hml hown ht hk hP hQ hV hl
  have hK := hQ.1
  have hown : s.vm.findClass RX6 = some m.cls := hown
  have hl : lv_has ls 3 [(0, .ref (a 0)), (1, .int x), (2, .int y)] := hl
  have hP := hP.sub (ws' := [((a 0), .inr (5, [.ref (a 1), .ref (a 3), .ref (a 16), .ref (a 29), .ref (a 33), .ref (a 41), .ref (a 43)])), ((a 3), .inr (0, [.int 0, .int 0, .int 0, .int 0, .int 0, .int 0, .ref (a 4), .ref (a 5), .ref (a 6), .ref (a 7), .ref (a 8), .ref (a 9), .ref (a 10), .ref (a 11), .ref (a 12), .ref (a 13), .ref (a 14), .ref (a 15)]))]) [0, 3] rfl
  refine lv_aload_n hx hb dX6_mend_0 rfl (lv_at hl 0 rfl) ?_
  refine fl_get (C := RX6) (T := TX6) (N := 7) (ci := 5) (v := .ref (a 3)) hx hb ht in_X6 hown hK hP 0 rfl rfl 1 (by decide) mw_356 rfl dX6_mend_1 ?_
  refine lv_iload_n hx hb dX6_mend_4 rfl (lv_at hl 1 rfl) ?_
  refine lv_iload_n hx hb dX6_mend_5 rfl (lv_at hl 2 rfl) ?_
  refine vp_callSi (rd_wV (wc := [((a 3), .inr (0, [.int 0, .int 0, .int 0, .int 0, .int 0, .int 0, .ref (a 4), .ref (a 5), .ref (a 6), .ref (a 7), .ref (a 8), .ref (a 9), .ref (a 10), .ref (a 11), .ref (a 12), .ref (a 13), .ref (a 14), .ref (a 15)]))]) (As := [.int x, .int y]) (rest := []) hx hb hml hown ht (ct_Board_hasFlap) wd_X0_hasFlap mw_736 hQ hV va_S.rf (hP.sub [1] rfl) rfl rfl rfl hl.1 rfl (Nat.le_of_ble_eq_true rfl) dX6_mend_6 ⟨Nat.le_of_ble_eq_true rfl, Nat.le_of_ble_eq_true rfl, rfl, rfl⟩ ⟨Nat.le_of_ble_eq_true rfl, Nat.le_of_ble_eq_true rfl⟩) (fun r_1 er_1 => ?_)
  obtain rfl : r_1 = 0 := er_1
  refine lv_if_ne (tgt := 14) hx hb dX6_mend_9 (by decide) (fun c9 => absurd c9 (by decide)) (fun c_2 => ?_)
  refine lv_iconst (v := (-1)) hx hb dX6_mend_12 (by decide) ?_
  exact rd_iret hx hb hr hk (rfl) dX6_mend_13

set_option maxHeartbeats 4000000 in
set_option maxRecDepth 100000 in
theorem cf_limit {l : Launch} {D : va_G} {q : Nat → ClassId} {a : Nat → Nat} {x : Int32} : Met l yX6_limit (Cond.code yX6_limit cX6_limit 3 (some .int) :: w_all) ({ frames := 1, cells := 0, slots := 0, locals := 20 }) (rd_P D q [.ref (a 0), .int x] (fb_w a q)) (vp_Si (fun r => r = (-1))) 0 0 (fun _ => False) := by
  refine rd_start (by decide) (Nat.le_of_ble_eq_true rfl) ?_
  intro p e s m below meth c ls hx hb hr hml hown ht hk hP hQ hV hl
  have hK := hQ.1
  have hown : s.vm.findClass RX6 = some m.cls := hown
  have hl : lv_has ls 3 [(0, .ref (a 0)), (1, .int x)] := hl
  have hP := hP.sub (ws' := [((a 0), .inr (5, [.ref (a 1), .ref (a 3), .ref (a 16), .ref (a 29), .ref (a 33), .ref (a 41), .ref (a 43)])), ((a 3), .inr (0, [.int 0, .int 0, .int 0, .int 0, .int 0, .int 0, .ref (a 4), .ref (a 5), .ref (a 6), .ref (a 7), .ref (a 8), .ref (a 9), .ref (a 10), .ref (a 11), .ref (a 12), .ref (a 13), .ref (a 14), .ref (a 15)]))]) [0, 3] rfl
  refine lv_aload_n hx hb dX6_limit_0 rfl (lv_at hl 0 rfl) ?_
  refine fl_get (C := RX6) (T := TX6) (N := 7) (ci := 5) (v := .ref (a 3)) hx hb ht in_X6 hown hK hP 0 rfl rfl 1 (by decide) mw_356 rfl dX6_limit_1 ?_
  refine vp_callSi (rd_wV (wc := [((a 3), .inr (0, [.int 0, .int 0, .int 0, .int 0, .int 0, .int 0, .ref (a 4), .ref (a 5), .ref (a 6), .ref (a 7), .ref (a 8), .ref (a 9), .ref (a 10), .ref (a 11), .ref (a 12), .ref (a 13), .ref (a 14), .ref (a 15)]))]) (As := []) (rest := []) hx hb hml hown ht (ct_Board_isThere) wd_X0_isThere mw_677 hQ hV va_S.rf (hP.sub [1] rfl) rfl rfl rfl hl.1 rfl (Nat.le_of_ble_eq_true rfl) dX6_limit_4 ⟨Nat.le_of_ble_eq_true rfl, Nat.le_of_ble_eq_true rfl, rfl, rfl⟩ ⟨Nat.le_of_ble_eq_true rfl, Nat.le_of_ble_eq_true rfl⟩) (fun r_1 er_1 => ?_)
  obtain rfl : r_1 = 0 := er_1
  refine lv_if_eq (tgt := 21) hx hb dX6_limit_7 (by decide) (fun c_2 => ?_) (fun c9 => absurd (by decide) c9)
  refine lv_iconst (v := (-1)) hx hb dX6_limit_21 (by decide) ?_
  exact rd_iret hx hb hr hk (rfl) dX6_limit_22

set_option maxHeartbeats 4000000 in
set_option maxRecDepth 100000 in
theorem cf_exchange {l : Launch} {D : va_G} {q : Nat → ClassId} {a : Nat → Nat} {x : Int32} {y : Int32} {z : Int32} : Met l yX6_exchange (Cond.code yX6_exchange cX6_exchange 4 (some .int) :: w_all) ({ frames := 2, cells := 0, slots := 0, locals := 43 }) (rd_P D q [.ref (a 0), .int x, .int y, .int z] (fb_w a q)) (vp_Si (fun r => r = (-1))) 0 0 (fun _ => False) := by
  refine rd_start (by decide) (Nat.le_of_ble_eq_true rfl) ?_
  intro p e s m below meth c ls hx hb hr hml hown ht hk hP hQ hV hl
  have hK := hQ.1
  have hown : s.vm.findClass RX6 = some m.cls := hown
  have hl : lv_has ls 4 [(0, .ref (a 0)), (1, .int x), (2, .int y), (3, .int z)] := hl
  have hP := hP.sub (ws' := [((a 0), .inr (5, [.ref (a 1), .ref (a 3), .ref (a 16), .ref (a 29), .ref (a 33), .ref (a 41), .ref (a 43)])), ((a 3), .inr (0, [.int 0, .int 0, .int 0, .int 0, .int 0, .int 0, .ref (a 4), .ref (a 5), .ref (a 6), .ref (a 7), .ref (a 8), .ref (a 9), .ref (a 10), .ref (a 11), .ref (a 12), .ref (a 13), .ref (a 14), .ref (a 15)]))]) [0, 3] rfl
  refine lv_aload_n hx hb dX6_exchange_0 rfl (lv_at hl 0 rfl) ?_
  refine fl_get (C := RX6) (T := TX6) (N := 7) (ci := 5) (v := .ref (a 3)) hx hb ht in_X6 hown hK hP 0 rfl rfl 1 (by decide) mw_356 rfl dX6_exchange_1 ?_
  refine lv_iload_n hx hb dX6_exchange_4 rfl (lv_at hl 1 rfl) ?_
  refine lv_iload_n hx hb dX6_exchange_5 rfl (lv_at hl 2 rfl) ?_
  refine vp_callSi (rd_wV (wc := [((a 3), .inr (0, [.int 0, .int 0, .int 0, .int 0, .int 0, .int 0, .ref (a 4), .ref (a 5), .ref (a 6), .ref (a 7), .ref (a 8), .ref (a 9), .ref (a 10), .ref (a 11), .ref (a 12), .ref (a 13), .ref (a 14), .ref (a 15)]))]) (As := [.int x, .int y]) (rest := []) hx hb hml hown ht (ct_Board_isMovable) wd_X0_isMovable mw_768 hQ hV va_S.rf (hP.sub [1] rfl) rfl rfl rfl hl.1 rfl (Nat.le_of_ble_eq_true rfl) dX6_exchange_6 ⟨Nat.le_of_ble_eq_true rfl, Nat.le_of_ble_eq_true rfl, rfl, rfl⟩ ⟨Nat.le_of_ble_eq_true rfl, Nat.le_of_ble_eq_true rfl⟩) (fun r_1 er_1 => ?_)
  obtain rfl : r_1 = 0 := er_1
  refine lv_if_eq (tgt := 29) hx hb dX6_exchange_9 (by decide) (fun c_2 => ?_) (fun c9 => absurd (by decide) c9)
  refine lv_iconst (v := (-1)) hx hb dX6_exchange_29 (by decide) ?_
  exact rd_iret hx hb hr hk (rfl) dX6_exchange_30

set_option maxHeartbeats 4000000 in
set_option maxRecDepth 100000 in
theorem cf_cell {l : Launch} {D : va_G} {q : Nat → ClassId} {a : Nat → Nat} {x : Int32} {y : Int32} : Met l yX6_cell (Cond.code yX6_cell cX6_cell 3 (some .int) :: w_all) ({ frames := 2, cells := 0, slots := 0, locals := 41 }) (rd_P D q [.ref (a 0), .int x, .int y] (fb_w a q)) (vp_Si (fun r => r = (-1))) 0 0 (fun _ => False) := by
  refine rd_start (by decide) (Nat.le_of_ble_eq_true rfl) ?_
  intro p e s m below meth c ls hx hb hr hml hown ht hk hP hQ hV hl
  have hK := hQ.1
  have hown : s.vm.findClass RX6 = some m.cls := hown
  have hl : lv_has ls 3 [(0, .ref (a 0)), (1, .int x), (2, .int y)] := hl
  have hP := hP.sub (ws' := [((a 0), .inr (5, [.ref (a 1), .ref (a 3), .ref (a 16), .ref (a 29), .ref (a 33), .ref (a 41), .ref (a 43)])), ((a 3), .inr (0, [.int 0, .int 0, .int 0, .int 0, .int 0, .int 0, .ref (a 4), .ref (a 5), .ref (a 6), .ref (a 7), .ref (a 8), .ref (a 9), .ref (a 10), .ref (a 11), .ref (a 12), .ref (a 13), .ref (a 14), .ref (a 15)]))]) [0, 3] rfl
  refine lv_aload_n hx hb dX6_cell_0 rfl (lv_at hl 0 rfl) ?_
  refine fl_get (C := RX6) (T := TX6) (N := 7) (ci := 5) (v := .ref (a 3)) hx hb ht in_X6 hown hK hP 0 rfl rfl 1 (by decide) mw_356 rfl dX6_cell_1 ?_
  refine lv_iload_n hx hb dX6_cell_4 rfl (lv_at hl 1 rfl) ?_
  refine vp_callSi (rd_wV (wc := [((a 3), .inr (0, [.int 0, .int 0, .int 0, .int 0, .int 0, .int 0, .ref (a 4), .ref (a 5), .ref (a 6), .ref (a 7), .ref (a 8), .ref (a 9), .ref (a 10), .ref (a 11), .ref (a 12), .ref (a 13), .ref (a 14), .ref (a 15)]))]) (As := [.int x]) (rest := []) hx hb hml hown ht (ct_Board_hasCell) wd_X0_hasCell mw_730 hQ hV va_S.rf (hP.sub [1] rfl) rfl rfl rfl hl.1 rfl (Nat.le_of_ble_eq_true rfl) dX6_cell_5 ⟨Nat.le_of_ble_eq_true rfl, Nat.le_of_ble_eq_true rfl, rfl, rfl⟩ ⟨Nat.le_of_ble_eq_true rfl, Nat.le_of_ble_eq_true rfl⟩) (fun r_1 er_1 => ?_)
  obtain rfl : r_1 = 0 := er_1
  refine lv_if_ne (tgt := 13) hx hb dX6_cell_8 (by decide) (fun c9 => absurd c9 (by decide)) (fun c_2 => ?_)
  refine lv_iconst (v := (-1)) hx hb dX6_cell_11 (by decide) ?_
  exact rd_iret hx hb hr hk (rfl) dX6_cell_12

set_option maxHeartbeats 4000000 in
set_option maxRecDepth 100000 in
theorem cf_drum {l : Launch} {D : va_G} {q : Nat → ClassId} {a : Nat → Nat} {x : Int32} {y : Int32} : Met l yX6_drum (Cond.code yX6_drum cX6_drum 3 (some .int) :: w_all) ({ frames := 1, cells := 0, slots := 0, locals := 21 }) (rd_P D q [.ref (a 0), .int x, .int y] (fb_w a q)) (vp_Si (fun r => r = (-1))) 0 0 (fun _ => False) := by
  refine rd_start (by decide) (Nat.le_of_ble_eq_true rfl) ?_
  intro p e s m below meth c ls hx hb hr hml hown ht hk hP hQ hV hl
  have hK := hQ.1
  have hown : s.vm.findClass RX6 = some m.cls := hown
  have hl : lv_has ls 3 [(0, .ref (a 0)), (1, .int x), (2, .int y)] := hl
  have hP := hP.sub (ws' := [((a 0), .inr (5, [.ref (a 1), .ref (a 3), .ref (a 16), .ref (a 29), .ref (a 33), .ref (a 41), .ref (a 43)])), ((a 3), .inr (0, [.int 0, .int 0, .int 0, .int 0, .int 0, .int 0, .ref (a 4), .ref (a 5), .ref (a 6), .ref (a 7), .ref (a 8), .ref (a 9), .ref (a 10), .ref (a 11), .ref (a 12), .ref (a 13), .ref (a 14), .ref (a 15)]))]) [0, 3] rfl
  refine lv_aload_n hx hb dX6_drum_0 rfl (lv_at hl 0 rfl) ?_
  refine fl_get (C := RX6) (T := TX6) (N := 7) (ci := 5) (v := .ref (a 3)) hx hb ht in_X6 hown hK hP 0 rfl rfl 1 (by decide) mw_356 rfl dX6_drum_1 ?_
  refine lv_iload_n hx hb dX6_drum_4 rfl (lv_at hl 1 rfl) ?_
  refine vp_callSi (rd_wV (wc := [((a 3), .inr (0, [.int 0, .int 0, .int 0, .int 0, .int 0, .int 0, .ref (a 4), .ref (a 5), .ref (a 6), .ref (a 7), .ref (a 8), .ref (a 9), .ref (a 10), .ref (a 11), .ref (a 12), .ref (a 13), .ref (a 14), .ref (a 15)]))]) (As := [.int x]) (rest := []) hx hb hml hown ht (ct_Board_hasDrum) wd_X0_hasDrum mw_904 hQ hV va_S.rf (hP.sub [1] rfl) rfl rfl rfl hl.1 rfl (Nat.le_of_ble_eq_true rfl) dX6_drum_5 ⟨Nat.le_of_ble_eq_true rfl, Nat.le_of_ble_eq_true rfl, rfl, rfl⟩ ⟨Nat.le_of_ble_eq_true rfl, Nat.le_of_ble_eq_true rfl⟩) (fun r_1 er_1 => ?_)
  obtain rfl : r_1 = 0 := er_1
  refine lv_if_ne (tgt := 13) hx hb dX6_drum_8 (by decide) (fun c9 => absurd c9 (by decide)) (fun c_2 => ?_)
  refine lv_iconst (v := (-1)) hx hb dX6_drum_11 (by decide) ?_
  exact rd_iret hx hb hr hk (rfl) dX6_drum_12

set_option maxHeartbeats 4000000 in
set_option maxRecDepth 100000 in
theorem cf_sign {l : Launch} {D : va_G} {q : Nat → ClassId} {a : Nat → Nat} {x : Int32} {y : Int32} : Met l yX6_sign (Cond.code yX6_sign cX6_sign 3 (some .int) :: w_all) ({ frames := 1, cells := 0, slots := 0, locals := 22 }) (rd_P D q [.ref (a 0), .int x, .int y] (fb_w a q)) (vp_Si (fun r => r = (-1))) 0 0 (fun _ => False) := by
  refine rd_start (by decide) (Nat.le_of_ble_eq_true rfl) ?_
  intro p e s m below meth c ls hx hb hr hml hown ht hk hP hQ hV hl
  have hK := hQ.1
  have hown : s.vm.findClass RX6 = some m.cls := hown
  have hl : lv_has ls 3 [(0, .ref (a 0)), (1, .int x), (2, .int y)] := hl
  have hP := hP.sub (ws' := [((a 0), .inr (5, [.ref (a 1), .ref (a 3), .ref (a 16), .ref (a 29), .ref (a 33), .ref (a 41), .ref (a 43)])), ((a 3), .inr (0, [.int 0, .int 0, .int 0, .int 0, .int 0, .int 0, .ref (a 4), .ref (a 5), .ref (a 6), .ref (a 7), .ref (a 8), .ref (a 9), .ref (a 10), .ref (a 11), .ref (a 12), .ref (a 13), .ref (a 14), .ref (a 15)]))]) [0, 3] rfl
  refine lv_aload_n hx hb dX6_sign_0 rfl (lv_at hl 0 rfl) ?_
  refine fl_get (C := RX6) (T := TX6) (N := 7) (ci := 5) (v := .ref (a 3)) hx hb ht in_X6 hown hK hP 0 rfl rfl 1 (by decide) mw_356 rfl dX6_sign_1 ?_
  refine lv_iload_n hx hb dX6_sign_4 rfl (lv_at hl 1 rfl) ?_
  refine lv_iload_n hx hb dX6_sign_5 rfl (lv_at hl 2 rfl) ?_
  refine vp_callSi (rd_wV (wc := [((a 3), .inr (0, [.int 0, .int 0, .int 0, .int 0, .int 0, .int 0, .ref (a 4), .ref (a 5), .ref (a 6), .ref (a 7), .ref (a 8), .ref (a 9), .ref (a 10), .ref (a 11), .ref (a 12), .ref (a 13), .ref (a 14), .ref (a 15)]))]) (As := [.int x, .int y]) (rest := []) hx hb hml hown ht (ct_Board_signOf) wd_X0_signOf mw_934 hQ hV va_S.rf (hP.sub [1] rfl) rfl rfl rfl hl.1 rfl (Nat.le_of_ble_eq_true rfl) dX6_sign_6 ⟨Nat.le_of_ble_eq_true rfl, Nat.le_of_ble_eq_true rfl, rfl, rfl⟩ ⟨Nat.le_of_ble_eq_true rfl, Nat.le_of_ble_eq_true rfl⟩) (fun r_1 er_1 => ?_)
  obtain rfl : r_1 = (-1) := er_1
  exact rd_iret hx hb hr hk (rfl) dX6_sign_9

set_option maxHeartbeats 4000000 in
set_option maxRecDepth 100000 in
theorem cf_at {l : Launch} {D : va_G} {q : Nat → ClassId} {a : Nat → Nat} {x : Int32} {y : Int32} {z : Int32} : Met l yX6_at (Cond.code yX6_at cX6_at 5 (some .int) :: w_all) ({ frames := 1, cells := 0, slots := 0, locals := 21 }) (rd_P D q [.ref (a 0), .int x, .int y, .int z] (fb_w a q)) (vp_Si (fun r => r = (-1))) 0 0 (fun _ => False) := by
  refine rd_start (by decide) (Nat.le_of_ble_eq_true rfl) ?_
  intro p e s m below meth c ls hx hb hr hml hown ht hk hP hQ hV hl
  have hK := hQ.1
  have hown : s.vm.findClass RX6 = some m.cls := hown
  have hl : lv_has ls 5 [(0, .ref (a 0)), (1, .int x), (2, .int y), (3, .int z)] := hl
  have hP := hP.sub (ws' := [((a 0), .inr (5, [.ref (a 1), .ref (a 3), .ref (a 16), .ref (a 29), .ref (a 33), .ref (a 41), .ref (a 43)])), ((a 3), .inr (0, [.int 0, .int 0, .int 0, .int 0, .int 0, .int 0, .ref (a 4), .ref (a 5), .ref (a 6), .ref (a 7), .ref (a 8), .ref (a 9), .ref (a 10), .ref (a 11), .ref (a 12), .ref (a 13), .ref (a 14), .ref (a 15)]))]) [0, 3] rfl
  refine lv_aload_n hx hb dX6_at_0 rfl (lv_at hl 0 rfl) ?_
  refine fl_get (C := RX6) (T := TX6) (N := 7) (ci := 5) (v := .ref (a 3)) hx hb ht in_X6 hown hK hP 0 rfl rfl 1 (by decide) mw_356 rfl dX6_at_1 ?_
  refine lv_iload_n hx hb dX6_at_4 rfl (lv_at hl 1 rfl) ?_
  refine vp_callSi (rd_wV (wc := [((a 3), .inr (0, [.int 0, .int 0, .int 0, .int 0, .int 0, .int 0, .ref (a 4), .ref (a 5), .ref (a 6), .ref (a 7), .ref (a 8), .ref (a 9), .ref (a 10), .ref (a 11), .ref (a 12), .ref (a 13), .ref (a 14), .ref (a 15)]))]) (As := [.int x]) (rest := []) hx hb hml hown ht (ct_Board_hasRow) wd_X0_hasRow mw_621 hQ hV va_S.rf (hP.sub [1] rfl) rfl rfl rfl hl.1 rfl (Nat.le_of_ble_eq_true rfl) dX6_at_5 ⟨Nat.le_of_ble_eq_true rfl, Nat.le_of_ble_eq_true rfl, rfl, rfl⟩ ⟨Nat.le_of_ble_eq_true rfl, Nat.le_of_ble_eq_true rfl⟩) (fun r_1 er_1 => ?_)
  obtain rfl : r_1 = 0 := er_1
  refine lv_if_eq (tgt := 26) hx hb dX6_at_8 (by decide) (fun c_2 => ?_) (fun c9 => absurd (by decide) c9)
  refine lv_iconst (v := (-1)) hx hb dX6_at_26 (by decide) ?_
  exact rd_iret hx hb hr hk (rfl) dX6_at_27

set_option maxHeartbeats 4000000 in
set_option maxRecDepth 100000 in
theorem cf_left {l : Launch} {D : va_G} {q : Nat → ClassId} {a : Nat → Nat} {x : Int32} : Met l yX6_left (Cond.code yX6_left cX6_left 2 (some .int) :: w_all) ({ frames := 1, cells := 0, slots := 0, locals := 20 }) (rd_P D q [.ref (a 0), .int x] (fb_w a q)) (vp_Si (fun r => r = (-1))) 0 0 (fun _ => False) := by
  refine rd_start (by decide) (Nat.le_of_ble_eq_true rfl) ?_
  intro p e s m below meth c ls hx hb hr hml hown ht hk hP hQ hV hl
  have hK := hQ.1
  have hown : s.vm.findClass RX6 = some m.cls := hown
  have hl : lv_has ls 2 [(0, .ref (a 0)), (1, .int x)] := hl
  have hP := hP.sub (ws' := [((a 0), .inr (5, [.ref (a 1), .ref (a 3), .ref (a 16), .ref (a 29), .ref (a 33), .ref (a 41), .ref (a 43)])), ((a 3), .inr (0, [.int 0, .int 0, .int 0, .int 0, .int 0, .int 0, .ref (a 4), .ref (a 5), .ref (a 6), .ref (a 7), .ref (a 8), .ref (a 9), .ref (a 10), .ref (a 11), .ref (a 12), .ref (a 13), .ref (a 14), .ref (a 15)]))]) [0, 3] rfl
  refine lv_aload_n hx hb dX6_left_0 rfl (lv_at hl 0 rfl) ?_
  refine fl_get (C := RX6) (T := TX6) (N := 7) (ci := 5) (v := .ref (a 3)) hx hb ht in_X6 hown hK hP 0 rfl rfl 1 (by decide) mw_356 rfl dX6_left_1 ?_
  refine vp_callSi (rd_wV (wc := [((a 3), .inr (0, [.int 0, .int 0, .int 0, .int 0, .int 0, .int 0, .ref (a 4), .ref (a 5), .ref (a 6), .ref (a 7), .ref (a 8), .ref (a 9), .ref (a 10), .ref (a 11), .ref (a 12), .ref (a 13), .ref (a 14), .ref (a 15)]))]) (As := []) (rest := []) hx hb hml hown ht (ct_Board_isThere) wd_X0_isThere mw_677 hQ hV va_S.rf (hP.sub [1] rfl) rfl rfl rfl hl.1 rfl (Nat.le_of_ble_eq_true rfl) dX6_left_4 ⟨Nat.le_of_ble_eq_true rfl, Nat.le_of_ble_eq_true rfl, rfl, rfl⟩ ⟨Nat.le_of_ble_eq_true rfl, Nat.le_of_ble_eq_true rfl⟩) (fun r_1 er_1 => ?_)
  obtain rfl : r_1 = 0 := er_1
  refine lv_if_ne (tgt := 12) hx hb dX6_left_7 (by decide) (fun c9 => absurd c9 (by decide)) (fun c_2 => ?_)
  refine lv_iconst (v := (-1)) hx hb dX6_left_10 (by decide) ?_
  exact rd_iret hx hb hr hk (rfl) dX6_left_11

set_option maxHeartbeats 4000000 in
set_option maxRecDepth 100000 in
theorem cf_when {l : Launch} {D : va_G} {q : Nat → ClassId} {a : Nat → Nat} {x : Int32} : Met l yX6_when (Cond.code yX6_when cX6_when 2 (some .int) :: w_all) ({ frames := 1, cells := 0, slots := 0, locals := 20 }) (rd_P D q [.ref (a 0), .int x] (fb_w a q)) (vp_Si (fun r => r = (-1))) 0 0 (fun _ => False) := by
  refine rd_start (by decide) (Nat.le_of_ble_eq_true rfl) ?_
  intro p e s m below meth c ls hx hb hr hml hown ht hk hP hQ hV hl
  have hK := hQ.1
  have hown : s.vm.findClass RX6 = some m.cls := hown
  have hl : lv_has ls 2 [(0, .ref (a 0)), (1, .int x)] := hl
  have hP := hP.sub (ws' := [((a 0), .inr (5, [.ref (a 1), .ref (a 3), .ref (a 16), .ref (a 29), .ref (a 33), .ref (a 41), .ref (a 43)])), ((a 3), .inr (0, [.int 0, .int 0, .int 0, .int 0, .int 0, .int 0, .ref (a 4), .ref (a 5), .ref (a 6), .ref (a 7), .ref (a 8), .ref (a 9), .ref (a 10), .ref (a 11), .ref (a 12), .ref (a 13), .ref (a 14), .ref (a 15)]))]) [0, 3] rfl
  refine lv_aload_n hx hb dX6_when_0 rfl (lv_at hl 0 rfl) ?_
  refine fl_get (C := RX6) (T := TX6) (N := 7) (ci := 5) (v := .ref (a 3)) hx hb ht in_X6 hown hK hP 0 rfl rfl 1 (by decide) mw_356 rfl dX6_when_1 ?_
  refine vp_callSi (rd_wV (wc := [((a 3), .inr (0, [.int 0, .int 0, .int 0, .int 0, .int 0, .int 0, .ref (a 4), .ref (a 5), .ref (a 6), .ref (a 7), .ref (a 8), .ref (a 9), .ref (a 10), .ref (a 11), .ref (a 12), .ref (a 13), .ref (a 14), .ref (a 15)]))]) (As := []) (rest := []) hx hb hml hown ht (ct_Board_isThere) wd_X0_isThere mw_677 hQ hV va_S.rf (hP.sub [1] rfl) rfl rfl rfl hl.1 rfl (Nat.le_of_ble_eq_true rfl) dX6_when_4 ⟨Nat.le_of_ble_eq_true rfl, Nat.le_of_ble_eq_true rfl, rfl, rfl⟩ ⟨Nat.le_of_ble_eq_true rfl, Nat.le_of_ble_eq_true rfl⟩) (fun r_1 er_1 => ?_)
  obtain rfl : r_1 = 0 := er_1
  refine lv_if_eq (tgt := 19) hx hb dX6_when_7 (by decide) (fun c_2 => ?_) (fun c9 => absurd (by decide) c9)
  refine lv_iconst (v := (-1)) hx hb dX6_when_19 (by decide) ?_
  exact rd_iret hx hb hr hk (rfl) dX6_when_20

set_option maxHeartbeats 4000000 in
set_option maxRecDepth 100000 in
theorem cf_loudest {l : Launch} {D : va_G} {q : Nat → ClassId} {a : Nat → Nat} {x : Int32} : Met l yX6_loudest (Cond.code yX6_loudest cX6_loudest 2 (some .int) :: w_all) ({ frames := 1, cells := 0, slots := 0, locals := 20 }) (rd_P D q [.ref (a 0), .int x] (fb_w a q)) (vp_Si (fun r => r = (-1))) 0 0 (fun _ => False) := by
  refine rd_start (by decide) (Nat.le_of_ble_eq_true rfl) ?_
  intro p e s m below meth c ls hx hb hr hml hown ht hk hP hQ hV hl
  have hK := hQ.1
  have hown : s.vm.findClass RX6 = some m.cls := hown
  have hl : lv_has ls 2 [(0, .ref (a 0)), (1, .int x)] := hl
  have hP := hP.sub (ws' := [((a 0), .inr (5, [.ref (a 1), .ref (a 3), .ref (a 16), .ref (a 29), .ref (a 33), .ref (a 41), .ref (a 43)])), ((a 3), .inr (0, [.int 0, .int 0, .int 0, .int 0, .int 0, .int 0, .ref (a 4), .ref (a 5), .ref (a 6), .ref (a 7), .ref (a 8), .ref (a 9), .ref (a 10), .ref (a 11), .ref (a 12), .ref (a 13), .ref (a 14), .ref (a 15)]))]) [0, 3] rfl
  refine lv_aload_n hx hb dX6_loudest_0 rfl (lv_at hl 0 rfl) ?_
  refine fl_get (C := RX6) (T := TX6) (N := 7) (ci := 5) (v := .ref (a 3)) hx hb ht in_X6 hown hK hP 0 rfl rfl 1 (by decide) mw_356 rfl dX6_loudest_1 ?_
  refine vp_callSi (rd_wV (wc := [((a 3), .inr (0, [.int 0, .int 0, .int 0, .int 0, .int 0, .int 0, .ref (a 4), .ref (a 5), .ref (a 6), .ref (a 7), .ref (a 8), .ref (a 9), .ref (a 10), .ref (a 11), .ref (a 12), .ref (a 13), .ref (a 14), .ref (a 15)]))]) (As := []) (rest := []) hx hb hml hown ht (ct_Board_isThere) wd_X0_isThere mw_677 hQ hV va_S.rf (hP.sub [1] rfl) rfl rfl rfl hl.1 rfl (Nat.le_of_ble_eq_true rfl) dX6_loudest_4 ⟨Nat.le_of_ble_eq_true rfl, Nat.le_of_ble_eq_true rfl, rfl, rfl⟩ ⟨Nat.le_of_ble_eq_true rfl, Nat.le_of_ble_eq_true rfl⟩) (fun r_1 er_1 => ?_)
  obtain rfl : r_1 = 0 := er_1
  refine lv_if_eq (tgt := 19) hx hb dX6_loudest_7 (by decide) (fun c_2 => ?_) (fun c9 => absurd (by decide) c9)
  refine lv_iconst (v := (-1)) hx hb dX6_loudest_19 (by decide) ?_
  exact rd_iret hx hb hr hk (rfl) dX6_loudest_20

set_option maxHeartbeats 4000000 in
set_option maxRecDepth 100000 in
theorem cf_total {l : Launch} {D : va_G} {q : Nat → ClassId} {a : Nat → Nat} {x : Int32} : Met l yX6_total (Cond.code yX6_total cX6_total 2 (some .int) :: w_all) ({ frames := 1, cells := 0, slots := 0, locals := 20 }) (rd_P D q [.ref (a 0), .int x] (fb_w a q)) (vp_Si (fun r => r = (-1))) 0 0 (fun _ => False) := by
  refine rd_start (by decide) (Nat.le_of_ble_eq_true rfl) ?_
  intro p e s m below meth c ls hx hb hr hml hown ht hk hP hQ hV hl
  have hK := hQ.1
  have hown : s.vm.findClass RX6 = some m.cls := hown
  have hl : lv_has ls 2 [(0, .ref (a 0)), (1, .int x)] := hl
  have hP := hP.sub (ws' := [((a 0), .inr (5, [.ref (a 1), .ref (a 3), .ref (a 16), .ref (a 29), .ref (a 33), .ref (a 41), .ref (a 43)])), ((a 3), .inr (0, [.int 0, .int 0, .int 0, .int 0, .int 0, .int 0, .ref (a 4), .ref (a 5), .ref (a 6), .ref (a 7), .ref (a 8), .ref (a 9), .ref (a 10), .ref (a 11), .ref (a 12), .ref (a 13), .ref (a 14), .ref (a 15)]))]) [0, 3] rfl
  refine lv_aload_n hx hb dX6_total_0 rfl (lv_at hl 0 rfl) ?_
  refine fl_get (C := RX6) (T := TX6) (N := 7) (ci := 5) (v := .ref (a 3)) hx hb ht in_X6 hown hK hP 0 rfl rfl 1 (by decide) mw_356 rfl dX6_total_1 ?_
  refine vp_callSi (rd_wV (wc := [((a 3), .inr (0, [.int 0, .int 0, .int 0, .int 0, .int 0, .int 0, .ref (a 4), .ref (a 5), .ref (a 6), .ref (a 7), .ref (a 8), .ref (a 9), .ref (a 10), .ref (a 11), .ref (a 12), .ref (a 13), .ref (a 14), .ref (a 15)]))]) (As := []) (rest := []) hx hb hml hown ht (ct_Board_isThere) wd_X0_isThere mw_677 hQ hV va_S.rf (hP.sub [1] rfl) rfl rfl rfl hl.1 rfl (Nat.le_of_ble_eq_true rfl) dX6_total_4 ⟨Nat.le_of_ble_eq_true rfl, Nat.le_of_ble_eq_true rfl, rfl, rfl⟩ ⟨Nat.le_of_ble_eq_true rfl, Nat.le_of_ble_eq_true rfl⟩) (fun r_1 er_1 => ?_)
  obtain rfl : r_1 = 0 := er_1
  refine lv_if_ne (tgt := 12) hx hb dX6_total_7 (by decide) (fun c9 => absurd c9 (by decide)) (fun c_2 => ?_)
  refine lv_iconst (v := (-1)) hx hb dX6_total_10 (by decide) ?_
  exact rd_iret hx hb hr hk (rfl) dX6_total_11

set_option maxHeartbeats 4000000 in
set_option maxRecDepth 100000 in
theorem cf_rests {l : Launch} {D : va_G} {q : Nat → ClassId} {a : Nat → Nat} {x : Int32} : Met l yX6_rests (Cond.code yX6_rests cX6_rests 3 (some .int) :: w_all) ({ frames := 2, cells := 0, slots := 0, locals := 41 }) (rd_P D q [.ref (a 0), .int x] (fb_w a q)) (vp_Si (fun r => r = (-1))) 0 0 (fun _ => False) := by
  refine rd_start (by decide) (Nat.le_of_ble_eq_true rfl) ?_
  intro p e s m below meth c ls hx hb hr hml hown ht hk hP hQ hV hl
  have hK := hQ.1
  have hown : s.vm.findClass RX6 = some m.cls := hown
  have hl : lv_has ls 3 [(0, .ref (a 0)), (1, .int x)] := hl
  have hP := hP.sub (ws' := [((a 0), .inr (5, [.ref (a 1), .ref (a 3), .ref (a 16), .ref (a 29), .ref (a 33), .ref (a 41), .ref (a 43)])), ((a 3), .inr (0, [.int 0, .int 0, .int 0, .int 0, .int 0, .int 0, .ref (a 4), .ref (a 5), .ref (a 6), .ref (a 7), .ref (a 8), .ref (a 9), .ref (a 10), .ref (a 11), .ref (a 12), .ref (a 13), .ref (a 14), .ref (a 15)]))]) [0, 3] rfl
  refine lv_aload_n hx hb dX6_rests_0 rfl (lv_at hl 0 rfl) ?_
  refine fl_get (C := RX6) (T := TX6) (N := 7) (ci := 5) (v := .ref (a 3)) hx hb ht in_X6 hown hK hP 0 rfl rfl 1 (by decide) mw_356 rfl dX6_rests_1 ?_
  refine lv_iload_n hx hb dX6_rests_4 rfl (lv_at hl 1 rfl) ?_
  refine vp_callSi (rd_wV (wc := [((a 3), .inr (0, [.int 0, .int 0, .int 0, .int 0, .int 0, .int 0, .ref (a 4), .ref (a 5), .ref (a 6), .ref (a 7), .ref (a 8), .ref (a 9), .ref (a 10), .ref (a 11), .ref (a 12), .ref (a 13), .ref (a 14), .ref (a 15)]))]) (As := [.int x]) (rest := []) hx hb hml hown ht (ct_Board_hasCell) wd_X0_hasCell mw_730 hQ hV va_S.rf (hP.sub [1] rfl) rfl rfl rfl hl.1 rfl (Nat.le_of_ble_eq_true rfl) dX6_rests_5 ⟨Nat.le_of_ble_eq_true rfl, Nat.le_of_ble_eq_true rfl, rfl, rfl⟩ ⟨Nat.le_of_ble_eq_true rfl, Nat.le_of_ble_eq_true rfl⟩) (fun r_1 er_1 => ?_)
  obtain rfl : r_1 = 0 := er_1
  refine lv_if_ne (tgt := 13) hx hb dX6_rests_8 (by decide) (fun c9 => absurd c9 (by decide)) (fun c_2 => ?_)
  refine lv_iconst (v := (-1)) hx hb dX6_rests_11 (by decide) ?_
  exact rd_iret hx hb hr hk (rfl) dX6_rests_12

set_option maxHeartbeats 4000000 in
set_option maxRecDepth 100000 in
theorem cf_cost {l : Launch} {D : va_G} {q : Nat → ClassId} {a : Nat → Nat} {x : Int32} : Met l yX6_cost (Cond.code yX6_cost cX6_cost 3 (some .int) :: w_all) ({ frames := 2, cells := 0, slots := 0, locals := 42 }) (rd_P D q [.ref (a 0), .int x] (fb_w a q)) (vp_Si (fun r => r = (-1))) 0 0 (fun _ => False) := by
  refine rd_start (by decide) (Nat.le_of_ble_eq_true rfl) ?_
  intro p e s m below meth c ls hx hb hr hml hown ht hk hP hQ hV hl
  have hK := hQ.1
  have hown : s.vm.findClass RX6 = some m.cls := hown
  have hl : lv_has ls 3 [(0, .ref (a 0)), (1, .int x)] := hl
  have hP := hP.sub (ws' := [((a 0), .inr (5, [.ref (a 1), .ref (a 3), .ref (a 16), .ref (a 29), .ref (a 33), .ref (a 41), .ref (a 43)])), ((a 1), .inr (4, [.ref (a 2), .int 0, .int 0, .int 0, .int 0, .int 0, .int 0])), ((a 2), .inl (q 0, 400, .inl (fun _ => 0))), ((a 3), .inr (0, [.int 0, .int 0, .int 0, .int 0, .int 0, .int 0, .ref (a 4), .ref (a 5), .ref (a 6), .ref (a 7), .ref (a 8), .ref (a 9), .ref (a 10), .ref (a 11), .ref (a 12), .ref (a 13), .ref (a 14), .ref (a 15)])), ((a 4), .inl (q 0, 4, .inl (fun _ => 0))), ((a 5), .inl (q 0, 4, .inl (fun _ => 0))), ((a 6), .inl (q 0, 160, .inl (fun _ => 0))), ((a 7), .inl (q 0, 40, .inl (fun _ => 0))), ((a 8), .inl (q 0, 40, .inl (fun _ => 0))), ((a 9), .inl (q 0, 40, .inl (fun _ => 0))), ((a 10), .inl (q 0, 40, .inl (fun _ => 0))), ((a 11), .inl (q 0, 40, .inl (fun _ => 0))), ((a 12), .inl (q 0, 40, .inl (fun _ => 0))), ((a 13), .inl (q 0, 40, .inl (fun _ => 0))), ((a 14), .inl (q 1, 40, .inr (.inl (fun _ => 0)))), ((a 15), .inl (q 0, 0, .inl (fun _ => 0))), ((a 16), .inr (0, [.int 0, .int 0, .int 0, .int 0, .int 0, .int 0, .ref (a 17), .ref (a 18), .ref (a 19), .ref (a 20), .ref (a 21), .ref (a 22), .ref (a 23), .ref (a 24), .ref (a 25), .ref (a 26), .ref (a 27), .ref (a 28)])), ((a 17), .inl (q 0, 4, .inl (fun _ => 0))), ((a 18), .inl (q 0, 4, .inl (fun _ => 0))), ((a 19), .inl (q 0, 160, .inl (fun _ => 0))), ((a 20), .inl (q 0, 40, .inl (fun _ => 0))), ((a 21), .inl (q 0, 40, .inl (fun _ => 0))), ((a 22), .inl (q 0, 40, .inl (fun _ => 0))), ((a 23), .inl (q 0, 40, .inl (fun _ => 0))), ((a 24), .inl (q 0, 40, .inl (fun _ => 0))), ((a 25), .inl (q 0, 40, .inl (fun _ => 0))), ((a 26), .inl (q 0, 40, .inl (fun _ => 0))), ((a 27), .inl (q 1, 40, .inr (.inl (fun _ => 0)))), ((a 28), .inl (q 0, 0, .inl (fun _ => 0))), ((a 29), .inr (1, [.ref (a 30), .ref (a 31), .ref (a 32), .int 0, .int 0, .int 0, .int 0, .int 0, .int 0, .int 0, .int 0, .int 0])), ((a 30), .inl (q 0, 40, .inl (fun _ => 0))), ((a 31), .inl (q 0, 40, .inl (fun _ => 0))), ((a 32), .inl (q 0, 40, .inl (fun _ => 0))), ((a 33), .inr (3, [.ref (a 34), .ref (a 35), .ref (a 36), .ref (a 37), .ref (a 38), .ref (a 39), .ref (a 40), .int 0, .int 0, .int 0])), ((a 34), .inl (q 0, 80, .inl (fun _ => 0))), ((a 35), .inl (q 0, 80, .inl (fun _ => 0))), ((a 36), .inl (q 0, 80, .inl (fun _ => 0))), ((a 37), .inl (q 0, 80, .inl (fun _ => 0))), ((a 38), .inl (q 0, 80, .inl (fun _ => 0))), ((a 39), .inl (q 0, 3, .inl (fun _ => 0))), ((a 40), .inl (q 0, 3, .inl (fun _ => 0))), ((a 41), .inr (2, [.ref (a 42), .int 0, .int 0])), ((a 42), .inl (q 4, 10, .inr (.inr (.inr (.inr (fun _ => none)))))), ((a 43), .inl (q 4, 2, .inr (.inr (.inr (.inr (fun _ => none))))))]) [0, 1, 2, 3, 4, 5, 6, 7, 8, 9, 10, 11, 12, 13, 14, 15, 16, 17, 18, 19, 20, 21, 22, 23, 24, 25, 26, 27, 28, 29, 30, 31, 32, 33, 34, 35, 36, 37, 38, 39, 40, 41, 42, 43] rfl
  refine lv_aload_n hx hb dX6_cost_0 rfl (lv_at hl 0 rfl) ?_
  refine lv_iload_n hx hb dX6_cost_1 rfl (lv_at hl 1 rfl) ?_
  refine vp_callSi (rd_wV (wc := [((a 0), .inr (5, [.ref (a 1), .ref (a 3), .ref (a 16), .ref (a 29), .ref (a 33), .ref (a 41), .ref (a 43)])), ((a 1), .inr (4, [.ref (a 2), .int 0, .int 0, .int 0, .int 0, .int 0, .int 0])), ((a 2), .inl (q 0, 400, .inl (fun _ => 0))), ((a 3), .inr (0, [.int 0, .int 0, .int 0, .int 0, .int 0, .int 0, .ref (a 4), .ref (a 5), .ref (a 6), .ref (a 7), .ref (a 8), .ref (a 9), .ref (a 10), .ref (a 11), .ref (a 12), .ref (a 13), .ref (a 14), .ref (a 15)])), ((a 4), .inl (q 0, 4, .inl (fun _ => 0))), ((a 5), .inl (q 0, 4, .inl (fun _ => 0))), ((a 6), .inl (q 0, 160, .inl (fun _ => 0))), ((a 7), .inl (q 0, 40, .inl (fun _ => 0))), ((a 8), .inl (q 0, 40, .inl (fun _ => 0))), ((a 9), .inl (q 0, 40, .inl (fun _ => 0))), ((a 10), .inl (q 0, 40, .inl (fun _ => 0))), ((a 11), .inl (q 0, 40, .inl (fun _ => 0))), ((a 12), .inl (q 0, 40, .inl (fun _ => 0))), ((a 13), .inl (q 0, 40, .inl (fun _ => 0))), ((a 14), .inl (q 1, 40, .inr (.inl (fun _ => 0)))), ((a 15), .inl (q 0, 0, .inl (fun _ => 0))), ((a 16), .inr (0, [.int 0, .int 0, .int 0, .int 0, .int 0, .int 0, .ref (a 17), .ref (a 18), .ref (a 19), .ref (a 20), .ref (a 21), .ref (a 22), .ref (a 23), .ref (a 24), .ref (a 25), .ref (a 26), .ref (a 27), .ref (a 28)])), ((a 17), .inl (q 0, 4, .inl (fun _ => 0))), ((a 18), .inl (q 0, 4, .inl (fun _ => 0))), ((a 19), .inl (q 0, 160, .inl (fun _ => 0))), ((a 20), .inl (q 0, 40, .inl (fun _ => 0))), ((a 21), .inl (q 0, 40, .inl (fun _ => 0))), ((a 22), .inl (q 0, 40, .inl (fun _ => 0))), ((a 23), .inl (q 0, 40, .inl (fun _ => 0))), ((a 24), .inl (q 0, 40, .inl (fun _ => 0))), ((a 25), .inl (q 0, 40, .inl (fun _ => 0))), ((a 26), .inl (q 0, 40, .inl (fun _ => 0))), ((a 27), .inl (q 1, 40, .inr (.inl (fun _ => 0)))), ((a 28), .inl (q 0, 0, .inl (fun _ => 0))), ((a 29), .inr (1, [.ref (a 30), .ref (a 31), .ref (a 32), .int 0, .int 0, .int 0, .int 0, .int 0, .int 0, .int 0, .int 0, .int 0])), ((a 30), .inl (q 0, 40, .inl (fun _ => 0))), ((a 31), .inl (q 0, 40, .inl (fun _ => 0))), ((a 32), .inl (q 0, 40, .inl (fun _ => 0))), ((a 33), .inr (3, [.ref (a 34), .ref (a 35), .ref (a 36), .ref (a 37), .ref (a 38), .ref (a 39), .ref (a 40), .int 0, .int 0, .int 0])), ((a 34), .inl (q 0, 80, .inl (fun _ => 0))), ((a 35), .inl (q 0, 80, .inl (fun _ => 0))), ((a 36), .inl (q 0, 80, .inl (fun _ => 0))), ((a 37), .inl (q 0, 80, .inl (fun _ => 0))), ((a 38), .inl (q 0, 80, .inl (fun _ => 0))), ((a 39), .inl (q 0, 3, .inl (fun _ => 0))), ((a 40), .inl (q 0, 3, .inl (fun _ => 0))), ((a 41), .inr (2, [.ref (a 42), .int 0, .int 0])), ((a 42), .inl (q 4, 10, .inr (.inr (.inr (.inr (fun _ => none)))))), ((a 43), .inl (q 4, 2, .inr (.inr (.inr (.inr (fun _ => none))))))]) (As := [.int x]) (rest := []) hx hb hml hown ht (cf_whyNotRow) wd_X6_whyNotRow mw_617 hQ hV va_S.rf (hP.sub [0, 1, 2, 3, 4, 5, 6, 7, 8, 9, 10, 11, 12, 13, 14, 15, 16, 17, 18, 19, 20, 21, 22, 23, 24, 25, 26, 27, 28, 29, 30, 31, 32, 33, 34, 35, 36, 37, 38, 39, 40, 41, 42, 43] rfl) rfl rfl rfl hl.1 rfl (Nat.le_of_ble_eq_true rfl) dX6_cost_2 ⟨Nat.le_of_ble_eq_true rfl, Nat.le_of_ble_eq_true rfl, rfl, rfl⟩ ⟨Nat.le_of_ble_eq_true rfl, Nat.le_of_ble_eq_true rfl⟩) (fun r_1 er_1 => ?_)
  obtain rfl : r_1 = (-1) := er_1
  refine lv_istore_n (lv' := [(2, .int (-1)), (0, .ref (a 0)), (1, .int x)]) hx hb dX6_cost_5 rfl hl (by decide) rfl (fun ls hl => ?_)
  refine lv_iload_n hx hb dX6_cost_6 rfl (lv_at hl 0 rfl) ?_
  refine lv_if_ne (tgt := 34) hx hb dX6_cost_7 (by decide) (fun c_2 => ?_) (fun c9 => absurd c9 (by decide))
  refine lv_iload_n hx hb dX6_cost_34 rfl (lv_at hl 0 rfl) ?_
  exact rd_iret hx hb hr hk (rfl) dX6_cost_35

set_option maxHeartbeats 4000000 in
set_option maxRecDepth 100000 in
theorem cf_best {l : Launch} {D : va_G} {q : Nat → ClassId} {a : Nat → Nat} {x : Int32} {y : Int32} : Met l yX6_best (Cond.code yX6_best cX6_best 12 (some .int) :: w_all) ({ frames := 1, cells := 0, slots := 0, locals := 21 }) (rd_P D q [.ref (a 0), .int x, .int y] (fb_w a q)) (vp_Si (fun r => r = (-1))) 0 0 (fun _ => False) := by
  refine rd_start (by decide) (Nat.le_of_ble_eq_true rfl) ?_
  intro p e s m below meth c ls hx hb hr hml hown ht hk hP hQ hV hl
  have hK := hQ.1
  have hown : s.vm.findClass RX6 = some m.cls := hown
  have hl : lv_has ls 12 [(0, .ref (a 0)), (1, .int x), (2, .int y)] := hl
  have hP := hP.sub (ws' := [((a 0), .inr (5, [.ref (a 1), .ref (a 3), .ref (a 16), .ref (a 29), .ref (a 33), .ref (a 41), .ref (a 43)])), ((a 3), .inr (0, [.int 0, .int 0, .int 0, .int 0, .int 0, .int 0, .ref (a 4), .ref (a 5), .ref (a 6), .ref (a 7), .ref (a 8), .ref (a 9), .ref (a 10), .ref (a 11), .ref (a 12), .ref (a 13), .ref (a 14), .ref (a 15)]))]) [0, 3] rfl
  refine lv_aload_n hx hb dX6_best_0 rfl (lv_at hl 0 rfl) ?_
  refine fl_get (C := RX6) (T := TX6) (N := 7) (ci := 5) (v := .ref (a 3)) hx hb ht in_X6 hown hK hP 0 rfl rfl 1 (by decide) mw_356 rfl dX6_best_1 ?_
  refine lv_iload_n hx hb dX6_best_4 rfl (lv_at hl 1 rfl) ?_
  refine vp_callSi (rd_wV (wc := [((a 3), .inr (0, [.int 0, .int 0, .int 0, .int 0, .int 0, .int 0, .ref (a 4), .ref (a 5), .ref (a 6), .ref (a 7), .ref (a 8), .ref (a 9), .ref (a 10), .ref (a 11), .ref (a 12), .ref (a 13), .ref (a 14), .ref (a 15)]))]) (As := [.int x]) (rest := []) hx hb hml hown ht (ct_Board_hasRow) wd_X0_hasRow mw_621 hQ hV va_S.rf (hP.sub [1] rfl) rfl rfl rfl hl.1 rfl (Nat.le_of_ble_eq_true rfl) dX6_best_5 ⟨Nat.le_of_ble_eq_true rfl, Nat.le_of_ble_eq_true rfl, rfl, rfl⟩ ⟨Nat.le_of_ble_eq_true rfl, Nat.le_of_ble_eq_true rfl⟩) (fun r_1 er_1 => ?_)
  obtain rfl : r_1 = 0 := er_1
  refine lv_if_eq (tgt := 20) hx hb dX6_best_8 (by decide) (fun c_2 => ?_) (fun c9 => absurd (by decide) c9)
  refine lv_iconst (v := (-1)) hx hb dX6_best_20 (by decide) ?_
  exact rd_iret hx hb hr hk (rfl) dX6_best_21

set_option maxHeartbeats 4000000 in
set_option maxRecDepth 100000 in
theorem cf_place {l : Launch} {D : va_G} {q : Nat → ClassId} {a : Nat → Nat} {x : Int32} {y : Int32} : Met l yX6_place (Cond.code yX6_place cX6_place 10 (some .int) :: w_all) ({ frames := 1, cells := 0, slots := 0, locals := 21 }) (rd_P D q [.ref (a 0), .int x, .int y] (fb_w a q)) (vp_Si (fun r => r = (-1))) 0 0 (fun _ => False) := by
  refine rd_start (by decide) (Nat.le_of_ble_eq_true rfl) ?_
  intro p e s m below meth c ls hx hb hr hml hown ht hk hP hQ hV hl
  have hK := hQ.1
  have hown : s.vm.findClass RX6 = some m.cls := hown
  have hl : lv_has ls 10 [(0, .ref (a 0)), (1, .int x), (2, .int y)] := hl
  have hP := hP.sub (ws' := [((a 0), .inr (5, [.ref (a 1), .ref (a 3), .ref (a 16), .ref (a 29), .ref (a 33), .ref (a 41), .ref (a 43)])), ((a 3), .inr (0, [.int 0, .int 0, .int 0, .int 0, .int 0, .int 0, .ref (a 4), .ref (a 5), .ref (a 6), .ref (a 7), .ref (a 8), .ref (a 9), .ref (a 10), .ref (a 11), .ref (a 12), .ref (a 13), .ref (a 14), .ref (a 15)]))]) [0, 3] rfl
  refine lv_aload_n hx hb dX6_place_0 rfl (lv_at hl 0 rfl) ?_
  refine fl_get (C := RX6) (T := TX6) (N := 7) (ci := 5) (v := .ref (a 3)) hx hb ht in_X6 hown hK hP 0 rfl rfl 1 (by decide) mw_356 rfl dX6_place_1 ?_
  refine lv_iload_n hx hb dX6_place_4 rfl (lv_at hl 1 rfl) ?_
  refine vp_callSi (rd_wV (wc := [((a 3), .inr (0, [.int 0, .int 0, .int 0, .int 0, .int 0, .int 0, .ref (a 4), .ref (a 5), .ref (a 6), .ref (a 7), .ref (a 8), .ref (a 9), .ref (a 10), .ref (a 11), .ref (a 12), .ref (a 13), .ref (a 14), .ref (a 15)]))]) (As := [.int x]) (rest := []) hx hb hml hown ht (ct_Board_hasRow) wd_X0_hasRow mw_621 hQ hV va_S.rf (hP.sub [1] rfl) rfl rfl rfl hl.1 rfl (Nat.le_of_ble_eq_true rfl) dX6_place_5 ⟨Nat.le_of_ble_eq_true rfl, Nat.le_of_ble_eq_true rfl, rfl, rfl⟩ ⟨Nat.le_of_ble_eq_true rfl, Nat.le_of_ble_eq_true rfl⟩) (fun r_1 er_1 => ?_)
  obtain rfl : r_1 = 0 := er_1
  refine lv_if_eq (tgt := 20) hx hb dX6_place_8 (by decide) (fun c_2 => ?_) (fun c9 => absurd (by decide) c9)
  refine lv_iconst (v := (-1)) hx hb dX6_place_20 (by decide) ?_
  exact rd_iret hx hb hr hk (rfl) dX6_place_21

set_option maxHeartbeats 4000000 in
set_option maxRecDepth 100000 in
theorem cf_log {l : Launch} {D : va_G} {q : Nat → ClassId} {a : Nat → Nat} {x : Int32} {y : Int32} : Met l yX6_log (Cond.code yX6_log cX6_log 3 (some .int) :: w_all) ({ frames := 1, cells := 0, slots := 0, locals := 21 }) (rd_P D q [.ref (a 0), .int x, .int y] (fb_w a q)) (vp_Si (fun r => r = (-1))) 0 0 (fun _ => False) := by
  refine rd_start (by decide) (Nat.le_of_ble_eq_true rfl) ?_
  intro p e s m below meth c ls hx hb hr hml hown ht hk hP hQ hV hl
  have hK := hQ.1
  have hown : s.vm.findClass RX6 = some m.cls := hown
  have hl : lv_has ls 3 [(0, .ref (a 0)), (1, .int x), (2, .int y)] := hl
  have hP := hP.sub (ws' := [((a 0), .inr (5, [.ref (a 1), .ref (a 3), .ref (a 16), .ref (a 29), .ref (a 33), .ref (a 41), .ref (a 43)])), ((a 3), .inr (0, [.int 0, .int 0, .int 0, .int 0, .int 0, .int 0, .ref (a 4), .ref (a 5), .ref (a 6), .ref (a 7), .ref (a 8), .ref (a 9), .ref (a 10), .ref (a 11), .ref (a 12), .ref (a 13), .ref (a 14), .ref (a 15)]))]) [0, 3] rfl
  refine lv_aload_n hx hb dX6_log_0 rfl (lv_at hl 0 rfl) ?_
  refine fl_get (C := RX6) (T := TX6) (N := 7) (ci := 5) (v := .ref (a 3)) hx hb ht in_X6 hown hK hP 0 rfl rfl 1 (by decide) mw_356 rfl dX6_log_1 ?_
  refine lv_iload_n hx hb dX6_log_4 rfl (lv_at hl 1 rfl) ?_
  refine vp_callSi (rd_wV (wc := [((a 3), .inr (0, [.int 0, .int 0, .int 0, .int 0, .int 0, .int 0, .ref (a 4), .ref (a 5), .ref (a 6), .ref (a 7), .ref (a 8), .ref (a 9), .ref (a 10), .ref (a 11), .ref (a 12), .ref (a 13), .ref (a 14), .ref (a 15)]))]) (As := [.int x]) (rest := []) hx hb hml hown ht (ct_Board_hasDrum) wd_X0_hasDrum mw_904 hQ hV va_S.rf (hP.sub [1] rfl) rfl rfl rfl hl.1 rfl (Nat.le_of_ble_eq_true rfl) dX6_log_5 ⟨Nat.le_of_ble_eq_true rfl, Nat.le_of_ble_eq_true rfl, rfl, rfl⟩ ⟨Nat.le_of_ble_eq_true rfl, Nat.le_of_ble_eq_true rfl⟩) (fun r_1 er_1 => ?_)
  obtain rfl : r_1 = 0 := er_1
  refine lv_if_ne (tgt := 13) hx hb dX6_log_8 (by decide) (fun c9 => absurd c9 (by decide)) (fun c_2 => ?_)
  refine lv_iconst (v := (-1)) hx hb dX6_log_11 (by decide) ?_
  exact rd_iret hx hb hr hk (rfl) dX6_log_12

set_option maxHeartbeats 4000000 in
set_option maxRecDepth 100000 in
theorem cf_usual {l : Launch} {D : va_G} {q : Nat → ClassId} {a : Nat → Nat} {x : Int32} {y : Int32} : Met l yX6_usual (Cond.code yX6_usual cX6_usual 7 (some .int) :: w_all) ({ frames := 1, cells := 0, slots := 0, locals := 21 }) (rd_P D q [.ref (a 0), .int x, .int y] (fb_w a q)) (vp_Si (fun r => r = (-1))) 0 0 (fun _ => False) := by
  refine rd_start (by decide) (Nat.le_of_ble_eq_true rfl) ?_
  intro p e s m below meth c ls hx hb hr hml hown ht hk hP hQ hV hl
  have hK := hQ.1
  have hown : s.vm.findClass RX6 = some m.cls := hown
  have hl : lv_has ls 7 [(0, .ref (a 0)), (1, .int x), (2, .int y)] := hl
  have hP := hP.sub (ws' := [((a 0), .inr (5, [.ref (a 1), .ref (a 3), .ref (a 16), .ref (a 29), .ref (a 33), .ref (a 41), .ref (a 43)])), ((a 3), .inr (0, [.int 0, .int 0, .int 0, .int 0, .int 0, .int 0, .ref (a 4), .ref (a 5), .ref (a 6), .ref (a 7), .ref (a 8), .ref (a 9), .ref (a 10), .ref (a 11), .ref (a 12), .ref (a 13), .ref (a 14), .ref (a 15)]))]) [0, 3] rfl
  refine lv_aload_n hx hb dX6_usual_0 rfl (lv_at hl 0 rfl) ?_
  refine fl_get (C := RX6) (T := TX6) (N := 7) (ci := 5) (v := .ref (a 3)) hx hb ht in_X6 hown hK hP 0 rfl rfl 1 (by decide) mw_356 rfl dX6_usual_1 ?_
  refine lv_iload_n hx hb dX6_usual_4 rfl (lv_at hl 1 rfl) ?_
  refine vp_callSi (rd_wV (wc := [((a 3), .inr (0, [.int 0, .int 0, .int 0, .int 0, .int 0, .int 0, .ref (a 4), .ref (a 5), .ref (a 6), .ref (a 7), .ref (a 8), .ref (a 9), .ref (a 10), .ref (a 11), .ref (a 12), .ref (a 13), .ref (a 14), .ref (a 15)]))]) (As := [.int x]) (rest := []) hx hb hml hown ht (ct_Board_hasDrum) wd_X0_hasDrum mw_904 hQ hV va_S.rf (hP.sub [1] rfl) rfl rfl rfl hl.1 rfl (Nat.le_of_ble_eq_true rfl) dX6_usual_5 ⟨Nat.le_of_ble_eq_true rfl, Nat.le_of_ble_eq_true rfl, rfl, rfl⟩ ⟨Nat.le_of_ble_eq_true rfl, Nat.le_of_ble_eq_true rfl⟩) (fun r_1 er_1 => ?_)
  obtain rfl : r_1 = 0 := er_1
  refine lv_if_eq (tgt := 20) hx hb dX6_usual_8 (by decide) (fun c_2 => ?_) (fun c9 => absurd (by decide) c9)
  refine lv_iconst (v := (-1)) hx hb dX6_usual_20 (by decide) ?_
  exact rd_iret hx hb hr hk (rfl) dX6_usual_21

set_option maxHeartbeats 4000000 in
set_option maxRecDepth 100000 in
theorem cf_better {l : Launch} {D : va_G} {q : Nat → ClassId} {a : Nat → Nat} {x : Int32} {y : Int32} : Met l yX6_better (Cond.code yX6_better cX6_better 10 (some .int) :: w_all) ({ frames := 1, cells := 0, slots := 0, locals := 21 }) (rd_P D q [.ref (a 0), .int x, .int y] (fb_w a q)) (vp_Si (fun r => r = (-1))) 0 0 (fun _ => False) := by
  refine rd_start (by decide) (Nat.le_of_ble_eq_true rfl) ?_
  intro p e s m below meth c ls hx hb hr hml hown ht hk hP hQ hV hl
  have hK := hQ.1
  have hown : s.vm.findClass RX6 = some m.cls := hown
  have hl : lv_has ls 10 [(0, .ref (a 0)), (1, .int x), (2, .int y)] := hl
  have hP := hP.sub (ws' := [((a 0), .inr (5, [.ref (a 1), .ref (a 3), .ref (a 16), .ref (a 29), .ref (a 33), .ref (a 41), .ref (a 43)])), ((a 3), .inr (0, [.int 0, .int 0, .int 0, .int 0, .int 0, .int 0, .ref (a 4), .ref (a 5), .ref (a 6), .ref (a 7), .ref (a 8), .ref (a 9), .ref (a 10), .ref (a 11), .ref (a 12), .ref (a 13), .ref (a 14), .ref (a 15)]))]) [0, 3] rfl
  refine lv_aload_n hx hb dX6_better_0 rfl (lv_at hl 0 rfl) ?_
  refine fl_get (C := RX6) (T := TX6) (N := 7) (ci := 5) (v := .ref (a 3)) hx hb ht in_X6 hown hK hP 0 rfl rfl 1 (by decide) mw_356 rfl dX6_better_1 ?_
  refine lv_iload_n hx hb dX6_better_4 rfl (lv_at hl 1 rfl) ?_
  refine vp_callSi (rd_wV (wc := [((a 3), .inr (0, [.int 0, .int 0, .int 0, .int 0, .int 0, .int 0, .ref (a 4), .ref (a 5), .ref (a 6), .ref (a 7), .ref (a 8), .ref (a 9), .ref (a 10), .ref (a 11), .ref (a 12), .ref (a 13), .ref (a 14), .ref (a 15)]))]) (As := [.int x]) (rest := []) hx hb hml hown ht (ct_Board_hasDrum) wd_X0_hasDrum mw_904 hQ hV va_S.rf (hP.sub [1] rfl) rfl rfl rfl hl.1 rfl (Nat.le_of_ble_eq_true rfl) dX6_better_5 ⟨Nat.le_of_ble_eq_true rfl, Nat.le_of_ble_eq_true rfl, rfl, rfl⟩ ⟨Nat.le_of_ble_eq_true rfl, Nat.le_of_ble_eq_true rfl⟩) (fun r_1 er_1 => ?_)
  obtain rfl : r_1 = 0 := er_1
  refine lv_if_eq (tgt := 20) hx hb dX6_better_8 (by decide) (fun c_2 => ?_) (fun c9 => absurd (by decide) c9)
  refine lv_iconst (v := (-1)) hx hb dX6_better_20 (by decide) ?_
  exact rd_iret hx hb hr hk (rfl) dX6_better_21

set_option maxHeartbeats 4000000 in
set_option maxRecDepth 100000 in
theorem cf_farthest {l : Launch} {D : va_G} {q : Nat → ClassId} {a : Nat → Nat} {x : Int32} {y : Int32} : Met l yX6_farthest (Cond.code yX6_farthest cX6_farthest 8 (some .int) :: w_all) ({ frames := 2, cells := 0, slots := 0, locals := 41 }) (rd_P D q [.ref (a 0), .int x, .int y] (fb_w a q)) (vp_Si (fun r => r = (-1))) 0 0 (fun _ => False) := by
  refine rd_start (by decide) (Nat.le_of_ble_eq_true rfl) ?_
  intro p e s m below meth c ls hx hb hr hml hown ht hk hP hQ hV hl
  have hK := hQ.1
  have hown : s.vm.findClass RX6 = some m.cls := hown
  have hl : lv_has ls 8 [(0, .ref (a 0)), (1, .int x), (2, .int y)] := hl
  have hP := hP.sub (ws' := [((a 0), .inr (5, [.ref (a 1), .ref (a 3), .ref (a 16), .ref (a 29), .ref (a 33), .ref (a 41), .ref (a 43)])), ((a 3), .inr (0, [.int 0, .int 0, .int 0, .int 0, .int 0, .int 0, .ref (a 4), .ref (a 5), .ref (a 6), .ref (a 7), .ref (a 8), .ref (a 9), .ref (a 10), .ref (a 11), .ref (a 12), .ref (a 13), .ref (a 14), .ref (a 15)]))]) [0, 3] rfl
  refine lv_aload_n hx hb dX6_farthest_0 rfl (lv_at hl 0 rfl) ?_
  refine fl_get (C := RX6) (T := TX6) (N := 7) (ci := 5) (v := .ref (a 3)) hx hb ht in_X6 hown hK hP 0 rfl rfl 1 (by decide) mw_356 rfl dX6_farthest_1 ?_
  refine lv_iload_n hx hb dX6_farthest_4 rfl (lv_at hl 1 rfl) ?_
  refine vp_callSi (rd_wV (wc := [((a 3), .inr (0, [.int 0, .int 0, .int 0, .int 0, .int 0, .int 0, .ref (a 4), .ref (a 5), .ref (a 6), .ref (a 7), .ref (a 8), .ref (a 9), .ref (a 10), .ref (a 11), .ref (a 12), .ref (a 13), .ref (a 14), .ref (a 15)]))]) (As := [.int x]) (rest := []) hx hb hml hown ht (ct_Board_hasCell) wd_X0_hasCell mw_730 hQ hV va_S.rf (hP.sub [1] rfl) rfl rfl rfl hl.1 rfl (Nat.le_of_ble_eq_true rfl) dX6_farthest_5 ⟨Nat.le_of_ble_eq_true rfl, Nat.le_of_ble_eq_true rfl, rfl, rfl⟩ ⟨Nat.le_of_ble_eq_true rfl, Nat.le_of_ble_eq_true rfl⟩) (fun r_1 er_1 => ?_)
  obtain rfl : r_1 = 0 := er_1
  refine lv_if_eq (tgt := 20) hx hb dX6_farthest_8 (by decide) (fun c_2 => ?_) (fun c9 => absurd (by decide) c9)
  refine lv_iconst (v := (-1)) hx hb dX6_farthest_20 (by decide) ?_
  exact rd_iret hx hb hr hk (rfl) dX6_farthest_21

set_option maxHeartbeats 4000000 in
set_option maxRecDepth 100000 in
theorem cf_lacks {l : Launch} {D : va_G} {q : Nat → ClassId} {a : Nat → Nat} {x : Int32} {y : Int32} : Met l yX6_lacks (Cond.code yX6_lacks cX6_lacks 3 (some .int) :: w_all) ({ frames := 2, cells := 0, slots := 0, locals := 41 }) (rd_P D q [.ref (a 0), .int x, .int y] (fb_w a q)) (vp_Si (fun r => r = (-1))) 0 0 (fun _ => False) := by
  refine rd_start (by decide) (Nat.le_of_ble_eq_true rfl) ?_
  intro p e s m below meth c ls hx hb hr hml hown ht hk hP hQ hV hl
  have hK := hQ.1
  have hown : s.vm.findClass RX6 = some m.cls := hown
  have hl : lv_has ls 3 [(0, .ref (a 0)), (1, .int x), (2, .int y)] := hl
  have hP := hP.sub (ws' := [((a 0), .inr (5, [.ref (a 1), .ref (a 3), .ref (a 16), .ref (a 29), .ref (a 33), .ref (a 41), .ref (a 43)])), ((a 3), .inr (0, [.int 0, .int 0, .int 0, .int 0, .int 0, .int 0, .ref (a 4), .ref (a 5), .ref (a 6), .ref (a 7), .ref (a 8), .ref (a 9), .ref (a 10), .ref (a 11), .ref (a 12), .ref (a 13), .ref (a 14), .ref (a 15)]))]) [0, 3] rfl
  refine lv_aload_n hx hb dX6_lacks_0 rfl (lv_at hl 0 rfl) ?_
  refine fl_get (C := RX6) (T := TX6) (N := 7) (ci := 5) (v := .ref (a 3)) hx hb ht in_X6 hown hK hP 0 rfl rfl 1 (by decide) mw_356 rfl dX6_lacks_1 ?_
  refine lv_iload_n hx hb dX6_lacks_4 rfl (lv_at hl 1 rfl) ?_
  refine vp_callSi (rd_wV (wc := [((a 3), .inr (0, [.int 0, .int 0, .int 0, .int 0, .int 0, .int 0, .ref (a 4), .ref (a 5), .ref (a 6), .ref (a 7), .ref (a 8), .ref (a 9), .ref (a 10), .ref (a 11), .ref (a 12), .ref (a 13), .ref (a 14), .ref (a 15)]))]) (As := [.int x]) (rest := []) hx hb hml hown ht (ct_Board_hasCell) wd_X0_hasCell mw_730 hQ hV va_S.rf (hP.sub [1] rfl) rfl rfl rfl hl.1 rfl (Nat.le_of_ble_eq_true rfl) dX6_lacks_5 ⟨Nat.le_of_ble_eq_true rfl, Nat.le_of_ble_eq_true rfl, rfl, rfl⟩ ⟨Nat.le_of_ble_eq_true rfl, Nat.le_of_ble_eq_true rfl⟩) (fun r_1 er_1 => ?_)
  obtain rfl : r_1 = 0 := er_1
  refine lv_if_eq (tgt := 20) hx hb dX6_lacks_8 (by decide) (fun c_2 => ?_) (fun c9 => absurd (by decide) c9)
  refine lv_iconst (v := (-1)) hx hb dX6_lacks_20 (by decide) ?_
  exact rd_iret hx hb hr hk (rfl) dX6_lacks_21

set_option maxHeartbeats 4000000 in
set_option maxRecDepth 100000 in
theorem cf_unlike {l : Launch} {D : va_G} {q : Nat → ClassId} {a : Nat → Nat} {x : Int32} {y : Int32} : Met l yX6_unlike (Cond.code yX6_unlike cX6_unlike 7 (some .int) :: w_all) ({ frames := 1, cells := 0, slots := 0, locals := 21 }) (rd_P D q [.ref (a 0), .int x, .int y] (fb_w a q)) (vp_Si (fun r => r = (-1))) 0 0 (fun _ => False) := by
  refine rd_start (by decide) (Nat.le_of_ble_eq_true rfl) ?_
  intro p e s m below meth c ls hx hb hr hml hown ht hk hP hQ hV hl
  have hK := hQ.1
  have hown : s.vm.findClass RX6 = some m.cls := hown
  have hl : lv_has ls 7 [(0, .ref (a 0)), (1, .int x), (2, .int y)] := hl
  have hP := hP.sub (ws' := [((a 0), .inr (5, [.ref (a 1), .ref (a 3), .ref (a 16), .ref (a 29), .ref (a 33), .ref (a 41), .ref (a 43)])), ((a 3), .inr (0, [.int 0, .int 0, .int 0, .int 0, .int 0, .int 0, .ref (a 4), .ref (a 5), .ref (a 6), .ref (a 7), .ref (a 8), .ref (a 9), .ref (a 10), .ref (a 11), .ref (a 12), .ref (a 13), .ref (a 14), .ref (a 15)]))]) [0, 3] rfl
  refine lv_aload_n hx hb dX6_unlike_0 rfl (lv_at hl 0 rfl) ?_
  refine fl_get (C := RX6) (T := TX6) (N := 7) (ci := 5) (v := .ref (a 3)) hx hb ht in_X6 hown hK hP 0 rfl rfl 1 (by decide) mw_356 rfl dX6_unlike_1 ?_
  refine lv_iload_n hx hb dX6_unlike_4 rfl (lv_at hl 1 rfl) ?_
  refine vp_callSi (rd_wV (wc := [((a 3), .inr (0, [.int 0, .int 0, .int 0, .int 0, .int 0, .int 0, .ref (a 4), .ref (a 5), .ref (a 6), .ref (a 7), .ref (a 8), .ref (a 9), .ref (a 10), .ref (a 11), .ref (a 12), .ref (a 13), .ref (a 14), .ref (a 15)]))]) (As := [.int x]) (rest := []) hx hb hml hown ht (ct_Board_hasRow) wd_X0_hasRow mw_621 hQ hV va_S.rf (hP.sub [1] rfl) rfl rfl rfl hl.1 rfl (Nat.le_of_ble_eq_true rfl) dX6_unlike_5 ⟨Nat.le_of_ble_eq_true rfl, Nat.le_of_ble_eq_true rfl, rfl, rfl⟩ ⟨Nat.le_of_ble_eq_true rfl, Nat.le_of_ble_eq_true rfl⟩) (fun r_1 er_1 => ?_)
  obtain rfl : r_1 = 0 := er_1
  refine lv_if_eq (tgt := 27) hx hb dX6_unlike_8 (by decide) (fun c_2 => ?_) (fun c9 => absurd (by decide) c9)
  refine lv_iconst (v := (-1)) hx hb dX6_unlike_27 (by decide) ?_
  exact rd_iret hx hb hr hk (rfl) dX6_unlike_28

set_option maxHeartbeats 4000000 in
set_option maxRecDepth 100000 in
theorem cf_worn {l : Launch} {D : va_G} {q : Nat → ClassId} {a : Nat → Nat} {x : Int32} : Met l yX6_worn (Cond.code yX6_worn cX6_worn 2 (some .long) :: w_all) ({ frames := 2, cells := 0, slots := 0, locals := 41 }) (rd_P D q [.ref (a 0), .int x] (fb_w a q)) (vp_Sl (fun r => r = (-1))) 0 0 (fun _ => False) := by
  refine rd_start (by decide) (Nat.le_of_ble_eq_true rfl) ?_
  intro p e s m below meth c ls hx hb hr hml hown ht hk hP hQ hV hl
  have hK := hQ.1
  have hown : s.vm.findClass RX6 = some m.cls := hown
  have hl : lv_has ls 2 [(0, .ref (a 0)), (1, .int x)] := hl
  have hP := hP.sub (ws' := [((a 0), .inr (5, [.ref (a 1), .ref (a 3), .ref (a 16), .ref (a 29), .ref (a 33), .ref (a 41), .ref (a 43)])), ((a 3), .inr (0, [.int 0, .int 0, .int 0, .int 0, .int 0, .int 0, .ref (a 4), .ref (a 5), .ref (a 6), .ref (a 7), .ref (a 8), .ref (a 9), .ref (a 10), .ref (a 11), .ref (a 12), .ref (a 13), .ref (a 14), .ref (a 15)]))]) [0, 3] rfl
  refine lv_aload_n hx hb dX6_worn_0 rfl (lv_at hl 0 rfl) ?_
  refine fl_get (C := RX6) (T := TX6) (N := 7) (ci := 5) (v := .ref (a 3)) hx hb ht in_X6 hown hK hP 0 rfl rfl 1 (by decide) mw_356 rfl dX6_worn_1 ?_
  refine lv_iload_n hx hb dX6_worn_4 rfl (lv_at hl 1 rfl) ?_
  refine vp_callSi (rd_wV (wc := [((a 3), .inr (0, [.int 0, .int 0, .int 0, .int 0, .int 0, .int 0, .ref (a 4), .ref (a 5), .ref (a 6), .ref (a 7), .ref (a 8), .ref (a 9), .ref (a 10), .ref (a 11), .ref (a 12), .ref (a 13), .ref (a 14), .ref (a 15)]))]) (As := [.int x]) (rest := []) hx hb hml hown ht (ct_Board_hasCell) wd_X0_hasCell mw_730 hQ hV va_S.rf (hP.sub [1] rfl) rfl rfl rfl hl.1 rfl (Nat.le_of_ble_eq_true rfl) dX6_worn_5 ⟨Nat.le_of_ble_eq_true rfl, Nat.le_of_ble_eq_true rfl, rfl, rfl⟩ ⟨Nat.le_of_ble_eq_true rfl, Nat.le_of_ble_eq_true rfl⟩) (fun r_1 er_1 => ?_)
  obtain rfl : r_1 = 0 := er_1
  refine lv_if_eq (tgt := 23) hx hb dX6_worn_8 (by decide) (fun c_2 => ?_) (fun c9 => absurd (by decide) c9)
  refine lv_ldc2 (v := (-1)) hx hb hown (ht _ mw_899) dX6_worn_23 ?_
  exact rd_lret hx hb hr hk (rfl) dX6_worn_26

set_option maxHeartbeats 4000000 in
set_option maxRecDepth 100000 in
theorem cf_which {l : Launch} {D : va_G} {q : Nat → ClassId} {a : Nat → Nat} {x : Int32} : Met l yX6_which (Cond.code yX6_which cX6_which 5 (some .long) :: w_all) ({ frames := 1, cells := 0, slots := 0, locals := 20 }) (rd_P D q [.ref (a 0), .int x] (fb_w a q)) (vp_Sl (fun r => r = (-1))) 0 0 (fun _ => False) := by
  refine rd_start (by decide) (Nat.le_of_ble_eq_true rfl) ?_
  intro p e s m below meth c ls hx hb hr hml hown ht hk hP hQ hV hl
  have hK := hQ.1
  have hown : s.vm.findClass RX6 = some m.cls := hown
  have hl : lv_has ls 5 [(0, .ref (a 0)), (1, .int x)] := hl
  have hP := hP.sub (ws' := [((a 0), .inr (5, [.ref (a 1), .ref (a 3), .ref (a 16), .ref (a 29), .ref (a 33), .ref (a 41), .ref (a 43)])), ((a 3), .inr (0, [.int 0, .int 0, .int 0, .int 0, .int 0, .int 0, .ref (a 4), .ref (a 5), .ref (a 6), .ref (a 7), .ref (a 8), .ref (a 9), .ref (a 10), .ref (a 11), .ref (a 12), .ref (a 13), .ref (a 14), .ref (a 15)]))]) [0, 3] rfl
  refine lv_aload_n hx hb dX6_which_0 rfl (lv_at hl 0 rfl) ?_
  refine fl_get (C := RX6) (T := TX6) (N := 7) (ci := 5) (v := .ref (a 3)) hx hb ht in_X6 hown hK hP 0 rfl rfl 1 (by decide) mw_356 rfl dX6_which_1 ?_
  refine vp_callSi (rd_wV (wc := [((a 3), .inr (0, [.int 0, .int 0, .int 0, .int 0, .int 0, .int 0, .ref (a 4), .ref (a 5), .ref (a 6), .ref (a 7), .ref (a 8), .ref (a 9), .ref (a 10), .ref (a 11), .ref (a 12), .ref (a 13), .ref (a 14), .ref (a 15)]))]) (As := []) (rest := []) hx hb hml hown ht (ct_Board_isThere) wd_X0_isThere mw_677 hQ hV va_S.rf (hP.sub [1] rfl) rfl rfl rfl hl.1 rfl (Nat.le_of_ble_eq_true rfl) dX6_which_4 ⟨Nat.le_of_ble_eq_true rfl, Nat.le_of_ble_eq_true rfl, rfl, rfl⟩ ⟨Nat.le_of_ble_eq_true rfl, Nat.le_of_ble_eq_true rfl⟩) (fun r_1 er_1 => ?_)
  obtain rfl : r_1 = 0 := er_1
  refine lv_if_eq (tgt := 19) hx hb dX6_which_7 (by decide) (fun c_2 => ?_) (fun c9 => absurd (by decide) c9)
  refine lv_ldc2 (v := (-1)) hx hb hown (ht _ mw_899) dX6_which_19 ?_
  exact rd_lret hx hb hr hk (rfl) dX6_which_22

set_option maxHeartbeats 4000000 in
set_option maxRecDepth 100000 in
theorem cf_often {l : Launch} {D : va_G} {q : Nat → ClassId} {a : Nat → Nat} {x : Int32} {y : Int32} {z : Int32} : Met l yX6_often (Cond.code yX6_often cX6_often 4 (some .int) :: w_all) ({ frames := 1, cells := 0, slots := 0, locals := 21 }) (rd_P D q [.ref (a 0), .int x, .int y, .int z] (fb_w a q)) (vp_Si (fun r => r = (-1))) 0 0 (fun _ => False) := by
  refine rd_start (by decide) (Nat.le_of_ble_eq_true rfl) ?_
  intro p e s m below meth c ls hx hb hr hml hown ht hk hP hQ hV hl
  have hK := hQ.1
  have hown : s.vm.findClass RX6 = some m.cls := hown
  have hl : lv_has ls 4 [(0, .ref (a 0)), (1, .int x), (2, .int y), (3, .int z)] := hl
  have hP := hP.sub (ws' := [((a 0), .inr (5, [.ref (a 1), .ref (a 3), .ref (a 16), .ref (a 29), .ref (a 33), .ref (a 41), .ref (a 43)])), ((a 3), .inr (0, [.int 0, .int 0, .int 0, .int 0, .int 0, .int 0, .ref (a 4), .ref (a 5), .ref (a 6), .ref (a 7), .ref (a 8), .ref (a 9), .ref (a 10), .ref (a 11), .ref (a 12), .ref (a 13), .ref (a 14), .ref (a 15)]))]) [0, 3] rfl
  refine lv_aload_n hx hb dX6_often_0 rfl (lv_at hl 0 rfl) ?_
  refine fl_get (C := RX6) (T := TX6) (N := 7) (ci := 5) (v := .ref (a 3)) hx hb ht in_X6 hown hK hP 0 rfl rfl 1 (by decide) mw_356 rfl dX6_often_1 ?_
  refine lv_iload_n hx hb dX6_often_4 rfl (lv_at hl 1 rfl) ?_
  refine vp_callSi (rd_wV (wc := [((a 3), .inr (0, [.int 0, .int 0, .int 0, .int 0, .int 0, .int 0, .ref (a 4), .ref (a 5), .ref (a 6), .ref (a 7), .ref (a 8), .ref (a 9), .ref (a 10), .ref (a 11), .ref (a 12), .ref (a 13), .ref (a 14), .ref (a 15)]))]) (As := [.int x]) (rest := []) hx hb hml hown ht (ct_Board_hasDrum) wd_X0_hasDrum mw_904 hQ hV va_S.rf (hP.sub [1] rfl) rfl rfl rfl hl.1 rfl (Nat.le_of_ble_eq_true rfl) dX6_often_5 ⟨Nat.le_of_ble_eq_true rfl, Nat.le_of_ble_eq_true rfl, rfl, rfl⟩ ⟨Nat.le_of_ble_eq_true rfl, Nat.le_of_ble_eq_true rfl⟩) (fun r_1 er_1 => ?_)
  obtain rfl : r_1 = 0 := er_1
  refine lv_if_eq (tgt := 27) hx hb dX6_often_8 (by decide) (fun c_2 => ?_) (fun c9 => absurd (by decide) c9)
  refine lv_iconst (v := (-1)) hx hb dX6_often_27 (by decide) ?_
  exact rd_iret hx hb hr hk (rfl) dX6_often_28

set_option maxHeartbeats 4000000 in
set_option maxRecDepth 100000 in
theorem cf_undo {l : Launch} {D : va_G} {q : Nat → ClassId} {a : Nat → Nat} : Met l yX6_undo (Cond.code yX6_undo cX6_undo 1 (some .int) :: w_all) ({ frames := 1, cells := 0, slots := 0, locals := 22 }) (rd_P D q [.ref (a 0)] (fb_w a q)) (vp_Si (fun r => r = (-1))) 0 0 (fun _ => False) := by
  refine rd_start (by decide) (Nat.le_of_ble_eq_true rfl) ?_
  intro p e s m below meth c ls hx hb hr hml hown ht hk hP hQ hV hl
  have hK := hQ.1
  have hown : s.vm.findClass RX6 = some m.cls := hown
  have hl : lv_has ls 1 [(0, .ref (a 0))] := hl
  have hP := hP.sub (ws' := [((a 0), .inr (5, [.ref (a 1), .ref (a 3), .ref (a 16), .ref (a 29), .ref (a 33), .ref (a 41), .ref (a 43)])), ((a 41), .inr (2, [.ref (a 42), .int 0, .int 0]))]) [0, 41] rfl
  refine lv_aload_n hx hb dX6_undo_0 rfl (lv_at hl 0 rfl) ?_
  refine fl_get (C := RX6) (T := TX6) (N := 7) (ci := 5) (v := .ref (a 41)) hx hb ht in_X6 hown hK hP 0 rfl rfl 5 (by decide) mw_360 rfl dX6_undo_1 ?_
  refine lv_aload_n hx hb dX6_undo_4 rfl (lv_at hl 0 rfl) ?_
  refine fl_get (C := RX6) (T := TX6) (N := 7) (ci := 5) (v := .ref (a 3)) hx hb ht in_X6 hown hK hP 0 rfl rfl 1 (by decide) mw_356 rfl dX6_undo_5 ?_
  refine vp_callSi (rd_wV (wc := [((a 41), .inr (2, [.ref (a 42), .int 0, .int 0]))]) (As := [.ref (a 3)]) (rest := []) hx hb hml hown ht (ct_Past_pop) wd_X3_pop mw_873 hQ hV va_S.rf (hP.sub [1] rfl) rfl rfl rfl hl.1 rfl (Nat.le_of_ble_eq_true rfl) dX6_undo_8 ⟨Nat.le_of_ble_eq_true rfl, Nat.le_of_ble_eq_true rfl, rfl, rfl⟩ ⟨Nat.le_of_ble_eq_true rfl, Nat.le_of_ble_eq_true rfl⟩) (fun r_1 er_1 => ?_)
  obtain rfl : r_1 = 0 := er_1
  refine lv_if_eq (tgt := 24) hx hb dX6_undo_11 (by decide) (fun c_2 => ?_) (fun c9 => absurd (by decide) c9)
  refine lv_iconst (v := (-1)) hx hb dX6_undo_24 (by decide) ?_
  exact rd_iret hx hb hr hk (rfl) dX6_undo_25

set_option maxHeartbeats 4000000 in
set_option maxRecDepth 100000 in
theorem cf_digest {l : Launch} {D : va_G} {q : Nat → ClassId} {a : Nat → Nat} : Met l yX6_digest (Cond.code yX6_digest cX6_digest 4 (some .long) :: w_all) ({ frames := 1, cells := 0, slots := 0, locals := 20 }) (rd_P D q [.ref (a 0)] (fb_w a q)) (vp_Sl (fun r => r = 17)) 0 0 (fun _ => False) := by
  refine rd_start (by decide) (Nat.le_of_ble_eq_true rfl) ?_
  intro p e s m below meth c ls hx hb hr hml hown ht hk hP hQ hV hl
  have hK := hQ.1
  have hown : s.vm.findClass RX6 = some m.cls := hown
  have hl : lv_has ls 4 [(0, .ref (a 0))] := hl
  have hP := hP.sub (ws' := [((a 0), .inr (5, [.ref (a 1), .ref (a 3), .ref (a 16), .ref (a 29), .ref (a 33), .ref (a 41), .ref (a 43)])), ((a 3), .inr (0, [.int 0, .int 0, .int 0, .int 0, .int 0, .int 0, .ref (a 4), .ref (a 5), .ref (a 6), .ref (a 7), .ref (a 8), .ref (a 9), .ref (a 10), .ref (a 11), .ref (a 12), .ref (a 13), .ref (a 14), .ref (a 15)]))]) [0, 3] rfl
  refine lv_ldc2 (v := 17) hx hb hown (ht _ mw_1113) dX6_digest_0 ?_
  refine lv_lstore_n (lv' := [(1, .long 17), (0, .ref (a 0))]) hx hb dX6_digest_3 rfl hl (by decide) rfl (fun ls hl => ?_)
  refine lv_iconst (v := 0) hx hb dX6_digest_4 (by decide) ?_
  refine lv_istore_n (lv' := [(3, .int 0), (1, .long 17), (0, .ref (a 0))]) hx hb dX6_digest_5 rfl hl (by decide) rfl (fun ls hl => ?_)
  refine lv_iload_n hx hb dX6_digest_6 rfl (lv_at hl 0 rfl) ?_
  refine lv_aload_n hx hb dX6_digest_7 rfl (lv_at hl 2 rfl) ?_
  refine fl_get (C := RX6) (T := TX6) (N := 7) (ci := 5) (v := .ref (a 3)) hx hb ht in_X6 hown hK hP 0 rfl rfl 1 (by decide) mw_356 rfl dX6_digest_8 ?_
  refine vp_callSi (rd_wV (wc := [((a 3), .inr (0, [.int 0, .int 0, .int 0, .int 0, .int 0, .int 0, .ref (a 4), .ref (a 5), .ref (a 6), .ref (a 7), .ref (a 8), .ref (a 9), .ref (a 10), .ref (a 11), .ref (a 12), .ref (a 13), .ref (a 14), .ref (a 15)]))]) (As := []) (rest := [.int 0]) hx hb hml hown ht (ct_Board_cells) wd_X0_cells mw_885 hQ hV va_S.rf (hP.sub [1] rfl) rfl rfl rfl hl.1 rfl (Nat.le_of_ble_eq_true rfl) dX6_digest_11 ⟨Nat.le_of_ble_eq_true rfl, Nat.le_of_ble_eq_true rfl, rfl, rfl⟩ ⟨Nat.le_of_ble_eq_true rfl, Nat.le_of_ble_eq_true rfl⟩) (fun r_1 er_1 => ?_)
  obtain rfl : r_1 = 0 := er_1
  refine lv_icmp_ge (tgt := 124) hx hb dX6_digest_14 (by decide) (fun c_2 => ?_) (fun c9 => absurd (by decide) c9)
  refine lv_lload_n hx hb dX6_digest_124 rfl (lv_at hl 1 rfl) ?_
  exact rd_lret hx hb hr hk (rfl) dX6_digest_125

set_option maxHeartbeats 4000000 in
set_option maxRecDepth 100000 in
theorem cf_end {l : Launch} {D : va_G} {q : Nat → ClassId} {sz : Nat} {a : Nat → Nat} {x : Int32} : Met l yX6_end (Cond.code yX6_end cX6_end 2 (some .int) :: w_all) ({ frames := 0, cells := 0, slots := 0, locals := 0 }) (mt_P D q [.ref (a 0), .int x] (fb_w a q) sz) (va_Qi (fun r (u : Unit) => (x = 0 → r = 0) ∧ (¬ (x = 0) → r = (-1))) (mt_B D (fb_w a q) sz (fun _ => [])) (va_A (fb_w a q) sz)) 0 0 (va_A (fb_w a q) sz) := by
  refine mt_start (by decide) (Nat.le_of_ble_eq_true rfl) ?_
  intro p e s m below meth c ls hx hb hr hml hown ht hk hin hP hQ hD hA hS hV hl
  have hK := hQ.1
  have hown : s.vm.findClass RX6 = some m.cls := hown
  have hl : lv_has ls 2 [(0, .ref (a 0)), (1, .int x)] := hl
  have hP := hP.sub (ws' := [((a 0), .inr (5, [.ref (a 1), .ref (a 3), .ref (a 16), .ref (a 29), .ref (a 33), .ref (a 41), .ref (a 43)])), ((a 1), .inr (4, [.ref (a 2), .int 0, .int 0, .int 0, .int 0, .int 0, .int 0]))]) [0, 1] rfl
  have hD := hD.sub (ws' := [((a 0), .inr (5, [.ref (a 1), .ref (a 3), .ref (a 16), .ref (a 29), .ref (a 33), .ref (a 41), .ref (a 43)])), ((a 1), .inr (4, [.ref (a 2), .int 0, .int 0, .int 0, .int 0, .int 0, .int 0]))]) [0, 1] (by decide) rfl
  refine lv_iload_n hx hb dX6_end_0 rfl (lv_at hl 1 rfl) ?_
  refine lv_if_lt (tgt := 15) hx hb dX6_end_1 (by decide) (fun c_1 => ?_) (fun c_1 => ?_)
  · refine lv_iconst (v := (-1)) hx hb dX6_end_15 (by decide) ?_
    have hP := hP.sub (ws' := []) [] rfl
    have hD := hD.sub (ws' := []) [] (by decide) rfl
    exact mt_iret () hx hb hr hk (by refine ⟨fun h9 => ?_, fun h9 => ?_⟩ <;> first | rfl | exact h9 | (exfalso; have g0 := c_1; have g1 := h9; (try simp only [lg_cmp_ge, lg_cmp_le, lg_cmp_gt, lg_cmp_lt, lg_cmp_eq] at g0 g1); (try simp only [Int32.lt_iff_toInt_lt, Int32.le_iff_toInt_le, ← Int32.toInt_inj, Int32.reduceToInt, Int64.lt_iff_toInt_lt, Int64.le_iff_toInt_le, ← Int64.toInt_inj, Int64.reduceToInt, Int32.toInt_toInt64] at g0 g1); omega)) hP hD hS dX6_end_16
  · refine lv_iload_n hx hb dX6_end_4 rfl (lv_at hl 1 rfl) ?_
    refine lv_aload_n hx hb dX6_end_5 rfl (lv_at hl 0 rfl) ?_
    refine fl_get (C := RX6) (T := TX6) (N := 7) (ci := 5) (v := .ref (a 1)) hx hb ht in_X6 hown hK hP 0 rfl rfl 0 (by decide) mw_355 rfl dX6_end_6 ?_
    refine fl_get (C := RX5) (T := TX5) (N := 7) (ci := 4) (v := .int 0) hx hb ht in_X5 hown hK hP 1 rfl rfl 1 (by decide) mw_129 rfl dX6_end_9 ?_
    refine lv_icmp_le (tgt := 17) hx hb dX6_end_12 (by decide) (fun c_2 => ?_) (fun c_2 => ?_)
    · refine lv_aload_n hx hb dX6_end_17 rfl (lv_at hl 0 rfl) ?_
      refine fl_get (C := RX6) (T := TX6) (N := 7) (ci := 5) (v := .ref (a 1)) hx hb ht in_X6 hown hK hP 0 rfl rfl 0 (by decide) mw_355 rfl dX6_end_18 ?_
      refine lv_iload_n hx hb dX6_end_21 rfl (lv_at hl 1 rfl) ?_
      refine fl_put (C := RX5) (T := TX5) (N := 7) (ci := 4) (v := .int x) (ws2 := [((a 0), .inr (5, [.ref (a 1), .ref (a 3), .ref (a 16), .ref (a 29), .ref (a 33), .ref (a 41), .ref (a 43)])), ((a 1), .inr (4, [.ref (a 2), .int x, .int 0, .int 0, .int 0, .int 0, .int 0]))]) hx hb ht in_X5 tyX5_ok nmX5 hown hK hP hD hS 1 rfl rfl 1 (by decide) mw_129 rfl rfl rfl (Nat.le_of_ble_eq_true rfl) dX6_end_22 rfl (fun H locs hP hD hS => ?_)
      refine lv_iload_n hx hb dX6_end_25 rfl (lv_at hl 1 rfl) ?_
      have hP := hP.sub (ws' := []) [] rfl
      have hD := hD.sub (ws' := []) [] (by decide) rfl
      exact mt_iret () hx hb hr hk (by refine ⟨fun h9 => ?_, fun h9 => ?_⟩ <;> first | rfl | exact h9 | (exfalso; have g0 := c_1; have g1 := c_2; have g2 := h9; (try simp only [lg_cmp_ge, lg_cmp_le, lg_cmp_gt, lg_cmp_lt, lg_cmp_eq] at g0 g1 g2); (try simp only [Int32.lt_iff_toInt_lt, Int32.le_iff_toInt_le, ← Int32.toInt_inj, Int32.reduceToInt, Int64.lt_iff_toInt_lt, Int64.le_iff_toInt_le, ← Int64.toInt_inj, Int64.reduceToInt, Int32.toInt_toInt64] at g0 g1 g2); omega)) hP hD hS dX6_end_26
    · refine lv_iconst (v := (-1)) hx hb dX6_end_15 (by decide) ?_
      have hP := hP.sub (ws' := []) [] rfl
      have hD := hD.sub (ws' := []) [] (by decide) rfl
      exact mt_iret () hx hb hr hk (by refine ⟨fun h9 => ?_, fun h9 => ?_⟩ <;> first | rfl | exact h9 | (exfalso; have g0 := c_1; have g1 := c_2; have g2 := h9; (try simp only [lg_cmp_ge, lg_cmp_le, lg_cmp_gt, lg_cmp_lt, lg_cmp_eq] at g0 g1 g2); (try simp only [Int32.lt_iff_toInt_lt, Int32.le_iff_toInt_le, ← Int32.toInt_inj, Int32.reduceToInt, Int64.lt_iff_toInt_lt, Int64.le_iff_toInt_le, ← Int64.toInt_inj, Int64.reduceToInt, Int32.toInt_toInt64] at g0 g1 g2); omega)) hP hD hS dX6_end_16

set_option maxHeartbeats 4000000 in
set_option maxRecDepth 100000 in
theorem cf_row {l : Launch} {D : va_G} {q : Nat → ClassId} {sz : Nat} {a : Nat → Nat} {x : Int32} : Met l yX6_row (Cond.code yX6_row cX6_row 3 (some .int) :: w_all) ({ frames := 2, cells := 0, slots := 0, locals := 42 }) (mt_P D q [.ref (a 0), .int x] (fb_w a q) sz) (va_Qi (fun r (u : Unit) => r = (-1)) (mt_B D (fb_w a q) sz (fun _ => [])) (va_A (fb_w a q) sz)) 0 0 (va_A (fb_w a q) sz) := by
  refine mt_start (by decide) (Nat.le_of_ble_eq_true rfl) ?_
  intro p e s m below meth c ls hx hb hr hml hown ht hk hin hP hQ hD hA hS hV hl
  have hK := hQ.1
  have hown : s.vm.findClass RX6 = some m.cls := hown
  have hl : lv_has ls 3 [(0, .ref (a 0)), (1, .int x)] := hl
  have hP := hP.sub (ws' := [((a 0), .inr (5, [.ref (a 1), .ref (a 3), .ref (a 16), .ref (a 29), .ref (a 33), .ref (a 41), .ref (a 43)])), ((a 1), .inr (4, [.ref (a 2), .int 0, .int 0, .int 0, .int 0, .int 0, .int 0])), ((a 2), .inl (q 0, 400, .inl (fun _ => 0))), ((a 3), .inr (0, [.int 0, .int 0, .int 0, .int 0, .int 0, .int 0, .ref (a 4), .ref (a 5), .ref (a 6), .ref (a 7), .ref (a 8), .ref (a 9), .ref (a 10), .ref (a 11), .ref (a 12), .ref (a 13), .ref (a 14), .ref (a 15)])), ((a 4), .inl (q 0, 4, .inl (fun _ => 0))), ((a 5), .inl (q 0, 4, .inl (fun _ => 0))), ((a 6), .inl (q 0, 160, .inl (fun _ => 0))), ((a 7), .inl (q 0, 40, .inl (fun _ => 0))), ((a 8), .inl (q 0, 40, .inl (fun _ => 0))), ((a 9), .inl (q 0, 40, .inl (fun _ => 0))), ((a 10), .inl (q 0, 40, .inl (fun _ => 0))), ((a 11), .inl (q 0, 40, .inl (fun _ => 0))), ((a 12), .inl (q 0, 40, .inl (fun _ => 0))), ((a 13), .inl (q 0, 40, .inl (fun _ => 0))), ((a 14), .inl (q 1, 40, .inr (.inl (fun _ => 0)))), ((a 15), .inl (q 0, 0, .inl (fun _ => 0))), ((a 16), .inr (0, [.int 0, .int 0, .int 0, .int 0, .int 0, .int 0, .ref (a 17), .ref (a 18), .ref (a 19), .ref (a 20), .ref (a 21), .ref (a 22), .ref (a 23), .ref (a 24), .ref (a 25), .ref (a 26), .ref (a 27), .ref (a 28)])), ((a 17), .inl (q 0, 4, .inl (fun _ => 0))), ((a 18), .inl (q 0, 4, .inl (fun _ => 0))), ((a 19), .inl (q 0, 160, .inl (fun _ => 0))), ((a 20), .inl (q 0, 40, .inl (fun _ => 0))), ((a 21), .inl (q 0, 40, .inl (fun _ => 0))), ((a 22), .inl (q 0, 40, .inl (fun _ => 0))), ((a 23), .inl (q 0, 40, .inl (fun _ => 0))), ((a 24), .inl (q 0, 40, .inl (fun _ => 0))), ((a 25), .inl (q 0, 40, .inl (fun _ => 0))), ((a 26), .inl (q 0, 40, .inl (fun _ => 0))), ((a 27), .inl (q 1, 40, .inr (.inl (fun _ => 0)))), ((a 28), .inl (q 0, 0, .inl (fun _ => 0))), ((a 29), .inr (1, [.ref (a 30), .ref (a 31), .ref (a 32), .int 0, .int 0, .int 0, .int 0, .int 0, .int 0, .int 0, .int 0, .int 0])), ((a 30), .inl (q 0, 40, .inl (fun _ => 0))), ((a 31), .inl (q 0, 40, .inl (fun _ => 0))), ((a 32), .inl (q 0, 40, .inl (fun _ => 0))), ((a 33), .inr (3, [.ref (a 34), .ref (a 35), .ref (a 36), .ref (a 37), .ref (a 38), .ref (a 39), .ref (a 40), .int 0, .int 0, .int 0])), ((a 34), .inl (q 0, 80, .inl (fun _ => 0))), ((a 35), .inl (q 0, 80, .inl (fun _ => 0))), ((a 36), .inl (q 0, 80, .inl (fun _ => 0))), ((a 37), .inl (q 0, 80, .inl (fun _ => 0))), ((a 38), .inl (q 0, 80, .inl (fun _ => 0))), ((a 39), .inl (q 0, 3, .inl (fun _ => 0))), ((a 40), .inl (q 0, 3, .inl (fun _ => 0))), ((a 41), .inr (2, [.ref (a 42), .int 0, .int 0])), ((a 42), .inl (q 4, 10, .inr (.inr (.inr (.inr (fun _ => none)))))), ((a 43), .inl (q 4, 2, .inr (.inr (.inr (.inr (fun _ => none))))))]) [0, 1, 2, 3, 4, 5, 6, 7, 8, 9, 10, 11, 12, 13, 14, 15, 16, 17, 18, 19, 20, 21, 22, 23, 24, 25, 26, 27, 28, 29, 30, 31, 32, 33, 34, 35, 36, 37, 38, 39, 40, 41, 42, 43] rfl
  have hD := hD.sub (ws' := [((a 0), .inr (5, [.ref (a 1), .ref (a 3), .ref (a 16), .ref (a 29), .ref (a 33), .ref (a 41), .ref (a 43)])), ((a 1), .inr (4, [.ref (a 2), .int 0, .int 0, .int 0, .int 0, .int 0, .int 0])), ((a 2), .inl (q 0, 400, .inl (fun _ => 0))), ((a 3), .inr (0, [.int 0, .int 0, .int 0, .int 0, .int 0, .int 0, .ref (a 4), .ref (a 5), .ref (a 6), .ref (a 7), .ref (a 8), .ref (a 9), .ref (a 10), .ref (a 11), .ref (a 12), .ref (a 13), .ref (a 14), .ref (a 15)])), ((a 4), .inl (q 0, 4, .inl (fun _ => 0))), ((a 5), .inl (q 0, 4, .inl (fun _ => 0))), ((a 6), .inl (q 0, 160, .inl (fun _ => 0))), ((a 7), .inl (q 0, 40, .inl (fun _ => 0))), ((a 8), .inl (q 0, 40, .inl (fun _ => 0))), ((a 9), .inl (q 0, 40, .inl (fun _ => 0))), ((a 10), .inl (q 0, 40, .inl (fun _ => 0))), ((a 11), .inl (q 0, 40, .inl (fun _ => 0))), ((a 12), .inl (q 0, 40, .inl (fun _ => 0))), ((a 13), .inl (q 0, 40, .inl (fun _ => 0))), ((a 14), .inl (q 1, 40, .inr (.inl (fun _ => 0)))), ((a 15), .inl (q 0, 0, .inl (fun _ => 0))), ((a 16), .inr (0, [.int 0, .int 0, .int 0, .int 0, .int 0, .int 0, .ref (a 17), .ref (a 18), .ref (a 19), .ref (a 20), .ref (a 21), .ref (a 22), .ref (a 23), .ref (a 24), .ref (a 25), .ref (a 26), .ref (a 27), .ref (a 28)])), ((a 17), .inl (q 0, 4, .inl (fun _ => 0))), ((a 18), .inl (q 0, 4, .inl (fun _ => 0))), ((a 19), .inl (q 0, 160, .inl (fun _ => 0))), ((a 20), .inl (q 0, 40, .inl (fun _ => 0))), ((a 21), .inl (q 0, 40, .inl (fun _ => 0))), ((a 22), .inl (q 0, 40, .inl (fun _ => 0))), ((a 23), .inl (q 0, 40, .inl (fun _ => 0))), ((a 24), .inl (q 0, 40, .inl (fun _ => 0))), ((a 25), .inl (q 0, 40, .inl (fun _ => 0))), ((a 26), .inl (q 0, 40, .inl (fun _ => 0))), ((a 27), .inl (q 1, 40, .inr (.inl (fun _ => 0)))), ((a 28), .inl (q 0, 0, .inl (fun _ => 0))), ((a 29), .inr (1, [.ref (a 30), .ref (a 31), .ref (a 32), .int 0, .int 0, .int 0, .int 0, .int 0, .int 0, .int 0, .int 0, .int 0])), ((a 30), .inl (q 0, 40, .inl (fun _ => 0))), ((a 31), .inl (q 0, 40, .inl (fun _ => 0))), ((a 32), .inl (q 0, 40, .inl (fun _ => 0))), ((a 33), .inr (3, [.ref (a 34), .ref (a 35), .ref (a 36), .ref (a 37), .ref (a 38), .ref (a 39), .ref (a 40), .int 0, .int 0, .int 0])), ((a 34), .inl (q 0, 80, .inl (fun _ => 0))), ((a 35), .inl (q 0, 80, .inl (fun _ => 0))), ((a 36), .inl (q 0, 80, .inl (fun _ => 0))), ((a 37), .inl (q 0, 80, .inl (fun _ => 0))), ((a 38), .inl (q 0, 80, .inl (fun _ => 0))), ((a 39), .inl (q 0, 3, .inl (fun _ => 0))), ((a 40), .inl (q 0, 3, .inl (fun _ => 0))), ((a 41), .inr (2, [.ref (a 42), .int 0, .int 0])), ((a 42), .inl (q 4, 10, .inr (.inr (.inr (.inr (fun _ => none)))))), ((a 43), .inl (q 4, 2, .inr (.inr (.inr (.inr (fun _ => none))))))]) [0, 1, 2, 3, 4, 5, 6, 7, 8, 9, 10, 11, 12, 13, 14, 15, 16, 17, 18, 19, 20, 21, 22, 23, 24, 25, 26, 27, 28, 29, 30, 31, 32, 33, 34, 35, 36, 37, 38, 39, 40, 41, 42, 43] (by decide) rfl
  refine lv_aload_n hx hb dX6_row_0 rfl (lv_at hl 0 rfl) ?_
  refine lv_iload_n hx hb dX6_row_1 rfl (lv_at hl 1 rfl) ?_
  refine vp_callSi (rd_wV (wc := [((a 0), .inr (5, [.ref (a 1), .ref (a 3), .ref (a 16), .ref (a 29), .ref (a 33), .ref (a 41), .ref (a 43)])), ((a 1), .inr (4, [.ref (a 2), .int 0, .int 0, .int 0, .int 0, .int 0, .int 0])), ((a 2), .inl (q 0, 400, .inl (fun _ => 0))), ((a 3), .inr (0, [.int 0, .int 0, .int 0, .int 0, .int 0, .int 0, .ref (a 4), .ref (a 5), .ref (a 6), .ref (a 7), .ref (a 8), .ref (a 9), .ref (a 10), .ref (a 11), .ref (a 12), .ref (a 13), .ref (a 14), .ref (a 15)])), ((a 4), .inl (q 0, 4, .inl (fun _ => 0))), ((a 5), .inl (q 0, 4, .inl (fun _ => 0))), ((a 6), .inl (q 0, 160, .inl (fun _ => 0))), ((a 7), .inl (q 0, 40, .inl (fun _ => 0))), ((a 8), .inl (q 0, 40, .inl (fun _ => 0))), ((a 9), .inl (q 0, 40, .inl (fun _ => 0))), ((a 10), .inl (q 0, 40, .inl (fun _ => 0))), ((a 11), .inl (q 0, 40, .inl (fun _ => 0))), ((a 12), .inl (q 0, 40, .inl (fun _ => 0))), ((a 13), .inl (q 0, 40, .inl (fun _ => 0))), ((a 14), .inl (q 1, 40, .inr (.inl (fun _ => 0)))), ((a 15), .inl (q 0, 0, .inl (fun _ => 0))), ((a 16), .inr (0, [.int 0, .int 0, .int 0, .int 0, .int 0, .int 0, .ref (a 17), .ref (a 18), .ref (a 19), .ref (a 20), .ref (a 21), .ref (a 22), .ref (a 23), .ref (a 24), .ref (a 25), .ref (a 26), .ref (a 27), .ref (a 28)])), ((a 17), .inl (q 0, 4, .inl (fun _ => 0))), ((a 18), .inl (q 0, 4, .inl (fun _ => 0))), ((a 19), .inl (q 0, 160, .inl (fun _ => 0))), ((a 20), .inl (q 0, 40, .inl (fun _ => 0))), ((a 21), .inl (q 0, 40, .inl (fun _ => 0))), ((a 22), .inl (q 0, 40, .inl (fun _ => 0))), ((a 23), .inl (q 0, 40, .inl (fun _ => 0))), ((a 24), .inl (q 0, 40, .inl (fun _ => 0))), ((a 25), .inl (q 0, 40, .inl (fun _ => 0))), ((a 26), .inl (q 0, 40, .inl (fun _ => 0))), ((a 27), .inl (q 1, 40, .inr (.inl (fun _ => 0)))), ((a 28), .inl (q 0, 0, .inl (fun _ => 0))), ((a 29), .inr (1, [.ref (a 30), .ref (a 31), .ref (a 32), .int 0, .int 0, .int 0, .int 0, .int 0, .int 0, .int 0, .int 0, .int 0])), ((a 30), .inl (q 0, 40, .inl (fun _ => 0))), ((a 31), .inl (q 0, 40, .inl (fun _ => 0))), ((a 32), .inl (q 0, 40, .inl (fun _ => 0))), ((a 33), .inr (3, [.ref (a 34), .ref (a 35), .ref (a 36), .ref (a 37), .ref (a 38), .ref (a 39), .ref (a 40), .int 0, .int 0, .int 0])), ((a 34), .inl (q 0, 80, .inl (fun _ => 0))), ((a 35), .inl (q 0, 80, .inl (fun _ => 0))), ((a 36), .inl (q 0, 80, .inl (fun _ => 0))), ((a 37), .inl (q 0, 80, .inl (fun _ => 0))), ((a 38), .inl (q 0, 80, .inl (fun _ => 0))), ((a 39), .inl (q 0, 3, .inl (fun _ => 0))), ((a 40), .inl (q 0, 3, .inl (fun _ => 0))), ((a 41), .inr (2, [.ref (a 42), .int 0, .int 0])), ((a 42), .inl (q 4, 10, .inr (.inr (.inr (.inr (fun _ => none)))))), ((a 43), .inl (q 4, 2, .inr (.inr (.inr (.inr (fun _ => none))))))]) (As := [.int x]) (rest := []) hx hb hml hown ht (cf_whyNotRow) wd_X6_whyNotRow mw_617 hQ hV hS (hP.sub [0, 1, 2, 3, 4, 5, 6, 7, 8, 9, 10, 11, 12, 13, 14, 15, 16, 17, 18, 19, 20, 21, 22, 23, 24, 25, 26, 27, 28, 29, 30, 31, 32, 33, 34, 35, 36, 37, 38, 39, 40, 41, 42, 43] rfl) rfl rfl rfl hl.1 rfl (Nat.le_of_ble_eq_true rfl) dX6_row_2 ⟨Nat.le_of_ble_eq_true rfl, Nat.le_of_ble_eq_true rfl, rfl, rfl⟩ ⟨Nat.le_of_ble_eq_true rfl, Nat.le_of_ble_eq_true rfl⟩) (fun r_1 er_1 => ?_)
  obtain rfl : r_1 = (-1) := er_1
  refine lv_istore_n (lv' := [(2, .int (-1)), (0, .ref (a 0)), (1, .int x)]) hx hb dX6_row_5 rfl hl (by decide) rfl (fun ls hl => ?_)
  refine lv_iload_n hx hb dX6_row_6 rfl (lv_at hl 0 rfl) ?_
  refine lv_if_ne (tgt := 42) hx hb dX6_row_7 (by decide) (fun c_2 => ?_) (fun c9 => absurd c9 (by decide))
  refine lv_aload_n hx hb dX6_row_42 rfl (lv_at hl 1 rfl) ?_
  refine fl_get (C := RX6) (T := TX6) (N := 7) (ci := 5) (v := .ref (a 1)) hx hb ht in_X6 hown hK hP 0 rfl rfl 0 (by decide) mw_355 rfl dX6_row_43 ?_
  refine lv_iconst (v := 0) hx hb dX6_row_46 (by decide) ?_
  refine fl_put (C := RX5) (T := TX5) (N := 7) (ci := 4) (v := .int 0) (ws2 := [((a 0), .inr (5, [.ref (a 1), .ref (a 3), .ref (a 16), .ref (a 29), .ref (a 33), .ref (a 41), .ref (a 43)])), ((a 1), .inr (4, [.ref (a 2), .int 0, .int 0, .int 0, .int 0, .int 0, .int 0])), ((a 2), .inl (q 0, 400, .inl (fun _ => 0))), ((a 3), .inr (0, [.int 0, .int 0, .int 0, .int 0, .int 0, .int 0, .ref (a 4), .ref (a 5), .ref (a 6), .ref (a 7), .ref (a 8), .ref (a 9), .ref (a 10), .ref (a 11), .ref (a 12), .ref (a 13), .ref (a 14), .ref (a 15)])), ((a 4), .inl (q 0, 4, .inl (fun _ => 0))), ((a 5), .inl (q 0, 4, .inl (fun _ => 0))), ((a 6), .inl (q 0, 160, .inl (fun _ => 0))), ((a 7), .inl (q 0, 40, .inl (fun _ => 0))), ((a 8), .inl (q 0, 40, .inl (fun _ => 0))), ((a 9), .inl (q 0, 40, .inl (fun _ => 0))), ((a 10), .inl (q 0, 40, .inl (fun _ => 0))), ((a 11), .inl (q 0, 40, .inl (fun _ => 0))), ((a 12), .inl (q 0, 40, .inl (fun _ => 0))), ((a 13), .inl (q 0, 40, .inl (fun _ => 0))), ((a 14), .inl (q 1, 40, .inr (.inl (fun _ => 0)))), ((a 15), .inl (q 0, 0, .inl (fun _ => 0))), ((a 16), .inr (0, [.int 0, .int 0, .int 0, .int 0, .int 0, .int 0, .ref (a 17), .ref (a 18), .ref (a 19), .ref (a 20), .ref (a 21), .ref (a 22), .ref (a 23), .ref (a 24), .ref (a 25), .ref (a 26), .ref (a 27), .ref (a 28)])), ((a 17), .inl (q 0, 4, .inl (fun _ => 0))), ((a 18), .inl (q 0, 4, .inl (fun _ => 0))), ((a 19), .inl (q 0, 160, .inl (fun _ => 0))), ((a 20), .inl (q 0, 40, .inl (fun _ => 0))), ((a 21), .inl (q 0, 40, .inl (fun _ => 0))), ((a 22), .inl (q 0, 40, .inl (fun _ => 0))), ((a 23), .inl (q 0, 40, .inl (fun _ => 0))), ((a 24), .inl (q 0, 40, .inl (fun _ => 0))), ((a 25), .inl (q 0, 40, .inl (fun _ => 0))), ((a 26), .inl (q 0, 40, .inl (fun _ => 0))), ((a 27), .inl (q 1, 40, .inr (.inl (fun _ => 0)))), ((a 28), .inl (q 0, 0, .inl (fun _ => 0))), ((a 29), .inr (1, [.ref (a 30), .ref (a 31), .ref (a 32), .int 0, .int 0, .int 0, .int 0, .int 0, .int 0, .int 0, .int 0, .int 0])), ((a 30), .inl (q 0, 40, .inl (fun _ => 0))), ((a 31), .inl (q 0, 40, .inl (fun _ => 0))), ((a 32), .inl (q 0, 40, .inl (fun _ => 0))), ((a 33), .inr (3, [.ref (a 34), .ref (a 35), .ref (a 36), .ref (a 37), .ref (a 38), .ref (a 39), .ref (a 40), .int 0, .int 0, .int 0])), ((a 34), .inl (q 0, 80, .inl (fun _ => 0))), ((a 35), .inl (q 0, 80, .inl (fun _ => 0))), ((a 36), .inl (q 0, 80, .inl (fun _ => 0))), ((a 37), .inl (q 0, 80, .inl (fun _ => 0))), ((a 38), .inl (q 0, 80, .inl (fun _ => 0))), ((a 39), .inl (q 0, 3, .inl (fun _ => 0))), ((a 40), .inl (q 0, 3, .inl (fun _ => 0))), ((a 41), .inr (2, [.ref (a 42), .int 0, .int 0])), ((a 42), .inl (q 4, 10, .inr (.inr (.inr (.inr (fun _ => none)))))), ((a 43), .inl (q 4, 2, .inr (.inr (.inr (.inr (fun _ => none))))))]) hx hb ht in_X5 tyX5_ok nmX5 hown hK hP hD hS 1 rfl rfl 1 (by decide) mw_129 rfl rfl rfl (Nat.le_of_ble_eq_true rfl) dX6_row_47 rfl (fun H locs hP hD hS => ?_)
  refine lv_iload_n hx hb dX6_row_50 rfl (lv_at hl 0 rfl) ?_
  have hP := hP.sub (ws' := []) [] rfl
  have hD := hD.sub (ws' := []) [] (by decide) rfl
  exact mt_iret () hx hb hr hk (rfl) hP hD hS dX6_row_51

set_option maxHeartbeats 4000000 in
set_option maxRecDepth 100000 in
theorem cf_scroll {l : Launch} {D : va_G} {q : Nat → ClassId} {sz : Nat} {a : Nat → Nat} : Met l yX6_scroll (Cond.code yX6_scroll cX6_scroll 2 (some .int) :: w_all) ({ frames := 2, cells := 0, slots := 0, locals := 42 }) (mt_P D q [.ref (a 0)] (fb_w a q) sz) (va_Qi (fun r (u : Unit) => r = (-1)) (mt_B D (fb_w a q) sz (fun _ => [])) (va_A (fb_w a q) sz)) 0 0 (va_A (fb_w a q) sz) := by
  refine mt_start (by decide) (Nat.le_of_ble_eq_true rfl) ?_
  intro p e s m below meth c ls hx hb hr hml hown ht hk hin hP hQ hD hA hS hV hl
  have hK := hQ.1
  have hown : s.vm.findClass RX6 = some m.cls := hown
  have hl : lv_has ls 2 [(0, .ref (a 0))] := hl
  have hP := hP.sub (ws' := [((a 0), .inr (5, [.ref (a 1), .ref (a 3), .ref (a 16), .ref (a 29), .ref (a 33), .ref (a 41), .ref (a 43)])), ((a 1), .inr (4, [.ref (a 2), .int 0, .int 0, .int 0, .int 0, .int 0, .int 0])), ((a 2), .inl (q 0, 400, .inl (fun _ => 0))), ((a 3), .inr (0, [.int 0, .int 0, .int 0, .int 0, .int 0, .int 0, .ref (a 4), .ref (a 5), .ref (a 6), .ref (a 7), .ref (a 8), .ref (a 9), .ref (a 10), .ref (a 11), .ref (a 12), .ref (a 13), .ref (a 14), .ref (a 15)])), ((a 4), .inl (q 0, 4, .inl (fun _ => 0))), ((a 5), .inl (q 0, 4, .inl (fun _ => 0))), ((a 6), .inl (q 0, 160, .inl (fun _ => 0))), ((a 7), .inl (q 0, 40, .inl (fun _ => 0))), ((a 8), .inl (q 0, 40, .inl (fun _ => 0))), ((a 9), .inl (q 0, 40, .inl (fun _ => 0))), ((a 10), .inl (q 0, 40, .inl (fun _ => 0))), ((a 11), .inl (q 0, 40, .inl (fun _ => 0))), ((a 12), .inl (q 0, 40, .inl (fun _ => 0))), ((a 13), .inl (q 0, 40, .inl (fun _ => 0))), ((a 14), .inl (q 1, 40, .inr (.inl (fun _ => 0)))), ((a 15), .inl (q 0, 0, .inl (fun _ => 0))), ((a 16), .inr (0, [.int 0, .int 0, .int 0, .int 0, .int 0, .int 0, .ref (a 17), .ref (a 18), .ref (a 19), .ref (a 20), .ref (a 21), .ref (a 22), .ref (a 23), .ref (a 24), .ref (a 25), .ref (a 26), .ref (a 27), .ref (a 28)])), ((a 17), .inl (q 0, 4, .inl (fun _ => 0))), ((a 18), .inl (q 0, 4, .inl (fun _ => 0))), ((a 19), .inl (q 0, 160, .inl (fun _ => 0))), ((a 20), .inl (q 0, 40, .inl (fun _ => 0))), ((a 21), .inl (q 0, 40, .inl (fun _ => 0))), ((a 22), .inl (q 0, 40, .inl (fun _ => 0))), ((a 23), .inl (q 0, 40, .inl (fun _ => 0))), ((a 24), .inl (q 0, 40, .inl (fun _ => 0))), ((a 25), .inl (q 0, 40, .inl (fun _ => 0))), ((a 26), .inl (q 0, 40, .inl (fun _ => 0))), ((a 27), .inl (q 1, 40, .inr (.inl (fun _ => 0)))), ((a 28), .inl (q 0, 0, .inl (fun _ => 0))), ((a 29), .inr (1, [.ref (a 30), .ref (a 31), .ref (a 32), .int 0, .int 0, .int 0, .int 0, .int 0, .int 0, .int 0, .int 0, .int 0])), ((a 30), .inl (q 0, 40, .inl (fun _ => 0))), ((a 31), .inl (q 0, 40, .inl (fun _ => 0))), ((a 32), .inl (q 0, 40, .inl (fun _ => 0))), ((a 33), .inr (3, [.ref (a 34), .ref (a 35), .ref (a 36), .ref (a 37), .ref (a 38), .ref (a 39), .ref (a 40), .int 0, .int 0, .int 0])), ((a 34), .inl (q 0, 80, .inl (fun _ => 0))), ((a 35), .inl (q 0, 80, .inl (fun _ => 0))), ((a 36), .inl (q 0, 80, .inl (fun _ => 0))), ((a 37), .inl (q 0, 80, .inl (fun _ => 0))), ((a 38), .inl (q 0, 80, .inl (fun _ => 0))), ((a 39), .inl (q 0, 3, .inl (fun _ => 0))), ((a 40), .inl (q 0, 3, .inl (fun _ => 0))), ((a 41), .inr (2, [.ref (a 42), .int 0, .int 0])), ((a 42), .inl (q 4, 10, .inr (.inr (.inr (.inr (fun _ => none)))))), ((a 43), .inl (q 4, 2, .inr (.inr (.inr (.inr (fun _ => none))))))]) [0, 1, 2, 3, 4, 5, 6, 7, 8, 9, 10, 11, 12, 13, 14, 15, 16, 17, 18, 19, 20, 21, 22, 23, 24, 25, 26, 27, 28, 29, 30, 31, 32, 33, 34, 35, 36, 37, 38, 39, 40, 41, 42, 43] rfl
  have hD := hD.sub (ws' := [((a 0), .inr (5, [.ref (a 1), .ref (a 3), .ref (a 16), .ref (a 29), .ref (a 33), .ref (a 41), .ref (a 43)])), ((a 1), .inr (4, [.ref (a 2), .int 0, .int 0, .int 0, .int 0, .int 0, .int 0])), ((a 2), .inl (q 0, 400, .inl (fun _ => 0))), ((a 3), .inr (0, [.int 0, .int 0, .int 0, .int 0, .int 0, .int 0, .ref (a 4), .ref (a 5), .ref (a 6), .ref (a 7), .ref (a 8), .ref (a 9), .ref (a 10), .ref (a 11), .ref (a 12), .ref (a 13), .ref (a 14), .ref (a 15)])), ((a 4), .inl (q 0, 4, .inl (fun _ => 0))), ((a 5), .inl (q 0, 4, .inl (fun _ => 0))), ((a 6), .inl (q 0, 160, .inl (fun _ => 0))), ((a 7), .inl (q 0, 40, .inl (fun _ => 0))), ((a 8), .inl (q 0, 40, .inl (fun _ => 0))), ((a 9), .inl (q 0, 40, .inl (fun _ => 0))), ((a 10), .inl (q 0, 40, .inl (fun _ => 0))), ((a 11), .inl (q 0, 40, .inl (fun _ => 0))), ((a 12), .inl (q 0, 40, .inl (fun _ => 0))), ((a 13), .inl (q 0, 40, .inl (fun _ => 0))), ((a 14), .inl (q 1, 40, .inr (.inl (fun _ => 0)))), ((a 15), .inl (q 0, 0, .inl (fun _ => 0))), ((a 16), .inr (0, [.int 0, .int 0, .int 0, .int 0, .int 0, .int 0, .ref (a 17), .ref (a 18), .ref (a 19), .ref (a 20), .ref (a 21), .ref (a 22), .ref (a 23), .ref (a 24), .ref (a 25), .ref (a 26), .ref (a 27), .ref (a 28)])), ((a 17), .inl (q 0, 4, .inl (fun _ => 0))), ((a 18), .inl (q 0, 4, .inl (fun _ => 0))), ((a 19), .inl (q 0, 160, .inl (fun _ => 0))), ((a 20), .inl (q 0, 40, .inl (fun _ => 0))), ((a 21), .inl (q 0, 40, .inl (fun _ => 0))), ((a 22), .inl (q 0, 40, .inl (fun _ => 0))), ((a 23), .inl (q 0, 40, .inl (fun _ => 0))), ((a 24), .inl (q 0, 40, .inl (fun _ => 0))), ((a 25), .inl (q 0, 40, .inl (fun _ => 0))), ((a 26), .inl (q 0, 40, .inl (fun _ => 0))), ((a 27), .inl (q 1, 40, .inr (.inl (fun _ => 0)))), ((a 28), .inl (q 0, 0, .inl (fun _ => 0))), ((a 29), .inr (1, [.ref (a 30), .ref (a 31), .ref (a 32), .int 0, .int 0, .int 0, .int 0, .int 0, .int 0, .int 0, .int 0, .int 0])), ((a 30), .inl (q 0, 40, .inl (fun _ => 0))), ((a 31), .inl (q 0, 40, .inl (fun _ => 0))), ((a 32), .inl (q 0, 40, .inl (fun _ => 0))), ((a 33), .inr (3, [.ref (a 34), .ref (a 35), .ref (a 36), .ref (a 37), .ref (a 38), .ref (a 39), .ref (a 40), .int 0, .int 0, .int 0])), ((a 34), .inl (q 0, 80, .inl (fun _ => 0))), ((a 35), .inl (q 0, 80, .inl (fun _ => 0))), ((a 36), .inl (q 0, 80, .inl (fun _ => 0))), ((a 37), .inl (q 0, 80, .inl (fun _ => 0))), ((a 38), .inl (q 0, 80, .inl (fun _ => 0))), ((a 39), .inl (q 0, 3, .inl (fun _ => 0))), ((a 40), .inl (q 0, 3, .inl (fun _ => 0))), ((a 41), .inr (2, [.ref (a 42), .int 0, .int 0])), ((a 42), .inl (q 4, 10, .inr (.inr (.inr (.inr (fun _ => none)))))), ((a 43), .inl (q 4, 2, .inr (.inr (.inr (.inr (fun _ => none))))))]) [0, 1, 2, 3, 4, 5, 6, 7, 8, 9, 10, 11, 12, 13, 14, 15, 16, 17, 18, 19, 20, 21, 22, 23, 24, 25, 26, 27, 28, 29, 30, 31, 32, 33, 34, 35, 36, 37, 38, 39, 40, 41, 42, 43] (by decide) rfl
  refine lv_aload_n hx hb dX6_scroll_0 rfl (lv_at hl 0 rfl) ?_
  refine lv_aload_n hx hb dX6_scroll_1 rfl (lv_at hl 0 rfl) ?_
  refine fl_get (C := RX6) (T := TX6) (N := 7) (ci := 5) (v := .ref (a 3)) hx hb ht in_X6 hown hK hP 0 rfl rfl 1 (by decide) mw_356 rfl dX6_scroll_2 ?_
  refine fl_get (C := RX0) (T := TX0) (N := 18) (ci := 0) (v := .int 0) hx hb ht in_X0 hown hK hP 3 rfl rfl 0 (by decide) mw_169 rfl dX6_scroll_5 ?_
  refine lv_iconst (v := 1) hx hb dX6_scroll_8 (by decide) ?_
  refine lv_isub hx hb dX6_scroll_9 ?_
  refine ab_i (v := (-1)) (by decide) ?_
  refine vp_callSi (rd_wV (wc := [((a 0), .inr (5, [.ref (a 1), .ref (a 3), .ref (a 16), .ref (a 29), .ref (a 33), .ref (a 41), .ref (a 43)])), ((a 1), .inr (4, [.ref (a 2), .int 0, .int 0, .int 0, .int 0, .int 0, .int 0])), ((a 2), .inl (q 0, 400, .inl (fun _ => 0))), ((a 3), .inr (0, [.int 0, .int 0, .int 0, .int 0, .int 0, .int 0, .ref (a 4), .ref (a 5), .ref (a 6), .ref (a 7), .ref (a 8), .ref (a 9), .ref (a 10), .ref (a 11), .ref (a 12), .ref (a 13), .ref (a 14), .ref (a 15)])), ((a 4), .inl (q 0, 4, .inl (fun _ => 0))), ((a 5), .inl (q 0, 4, .inl (fun _ => 0))), ((a 6), .inl (q 0, 160, .inl (fun _ => 0))), ((a 7), .inl (q 0, 40, .inl (fun _ => 0))), ((a 8), .inl (q 0, 40, .inl (fun _ => 0))), ((a 9), .inl (q 0, 40, .inl (fun _ => 0))), ((a 10), .inl (q 0, 40, .inl (fun _ => 0))), ((a 11), .inl (q 0, 40, .inl (fun _ => 0))), ((a 12), .inl (q 0, 40, .inl (fun _ => 0))), ((a 13), .inl (q 0, 40, .inl (fun _ => 0))), ((a 14), .inl (q 1, 40, .inr (.inl (fun _ => 0)))), ((a 15), .inl (q 0, 0, .inl (fun _ => 0))), ((a 16), .inr (0, [.int 0, .int 0, .int 0, .int 0, .int 0, .int 0, .ref (a 17), .ref (a 18), .ref (a 19), .ref (a 20), .ref (a 21), .ref (a 22), .ref (a 23), .ref (a 24), .ref (a 25), .ref (a 26), .ref (a 27), .ref (a 28)])), ((a 17), .inl (q 0, 4, .inl (fun _ => 0))), ((a 18), .inl (q 0, 4, .inl (fun _ => 0))), ((a 19), .inl (q 0, 160, .inl (fun _ => 0))), ((a 20), .inl (q 0, 40, .inl (fun _ => 0))), ((a 21), .inl (q 0, 40, .inl (fun _ => 0))), ((a 22), .inl (q 0, 40, .inl (fun _ => 0))), ((a 23), .inl (q 0, 40, .inl (fun _ => 0))), ((a 24), .inl (q 0, 40, .inl (fun _ => 0))), ((a 25), .inl (q 0, 40, .inl (fun _ => 0))), ((a 26), .inl (q 0, 40, .inl (fun _ => 0))), ((a 27), .inl (q 1, 40, .inr (.inl (fun _ => 0)))), ((a 28), .inl (q 0, 0, .inl (fun _ => 0))), ((a 29), .inr (1, [.ref (a 30), .ref (a 31), .ref (a 32), .int 0, .int 0, .int 0, .int 0, .int 0, .int 0, .int 0, .int 0, .int 0])), ((a 30), .inl (q 0, 40, .inl (fun _ => 0))), ((a 31), .inl (q 0, 40, .inl (fun _ => 0))), ((a 32), .inl (q 0, 40, .inl (fun _ => 0))), ((a 33), .inr (3, [.ref (a 34), .ref (a 35), .ref (a 36), .ref (a 37), .ref (a 38), .ref (a 39), .ref (a 40), .int 0, .int 0, .int 0])), ((a 34), .inl (q 0, 80, .inl (fun _ => 0))), ((a 35), .inl (q 0, 80, .inl (fun _ => 0))), ((a 36), .inl (q 0, 80, .inl (fun _ => 0))), ((a 37), .inl (q 0, 80, .inl (fun _ => 0))), ((a 38), .inl (q 0, 80, .inl (fun _ => 0))), ((a 39), .inl (q 0, 3, .inl (fun _ => 0))), ((a 40), .inl (q 0, 3, .inl (fun _ => 0))), ((a 41), .inr (2, [.ref (a 42), .int 0, .int 0])), ((a 42), .inl (q 4, 10, .inr (.inr (.inr (.inr (fun _ => none)))))), ((a 43), .inl (q 4, 2, .inr (.inr (.inr (.inr (fun _ => none))))))]) (As := [.int (-1)]) (rest := []) hx hb hml hown ht (cf_whyNotRow) wd_X6_whyNotRow mw_617 hQ hV hS (hP.sub [0, 1, 2, 3, 4, 5, 6, 7, 8, 9, 10, 11, 12, 13, 14, 15, 16, 17, 18, 19, 20, 21, 22, 23, 24, 25, 26, 27, 28, 29, 30, 31, 32, 33, 34, 35, 36, 37, 38, 39, 40, 41, 42, 43] rfl) rfl rfl rfl hl.1 rfl (Nat.le_of_ble_eq_true rfl) dX6_scroll_10 ⟨Nat.le_of_ble_eq_true rfl, Nat.le_of_ble_eq_true rfl, rfl, rfl⟩ ⟨Nat.le_of_ble_eq_true rfl, Nat.le_of_ble_eq_true rfl⟩) (fun r_1 er_1 => ?_)
  obtain rfl : r_1 = (-1) := er_1
  refine lv_istore_n (lv' := [(1, .int (-1)), (0, .ref (a 0))]) hx hb dX6_scroll_13 rfl hl (by decide) rfl (fun ls hl => ?_)
  refine lv_iload_n hx hb dX6_scroll_14 rfl (lv_at hl 0 rfl) ?_
  refine lv_if_ne (tgt := 49) hx hb dX6_scroll_15 (by decide) (fun c_2 => ?_) (fun c9 => absurd c9 (by decide))
  refine lv_aload_n hx hb dX6_scroll_49 rfl (lv_at hl 1 rfl) ?_
  refine fl_get (C := RX6) (T := TX6) (N := 7) (ci := 5) (v := .ref (a 1)) hx hb ht in_X6 hown hK hP 0 rfl rfl 0 (by decide) mw_355 rfl dX6_scroll_50 ?_
  refine lv_iconst (v := 0) hx hb dX6_scroll_53 (by decide) ?_
  refine fl_put (C := RX5) (T := TX5) (N := 7) (ci := 4) (v := .int 0) (ws2 := [((a 0), .inr (5, [.ref (a 1), .ref (a 3), .ref (a 16), .ref (a 29), .ref (a 33), .ref (a 41), .ref (a 43)])), ((a 1), .inr (4, [.ref (a 2), .int 0, .int 0, .int 0, .int 0, .int 0, .int 0])), ((a 2), .inl (q 0, 400, .inl (fun _ => 0))), ((a 3), .inr (0, [.int 0, .int 0, .int 0, .int 0, .int 0, .int 0, .ref (a 4), .ref (a 5), .ref (a 6), .ref (a 7), .ref (a 8), .ref (a 9), .ref (a 10), .ref (a 11), .ref (a 12), .ref (a 13), .ref (a 14), .ref (a 15)])), ((a 4), .inl (q 0, 4, .inl (fun _ => 0))), ((a 5), .inl (q 0, 4, .inl (fun _ => 0))), ((a 6), .inl (q 0, 160, .inl (fun _ => 0))), ((a 7), .inl (q 0, 40, .inl (fun _ => 0))), ((a 8), .inl (q 0, 40, .inl (fun _ => 0))), ((a 9), .inl (q 0, 40, .inl (fun _ => 0))), ((a 10), .inl (q 0, 40, .inl (fun _ => 0))), ((a 11), .inl (q 0, 40, .inl (fun _ => 0))), ((a 12), .inl (q 0, 40, .inl (fun _ => 0))), ((a 13), .inl (q 0, 40, .inl (fun _ => 0))), ((a 14), .inl (q 1, 40, .inr (.inl (fun _ => 0)))), ((a 15), .inl (q 0, 0, .inl (fun _ => 0))), ((a 16), .inr (0, [.int 0, .int 0, .int 0, .int 0, .int 0, .int 0, .ref (a 17), .ref (a 18), .ref (a 19), .ref (a 20), .ref (a 21), .ref (a 22), .ref (a 23), .ref (a 24), .ref (a 25), .ref (a 26), .ref (a 27), .ref (a 28)])), ((a 17), .inl (q 0, 4, .inl (fun _ => 0))), ((a 18), .inl (q 0, 4, .inl (fun _ => 0))), ((a 19), .inl (q 0, 160, .inl (fun _ => 0))), ((a 20), .inl (q 0, 40, .inl (fun _ => 0))), ((a 21), .inl (q 0, 40, .inl (fun _ => 0))), ((a 22), .inl (q 0, 40, .inl (fun _ => 0))), ((a 23), .inl (q 0, 40, .inl (fun _ => 0))), ((a 24), .inl (q 0, 40, .inl (fun _ => 0))), ((a 25), .inl (q 0, 40, .inl (fun _ => 0))), ((a 26), .inl (q 0, 40, .inl (fun _ => 0))), ((a 27), .inl (q 1, 40, .inr (.inl (fun _ => 0)))), ((a 28), .inl (q 0, 0, .inl (fun _ => 0))), ((a 29), .inr (1, [.ref (a 30), .ref (a 31), .ref (a 32), .int 0, .int 0, .int 0, .int 0, .int 0, .int 0, .int 0, .int 0, .int 0])), ((a 30), .inl (q 0, 40, .inl (fun _ => 0))), ((a 31), .inl (q 0, 40, .inl (fun _ => 0))), ((a 32), .inl (q 0, 40, .inl (fun _ => 0))), ((a 33), .inr (3, [.ref (a 34), .ref (a 35), .ref (a 36), .ref (a 37), .ref (a 38), .ref (a 39), .ref (a 40), .int 0, .int 0, .int 0])), ((a 34), .inl (q 0, 80, .inl (fun _ => 0))), ((a 35), .inl (q 0, 80, .inl (fun _ => 0))), ((a 36), .inl (q 0, 80, .inl (fun _ => 0))), ((a 37), .inl (q 0, 80, .inl (fun _ => 0))), ((a 38), .inl (q 0, 80, .inl (fun _ => 0))), ((a 39), .inl (q 0, 3, .inl (fun _ => 0))), ((a 40), .inl (q 0, 3, .inl (fun _ => 0))), ((a 41), .inr (2, [.ref (a 42), .int 0, .int 0])), ((a 42), .inl (q 4, 10, .inr (.inr (.inr (.inr (fun _ => none)))))), ((a 43), .inl (q 4, 2, .inr (.inr (.inr (.inr (fun _ => none))))))]) hx hb ht in_X5 tyX5_ok nmX5 hown hK hP hD hS 1 rfl rfl 1 (by decide) mw_129 rfl rfl rfl (Nat.le_of_ble_eq_true rfl) dX6_scroll_54 rfl (fun H locs hP hD hS => ?_)
  refine lv_iload_n hx hb dX6_scroll_57 rfl (lv_at hl 0 rfl) ?_
  have hP := hP.sub (ws' := []) [] rfl
  have hD := hD.sub (ws' := []) [] (by decide) rfl
  exact mt_iret () hx hb hr hk (rfl) hP hD hS dX6_scroll_58

set_option maxHeartbeats 4000000 in
set_option maxRecDepth 100000 in
theorem cf_whyNotProgram {l : Launch} {D : va_G} {q : Nat → ClassId} {a : Nat → Nat} : Met l yX6_whyNotProgram (Cond.code yX6_whyNotProgram cX6_whyNotProgram 1 (some .int) :: w_all) ({ frames := 1, cells := 0, slots := 0, locals := 20 }) (rd_P D q [.ref (a 0)] (fb_w a q)) (vp_Si (fun r => r = (-1))) 0 0 (fun _ => False) := by
  refine rd_start (by decide) (Nat.le_of_ble_eq_true rfl) ?_
  intro p e s m below meth c ls hx hb hr hml hown ht hk hP hQ hV hl
  have hK := hQ.1
  have hown : s.vm.findClass RX6 = some m.cls := hown
  have hl : lv_has ls 1 [(0, .ref (a 0))] := hl
  have hP := hP.sub (ws' := [((a 0), .inr (5, [.ref (a 1), .ref (a 3), .ref (a 16), .ref (a 29), .ref (a 33), .ref (a 41), .ref (a 43)])), ((a 3), .inr (0, [.int 0, .int 0, .int 0, .int 0, .int 0, .int 0, .ref (a 4), .ref (a 5), .ref (a 6), .ref (a 7), .ref (a 8), .ref (a 9), .ref (a 10), .ref (a 11), .ref (a 12), .ref (a 13), .ref (a 14), .ref (a 15)]))]) [0, 3] rfl
  refine lv_aload_n hx hb dX6_whyNotProgram_0 rfl (lv_at hl 0 rfl) ?_
  refine fl_get (C := RX6) (T := TX6) (N := 7) (ci := 5) (v := .ref (a 3)) hx hb ht in_X6 hown hK hP 0 rfl rfl 1 (by decide) mw_356 rfl dX6_whyNotProgram_1 ?_
  refine vp_callSi (rd_wV (wc := [((a 3), .inr (0, [.int 0, .int 0, .int 0, .int 0, .int 0, .int 0, .ref (a 4), .ref (a 5), .ref (a 6), .ref (a 7), .ref (a 8), .ref (a 9), .ref (a 10), .ref (a 11), .ref (a 12), .ref (a 13), .ref (a 14), .ref (a 15)]))]) (As := []) (rest := []) hx hb hml hown ht (ct_Board_isThere) wd_X0_isThere mw_677 hQ hV va_S.rf (hP.sub [1] rfl) rfl rfl rfl hl.1 rfl (Nat.le_of_ble_eq_true rfl) dX6_whyNotProgram_4 ⟨Nat.le_of_ble_eq_true rfl, Nat.le_of_ble_eq_true rfl, rfl, rfl⟩ ⟨Nat.le_of_ble_eq_true rfl, Nat.le_of_ble_eq_true rfl⟩) (fun r_1 er_1 => ?_)
  obtain rfl : r_1 = 0 := er_1
  refine lv_if_ne (tgt := 12) hx hb dX6_whyNotProgram_7 (by decide) (fun c9 => absurd c9 (by decide)) (fun c_2 => ?_)
  refine lv_iconst (v := (-1)) hx hb dX6_whyNotProgram_10 (by decide) ?_
  exact rd_iret hx hb hr hk (rfl) dX6_whyNotProgram_11

set_option maxHeartbeats 4000000 in
set_option maxRecDepth 100000 in
theorem cf_run {l : Launch} {D : va_G} {q : Nat → ClassId} {sz : Nat} {a : Nat → Nat} : Met l yX6_run (Cond.code yX6_run cX6_run 2 (some .int) :: w_all) ({ frames := 2, cells := 0, slots := 0, locals := 40 }) (mt_P D q [.ref (a 0)] (fb_w a q) sz) (va_Qi (fun r (u : Unit) => r = (-1)) (mt_B D (fb_w a q) sz (fun _ => [])) (va_A (fb_w a q) sz)) 0 0 (va_A (fb_w a q) sz) := by
  refine mt_start (by decide) (Nat.le_of_ble_eq_true rfl) ?_
  intro p e s m below meth c ls hx hb hr hml hown ht hk hin hP hQ hD hA hS hV hl
  have hK := hQ.1
  have hown : s.vm.findClass RX6 = some m.cls := hown
  have hl : lv_has ls 2 [(0, .ref (a 0))] := hl
  have hP := hP.sub (ws' := [((a 0), .inr (5, [.ref (a 1), .ref (a 3), .ref (a 16), .ref (a 29), .ref (a 33), .ref (a 41), .ref (a 43)])), ((a 1), .inr (4, [.ref (a 2), .int 0, .int 0, .int 0, .int 0, .int 0, .int 0])), ((a 2), .inl (q 0, 400, .inl (fun _ => 0))), ((a 3), .inr (0, [.int 0, .int 0, .int 0, .int 0, .int 0, .int 0, .ref (a 4), .ref (a 5), .ref (a 6), .ref (a 7), .ref (a 8), .ref (a 9), .ref (a 10), .ref (a 11), .ref (a 12), .ref (a 13), .ref (a 14), .ref (a 15)])), ((a 4), .inl (q 0, 4, .inl (fun _ => 0))), ((a 5), .inl (q 0, 4, .inl (fun _ => 0))), ((a 6), .inl (q 0, 160, .inl (fun _ => 0))), ((a 7), .inl (q 0, 40, .inl (fun _ => 0))), ((a 8), .inl (q 0, 40, .inl (fun _ => 0))), ((a 9), .inl (q 0, 40, .inl (fun _ => 0))), ((a 10), .inl (q 0, 40, .inl (fun _ => 0))), ((a 11), .inl (q 0, 40, .inl (fun _ => 0))), ((a 12), .inl (q 0, 40, .inl (fun _ => 0))), ((a 13), .inl (q 0, 40, .inl (fun _ => 0))), ((a 14), .inl (q 1, 40, .inr (.inl (fun _ => 0)))), ((a 15), .inl (q 0, 0, .inl (fun _ => 0))), ((a 16), .inr (0, [.int 0, .int 0, .int 0, .int 0, .int 0, .int 0, .ref (a 17), .ref (a 18), .ref (a 19), .ref (a 20), .ref (a 21), .ref (a 22), .ref (a 23), .ref (a 24), .ref (a 25), .ref (a 26), .ref (a 27), .ref (a 28)])), ((a 17), .inl (q 0, 4, .inl (fun _ => 0))), ((a 18), .inl (q 0, 4, .inl (fun _ => 0))), ((a 19), .inl (q 0, 160, .inl (fun _ => 0))), ((a 20), .inl (q 0, 40, .inl (fun _ => 0))), ((a 21), .inl (q 0, 40, .inl (fun _ => 0))), ((a 22), .inl (q 0, 40, .inl (fun _ => 0))), ((a 23), .inl (q 0, 40, .inl (fun _ => 0))), ((a 24), .inl (q 0, 40, .inl (fun _ => 0))), ((a 25), .inl (q 0, 40, .inl (fun _ => 0))), ((a 26), .inl (q 0, 40, .inl (fun _ => 0))), ((a 27), .inl (q 1, 40, .inr (.inl (fun _ => 0)))), ((a 28), .inl (q 0, 0, .inl (fun _ => 0))), ((a 29), .inr (1, [.ref (a 30), .ref (a 31), .ref (a 32), .int 0, .int 0, .int 0, .int 0, .int 0, .int 0, .int 0, .int 0, .int 0])), ((a 30), .inl (q 0, 40, .inl (fun _ => 0))), ((a 31), .inl (q 0, 40, .inl (fun _ => 0))), ((a 32), .inl (q 0, 40, .inl (fun _ => 0))), ((a 33), .inr (3, [.ref (a 34), .ref (a 35), .ref (a 36), .ref (a 37), .ref (a 38), .ref (a 39), .ref (a 40), .int 0, .int 0, .int 0])), ((a 34), .inl (q 0, 80, .inl (fun _ => 0))), ((a 35), .inl (q 0, 80, .inl (fun _ => 0))), ((a 36), .inl (q 0, 80, .inl (fun _ => 0))), ((a 37), .inl (q 0, 80, .inl (fun _ => 0))), ((a 38), .inl (q 0, 80, .inl (fun _ => 0))), ((a 39), .inl (q 0, 3, .inl (fun _ => 0))), ((a 40), .inl (q 0, 3, .inl (fun _ => 0))), ((a 41), .inr (2, [.ref (a 42), .int 0, .int 0])), ((a 42), .inl (q 4, 10, .inr (.inr (.inr (.inr (fun _ => none)))))), ((a 43), .inl (q 4, 2, .inr (.inr (.inr (.inr (fun _ => none))))))]) [0, 1, 2, 3, 4, 5, 6, 7, 8, 9, 10, 11, 12, 13, 14, 15, 16, 17, 18, 19, 20, 21, 22, 23, 24, 25, 26, 27, 28, 29, 30, 31, 32, 33, 34, 35, 36, 37, 38, 39, 40, 41, 42, 43] rfl
  have hD := hD.sub (ws' := [((a 0), .inr (5, [.ref (a 1), .ref (a 3), .ref (a 16), .ref (a 29), .ref (a 33), .ref (a 41), .ref (a 43)])), ((a 1), .inr (4, [.ref (a 2), .int 0, .int 0, .int 0, .int 0, .int 0, .int 0])), ((a 2), .inl (q 0, 400, .inl (fun _ => 0))), ((a 3), .inr (0, [.int 0, .int 0, .int 0, .int 0, .int 0, .int 0, .ref (a 4), .ref (a 5), .ref (a 6), .ref (a 7), .ref (a 8), .ref (a 9), .ref (a 10), .ref (a 11), .ref (a 12), .ref (a 13), .ref (a 14), .ref (a 15)])), ((a 4), .inl (q 0, 4, .inl (fun _ => 0))), ((a 5), .inl (q 0, 4, .inl (fun _ => 0))), ((a 6), .inl (q 0, 160, .inl (fun _ => 0))), ((a 7), .inl (q 0, 40, .inl (fun _ => 0))), ((a 8), .inl (q 0, 40, .inl (fun _ => 0))), ((a 9), .inl (q 0, 40, .inl (fun _ => 0))), ((a 10), .inl (q 0, 40, .inl (fun _ => 0))), ((a 11), .inl (q 0, 40, .inl (fun _ => 0))), ((a 12), .inl (q 0, 40, .inl (fun _ => 0))), ((a 13), .inl (q 0, 40, .inl (fun _ => 0))), ((a 14), .inl (q 1, 40, .inr (.inl (fun _ => 0)))), ((a 15), .inl (q 0, 0, .inl (fun _ => 0))), ((a 16), .inr (0, [.int 0, .int 0, .int 0, .int 0, .int 0, .int 0, .ref (a 17), .ref (a 18), .ref (a 19), .ref (a 20), .ref (a 21), .ref (a 22), .ref (a 23), .ref (a 24), .ref (a 25), .ref (a 26), .ref (a 27), .ref (a 28)])), ((a 17), .inl (q 0, 4, .inl (fun _ => 0))), ((a 18), .inl (q 0, 4, .inl (fun _ => 0))), ((a 19), .inl (q 0, 160, .inl (fun _ => 0))), ((a 20), .inl (q 0, 40, .inl (fun _ => 0))), ((a 21), .inl (q 0, 40, .inl (fun _ => 0))), ((a 22), .inl (q 0, 40, .inl (fun _ => 0))), ((a 23), .inl (q 0, 40, .inl (fun _ => 0))), ((a 24), .inl (q 0, 40, .inl (fun _ => 0))), ((a 25), .inl (q 0, 40, .inl (fun _ => 0))), ((a 26), .inl (q 0, 40, .inl (fun _ => 0))), ((a 27), .inl (q 1, 40, .inr (.inl (fun _ => 0)))), ((a 28), .inl (q 0, 0, .inl (fun _ => 0))), ((a 29), .inr (1, [.ref (a 30), .ref (a 31), .ref (a 32), .int 0, .int 0, .int 0, .int 0, .int 0, .int 0, .int 0, .int 0, .int 0])), ((a 30), .inl (q 0, 40, .inl (fun _ => 0))), ((a 31), .inl (q 0, 40, .inl (fun _ => 0))), ((a 32), .inl (q 0, 40, .inl (fun _ => 0))), ((a 33), .inr (3, [.ref (a 34), .ref (a 35), .ref (a 36), .ref (a 37), .ref (a 38), .ref (a 39), .ref (a 40), .int 0, .int 0, .int 0])), ((a 34), .inl (q 0, 80, .inl (fun _ => 0))), ((a 35), .inl (q 0, 80, .inl (fun _ => 0))), ((a 36), .inl (q 0, 80, .inl (fun _ => 0))), ((a 37), .inl (q 0, 80, .inl (fun _ => 0))), ((a 38), .inl (q 0, 80, .inl (fun _ => 0))), ((a 39), .inl (q 0, 3, .inl (fun _ => 0))), ((a 40), .inl (q 0, 3, .inl (fun _ => 0))), ((a 41), .inr (2, [.ref (a 42), .int 0, .int 0])), ((a 42), .inl (q 4, 10, .inr (.inr (.inr (.inr (fun _ => none)))))), ((a 43), .inl (q 4, 2, .inr (.inr (.inr (.inr (fun _ => none))))))]) [0, 1, 2, 3, 4, 5, 6, 7, 8, 9, 10, 11, 12, 13, 14, 15, 16, 17, 18, 19, 20, 21, 22, 23, 24, 25, 26, 27, 28, 29, 30, 31, 32, 33, 34, 35, 36, 37, 38, 39, 40, 41, 42, 43] (by decide) rfl
  refine lv_aload_n hx hb dX6_run_0 rfl (lv_at hl 0 rfl) ?_
  refine vp_callSi (rd_wV (wc := [((a 0), .inr (5, [.ref (a 1), .ref (a 3), .ref (a 16), .ref (a 29), .ref (a 33), .ref (a 41), .ref (a 43)])), ((a 1), .inr (4, [.ref (a 2), .int 0, .int 0, .int 0, .int 0, .int 0, .int 0])), ((a 2), .inl (q 0, 400, .inl (fun _ => 0))), ((a 3), .inr (0, [.int 0, .int 0, .int 0, .int 0, .int 0, .int 0, .ref (a 4), .ref (a 5), .ref (a 6), .ref (a 7), .ref (a 8), .ref (a 9), .ref (a 10), .ref (a 11), .ref (a 12), .ref (a 13), .ref (a 14), .ref (a 15)])), ((a 4), .inl (q 0, 4, .inl (fun _ => 0))), ((a 5), .inl (q 0, 4, .inl (fun _ => 0))), ((a 6), .inl (q 0, 160, .inl (fun _ => 0))), ((a 7), .inl (q 0, 40, .inl (fun _ => 0))), ((a 8), .inl (q 0, 40, .inl (fun _ => 0))), ((a 9), .inl (q 0, 40, .inl (fun _ => 0))), ((a 10), .inl (q 0, 40, .inl (fun _ => 0))), ((a 11), .inl (q 0, 40, .inl (fun _ => 0))), ((a 12), .inl (q 0, 40, .inl (fun _ => 0))), ((a 13), .inl (q 0, 40, .inl (fun _ => 0))), ((a 14), .inl (q 1, 40, .inr (.inl (fun _ => 0)))), ((a 15), .inl (q 0, 0, .inl (fun _ => 0))), ((a 16), .inr (0, [.int 0, .int 0, .int 0, .int 0, .int 0, .int 0, .ref (a 17), .ref (a 18), .ref (a 19), .ref (a 20), .ref (a 21), .ref (a 22), .ref (a 23), .ref (a 24), .ref (a 25), .ref (a 26), .ref (a 27), .ref (a 28)])), ((a 17), .inl (q 0, 4, .inl (fun _ => 0))), ((a 18), .inl (q 0, 4, .inl (fun _ => 0))), ((a 19), .inl (q 0, 160, .inl (fun _ => 0))), ((a 20), .inl (q 0, 40, .inl (fun _ => 0))), ((a 21), .inl (q 0, 40, .inl (fun _ => 0))), ((a 22), .inl (q 0, 40, .inl (fun _ => 0))), ((a 23), .inl (q 0, 40, .inl (fun _ => 0))), ((a 24), .inl (q 0, 40, .inl (fun _ => 0))), ((a 25), .inl (q 0, 40, .inl (fun _ => 0))), ((a 26), .inl (q 0, 40, .inl (fun _ => 0))), ((a 27), .inl (q 1, 40, .inr (.inl (fun _ => 0)))), ((a 28), .inl (q 0, 0, .inl (fun _ => 0))), ((a 29), .inr (1, [.ref (a 30), .ref (a 31), .ref (a 32), .int 0, .int 0, .int 0, .int 0, .int 0, .int 0, .int 0, .int 0, .int 0])), ((a 30), .inl (q 0, 40, .inl (fun _ => 0))), ((a 31), .inl (q 0, 40, .inl (fun _ => 0))), ((a 32), .inl (q 0, 40, .inl (fun _ => 0))), ((a 33), .inr (3, [.ref (a 34), .ref (a 35), .ref (a 36), .ref (a 37), .ref (a 38), .ref (a 39), .ref (a 40), .int 0, .int 0, .int 0])), ((a 34), .inl (q 0, 80, .inl (fun _ => 0))), ((a 35), .inl (q 0, 80, .inl (fun _ => 0))), ((a 36), .inl (q 0, 80, .inl (fun _ => 0))), ((a 37), .inl (q 0, 80, .inl (fun _ => 0))), ((a 38), .inl (q 0, 80, .inl (fun _ => 0))), ((a 39), .inl (q 0, 3, .inl (fun _ => 0))), ((a 40), .inl (q 0, 3, .inl (fun _ => 0))), ((a 41), .inr (2, [.ref (a 42), .int 0, .int 0])), ((a 42), .inl (q 4, 10, .inr (.inr (.inr (.inr (fun _ => none)))))), ((a 43), .inl (q 4, 2, .inr (.inr (.inr (.inr (fun _ => none))))))]) (As := []) (rest := []) hx hb hml hown ht (cf_whyNotProgram) wd_X6_whyNotProgram mw_785 hQ hV hS (hP.sub [0, 1, 2, 3, 4, 5, 6, 7, 8, 9, 10, 11, 12, 13, 14, 15, 16, 17, 18, 19, 20, 21, 22, 23, 24, 25, 26, 27, 28, 29, 30, 31, 32, 33, 34, 35, 36, 37, 38, 39, 40, 41, 42, 43] rfl) rfl rfl rfl hl.1 rfl (Nat.le_of_ble_eq_true rfl) dX6_run_1 ⟨Nat.le_of_ble_eq_true rfl, Nat.le_of_ble_eq_true rfl, rfl, rfl⟩ ⟨Nat.le_of_ble_eq_true rfl, Nat.le_of_ble_eq_true rfl⟩) (fun r_1 er_1 => ?_)
  obtain rfl : r_1 = (-1) := er_1
  refine lv_istore_n (lv' := [(1, .int (-1)), (0, .ref (a 0))]) hx hb dX6_run_4 rfl hl (by decide) rfl (fun ls hl => ?_)
  refine lv_iload_n hx hb dX6_run_5 rfl (lv_at hl 0 rfl) ?_
  refine lv_if_ne (tgt := 25) hx hb dX6_run_6 (by decide) (fun c_2 => ?_) (fun c9 => absurd c9 (by decide))
  refine lv_aload_n hx hb dX6_run_25 rfl (lv_at hl 1 rfl) ?_
  refine fl_get (C := RX6) (T := TX6) (N := 7) (ci := 5) (v := .ref (a 1)) hx hb ht in_X6 hown hK hP 0 rfl rfl 0 (by decide) mw_355 rfl dX6_run_26 ?_
  refine lv_iconst (v := 0) hx hb dX6_run_29 (by decide) ?_
  refine fl_put (C := RX5) (T := TX5) (N := 7) (ci := 4) (v := .int 0) (ws2 := [((a 0), .inr (5, [.ref (a 1), .ref (a 3), .ref (a 16), .ref (a 29), .ref (a 33), .ref (a 41), .ref (a 43)])), ((a 1), .inr (4, [.ref (a 2), .int 0, .int 0, .int 0, .int 0, .int 0, .int 0])), ((a 2), .inl (q 0, 400, .inl (fun _ => 0))), ((a 3), .inr (0, [.int 0, .int 0, .int 0, .int 0, .int 0, .int 0, .ref (a 4), .ref (a 5), .ref (a 6), .ref (a 7), .ref (a 8), .ref (a 9), .ref (a 10), .ref (a 11), .ref (a 12), .ref (a 13), .ref (a 14), .ref (a 15)])), ((a 4), .inl (q 0, 4, .inl (fun _ => 0))), ((a 5), .inl (q 0, 4, .inl (fun _ => 0))), ((a 6), .inl (q 0, 160, .inl (fun _ => 0))), ((a 7), .inl (q 0, 40, .inl (fun _ => 0))), ((a 8), .inl (q 0, 40, .inl (fun _ => 0))), ((a 9), .inl (q 0, 40, .inl (fun _ => 0))), ((a 10), .inl (q 0, 40, .inl (fun _ => 0))), ((a 11), .inl (q 0, 40, .inl (fun _ => 0))), ((a 12), .inl (q 0, 40, .inl (fun _ => 0))), ((a 13), .inl (q 0, 40, .inl (fun _ => 0))), ((a 14), .inl (q 1, 40, .inr (.inl (fun _ => 0)))), ((a 15), .inl (q 0, 0, .inl (fun _ => 0))), ((a 16), .inr (0, [.int 0, .int 0, .int 0, .int 0, .int 0, .int 0, .ref (a 17), .ref (a 18), .ref (a 19), .ref (a 20), .ref (a 21), .ref (a 22), .ref (a 23), .ref (a 24), .ref (a 25), .ref (a 26), .ref (a 27), .ref (a 28)])), ((a 17), .inl (q 0, 4, .inl (fun _ => 0))), ((a 18), .inl (q 0, 4, .inl (fun _ => 0))), ((a 19), .inl (q 0, 160, .inl (fun _ => 0))), ((a 20), .inl (q 0, 40, .inl (fun _ => 0))), ((a 21), .inl (q 0, 40, .inl (fun _ => 0))), ((a 22), .inl (q 0, 40, .inl (fun _ => 0))), ((a 23), .inl (q 0, 40, .inl (fun _ => 0))), ((a 24), .inl (q 0, 40, .inl (fun _ => 0))), ((a 25), .inl (q 0, 40, .inl (fun _ => 0))), ((a 26), .inl (q 0, 40, .inl (fun _ => 0))), ((a 27), .inl (q 1, 40, .inr (.inl (fun _ => 0)))), ((a 28), .inl (q 0, 0, .inl (fun _ => 0))), ((a 29), .inr (1, [.ref (a 30), .ref (a 31), .ref (a 32), .int 0, .int 0, .int 0, .int 0, .int 0, .int 0, .int 0, .int 0, .int 0])), ((a 30), .inl (q 0, 40, .inl (fun _ => 0))), ((a 31), .inl (q 0, 40, .inl (fun _ => 0))), ((a 32), .inl (q 0, 40, .inl (fun _ => 0))), ((a 33), .inr (3, [.ref (a 34), .ref (a 35), .ref (a 36), .ref (a 37), .ref (a 38), .ref (a 39), .ref (a 40), .int 0, .int 0, .int 0])), ((a 34), .inl (q 0, 80, .inl (fun _ => 0))), ((a 35), .inl (q 0, 80, .inl (fun _ => 0))), ((a 36), .inl (q 0, 80, .inl (fun _ => 0))), ((a 37), .inl (q 0, 80, .inl (fun _ => 0))), ((a 38), .inl (q 0, 80, .inl (fun _ => 0))), ((a 39), .inl (q 0, 3, .inl (fun _ => 0))), ((a 40), .inl (q 0, 3, .inl (fun _ => 0))), ((a 41), .inr (2, [.ref (a 42), .int 0, .int 0])), ((a 42), .inl (q 4, 10, .inr (.inr (.inr (.inr (fun _ => none)))))), ((a 43), .inl (q 4, 2, .inr (.inr (.inr (.inr (fun _ => none))))))]) hx hb ht in_X5 tyX5_ok nmX5 hown hK hP hD hS 1 rfl rfl 1 (by decide) mw_129 rfl rfl rfl (Nat.le_of_ble_eq_true rfl) dX6_run_30 rfl (fun H locs hP hD hS => ?_)
  refine lv_iload_n hx hb dX6_run_33 rfl (lv_at hl 0 rfl) ?_
  have hP := hP.sub (ws' := []) [] rfl
  have hD := hD.sub (ws' := []) [] (by decide) rfl
  exact mt_iret () hx hb hr hk (rfl) hP hD hS dX6_run_34

set_option maxHeartbeats 4000000 in
set_option maxRecDepth 100000 in
theorem cf_back {l : Launch} {D : va_G} {q : Nat → ClassId} {a : Nat → Nat} {x : Int32} : Met l yX6_back (Cond.code yX6_back cX6_back 3 (some .int) :: w_all) ({ frames := 1, cells := 0, slots := 0, locals := 20 }) (rd_P D q [.ref (a 0), .int x] (fb_w a q)) (vp_Si (fun r => (0 ≤ x ∧ x ≤ 1 → r = (-2)) ∧ (¬ (0 ≤ x ∧ x ≤ 1) → r = (-1)))) 0 0 (fun _ => False) := by
  refine rd_start (by decide) (Nat.le_of_ble_eq_true rfl) ?_
  intro p e s m below meth c ls hx hb hr hml hown ht hk hP hQ hV hl
  have hK := hQ.1
  have hown : s.vm.findClass RX6 = some m.cls := hown
  have hl : lv_has ls 3 [(0, .ref (a 0)), (1, .int x)] := hl
  have hP := hP.sub (ws' := [((a 0), .inr (5, [.ref (a 1), .ref (a 3), .ref (a 16), .ref (a 29), .ref (a 33), .ref (a 41), .ref (a 43)])), ((a 43), .inl (q 4, 2, .inr (.inr (.inr (.inr (fun _ => none))))))]) [0, 43] rfl
  refine lv_iload_n hx hb dX6_back_0 rfl (lv_at hl 1 rfl) ?_
  by_cases k_1 : 0 ≤ x ∧ x ≤ 1
  · refine vp_callSi (rd_wS (wc := []) (As := [.int x]) (rest := []) hx hb hml hown ht (ct_isShelf_T k_1) wd_X6_isShelf mw_881 hQ hV va_S.rf (hP.sub [] rfl) rfl hl.1 rfl (Nat.le_of_ble_eq_true rfl) dX6_back_1 ⟨Nat.le_of_ble_eq_true rfl, Nat.le_of_ble_eq_true rfl, rfl, rfl⟩ ⟨Nat.le_of_ble_eq_true rfl, Nat.le_of_ble_eq_true rfl⟩) (fun r_2 er_2 => ?_)
    obtain rfl : r_2 = 1 := er_2
    refine lv_if_ne (tgt := 9) hx hb dX6_back_4 (by decide) (fun c_3 => ?_) (fun c9 => absurd c9 (by decide))
    refine lv_aload_n hx hb dX6_back_9 rfl (lv_at hl 0 rfl) ?_
    refine fl_get (C := RX6) (T := TX6) (N := 7) (ci := 5) (v := .ref (a 43)) hx hb ht in_X6 hown hK hP 0 rfl rfl 6 (by decide) mw_361 rfl dX6_back_10 ?_
    refine lv_iload_n hx hb dX6_back_13 rfl (lv_at hl 1 rfl) ?_
    refine va_aldq hx hb hK hP 1 4 rfl rfl (in_r (by have g0 := k_1; have g1 := c_3; (try simp only [lg_cmp_ge, lg_cmp_le, lg_cmp_gt, lg_cmp_lt, lg_cmp_eq] at g0 g1); (try simp only [Int32.lt_iff_toInt_lt, Int32.le_iff_toInt_le, ← Int32.toInt_inj, Int32.reduceToInt, Int64.lt_iff_toInt_lt, Int64.le_iff_toInt_le, ← Int64.toInt_inj, Int64.reduceToInt, Int32.toInt_toInt64] at g0 g1 ⊢); omega) (by have g0 := k_1; have g1 := c_3; (try simp only [lg_cmp_ge, lg_cmp_le, lg_cmp_gt, lg_cmp_lt, lg_cmp_eq] at g0 g1); (try simp only [Int32.lt_iff_toInt_lt, Int32.le_iff_toInt_le, ← Int32.toInt_inj, Int32.reduceToInt, Int64.lt_iff_toInt_lt, Int64.le_iff_toInt_le, ← Int64.toInt_inj, Int64.reduceToInt, Int32.toInt_toInt64] at g0 g1 ⊢); omega)) dX6_back_14 ?_
    refine ab_null ?_
    refine lv_astore_nN (lv' := [(2, .null), (0, .ref (a 0)), (1, .int x)]) hx hb dX6_back_15 rfl hl (by decide) rfl (fun ls hl => ?_)
    refine lv_aload_nN hx hb dX6_back_16 rfl (lv_at hl 0 rfl) ?_
    refine lv_ifnonnullN hx hb dX6_back_17 ?_
    refine lv_bipush (v := (-2)) hx hb dX6_back_20 (by decide) ?_
    exact rd_iret hx hb hr hk (by refine ⟨fun h9 => ?_, fun h9 => ?_⟩ <;> first | rfl | exact h9 | (exfalso; have g0 := k_1; have g1 := c_3; have g2 := h9; (try simp only [lg_cmp_ge, lg_cmp_le, lg_cmp_gt, lg_cmp_lt, lg_cmp_eq] at g0 g1 g2); (try simp only [Int32.lt_iff_toInt_lt, Int32.le_iff_toInt_le, ← Int32.toInt_inj, Int32.reduceToInt, Int64.lt_iff_toInt_lt, Int64.le_iff_toInt_le, ← Int64.toInt_inj, Int64.reduceToInt, Int32.toInt_toInt64] at g0 g1 g2); omega)) dX6_back_22
  · refine vp_callSi (rd_wS (wc := []) (As := [.int x]) (rest := []) hx hb hml hown ht (ct_isShelf_F k_1) wd_X6_isShelf mw_881 hQ hV va_S.rf (hP.sub [] rfl) rfl hl.1 rfl (Nat.le_of_ble_eq_true rfl) dX6_back_1 ⟨Nat.le_of_ble_eq_true rfl, Nat.le_of_ble_eq_true rfl, rfl, rfl⟩ ⟨Nat.le_of_ble_eq_true rfl, Nat.le_of_ble_eq_true rfl⟩) (fun r_4 er_4 => ?_)
    obtain rfl : r_4 = 0 := er_4
    refine lv_if_ne (tgt := 9) hx hb dX6_back_4 (by decide) (fun c9 => absurd c9 (by decide)) (fun c_5 => ?_)
    refine lv_iconst (v := (-1)) hx hb dX6_back_7 (by decide) ?_
    exact rd_iret hx hb hr hk (by refine ⟨fun h9 => ?_, fun h9 => ?_⟩ <;> first | rfl | exact h9 | (exfalso; have g0 := k_1; have g1 := c_5; have g2 := h9; (try simp only [lg_cmp_ge, lg_cmp_le, lg_cmp_gt, lg_cmp_lt, lg_cmp_eq] at g0 g1 g2); (try simp only [Int32.lt_iff_toInt_lt, Int32.le_iff_toInt_le, ← Int32.toInt_inj, Int32.reduceToInt, Int64.lt_iff_toInt_lt, Int64.le_iff_toInt_le, ← Int64.toInt_inj, Int64.reduceToInt, Int32.toInt_toInt64] at g0 g1 g2); omega)) dX6_back_8

set_option maxHeartbeats 4000000 in
set_option maxRecDepth 100000 in
theorem cf_letter {l : Launch} {D : va_G} {q : Nat → ClassId} {a : Nat → Nat} {x : Int32} {y : Int32} : Met l yX6_letter (Cond.code yX6_letter cX6_letter 6 (some .int) :: w_all) ({ frames := 1, cells := 0, slots := 0, locals := 20 }) (rd_P D q [.ref (a 0), .int x, .int y] (fb_w a q)) (vp_Si (fun r => (¬ (0 ≤ x ∧ x ≤ 1) ∨ y < (-1) → r = (-1)) ∧ ((0 ≤ x ∧ x ≤ 1) ∧ y = (-1) → r = 0) ∧ ((0 ≤ x ∧ x ≤ 1) ∧ 0 ≤ y → r = (-2)))) 0 0 (fun _ => False) := by
  refine rd_start (by decide) (Nat.le_of_ble_eq_true rfl) ?_
  intro p e s m below meth c ls hx hb hr hml hown ht hk hP hQ hV hl
  have hK := hQ.1
  have hown : s.vm.findClass RX6 = some m.cls := hown
  have hl : lv_has ls 6 [(0, .ref (a 0)), (1, .int x), (2, .int y)] := hl
  have hP := hP.sub (ws' := [((a 0), .inr (5, [.ref (a 1), .ref (a 3), .ref (a 16), .ref (a 29), .ref (a 33), .ref (a 41), .ref (a 43)])), ((a 3), .inr (0, [.int 0, .int 0, .int 0, .int 0, .int 0, .int 0, .ref (a 4), .ref (a 5), .ref (a 6), .ref (a 7), .ref (a 8), .ref (a 9), .ref (a 10), .ref (a 11), .ref (a 12), .ref (a 13), .ref (a 14), .ref (a 15)]))]) [0, 3] rfl
  refine lv_iload_n hx hb dX6_letter_0 rfl (lv_at hl 1 rfl) ?_
  refine lv_if_lt (tgt := 14) hx hb dX6_letter_1 (by decide) (fun c_1 => ?_) (fun c_1 => ?_)
  · refine lv_iconst (v := (-1)) hx hb dX6_letter_14 (by decide) ?_
    exact rd_iret hx hb hr hk (by refine ⟨fun h9 => ?_, fun h9 => ?_, fun h9 => ?_⟩ <;> first | rfl | (exfalso; have g0 := c_1; have g1 := h9; (try simp only [lg_cmp_ge, lg_cmp_le, lg_cmp_gt, lg_cmp_lt, lg_cmp_eq] at g0 g1); (try simp only [Int32.lt_iff_toInt_lt, Int32.le_iff_toInt_le, ← Int32.toInt_inj, Int32.reduceToInt, Int64.lt_iff_toInt_lt, Int64.le_iff_toInt_le, ← Int64.toInt_inj, Int64.reduceToInt, Int32.toInt_toInt64] at g0 g1); omega)) dX6_letter_15
  · refine lv_iload_n hx hb dX6_letter_4 rfl (lv_at hl 1 rfl) ?_
    refine lv_iconst (v := 1) hx hb dX6_letter_5 (by decide) ?_
    refine lv_icmp_gt (tgt := 14) hx hb dX6_letter_6 (by decide) (fun c_2 => ?_) (fun c_2 => ?_)
    · refine lv_iconst (v := (-1)) hx hb dX6_letter_14 (by decide) ?_
      exact rd_iret hx hb hr hk (by refine ⟨fun h9 => ?_, fun h9 => ?_, fun h9 => ?_⟩ <;> first | rfl | (exfalso; have g0 := c_1; have g1 := c_2; have g2 := h9; (try simp only [lg_cmp_ge, lg_cmp_le, lg_cmp_gt, lg_cmp_lt, lg_cmp_eq] at g0 g1 g2); (try simp only [Int32.lt_iff_toInt_lt, Int32.le_iff_toInt_le, ← Int32.toInt_inj, Int32.reduceToInt, Int64.lt_iff_toInt_lt, Int64.le_iff_toInt_le, ← Int64.toInt_inj, Int64.reduceToInt, Int32.toInt_toInt64] at g0 g1 g2); omega)) dX6_letter_15
    · refine lv_iload_n hx hb dX6_letter_9 rfl (lv_at hl 2 rfl) ?_
      refine lv_iconst (v := (-1)) hx hb dX6_letter_10 (by decide) ?_
      refine lv_icmp_ge (tgt := 16) hx hb dX6_letter_11 (by decide) (fun c_3 => ?_) (fun c_3 => ?_)
      · refine lv_aload_n hx hb dX6_letter_16 rfl (lv_at hl 0 rfl) ?_
        refine fl_get (C := RX6) (T := TX6) (N := 7) (ci := 5) (v := .ref (a 3)) hx hb ht in_X6 hown hK hP 0 rfl rfl 1 (by decide) mw_356 rfl dX6_letter_17 ?_
        refine vp_callSi (rd_wV (wc := [((a 3), .inr (0, [.int 0, .int 0, .int 0, .int 0, .int 0, .int 0, .ref (a 4), .ref (a 5), .ref (a 6), .ref (a 7), .ref (a 8), .ref (a 9), .ref (a 10), .ref (a 11), .ref (a 12), .ref (a 13), .ref (a 14), .ref (a 15)]))]) (As := []) (rest := []) hx hb hml hown ht (ct_Board_isThere) wd_X0_isThere mw_677 hQ hV va_S.rf (hP.sub [1] rfl) rfl rfl rfl hl.1 rfl (Nat.le_of_ble_eq_true rfl) dX6_letter_20 ⟨Nat.le_of_ble_eq_true rfl, Nat.le_of_ble_eq_true rfl, rfl, rfl⟩ ⟨Nat.le_of_ble_eq_true rfl, Nat.le_of_ble_eq_true rfl⟩) (fun r_4 er_4 => ?_)
        obtain rfl : r_4 = 0 := er_4
        refine lv_if_eq (tgt := 46) hx hb dX6_letter_23 (by decide) (fun c_5 => ?_) (fun c9 => absurd (by decide) c9)
        refine lv_iconst (v := 0) hx hb dX6_letter_46 (by decide) ?_
        refine lv_istore_n (lv' := [(3, .int 0), (0, .ref (a 0)), (1, .int x), (2, .int y)]) hx hb dX6_letter_47 rfl hl (by decide) rfl (fun ls hl => ?_)
        refine lv_iload_n hx hb dX6_letter_48 rfl (lv_at hl 3 rfl) ?_
        refine lv_iconst (v := (-1)) hx hb dX6_letter_49 (by decide) ?_
        refine lv_icmp_ne (tgt := 55) hx hb dX6_letter_50 (by decide) (fun c_6 => ?_) (fun c_6 => ?_)
        · refine lv_iload_n hx hb dX6_letter_55 rfl (lv_at hl 3 rfl) ?_
          refine lv_iload_n hx hb dX6_letter_56 rfl (lv_at hl 0 rfl) ?_
          refine lv_icmp_lt (tgt := 63) hx hb dX6_letter_57 (by decide) (fun c9 => by have g0 := c_1; have g1 := c_2; have g2 := c_3; have g3 := c_5; have g4 := c_6; have g5 := c9; (try simp only [lg_cmp_ge, lg_cmp_le, lg_cmp_gt, lg_cmp_lt, lg_cmp_eq] at g0 g1 g2 g3 g4 g5); (try simp only [Int32.lt_iff_toInt_lt, Int32.le_iff_toInt_le, ← Int32.toInt_inj, Int32.reduceToInt, Int64.lt_iff_toInt_lt, Int64.le_iff_toInt_le, ← Int64.toInt_inj, Int64.reduceToInt, Int32.toInt_toInt64] at g0 g1 g2 g3 g4 g5); omega) (fun c_7 => ?_)
          refine lv_bipush (v := (-2)) hx hb dX6_letter_60 (by decide) ?_
          exact rd_iret hx hb hr hk (by refine ⟨fun h9 => ?_, fun h9 => ?_, fun h9 => ?_⟩ <;> first | rfl | (exfalso; have g0 := c_1; have g1 := c_2; have g2 := c_3; have g3 := c_5; have g4 := c_6; have g5 := c_7; have g6 := h9; (try simp only [lg_cmp_ge, lg_cmp_le, lg_cmp_gt, lg_cmp_lt, lg_cmp_eq] at g0 g1 g2 g3 g4 g5 g6); (try simp only [Int32.lt_iff_toInt_lt, Int32.le_iff_toInt_le, ← Int32.toInt_inj, Int32.reduceToInt, Int64.lt_iff_toInt_lt, Int64.le_iff_toInt_le, ← Int64.toInt_inj, Int64.reduceToInt, Int32.toInt_toInt64] at g0 g1 g2 g3 g4 g5 g6); omega)) dX6_letter_62
        · refine lv_iload_n hx hb dX6_letter_53 rfl (lv_at hl 0 rfl) ?_
          exact rd_iret hx hb hr hk (by refine ⟨fun h9 => ?_, fun h9 => ?_, fun h9 => ?_⟩ <;> first | rfl | (exfalso; have g0 := c_1; have g1 := c_2; have g2 := c_3; have g3 := c_5; have g4 := c_6; have g5 := h9; (try simp only [lg_cmp_ge, lg_cmp_le, lg_cmp_gt, lg_cmp_lt, lg_cmp_eq] at g0 g1 g2 g3 g4 g5); (try simp only [Int32.lt_iff_toInt_lt, Int32.le_iff_toInt_le, ← Int32.toInt_inj, Int32.reduceToInt, Int64.lt_iff_toInt_lt, Int64.le_iff_toInt_le, ← Int64.toInt_inj, Int64.reduceToInt, Int32.toInt_toInt64] at g0 g1 g2 g3 g4 g5); omega)) dX6_letter_54
      · refine lv_iconst (v := (-1)) hx hb dX6_letter_14 (by decide) ?_
        exact rd_iret hx hb hr hk (by refine ⟨fun h9 => ?_, fun h9 => ?_, fun h9 => ?_⟩ <;> first | rfl | (exfalso; have g0 := c_1; have g1 := c_2; have g2 := c_3; have g3 := h9; (try simp only [lg_cmp_ge, lg_cmp_le, lg_cmp_gt, lg_cmp_lt, lg_cmp_eq] at g0 g1 g2 g3); (try simp only [Int32.lt_iff_toInt_lt, Int32.le_iff_toInt_le, ← Int32.toInt_inj, Int32.reduceToInt, Int64.lt_iff_toInt_lt, Int64.le_iff_toInt_le, ← Int64.toInt_inj, Int64.reduceToInt, Int32.toInt_toInt64] at g0 g1 g2 g3); omega)) dX6_letter_15
