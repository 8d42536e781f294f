set_option maxHeartbeats 4000000 in
set_option maxRecDepth 100000 in
theorem cf_whyNotRow {l : Launch} {D : va_G} {q : Nat → ClassId} {a : Nat → Nat} {x : Int32} : Met l yX6_whyNotRow (Cond.code yX6_whyNotRow cX6_whyNotRow 2 (some .int) :: w_all) ({ frames := 1, cells := 0, slots := 0, locals := 21 }) (rd_P D q [.ref (a 0), .int x] (fb_w a q)) (vp_Si (fun r => r = (-1))) 0 0 (fun _ => False) := by
  refine rd_start (by decide) (Nat.le_of_ble_eq_true rfl) ?_
  intro p e s m below meth c ls hx hb hr hml hown ht hk hP hQ hl
  have hK := hQ.1
  have hown : s.vm.findClass RX6 = some m.cls := hown
  have hl : lv_has ls 2 [(0, .ref (a 0)), (1, .int x)] := hl
  have hP := hP.sub (ws' := [((a 0), .inr (5, [.ref (a 1), .ref (a 3), .ref (a 16), .ref (a 29), .ref (a 33), .ref (a 41), .ref (a 43)])), ((a 3), .inr (0, [.int 0, .int 0, .int 0, .int 0, .int 0, .int 0, .ref (a 4), .ref (a 5), .ref (a 6), .ref (a 7), .ref (a 8), .ref (a 9), .ref (a 10), .ref (a 11), .ref (a 12), .ref (a 13), .ref (a 14), .ref (a 15)]))]) [0, 3] rfl
  refine lv_aload_n hx hb dX6_whyNotRow_0 rfl (lv_at hl 0 rfl) ?_
  refine fl_get (C := RX6) (T := TX6) (N := 7) (ci := 5) (v := .ref (a 3)) hx hb ht in_X6 hown hK hP 0 rfl rfl 1 (by decide) mw_356 rfl dX6_whyNotRow_1 ?_
  refine lv_iload_n hx hb dX6_whyNotRow_4 rfl (lv_at hl 1 rfl) ?_
  refine vp_callSi (rd_wV (wc := [((a 3), .inr (0, [.int 0, .int 0, .int 0, .int 0, .int 0, .int 0, .ref (a 4), .ref (a 5), .ref (a 6), .ref (a 7), .ref (a 8), .ref (a 9), .ref (a 10), .ref (a 11), .ref (a 12), .ref (a 13), .ref (a 14), .ref (a 15)]))]) (As := [.int x]) (rest := []) hx hb hml hown ht (ct_Board_hasRow) wd_X0_hasRow mw_621 hQ (hP.sub [1] rfl) rfl rfl rfl hl.1 rfl (Nat.le_of_ble_eq_true rfl) dX6_whyNotRow_5 ⟨Nat.le_of_ble_eq_true rfl, Nat.le_of_ble_eq_true rfl, rfl, rfl⟩ ⟨Nat.le_of_ble_eq_true rfl, Nat.le_of_ble_eq_true rfl⟩) (fun r_1 er_1 => ?_)
  obtain rfl : r_1 = 0 := er_1
  refine lv_if_ne (tgt := 13) hx hb dX6_whyNotRow_8 (by decide) (fun c9 => absurd c9 (by decide)) (fun c_2 => ?_)
  refine lv_iconst (v := (-1)) hx hb dX6_whyNotRow_11 (by decide) ?_
  exact rd_iret hx hb hr hk (rfl) dX6_whyNotRow_12

set_option maxHeartbeats 4000000 in
set_option maxRecDepth 100000 in
theorem cf_tick {l : Launch} {D : va_G} {q : Nat → ClassId} {a : Nat → Nat} {x : Int32} : Met l yX6_tick (Cond.code yX6_tick cX6_tick 2 (some .int) :: w_all) ({ frames := 1, cells := 0, slots := 0, locals := 20 }) (rd_P D q [.ref (a 0), .int x] (fb_w a q)) (vp_Si (fun r => r = (-1))) 0 0 (fun _ => False) := by
  refine rd_start (by decide) (Nat.le_of_ble_eq_true rfl) ?_
  intro p e s m below meth c ls hx hb hr hml hown ht hk hP hQ hl
  have hK := hQ.1
  have hown : s.vm.findClass RX6 = some m.cls := hown
  have hl : lv_has ls 2 [(0, .ref (a 0)), (1, .int x)] := hl
  have hP := hP.sub (ws' := [((a 0), .inr (5, [.ref (a 1), .ref (a 3), .ref (a 16), .ref (a 29), .ref (a 33), .ref (a 41), .ref (a 43)])), ((a 3), .inr (0, [.int 0, .int 0, .int 0, .int 0, .int 0, .int 0, .ref (a 4), .ref (a 5), .ref (a 6), .ref (a 7), .ref (a 8), .ref (a 9), .ref (a 10), .ref (a 11), .ref (a 12), .ref (a 13), .ref (a 14), .ref (a 15)]))]) [0, 3] rfl
  refine lv_aload_n hx hb dX6_tick_0 rfl (lv_at hl 0 rfl) ?_
  refine fl_get (C := RX6) (T := TX6) (N := 7) (ci := 5) (v := .ref (a 3)) hx hb ht in_X6 hown hK hP 0 rfl rfl 1 (by decide) mw_356 rfl dX6_tick_1 ?_
  refine vp_callSi (rd_wV (wc := [((a 3), .inr (0, [.int 0, .int 0, .int 0, .int 0, .int 0, .int 0, .ref (a 4), .ref (a 5), .ref (a 6), .ref (a 7), .ref (a 8), .ref (a 9), .ref (a 10), .ref (a 11), .ref (a 12), .ref (a 13), .ref (a 14), .ref (a 15)]))]) (As := []) (rest := []) hx hb hml hown ht (ct_Board_isThere) wd_X0_isThere mw_677 hQ (hP.sub [1] rfl) rfl rfl rfl hl.1 rfl (Nat.le_of_ble_eq_true rfl) dX6_tick_4 ⟨Nat.le_of_ble_eq_true rfl, Nat.le_of_ble_eq_true rfl, rfl, rfl⟩ ⟨Nat.le_of_ble_eq_true rfl, Nat.le_of_ble_eq_true rfl⟩) (fun r_1 er_1 => ?_)
  obtain rfl : r_1 = 0 := er_1
  refine lv_if_eq (tgt := 21) hx hb dX6_tick_7 (by decide) (fun c_2 => ?_) (fun c9 => absurd (by decide) c9)
  refine lv_iconst (v := (-1)) hx hb dX6_tick_21 (by decide) ?_
  exact rd_iret hx hb hr hk (rfl) dX6_tick_22

set_option maxHeartbeats 4000000 in
set_option maxRecDepth 100000 in
theorem cf_settle {l : Launch} {D : va_G} {q : Nat → ClassId} {a : Nat → Nat} : Met l yX6_settle (Cond.code yX6_settle cX6_settle 1 (some .int) :: w_all) ({ frames := 1, cells := 0, slots := 0, locals := 20 }) (rd_P D q [.ref (a 0)] (fb_w a q)) (vp_Si (fun r => r = (-1))) 0 0 (fun _ => False) := by
  refine rd_start (by decide) (Nat.le_of_ble_eq_true rfl) ?_
  intro p e s m below meth c ls hx hb hr hml hown ht hk hP hQ hl
  have hK := hQ.1
  have hown : s.vm.findClass RX6 = some m.cls := hown
  have hl : lv_has ls 1 [(0, .ref (a 0))] := hl
  have hP := hP.sub (ws' := [((a 0), .inr (5, [.ref (a 1), .ref (a 3), .ref (a 16), .ref (a 29), .ref (a 33), .ref (a 41), .ref (a 43)])), ((a 3), .inr (0, [.int 0, .int 0, .int 0, .int 0, .int 0, .int 0, .ref (a 4), .ref (a 5), .ref (a 6), .ref (a 7), .ref (a 8), .ref (a 9), .ref (a 10), .ref (a 11), .ref (a 12), .ref (a 13), .ref (a 14), .ref (a 15)]))]) [0, 3] rfl
  refine lv_aload_n hx hb dX6_settle_0 rfl (lv_at hl 0 rfl) ?_
  refine fl_get (C := RX6) (T := TX6) (N := 7) (ci := 5) (v := .ref (a 3)) hx hb ht in_X6 hown hK hP 0 rfl rfl 1 (by decide) mw_356 rfl dX6_settle_1 ?_
  refine vp_callSi (rd_wV (wc := [((a 3), .inr (0, [.int 0, .int 0, .int 0, .int 0, .int 0, .int 0, .ref (a 4), .ref (a 5), .ref (a 6), .ref (a 7), .ref (a 8), .ref (a 9), .ref (a 10), .ref (a 11), .ref (a 12), .ref (a 13), .ref (a 14), .ref (a 15)]))]) (As := []) (rest := []) hx hb hml hown ht (ct_Board_isThere) wd_X0_isThere mw_677 hQ (hP.sub [1] rfl) rfl rfl rfl hl.1 rfl (Nat.le_of_ble_eq_true rfl) dX6_settle_4 ⟨Nat.le_of_ble_eq_true rfl, Nat.le_of_ble_eq_true rfl, rfl, rfl⟩ ⟨Nat.le_of_ble_eq_true rfl, Nat.le_of_ble_eq_true rfl⟩) (fun r_1 er_1 => ?_)
  obtain rfl : r_1 = 0 := er_1
  refine lv_if_ne (tgt := 12) hx hb dX6_settle_7 (by decide) (fun c9 => absurd c9 (by decide)) (fun c_2 => ?_)
  refine lv_iconst (v := (-1)) hx hb dX6_settle_10 (by decide) ?_
  exact rd_iret hx hb hr hk (rfl) dX6_settle_11

set_option maxHeartbeats 4000000 in
set_option maxRecDepth 100000 in
theorem cf_lose {l : Launch} {D : va_G} {q : Nat → ClassId} {a : Nat → Nat} {x : Int32} {y : Int32} : Met l yX6_lose (Cond.code yX6_lose cX6_lose 4 (some .int) :: w_all) ({ frames := 2, cells := 0, slots := 0, locals := 41 }) (rd_P D q [.ref (a 0), .int x, .int y] (fb_w a q)) (vp_Si (fun r => r = (-1))) 0 0 (fun _ => False) := by
  refine rd_start (by decide) (Nat.le_of_ble_eq_true rfl) ?_
  intro p e s m below meth c ls hx hb hr hml hown ht hk hP hQ hl
  have hK := hQ.1
  have hown : s.vm.findClass RX6 = some m.cls := hown
  have hl : lv_has ls 4 [(0, .ref (a 0)), (1, .int x), (2, .int y)] := hl
  have hP := hP.sub (ws' := [((a 0), .inr (5, [.ref (a 1), .ref (a 3), .ref (a 16), .ref (a 29), .ref (a 33), .ref (a 41), .ref (a 43)])), ((a 3), .inr (0, [.int 0, .int 0, .int 0, .int 0, .int 0, .int 0, .ref (a 4), .ref (a 5), .ref (a 6), .ref (a 7), .ref (a 8), .ref (a 9), .ref (a 10), .ref (a 11), .ref (a 12), .ref (a 13), .ref (a 14), .ref (a 15)]))]) [0, 3] rfl
  refine lv_aload_n hx hb dX6_lose_0 rfl (lv_at hl 0 rfl) ?_
  refine fl_get (C := RX6) (T := TX6) (N := 7) (ci := 5) (v := .ref (a 3)) hx hb ht in_X6 hown hK hP 0 rfl rfl 1 (by decide) mw_356 rfl dX6_lose_1 ?_
  refine lv_iload_n hx hb dX6_lose_4 rfl (lv_at hl 1 rfl) ?_
  refine vp_callSi (rd_wV (wc := [((a 3), .inr (0, [.int 0, .int 0, .int 0, .int 0, .int 0, .int 0, .ref (a 4), .ref (a 5), .ref (a 6), .ref (a 7), .ref (a 8), .ref (a 9), .ref (a 10), .ref (a 11), .ref (a 12), .ref (a 13), .ref (a 14), .ref (a 15)]))]) (As := [.int x]) (rest := []) hx hb hml hown ht (ct_Board_hasCell) wd_X0_hasCell mw_730 hQ (hP.sub [1] rfl) rfl rfl rfl hl.1 rfl (Nat.le_of_ble_eq_true rfl) dX6_lose_5 ⟨Nat.le_of_ble_eq_true rfl, Nat.le_of_ble_eq_true rfl, rfl, rfl⟩ ⟨Nat.le_of_ble_eq_true rfl, Nat.le_of_ble_eq_true rfl⟩) (fun r_1 er_1 => ?_)
  obtain rfl : r_1 = 0 := er_1
  refine lv_if_eq (tgt := 21) hx hb dX6_lose_8 (by decide) (fun c_2 => ?_) (fun c9 => absurd (by decide) c9)
  refine lv_iconst (v := (-1)) hx hb dX6_lose_21 (by decide) ?_
  exact rd_iret hx hb hr hk (rfl) dX6_lose_22

set_option maxHeartbeats 4000000 in
set_option maxRecDepth 100000 in
theorem cf_wear {l : Launch} {D : va_G} {q : Nat → ClassId} {a : Nat → Nat} {x : Int32} {y : Int32} : Met l yX6_wear (Cond.code yX6_wear cX6_wear 3 (some .int) :: w_all) ({ frames := 3, cells := 0, slots := 0, locals := 63 }) (rd_P D q [.ref (a 0), .int x, .int y] (fb_w a q)) (vp_Si (fun r => r = (-1))) 0 0 (fun _ => False) := by
  refine rd_start (by decide) (Nat.le_of_ble_eq_true rfl) ?_
  intro p e s m below meth c ls hx hb hr hml hown ht hk hP hQ hl
  have hK := hQ.1
  have hown : s.vm.findClass RX6 = some m.cls := hown
  have hl : lv_has ls 3 [(0, .ref (a 0)), (1, .int x), (2, .int y)] := hl
  have hP := hP.sub (ws' := [((a 0), .inr (5, [.ref (a 1), .ref (a 3), .ref (a 16), .ref (a 29), .ref (a 33), .ref (a 41), .ref (a 43)])), ((a 3), .inr (0, [.int 0, .int 0, .int 0, .int 0, .int 0, .int 0, .ref (a 4), .ref (a 5), .ref (a 6), .ref (a 7), .ref (a 8), .ref (a 9), .ref (a 10), .ref (a 11), .ref (a 12), .ref (a 13), .ref (a 14), .ref (a 15)]))]) [0, 3] rfl
  refine lv_aload_n hx hb dX6_wear_0 rfl (lv_at hl 0 rfl) ?_
  refine fl_get (C := RX6) (T := TX6) (N := 7) (ci := 5) (v := .ref (a 3)) hx hb ht in_X6 hown hK hP 0 rfl rfl 1 (by decide) mw_356 rfl dX6_wear_1 ?_
  refine lv_iload_n hx hb dX6_wear_4 rfl (lv_at hl 1 rfl) ?_
  refine lv_iload_n hx hb dX6_wear_5 rfl (lv_at hl 2 rfl) ?_
  refine vp_callSi (rd_wV (wc := [((a 3), .inr (0, [.int 0, .int 0, .int 0, .int 0, .int 0, .int 0, .ref (a 4), .ref (a 5), .ref (a 6), .ref (a 7), .ref (a 8), .ref (a 9), .ref (a 10), .ref (a 11), .ref (a 12), .ref (a 13), .ref (a 14), .ref (a 15)]))]) (As := [.int x, .int y]) (rest := []) hx hb hml hown ht (ct_Board_hasFlap) wd_X0_hasFlap mw_736 hQ (hP.sub [1] rfl) rfl rfl rfl hl.1 rfl (Nat.le_of_ble_eq_true rfl) dX6_wear_6 ⟨Nat.le_of_ble_eq_true rfl, Nat.le_of_ble_eq_true rfl, rfl, rfl⟩ ⟨Nat.le_of_ble_eq_true rfl, Nat.le_of_ble_eq_true rfl⟩) (fun r_1 er_1 => ?_)
  obtain rfl : r_1 = 0 := er_1
  refine lv_if_eq (tgt := 16) hx hb dX6_wear_9 (by decide) (fun c_2 => ?_) (fun c9 => absurd (by decide) c9)
  refine lv_iconst (v := (-1)) hx hb dX6_wear_16 (by decide) ?_
  exact rd_iret hx hb hr hk (rfl) dX6_wear_17

set_option maxHeartbeats 4000000 in
set_option maxRecDepth 100000 in
theorem cf_mend {l : Launch} {D : va_G} {q : Nat → ClassId} {a : Nat → Nat} {x : Int32} {y : Int32} : Met l yX6_mend (Cond.code yX6_mend cX6_mend 3 (some .int) :: w_all) ({ frames := 3, cells := 0, slots := 0, locals := 63 }) (rd_P D q [.ref (a 0), .int x, .int y] (fb_w a q)) (vp_Si (fun r => r = (-1))) 0 0 (fun _ => False) := by
  refine rd_start (by decide) (Nat.le_of_ble_eq_true rfl) ?_
  intro p e s m below meth c ls hx hb hr hml hown ht hk hP hQ hl
  have hK := hQ.1
  have hown : s.vm.findClass RX6 = some m.cls := hown
  have hl : lv_has ls 3 [(0, .ref (a 0)), (1, .int x), (2, .int y)] := hl
  have hP := hP.sub (ws' := [((a 0), .inr (5, [.ref (a 1), .ref (a 3), .ref (a 16), .ref (a 29), .ref (a 33), .ref (a 41), .ref (a 43)])), ((a 3), .inr (0, [.int 0, .int 0, .int 0, .int 0, .int 0, .int 0, .ref (a 4), .ref (a 5), .ref (a 6), .ref (a 7), .ref (a 8), .ref (a 9), .ref (a 10), .ref (a 11), .ref (a 12), .ref (a 13), .ref (a 14), .ref (a 15)]))]) [0, 3] rfl
  refine lv_aload_n hx hb dX6_mend_0 rfl (lv_at hl 0 rfl) ?_
  refine fl_get (C := RX6) (T := TX6) (N := 7) (ci := 5) (v := .ref (a 3)) hx hb ht in_X6 hown hK hP 0 rfl rfl 1 (by decide) mw_356 rfl dX6_mend_1 ?_
  refine lv_iload_n hx hb dX6_mend_4 rfl (lv_at hl 1 rfl) ?_
  refine lv_iload_n hx hb dX6_mend_5 rfl (lv_at hl 2 rfl) ?_
  refine vp_callSi (rd_wV (wc := [((a 3), .inr (0, [.int 0, .int 0, .int 0, .int 0, .int 0, .int 0, .ref (a 4), .ref (a 5), .ref (a 6), .ref (a 7), .ref (a 8), .ref (a 9), .ref (a 10), .ref (a 11), .ref (a 12), .ref (a 13), .ref (a 14), .ref (a 15)]))]) (As := [.int x, .int y]) (rest := []) hx hb hml hown ht (ct_Board_hasFlap) wd_X0_hasFlap mw_736 hQ (hP.sub [1] rfl) rfl rfl rfl hl.1 rfl (Nat.le_of_ble_eq_true rfl) dX6_mend_6 ⟨Nat.le_of_ble_eq_true rfl, Nat.le_of_ble_eq_true rfl, rfl, rfl⟩ ⟨Nat.le_of_ble_eq_true rfl, Nat.le_of_ble_eq_true rfl⟩) (fun r_1 er_1 => ?_)
  obtain rfl : r_1 = 0 := er_1
  refine lv_if_ne (tgt := 14) hx hb dX6_mend_9 (by decide) (fun c9 => absurd c9 (by decide)) (fun c_2 => ?_)
  refine lv_iconst (v := (-1)) hx hb dX6_mend_12 (by decide) ?_
  exact rd_iret hx hb hr hk (rfl) dX6_mend_13

set_option maxHeartbeats 4000000 in
set_option maxRecDepth 100000 in
theorem cf_limit {l : Launch} {D : va_G} {q : Nat → ClassId} {a : Nat → Nat} {x : Int32} : Met l yX6_limit (Cond.code yX6_limit cX6_limit 3 (some .int) :: w_all) ({ frames := 1, cells := 0, slots := 0, locals := 20 }) (rd_P D q [.ref (a 0), .int x] (fb_w a q)) (vp_Si (fun r => r = (-1))) 0 0 (fun _ => False) := by
  refine rd_start (by decide) (Nat.le_of_ble_eq_true rfl) ?_
  intro p e s m below meth c ls hx hb hr hml hown ht hk hP hQ hl
  have hK := hQ.1
  have hown : s.vm.findClass RX6 = some m.cls := hown
  have hl : lv_has ls 3 [(0, .ref (a 0)), (1, .int x)] := hl
  have hP := hP.sub (ws' := [((a 0), .inr (5, [.ref (a 1), .ref (a 3), .ref (a 16), .ref (a 29), .ref (a 33), .ref (a 41), .ref (a 43)])), ((a 3), .inr (0, [.int 0, .int 0, .int 0, .int 0, .int 0, .int 0, .ref (a 4), .ref (a 5), .ref (a 6), .ref (a 7), .ref (a 8), .ref (a 9), .ref (a 10), .ref (a 11), .ref (a 12), .ref (a 13), .ref (a 14), .ref (a 15)]))]) [0, 3] rfl
  refine lv_aload_n hx hb dX6_limit_0 rfl (lv_at hl 0 rfl) ?_
  refine fl_get (C := RX6) (T := TX6) (N := 7) (ci := 5) (v := .ref (a 3)) hx hb ht in_X6 hown hK hP 0 rfl rfl 1 (by decide) mw_356 rfl dX6_limit_1 ?_
  refine vp_callSi (rd_wV (wc := [((a 3), .inr (0, [.int 0, .int 0, .int 0, .int 0, .int 0, .int 0, .ref (a 4), .ref (a 5), .ref (a 6), .ref (a 7), .ref (a 8), .ref (a 9), .ref (a 10), .ref (a 11), .ref (a 12), .ref (a 13), .ref (a 14), .ref (a 15)]))]) (As := []) (rest := []) hx hb hml hown ht (ct_Board_isThere) wd_X0_isThere mw_677 hQ (hP.sub [1] rfl) rfl rfl rfl hl.1 rfl (Nat.le_of_ble_eq_true rfl) dX6_limit_4 ⟨Nat.le_of_ble_eq_true rfl, Nat.le_of_ble_eq_true rfl, rfl, rfl⟩ ⟨Nat.le_of_ble_eq_true rfl, Nat.le_of_ble_eq_true rfl⟩) (fun r_1 er_1 => ?_)
  obtain rfl : r_1 = 0 := er_1
  refine lv_if_eq (tgt := 21) hx hb dX6_limit_7 (by decide) (fun c_2 => ?_) (fun c9 => absurd (by decide) c9)
  refine lv_iconst (v := (-1)) hx hb dX6_limit_21 (by decide) ?_
  exact rd_iret hx hb hr hk (rfl) dX6_limit_22

set_option maxHeartbeats 4000000 in
set_option maxRecDepth 100000 in
theorem cf_exchange {l : Launch} {D : va_G} {q : Nat → ClassId} {a : Nat → Nat} {x : Int32} {y : Int32} {z : Int32} : Met l yX6_exchange (Cond.code yX6_exchange cX6_exchange 4 (some .int) :: w_all) ({ frames := 2, cells := 0, slots := 0, locals := 43 }) (rd_P D q [.ref (a 0), .int x, .int y, .int z] (fb_w a q)) (vp_Si (fun r => r = (-1))) 0 0 (fun _ => False) := by
  refine rd_start (by decide) (Nat.le_of_ble_eq_true rfl) ?_
  intro p e s m below meth c ls hx hb hr hml hown ht hk hP hQ hl
  have hK := hQ.1
  have hown : s.vm.findClass RX6 = some m.cls := hown
  have hl : lv_has ls 4 [(0, .ref (a 0)), (1, .int x), (2, .int y), (3, .int z)] := hl
  have hP := hP.sub (ws' := [((a 0), .inr (5, [.ref (a 1), .ref (a 3), .ref (a 16), .ref (a 29), .ref (a 33), .ref (a 41), .ref (a 43)])), ((a 3), .inr (0, [.int 0, .int 0, .int 0, .int 0, .int 0, .int 0, .ref (a 4), .ref (a 5), .ref (a 6), .ref (a 7), .ref (a 8), .ref (a 9), .ref (a 10), .ref (a 11), .ref (a 12), .ref (a 13), .ref (a 14), .ref (a 15)]))]) [0, 3] rfl
  refine lv_aload_n hx hb dX6_exchange_0 rfl (lv_at hl 0 rfl) ?_
  refine fl_get (C := RX6) (T := TX6) (N := 7) (ci := 5) (v := .ref (a 3)) hx hb ht in_X6 hown hK hP 0 rfl rfl 1 (by decide) mw_356 rfl dX6_exchange_1 ?_
  refine lv_iload_n hx hb dX6_exchange_4 rfl (lv_at hl 1 rfl) ?_
  refine lv_iload_n hx hb dX6_exchange_5 rfl (lv_at hl 2 rfl) ?_
  refine vp_callSi (rd_wV (wc := [((a 3), .inr (0, [.int 0, .int 0, .int 0, .int 0, .int 0, .int 0, .ref (a 4), .ref (a 5), .ref (a 6), .ref (a 7), .ref (a 8), .ref (a 9), .ref (a 10), .ref (a 11), .ref (a 12), .ref (a 13), .ref (a 14), .ref (a 15)]))]) (As := [.int x, .int y]) (rest := []) hx hb hml hown ht (ct_Board_isMovable) wd_X0_isMovable mw_768 hQ (hP.sub [1] rfl) rfl rfl rfl hl.1 rfl (Nat.le_of_ble_eq_true rfl) dX6_exchange_6 ⟨Nat.le_of_ble_eq_true rfl, Nat.le_of_ble_eq_true rfl, rfl, rfl⟩ ⟨Nat.le_of_ble_eq_true rfl, Nat.le_of_ble_eq_true rfl⟩) (fun r_1 er_1 => ?_)
  obtain rfl : r_1 = 0 := er_1
  refine lv_if_eq (tgt := 29) hx hb dX6_exchange_9 (by decide) (fun c_2 => ?_) (fun c9 => absurd (by decide) c9)
  refine lv_iconst (v := (-1)) hx hb dX6_exchange_29 (by decide) ?_
  exact rd_iret hx hb hr hk (rfl) dX6_exchange_30

set_option maxHeartbeats 4000000 in
set_option maxRecDepth 100000 in
theorem cf_cell {l : Launch} {D : va_G} {q : Nat → ClassId} {a : Nat → Nat} {x : Int32} {y : Int32} : Met l yX6_cell (Cond.code yX6_cell cX6_cell 3 (some .int) :: w_all) ({ frames := 2, cells := 0, slots := 0, locals := 41 }) (rd_P D q [.ref (a 0), .int x, .int y] (fb_w a q)) (vp_Si (fun r => r = (-1))) 0 0 (fun _ => False) := by
  refine rd_start (by decide) (Nat.le_of_ble_eq_true rfl) ?_
  intro p e s m below meth c ls hx hb hr hml hown ht hk hP hQ hl
  have hK := hQ.1
  have hown : s.vm.findClass RX6 = some m.cls := hown
  have hl : lv_has ls 3 [(0, .ref (a 0)), (1, .int x), (2, .int y)] := hl
  have hP := hP.sub (ws' := [((a 0), .inr (5, [.ref (a 1), .ref (a 3), .ref (a 16), .ref (a 29), .ref (a 33), .ref (a 41), .ref (a 43)])), ((a 3), .inr (0, [.int 0, .int 0, .int 0, .int 0, .int 0, .int 0, .ref (a 4), .ref (a 5), .ref (a 6), .ref (a 7), .ref (a 8), .ref (a 9), .ref (a 10), .ref (a 11), .ref (a 12), .ref (a 13), .ref (a 14), .ref (a 15)]))]) [0, 3] rfl
  refine lv_aload_n hx hb dX6_cell_0 rfl (lv_at hl 0 rfl) ?_
  refine fl_get (C := RX6) (T := TX6) (N := 7) (ci := 5) (v := .ref (a 3)) hx hb ht in_X6 hown hK hP 0 rfl rfl 1 (by decide) mw_356 rfl dX6_cell_1 ?_
  refine lv_iload_n hx hb dX6_cell_4 rfl (lv_at hl 1 rfl) ?_
  refine vp_callSi (rd_wV (wc := [((a 3), .inr (0, [.int 0, .int 0, .int 0, .int 0, .int 0, .int 0, .ref (a 4), .ref (a 5), .ref (a 6), .ref (a 7), .ref (a 8), .ref (a 9), .ref (a 10), .ref (a 11), .ref (a 12), .ref (a 13), .ref (a 14), .ref (a 15)]))]) (As := [.int x]) (rest := []) hx hb hml hown ht (ct_Board_hasCell) wd_X0_hasCell mw_730 hQ (hP.sub [1] rfl) rfl rfl rfl hl.1 rfl (Nat.le_of_ble_eq_true rfl) dX6_cell_5 ⟨Nat.le_of_ble_eq_true rfl, Nat.le_of_ble_eq_true rfl, rfl, rfl⟩ ⟨Nat.le_of_ble_eq_true rfl, Nat.le_of_ble_eq_true rfl⟩) (fun r_1 er_1 => ?_)
  obtain rfl : r_1 = 0 := er_1
  refine lv_if_ne (tgt := 13) hx hb dX6_cell_8 (by decide) (fun c9 => absurd c9 (by decide)) (fun c_2 => ?_)
  refine lv_iconst (v := (-1)) hx hb dX6_cell_11 (by decide) ?_
  exact rd_iret hx hb hr hk (rfl) dX6_cell_12

set_option maxHeartbeats 4000000 in
set_option maxRecDepth 100000 in
theorem cf_drum {l : Launch} {D : va_G} {q : Nat → ClassId} {a : Nat → Nat} {x : Int32} {y : Int32} : Met l yX6_drum (Cond.code yX6_drum cX6_drum 3 (some .int) :: w_all) ({ frames := 1, cells := 0, slots := 0, locals := 21 }) (rd_P D q [.ref (a 0), .int x, .int y] (fb_w a q)) (vp_Si (fun r => r = (-1))) 0 0 (fun _ => False) := by
  refine rd_start (by decide) (Nat.le_of_ble_eq_true rfl) ?_
  intro p e s m below meth c ls hx hb hr hml hown ht hk hP hQ hl
  have hK := hQ.1
  have hown : s.vm.findClass RX6 = some m.cls := hown
  have hl : lv_has ls 3 [(0, .ref (a 0)), (1, .int x), (2, .int y)] := hl
  have hP := hP.sub (ws' := [((a 0), .inr (5, [.ref (a 1), .ref (a 3), .ref (a 16), .ref (a 29), .ref (a 33), .ref (a 41), .ref (a 43)])), ((a 3), .inr (0, [.int 0, .int 0, .int 0, .int 0, .int 0, .int 0, .ref (a 4), .ref (a 5), .ref (a 6), .ref (a 7), .ref (a 8), .ref (a 9), .ref (a 10), .ref (a 11), .ref (a 12), .ref (a 13), .ref (a 14), .ref (a 15)]))]) [0, 3] rfl
  refine lv_aload_n hx hb dX6_drum_0 rfl (lv_at hl 0 rfl) ?_
  refine fl_get (C := RX6) (T := TX6) (N := 7) (ci := 5) (v := .ref (a 3)) hx hb ht in_X6 hown hK hP 0 rfl rfl 1 (by decide) mw_356 rfl dX6_drum_1 ?_
  refine lv_iload_n hx hb dX6_drum_4 rfl (lv_at hl 1 rfl) ?_
  refine vp_callSi (rd_wV (wc := [((a 3), .inr (0, [.int 0, .int 0, .int 0, .int 0, .int 0, .int 0, .ref (a 4), .ref (a 5), .ref (a 6), .ref (a 7), .ref (a 8), .ref (a 9), .ref (a 10), .ref (a 11), .ref (a 12), .ref (a 13), .ref (a 14), .ref (a 15)]))]) (As := [.int x]) (rest := []) hx hb hml hown ht (ct_Board_hasDrum) wd_X0_hasDrum mw_904 hQ (hP.sub [1] rfl) rfl rfl rfl hl.1 rfl (Nat.le_of_ble_eq_true rfl) dX6_drum_5 ⟨Nat.le_of_ble_eq_true rfl, Nat.le_of_ble_eq_true rfl, rfl, rfl⟩ ⟨Nat.le_of_ble_eq_true rfl, Nat.le_of_ble_eq_true rfl⟩) (fun r_1 er_1 => ?_)
  obtain rfl : r_1 = 0 := er_1
  refine lv_if_ne (tgt := 13) hx hb dX6_drum_8 (by decide) (fun c9 => absurd c9 (by decide)) (fun c_2 => ?_)
  refine lv_iconst (v := (-1)) hx hb dX6_drum_11 (by decide) ?_
  exact rd_iret hx hb hr hk (rfl) dX6_drum_12

set_option maxHeartbeats 4000000 in
set_option maxRecDepth 100000 in
theorem cf_sign {l : Launch} {D : va_G} {q : Nat → ClassId} {a : Nat → Nat} {x : Int32} {y : Int32} : Met l yX6_sign (Cond.code yX6_sign cX6_sign 3 (some .int) :: w_all) ({ frames := 1, cells := 0, slots := 0, locals := 22 }) (rd_P D q [.ref (a 0), .int x, .int y] (fb_w a q)) (vp_Si (fun r => r = (-1))) 0 0 (fun _ => False) := by
  refine rd_start (by decide) (Nat.le_of_ble_eq_true rfl) ?_
  intro p e s m below meth c ls hx hb hr hml hown ht hk hP hQ hl
  have hK := hQ.1
  have hown : s.vm.findClass RX6 = some m.cls := hown
  have hl : lv_has ls 3 [(0, .ref (a 0)), (1, .int x), (2, .int y)] := hl
  have hP := hP.sub (ws' := [((a 0), .inr (5, [.ref (a 1), .ref (a 3), .ref (a 16), .ref (a 29), .ref (a 33), .ref (a 41), .ref (a 43)])), ((a 3), .inr (0, [.int 0, .int 0, .int 0, .int 0, .int 0, .int 0, .ref (a 4), .ref (a 5), .ref (a 6), .ref (a 7), .ref (a 8), .ref (a 9), .ref (a 10), .ref (a 11), .ref (a 12), .ref (a 13), .ref (a 14), .ref (a 15)]))]) [0, 3] rfl
  refine lv_aload_n hx hb dX6_sign_0 rfl (lv_at hl 0 rfl) ?_
  refine fl_get (C := RX6) (T := TX6) (N := 7) (ci := 5) (v := .ref (a 3)) hx hb ht in_X6 hown hK hP 0 rfl rfl 1 (by decide) mw_356 rfl dX6_sign_1 ?_
  refine lv_iload_n hx hb dX6_sign_4 rfl (lv_at hl 1 rfl) ?_
  refine lv_iload_n hx hb dX6_sign_5 rfl (lv_at hl 2 rfl) ?_
  refine vp_callSi (rd_wV (wc := [((a 3), .inr (0, [.int 0, .int 0, .int 0, .int 0, .int 0, .int 0, .ref (a 4), .ref (a 5), .ref (a 6), .ref (a 7), .ref (a 8), .ref (a 9), .ref (a 10), .ref (a 11), .ref (a 12), .ref (a 13), .ref (a 14), .ref (a 15)]))]) (As := [.int x, .int y]) (rest := []) hx hb hml hown ht (ct_Board_signOf) wd_X0_signOf mw_934 hQ (hP.sub [1] rfl) rfl rfl rfl hl.1 rfl (Nat.le_of_ble_eq_true rfl) dX6_sign_6 ⟨Nat.le_of_ble_eq_true rfl, Nat.le_of_ble_eq_true rfl, rfl, rfl⟩ ⟨Nat.le_of_ble_eq_true rfl, Nat.le_of_ble_eq_true rfl⟩) (fun r_1 er_1 => ?_)
  obtain rfl : r_1 = (-1) := er_1
  exact rd_iret hx hb hr hk (rfl) dX6_sign_9

set_option maxHeartbeats 4000000 in
set_option maxRecDepth 100000 in
theorem cf_at {l : Launch} {D : va_G} {q : Nat → ClassId} {a : Nat → Nat} {x : Int32} {y : Int32} {z : Int32} : Met l yX6_at (Cond.code yX6_at cX6_at 5 (some .int) :: w_all) ({ frames := 1, cells := 0, slots := 0, locals := 21 }) (rd_P D q [.ref (a 0), .int x, .int y, .int z] (fb_w a q)) (vp_Si (fun r => r = (-1))) 0 0 (fun _ => False) := by
  refine rd_start (by decide) (Nat.le_of_ble_eq_true rfl) ?_
  intro p e s m below meth c ls hx hb hr hml hown ht hk hP hQ hl
  have hK := hQ.1
  have hown : s.vm.findClass RX6 = some m.cls := hown
  have hl : lv_has ls 5 [(0, .ref (a 0)), (1, .int x), (2, .int y), (3, .int z)] := hl
  have hP := hP.sub (ws' := [((a 0), .inr (5, [.ref (a 1), .ref (a 3), .ref (a 16), .ref (a 29), .ref (a 33), .ref (a 41), .ref (a 43)])), ((a 3), .inr (0, [.int 0, .int 0, .int 0, .int 0, .int 0, .int 0, .ref (a 4), .ref (a 5), .ref (a 6), .ref (a 7), .ref (a 8), .ref (a 9), .ref (a 10), .ref (a 11), .ref (a 12), .ref (a 13), .ref (a 14), .ref (a 15)]))]) [0, 3] rfl
  refine lv_aload_n hx hb dX6_at_0 rfl (lv_at hl 0 rfl) ?_
  refine fl_get (C := RX6) (T := TX6) (N := 7) (ci := 5) (v := .ref (a 3)) hx hb ht in_X6 hown hK hP 0 rfl rfl 1 (by decide) mw_356 rfl dX6_at_1 ?_
  refine lv_iload_n hx hb dX6_at_4 rfl (lv_at hl 1 rfl) ?_
  refine vp_callSi (rd_wV (wc := [((a 3), .inr (0, [.int 0, .int 0, .int 0, .int 0, .int 0, .int 0, .ref (a 4), .ref (a 5), .ref (a 6), .ref (a 7), .ref (a 8), .ref (a 9), .ref (a 10), .ref (a 11), .ref (a 12), .ref (a 13), .ref (a 14), .ref (a 15)]))]) (As := [.int x]) (rest := []) hx hb hml hown ht (ct_Board_hasRow) wd_X0_hasRow mw_621 hQ (hP.sub [1] rfl) rfl rfl rfl hl.1 rfl (Nat.le_of_ble_eq_true rfl) dX6_at_5 ⟨Nat.le_of_ble_eq_true rfl, Nat.le_of_ble_eq_true rfl, rfl, rfl⟩ ⟨Nat.le_of_ble_eq_true rfl, Nat.le_of_ble_eq_true rfl⟩) (fun r_1 er_1 => ?_)
  obtain rfl : r_1 = 0 := er_1
  refine lv_if_eq (tgt := 26) hx hb dX6_at_8 (by decide) (fun c_2 => ?_) (fun c9 => absurd (by decide) c9)
  refine lv_iconst (v := (-1)) hx hb dX6_at_26 (by decide) ?_
  exact rd_iret hx hb hr hk (rfl) dX6_at_27

set_option maxHeartbeats 4000000 in
set_option maxRecDepth 100000 in
theorem cf_left {l : Launch} {D : va_G} {q : Nat → ClassId} {a : Nat → Nat} {x : Int32} : Met l yX6_left (Cond.code yX6_left cX6_left 2 (some .int) :: w_all) ({ frames := 1, cells := 0, slots := 0, locals := 20 }) (rd_P D q [.ref (a 0), .int x] (fb_w a q)) (vp_Si (fun r => r = (-1))) 0 0 (fun _ => False) := by
  refine rd_start (by decide) (Nat.le_of_ble_eq_true rfl) ?_
  intro p e s m below meth c ls hx hb hr hml hown ht hk hP hQ hl
  have hK := hQ.1
  have hown : s.vm.findClass RX6 = some m.cls := hown
  have hl : lv_has ls 2 [(0, .ref (a 0)), (1, .int x)] := hl
  have hP := hP.sub (ws' := [((a 0), .inr (5, [.ref (a 1), .ref (a 3), .ref (a 16), .ref (a 29), .ref (a 33), .ref (a 41), .ref (a 43)])), ((a 3), .inr (0, [.int 0, .int 0, .int 0, .int 0, .int 0, .int 0, .ref (a 4), .ref (a 5), .ref (a 6), .ref (a 7), .ref (a 8), .ref (a 9), .ref (a 10), .ref (a 11), .ref (a 12), .ref (a 13), .ref (a 14), .ref (a 15)]))]) [0, 3] rfl
  refine lv_aload_n hx hb dX6_left_0 rfl (lv_at hl 0 rfl) ?_
  refine fl_get (C := RX6) (T := TX6) (N := 7) (ci := 5) (v := .ref (a 3)) hx hb ht in_X6 hown hK hP 0 rfl rfl 1 (by decide) mw_356 rfl dX6_left_1 ?_
  refine vp_callSi (rd_wV (wc := [((a 3), .inr (0, [.int 0, .int 0, .int 0, .int 0, .int 0, .int 0, .ref (a 4), .ref (a 5), .ref (a 6), .ref (a 7), .ref (a 8), .ref (a 9), .ref (a 10), .ref (a 11), .ref (a 12), .ref (a 13), .ref (a 14), .ref (a 15)]))]) (As := []) (rest := []) hx hb hml hown ht (ct_Board_isThere) wd_X0_isThere mw_677 hQ (hP.sub [1] rfl) rfl rfl rfl hl.1 rfl (Nat.le_of_ble_eq_true rfl) dX6_left_4 ⟨Nat.le_of_ble_eq_true rfl, Nat.le_of_ble_eq_true rfl, rfl, rfl⟩ ⟨Nat.le_of_ble_eq_true rfl, Nat.le_of_ble_eq_true rfl⟩) (fun r_1 er_1 => ?_)
  obtain rfl : r_1 = 0 := er_1
  refine lv_if_ne (tgt := 12) hx hb dX6_left_7 (by decide) (fun c9 => absurd c9 (by decide)) (fun c_2 => ?_)
  refine lv_iconst (v := (-1)) hx hb dX6_left_10 (by decide) ?_
  exact rd_iret hx hb hr hk (rfl) dX6_left_11

set_option maxHeartbeats 4000000 in
set_option maxRecDepth 100000 in
theorem cf_when {l : Launch} {D : va_G} {q : Nat → ClassId} {a : Nat → Nat} {x : Int32} : Met l yX6_when (Cond.code yX6_when cX6_when 2 (some .int) :: w_all) ({ frames := 1, cells := 0, slots := 0, locals := 20 }) (rd_P D q [.ref (a 0), .int x] (fb_w a q)) (vp_Si (fun r => r = (-1))) 0 0 (fun _ => False) := by
  refine rd_start (by decide) (Nat.le_of_ble_eq_true rfl) ?_
  intro p e s m below meth c ls hx hb hr hml hown ht hk hP hQ hl
  have hK := hQ.1
  have hown : s.vm.findClass RX6 = some m.cls := hown
  have hl : lv_has ls 2 [(0, .ref (a 0)), (1, .int x)] := hl
  have hP := hP.sub (ws' := [((a 0), .inr (5, [.ref (a 1), .ref (a 3), .ref (a 16), .ref (a 29), .ref (a 33), .ref (a 41), .ref (a 43)])), ((a 3), .inr (0, [.int 0, .int 0, .int 0, .int 0, .int 0, .int 0, .ref (a 4), .ref (a 5), .ref (a 6), .ref (a 7), .ref (a 8), .ref (a 9), .ref (a 10), .ref (a 11), .ref (a 12), .ref (a 13), .ref (a 14), .ref (a 15)]))]) [0, 3] rfl
  refine lv_aload_n hx hb dX6_when_0 rfl (lv_at hl 0 rfl) ?_
  refine fl_get (C := RX6) (T := TX6) (N := 7) (ci := 5) (v := .ref (a 3)) hx hb ht in_X6 hown hK hP 0 rfl rfl 1 (by decide) mw_356 rfl dX6_when_1 ?_
  refine vp_callSi (rd_wV (wc := [((a 3), .inr (0, [.int 0, .int 0, .int 0, .int 0, .int 0, .int 0, .ref (a 4), .ref (a 5), .ref (a 6), .ref (a 7), .ref (a 8), .ref (a 9), .ref (a 10), .ref (a 11), .ref (a 12), .ref (a 13), .ref (a 14), .ref (a 15)]))]) (As := []) (rest := []) hx hb hml hown ht (ct_Board_isThere) wd_X0_isThere mw_677 hQ (hP.sub [1] rfl) rfl rfl rfl hl.1 rfl (Nat.le_of_ble_eq_true rfl) dX6_when_4 ⟨Nat.le_of_ble_eq_true rfl, Nat.le_of_ble_eq_true rfl, rfl, rfl⟩ ⟨Nat.le_of_ble_eq_true rfl, Nat.le_of_ble_eq_true rfl⟩) (fun r_1 er_1 => ?_)
  obtain rfl : r_1 = 0 := er_1
  refine lv_if_eq (tgt := 19) hx hb dX6_when_7 (by decide) (fun c_2 => ?_) (fun c9 => absurd (by decide) c9)
  refine lv_iconst (v := (-1)) hx hb dX6_when_19 (by decide) ?_
  exact rd_iret hx hb hr hk (rfl) dX6_when_20

set_option maxHeartbeats 4000000 in
set_option maxRecDepth 100000 in
theorem cf_loudest {l : Launch} {D : va_G} {q : Nat → ClassId} {a : Nat → Nat} {x : Int32} : Met l yX6_loudest (Cond.code yX6_loudest cX6_loudest 2 (some .int) :: w_all) ({ frames := 1, cells := 0, slots := 0, locals := 20 }) (rd_P D q [.ref (a 0), .int x] (fb_w a q)) (vp_Si (fun r => r = (-1))) 0 0 (fun _ => False) := by
  refine rd_start (by decide) (Nat.le_of_ble_eq_true rfl) ?_
  intro p e s m below meth c ls hx hb hr hml hown ht hk hP hQ hl
  have hK := hQ.1
  have hown : s.vm.findClass RX6 = some m.cls := hown
  have hl : lv_has ls 2 [(0, .ref (a 0)), (1, .int x)] := hl
  have hP := hP.sub (ws' := [((a 0), .inr (5, [.ref (a 1), .ref (a 3), .ref (a 16), .ref (a 29), .ref (a 33), .ref (a 41), .ref (a 43)])), ((a 3), .inr (0, [.int 0, .int 0, .int 0, .int 0, .int 0, .int 0, .ref (a 4), .ref (a 5), .ref (a 6), .ref (a 7), .ref (a 8), .ref (a 9), .ref (a 10), .ref (a 11), .ref (a 12), .ref (a 13), .ref (a 14), .ref (a 15)]))]) [0, 3] rfl
  refine lv_aload_n hx hb dX6_loudest_0 rfl (lv_at hl 0 rfl) ?_
  refine fl_get (C := RX6) (T := TX6) (N := 7) (ci := 5) (v := .ref (a 3)) hx hb ht in_X6 hown hK hP 0 rfl rfl 1 (by decide) mw_356 rfl dX6_loudest_1 ?_
  refine vp_callSi (rd_wV (wc := [((a 3), .inr (0, [.int 0, .int 0, .int 0, .int 0, .int 0, .int 0, .ref (a 4), .ref (a 5), .ref (a 6), .ref (a 7), .ref (a 8), .ref (a 9), .ref (a 10), .ref (a 11), .ref (a 12), .ref (a 13), .ref (a 14), .ref (a 15)]))]) (As := []) (rest := []) hx hb hml hown ht (ct_Board_isThere) wd_X0_isThere mw_677 hQ (hP.sub [1] rfl) rfl rfl rfl hl.1 rfl (Nat.le_of_ble_eq_true rfl) dX6_loudest_4 ⟨Nat.le_of_ble_eq_true rfl, Nat.le_of_ble_eq_true rfl, rfl, rfl⟩ ⟨Nat.le_of_ble_eq_true rfl, Nat.le_of_ble_eq_true rfl⟩) (fun r_1 er_1 => ?_)
  obtain rfl : r_1 = 0 := er_1
  refine lv_if_eq (tgt := 19) hx hb dX6_loudest_7 (by decide) (fun c_2 => ?_) (fun c9 => absurd (by decide) c9)
  refine lv_iconst (v := (-1)) hx hb dX6_loudest_19 (by decide) ?_
  exact rd_iret hx hb hr hk (rfl) dX6_loudest_20

set_option maxHeartbeats 4000000 in
set_option maxRecDepth 100000 in
theorem cf_total {l : Launch} {D : va_G} {q : Nat → ClassId} {a : Nat → Nat} {x : Int32} : Met l yX6_total (Cond.code yX6_total cX6_total 2 (some .int) :: w_all) ({ frames := 1, cells := 0, slots := 0, locals := 20 }) (rd_P D q [.ref (a 0), .int x] (fb_w a q)) (vp_Si (fun r => r = (-1))) 0 0 (fun _ => False) := by
  refine rd_start (by decide) (Nat.le_of_ble_eq_true rfl) ?_
  intro p e s m below meth c ls hx hb hr hml hown ht hk hP hQ hl
  have hK := hQ.1
  have hown : s.vm.findClass RX6 = some m.cls := hown
  have hl : lv_has ls 2 [(0, .ref (a 0)), (1, .int x)] := hl
  have hP := hP.sub (ws' := [((a 0), .inr (5, [.ref (a 1), .ref (a 3), .ref (a 16), .ref (a 29), .ref (a 33), .ref (a 41), .ref (a 43)])), ((a 3), .inr (0, [.int 0, .int 0, .int 0, .int 0, .int 0, .int 0, .ref (a 4), .ref (a 5), .ref (a 6), .ref (a 7), .ref (a 8), .ref (a 9), .ref (a 10), .ref (a 11), .ref (a 12), .ref (a 13), .ref (a 14), .ref (a 15)]))]) [0, 3] rfl
  refine lv_aload_n hx hb dX6_total_0 rfl (lv_at hl 0 rfl) ?_
  refine fl_get (C := RX6) (T := TX6) (N := 7) (ci := 5) (v := .ref (a 3)) hx hb ht in_X6 hown hK hP 0 rfl rfl 1 (by decide) mw_356 rfl dX6_total_1 ?_
  refine vp_callSi (rd_wV (wc := [((a 3), .inr (0, [.int 0, .int 0, .int 0, .int 0, .int 0, .int 0, .ref (a 4), .ref (a 5), .ref (a 6), .ref (a 7), .ref (a 8), .ref (a 9), .ref (a 10), .ref (a 11), .ref (a 12), .ref (a 13), .ref (a 14), .ref (a 15)]))]) (As := []) (rest := []) hx hb hml hown ht (ct_Board_isThere) wd_X0_isThere mw_677 hQ (hP.sub [1] rfl) rfl rfl rfl hl.1 rfl (Nat.le_of_ble_eq_true rfl) dX6_total_4 ⟨Nat.le_of_ble_eq_true rfl, Nat.le_of_ble_eq_true rfl, rfl, rfl⟩ ⟨Nat.le_of_ble_eq_true rfl, Nat.le_of_ble_eq_true rfl⟩) (fun r_1 er_1 => ?_)
  obtain rfl : r_1 = 0 := er_1
  refine lv_if_ne (tgt := 12) hx hb dX6_total_7 (by decide) (fun c9 => absurd c9 (by decide)) (fun c_2 => ?_)
  refine lv_iconst (v := (-1)) hx hb dX6_total_10 (by decide) ?_
  exact rd_iret hx hb hr hk (rfl) dX6_total_11

set_option maxHeartbeats 4000000 in
set_option maxRecDepth 100000 in
theorem cf_rests {l : Launch} {D : va_G} {q : Nat → ClassId} {a : Nat → Nat} {x : Int32} : Met l yX6_rests (Cond.code yX6_rests cX6_rests 3 (some .int) :: w_all) ({ frames := 2, cells := 0, slots := 0, locals := 41 }) (rd_P D q [.ref (a 0), .int x] (fb_w a q)) (vp_Si (fun r => r = (-1))) 0 0 (fun _ => False) := by
  refine rd_start (by decide) (Nat.le_of_ble_eq_true rfl) ?_
  intro p e s m below meth c ls hx hb hr hml hown ht hk hP hQ hl
  have hK := hQ.1
  have hown : s.vm.findClass RX6 = some m.cls := hown
  have hl : lv_has ls 3 [(0, .ref (a 0)), (1, .int x)] := hl
  have hP := hP.sub (ws' := [((a 0), .inr (5, [.ref (a 1), .ref (a 3), .ref (a 16), .ref (a 29), .ref (a 33), .ref (a 41), .ref (a 43)])), ((a 3), .inr (0, [.int 0, .int 0, .int 0, .int 0, .int 0, .int 0, .ref (a 4), .ref (a 5), .ref (a 6), .ref (a 7), .ref (a 8), .ref (a 9), .ref (a 10), .ref (a 11), .ref (a 12), .ref (a 13), .ref (a 14), .ref (a 15)]))]) [0, 3] rfl
  refine lv_aload_n hx hb dX6_rests_0 rfl (lv_at hl 0 rfl) ?_
  refine fl_get (C := RX6) (T := TX6) (N := 7) (ci := 5) (v := .ref (a 3)) hx hb ht in_X6 hown hK hP 0 rfl rfl 1 (by decide) mw_356 rfl dX6_rests_1 ?_
  refine lv_iload_n hx hb dX6_rests_4 rfl (lv_at hl 1 rfl) ?_
  refine vp_callSi (rd_wV (wc := [((a 3), .inr (0, [.int 0, .int 0, .int 0, .int 0, .int 0, .int 0, .ref (a 4), .ref (a 5), .ref (a 6), .ref (a 7), .ref (a 8), .ref (a 9), .ref (a 10), .ref (a 11), .ref (a 12), .ref (a 13), .ref (a 14), .ref (a 15)]))]) (As := [.int x]) (rest := []) hx hb hml hown ht (ct_Board_hasCell) wd_X0_hasCell mw_730 hQ (hP.sub [1] rfl) rfl rfl rfl hl.1 rfl (Nat.le_of_ble_eq_true rfl) dX6_rests_5 ⟨Nat.le_of_ble_eq_true rfl, Nat.le_of_ble_eq_true rfl, rfl, rfl⟩ ⟨Nat.le_of_ble_eq_true rfl, Nat.le_of_ble_eq_true rfl⟩) (fun r_1 er_1 => ?_)
  obtain rfl : r_1 = 0 := er_1
  refine lv_if_ne (tgt := 13) hx hb dX6_rests_8 (by decide) (fun c9 => absurd c9 (by decide)) (fun c_2 => ?_)
  refine lv_iconst (v := (-1)) hx hb dX6_rests_11 (by decide) ?_
  exact rd_iret hx hb hr hk (rfl) dX6_rests_12

set_option maxHeartbeats 4000000 in
set_option maxRecDepth 100000 in
theorem cf_cost {l : Launch} {D : va_G} {q : Nat → ClassId} {a : Nat → Nat} {x : Int32} : Met l yX6_cost (Cond.code yX6_cost cX6_cost 3 (some .int) :: w_all) ({ frames := 2, cells := 0, slots := 0, locals := 42 }) (rd_P D q [.ref (a 0), .int x] (fb_w a q)) (vp_Si (fun r => r = (-1))) 0 0 (fun _ => False) := by
  refine rd_start (by decide) (Nat.le_of_ble_eq_true rfl) ?_
  intro p e s m below meth c ls hx hb hr hml hown ht hk hP hQ hl
  have hK := hQ.1
  have hown : s.vm.findClass RX6 = some m.cls := hown
  have hl : lv_has ls 3 [(0, .ref (a 0)), (1, .int x)] := hl
  have hP := hP.sub (ws' := [((a 0), .inr (5, [.ref (a 1), .ref (a 3), .ref (a 16), .ref (a 29), .ref (a 33), .ref (a 41), .ref (a 43)])), ((a 1), .inr (4, [.ref (a 2), .int 0, .int 0, .int 0, .int 0, .int 0, .int 0])), ((a 2), .inl (q 0, 400, .inl (fun _ => 0))), ((a 3), .inr (0, [.int 0, .int 0, .int 0, .int 0, .int 0, .int 0, .ref (a 4), .ref (a 5), .ref (a 6), .ref (a 7), .ref (a 8), .ref (a 9), .ref (a 10), .ref (a 11), .ref (a 12), .ref (a 13), .ref (a 14), .ref (a 15)])), ((a 4), .inl (q 0, 4, .inl (fun _ => 0))), ((a 5), .inl (q 0, 4, .inl (fun _ => 0))), ((a 6), .inl (q 0, 160, .inl (fun _ => 0))), ((a 7), .inl (q 0, 40, .inl (fun _ => 0))), ((a 8), .inl (q 0, 40, .inl (fun _ => 0))), ((a 9), .inl (q 0, 40, .inl (fun _ => 0))), ((a 10), .inl (q 0, 40, .inl (fun _ => 0))), ((a 11), .inl (q 0, 40, .inl (fun _ => 0))), ((a 12), .inl (q 0, 40, .inl (fun _ => 0))), ((a 13), .inl (q 0, 40, .inl (fun _ => 0))), ((a 14), .inl (q 1, 40, .inr (.inl (fun _ => 0)))), ((a 15), .inl (q 0, 0, .inl (fun _ => 0))), ((a 16), .inr (0, [.int 0, .int 0, .int 0, .int 0, .int 0, .int 0, .ref (a 17), .ref (a 18), .ref (a 19), .ref (a 20), .ref (a 21), .ref (a 22), .ref (a 23), .ref (a 24), .ref (a 25), .ref (a 26), .ref (a 27), .ref (a 28)])), ((a 17), .inl (q 0, 4, .inl (fun _ => 0))), ((a 18), .inl (q 0, 4, .inl (fun _ => 0))), ((a 19), .inl (q 0, 160, .inl (fun _ => 0))), ((a 20), .inl (q 0, 40, .inl (fun _ => 0))), ((a 21), .inl (q 0, 40, .inl (fun _ => 0))), ((a 22), .inl (q 0, 40, .inl (fun _ => 0))), ((a 23), .inl (q 0, 40, .inl (fun _ => 0))), ((a 24), .inl (q 0, 40, .inl (fun _ => 0))), ((a 25), .inl (q 0, 40, .inl (fun _ => 0))), ((a 26), .inl (q 0, 40, .inl (fun _ => 0))), ((a 27), .inl (q 1, 40, .inr (.inl (fun _ => 0)))), ((a 28), .inl (q 0, 0, .inl (fun _ => 0))), ((a 29), .inr (1, [.ref (a 30), .ref (a 31), .ref (a 32), .int 0, .int 0, .int 0, .int 0, .int 0, .int 0, .int 0, .int 0, .int 0])), ((a 30), .inl (q 0, 40, .inl (fun _ => 0))), ((a 31), .inl (q 0, 40, .inl (fun _ => 0))), ((a 32), .inl (q 0, 40, .inl (fun _ => 0))), ((a 33), .inr (3, [.ref (a 34), .ref (a 35), .ref (a 36), .ref (a 37), .ref (a 38), .ref (a 39), .ref (a 40), .int 0, .int 0, .int 0])), ((a 34), .inl (q 0, 80, .inl (fun _ => 0))), ((a 35), .inl (q 0, 80, .inl (fun _ => 0))), ((a 36), .inl (q 0, 80, .inl (fun _ => 0))), ((a 37), .inl (q 0, 80, .inl (fun _ => 0))), ((a 38), .inl (q 0, 80, .inl (fun _ => 0))), ((a 39), .inl (q 0, 3, .inl (fun _ => 0))), ((a 40), .inl (q 0, 3, .inl (fun _ => 0))), ((a 41), .inr (2, [.ref (a 42), .int 0, .int 0])), ((a 42), .inl (q 4, 10, .inr (.inr (.inr (.inr (fun _ => none)))))), ((a 43), .inl (q 4, 2, .inr (.inr (.inr (.inr (fun _ => none))))))]) [0, 1, 2, 3, 4, 5, 6, 7, 8, 9, 10, 11, 12, 13, 14, 15, 16, 17, 18, 19, 20, 21, 22, 23, 24, 25, 26, 27, 28, 29, 30, 31, 32, 33, 34, 35, 36, 37, 38, 39, 40, 41, 42, 43] rfl
  refine lv_aload_n hx hb dX6_cost_0 rfl (lv_at hl 0 rfl) ?_
  refine lv_iload_n hx hb dX6_cost_1 rfl (lv_at hl 1 rfl) ?_
  refine vp_callSi (rd_wV (wc := [((a 0), .inr (5, [.ref (a 1), .ref (a 3), .ref (a 16), .ref (a 29), .ref (a 33), .ref (a 41), .ref (a 43)])), ((a 1), .inr (4, [.ref (a 2), .int 0, .int 0, .int 0, .int 0, .int 0, .int 0])), ((a 2), .inl (q 0, 400, .inl (fun _ => 0))), ((a 3), .inr (0, [.int 0, .int 0, .int 0, .int 0, .int 0, .int 0, .ref (a 4), .ref (a 5), .ref (a 6), .ref (a 7), .ref (a 8), .ref (a 9), .ref (a 10), .ref (a 11), .ref (a 12), .ref (a 13), .ref (a 14), .ref (a 15)])), ((a 4), .inl (q 0, 4, .inl (fun _ => 0))), ((a 5), .inl (q 0, 4, .inl (fun _ => 0))), ((a 6), .inl (q 0, 160, .inl (fun _ => 0))), ((a 7), .inl (q 0, 40, .inl (fun _ => 0))), ((a 8), .inl (q 0, 40, .inl (fun _ => 0))), ((a 9), .inl (q 0, 40, .inl (fun _ => 0))), ((a 10), .inl (q 0, 40, .inl (fun _ => 0))), ((a 11), .inl (q 0, 40, .inl (fun _ => 0))), ((a 12), .inl (q 0, 40, .inl (fun _ => 0))), ((a 13), .inl (q 0, 40, .inl (fun _ => 0))), ((a 14), .inl (q 1, 40, .inr (.inl (fun _ => 0)))), ((a 15), .inl (q 0, 0, .inl (fun _ => 0))), ((a 16), .inr (0, [.int 0, .int 0, .int 0, .int 0, .int 0, .int 0, .ref (a 17), .ref (a 18), .ref (a 19), .ref (a 20), .ref (a 21), .ref (a 22), .ref (a 23), .ref (a 24), .ref (a 25), .ref (a 26), .ref (a 27), .ref (a 28)])), ((a 17), .inl (q 0, 4, .inl (fun _ => 0))), ((a 18), .inl (q 0, 4, .inl (fun _ => 0))), ((a 19), .inl (q 0, 160, .inl (fun _ => 0))), ((a 20), .inl (q 0, 40, .inl (fun _ => 0))), ((a 21), .inl (q 0, 40, .inl (fun _ => 0))), ((a 22), .inl (q 0, 40, .inl (fun _ => 0))), ((a 23), .inl (q 0, 40, .inl (fun _ => 0))), ((a 24), .inl (q 0, 40, .inl (fun _ => 0))), ((a 25), .inl (q 0, 40, .inl (fun _ => 0))), ((a 26), .inl (q 0, 40, .inl (fun _ => 0))), ((a 27), .inl (q 1, 40, .inr (.inl (fun _ => 0)))), ((a 28), .inl (q 0, 0, .inl (fun _ => 0))), ((a 29), .inr (1, [.ref (a 30), .ref (a 31), .ref (a 32), .int 0, .int 0, .int 0, .int 0, .int 0, .int 0, .int 0, .int 0, .int 0])), ((a 30), .inl (q 0, 40, .inl (fun _ => 0))), ((a 31), .inl (q 0, 40, .inl (fun _ => 0))), ((a 32), .inl (q 0, 40, .inl (fun _ => 0))), ((a 33), .inr (3, [.ref (a 34), .ref (a 35), .ref (a 36), .ref (a 37), .ref (a 38), .ref (a 39), .ref (a 40), .int 0, .int 0, .int 0])), ((a 34), .inl (q 0, 80, .inl (fun _ => 0))), ((a 35), .inl (q 0, 80, .inl (fun _ => 0))), ((a 36), .inl (q 0, 80, .inl (fun _ => 0))), ((a 37), .inl (q 0, 80, .inl (fun _ => 0))), ((a 38), .inl (q 0, 80, .inl (fun _ => 0))), ((a 39), .inl (q 0, 3, .inl (fun _ => 0))), ((a 40), .inl (q 0, 3, .inl (fun _ => 0))), ((a 41), .inr (2, [.ref (a 42), .int 0, .int 0])), ((a 42), .inl (q 4, 10, .inr (.inr (.inr (.inr (fun _ => none)))))), ((a 43), .inl (q 4, 2, .inr (.inr (.inr (.inr (fun _ => none))))))]) (As := [.int x]) (rest := []) hx hb hml hown ht (cf_whyNotRow) wd_X6_whyNotRow mw_617 hQ (hP.sub [0, 1, 2, 3, 4, 5, 6, 7, 8, 9, 10, 11, 12, 13, 14, 15, 16, 17, 18, 19, 20, 21, 22, 23, 24, 25, 26, 27, 28, 29, 30, 31, 32, 33, 34, 35, 36, 37, 38, 39, 40, 41, 42, 43] rfl) rfl rfl rfl hl.1 rfl (Nat.le_of_ble_eq_true rfl) dX6_cost_2 ⟨Nat.le_of_ble_eq_true rfl, Nat.le_of_ble_eq_true rfl, rfl, rfl⟩ ⟨Nat.le_of_ble_eq_true rfl, Nat.le_of_ble_eq_true rfl⟩) (fun r_1 er_1 => ?_)
  obtain rfl : r_1 = (-1) := er_1
  refine lv_istore_n (lv' := [(2, .int (-1)), (0, .ref (a 0)), (1, .int x)]) hx hb dX6_cost_5 rfl hl (by decide) rfl (fun ls hl => ?_)
  refine lv_iload_n hx hb dX6_cost_6 rfl (lv_at hl 0 rfl) ?_
  refine lv_if_ne (tgt := 34) hx hb dX6_cost_7 (by decide) (fun c_2 => ?_) (fun c9 => absurd c9 (by decide))
  refine lv_iload_n hx hb dX6_cost_34 rfl (lv_at hl 0 rfl) ?_
  exact rd_iret hx hb hr hk (rfl) dX6_cost_35

set_option maxHeartbeats 4000000 in
set_option maxRecDepth 100000 in
theorem cf_best {l : Launch} {D : va_G} {q : Nat → ClassId} {a : Nat → Nat} {x : Int32} {y : Int32} : Met l yX6_best (Cond.code yX6_best cX6_best 12 (some .int) :: w_all) ({ frames := 1, cells := 0, slots := 0, locals := 21 }) (rd_P D q [.ref (a 0), .int x, .int y] (fb_w a q)) (vp_Si (fun r => r = (-1))) 0 0 (fun _ => False) := by
  refine rd_start (by decide) (Nat.le_of_ble_eq_true rfl) ?_
  intro p e s m below meth c ls hx hb hr hml hown ht hk hP hQ hl
  have hK := hQ.1
  have hown : s.vm.findClass RX6 = some m.cls := hown
  have hl : lv_has ls 12 [(0, .ref (a 0)), (1, .int x), (2, .int y)] := hl
  have hP := hP.sub (ws' := [((a 0), .inr (5, [.ref (a 1), .ref (a 3), .ref (a 16), .ref (a 29), .ref (a 33), .ref (a 41), .ref (a 43)])), ((a 3), .inr (0, [.int 0, .int 0, .int 0, .int 0, .int 0, .int 0, .ref (a 4), .ref (a 5), .ref (a 6), .ref (a 7), .ref (a 8), .ref (a 9), .ref (a 10), .ref (a 11), .ref (a 12), .ref (a 13), .ref (a 14), .ref (a 15)]))]) [0, 3] rfl
  refine lv_aload_n hx hb dX6_best_0 rfl (lv_at hl 0 rfl) ?_
  refine fl_get (C := RX6) (T := TX6) (N := 7) (ci := 5) (v := .ref (a 3)) hx hb ht in_X6 hown hK hP 0 rfl rfl 1 (by decide) mw_356 rfl dX6_best_1 ?_
  refine lv_iload_n hx hb dX6_best_4 rfl (lv_at hl 1 rfl) ?_
  refine vp_callSi (rd_wV (wc := [((a 3), .inr (0, [.int 0, .int 0, .int 0, .int 0, .int 0, .int 0, .ref (a 4), .ref (a 5), .ref (a 6), .ref (a 7), .ref (a 8), .ref (a 9), .ref (a 10), .ref (a 11), .ref (a 12), .ref (a 13), .ref (a 14), .ref (a 15)]))]) (As := [.int x]) (rest := []) hx hb hml hown ht (ct_Board_hasRow) wd_X0_hasRow mw_621 hQ (hP.sub [1] rfl) rfl rfl rfl hl.1 rfl (Nat.le_of_ble_eq_true rfl) dX6_best_5 ⟨Nat.le_of_ble_eq_true rfl, Nat.le_of_ble_eq_true rfl, rfl, rfl⟩ ⟨Nat.le_of_ble_eq_true rfl, Nat.le_of_ble_eq_true rfl⟩) (fun r_1 er_1 => ?_)
  obtain rfl : r_1 = 0 := er_1
  refine lv_if_eq (tgt := 20) hx hb dX6_best_8 (by decide) (fun c_2 => ?_) (fun c9 => absurd (by decide) c9)
  refine lv_iconst (v := (-1)) hx hb dX6_best_20 (by decide) ?_
  exact rd_iret hx hb hr hk (rfl) dX6_best_21

set_option maxHeartbeats 4000000 in
set_option maxRecDepth 100000 in
theorem cf_place {l : Launch} {D : va_G} {q : Nat → ClassId} {a : Nat → Nat} {x : Int32} {y : Int32} : Met l yX6_place (Cond.code yX6_place cX6_place 10 (some .int) :: w_all) ({ frames := 1, cells := 0, slots := 0, locals := 21 }) (rd_P D q [.ref (a 0), .int x, .int y] (fb_w a q)) (vp_Si (fun r => r = (-1))) 0 0 (fun _ => False) := by
  refine rd_start (by decide) (Nat.le_of_ble_eq_true rfl) ?_
  intro p e s m below meth c ls hx hb hr hml hown ht hk hP hQ hl
  have hK := hQ.1
  have hown : s.vm.findClass RX6 = some m.cls := hown
  have hl : lv_has ls 10 [(0, .ref (a 0)), (1, .int x), (2, .int y)] := hl
  have hP := hP.sub (ws' := [((a 0), .inr (5, [.ref (a 1), .ref (a 3), .ref (a 16), .ref (a 29), .ref (a 33), .ref (a 41), .ref (a 43)])), ((a 3), .inr (0, [.int 0, .int 0, .int 0, .int 0, .int 0, .int 0, .ref (a 4), .ref (a 5), .ref (a 6), .ref (a 7), .ref (a 8), .ref (a 9), .ref (a 10), .ref (a 11), .ref (a 12), .ref (a 13), .ref (a 14), .ref (a 15)]))]) [0, 3] rfl
  refine lv_aload_n hx hb dX6_place_0 rfl (lv_at hl 0 rfl) ?_
  refine fl_get (C := RX6) (T := TX6) (N := 7) (ci := 5) (v := .ref (a 3)) hx hb ht in_X6 hown hK hP 0 rfl rfl 1 (by decide) mw_356 rfl dX6_place_1 ?_
  refine lv_iload_n hx hb dX6_place_4 rfl (lv_at hl 1 rfl) ?_
  refine vp_callSi (rd_wV (wc := [((a 3), .inr (0, [.int 0, .int 0, .int 0, .int 0, .int 0, .int 0, .ref (a 4), .ref (a 5), .ref (a 6), .ref (a 7), .ref (a 8), .ref (a 9), .ref (a 10), .ref (a 11), .ref (a 12), .ref (a 13), .ref (a 14), .ref (a 15)]))]) (As := [.int x]) (rest := []) hx hb hml hown ht (ct_Board_hasRow) wd_X0_hasRow mw_621 hQ (hP.sub [1] rfl) rfl rfl rfl hl.1 rfl (Nat.le_of_ble_eq_true rfl) dX6_place_5 ⟨Nat.le_of_ble_eq_true rfl, Nat.le_of_ble_eq_true rfl, rfl, rfl⟩ ⟨Nat.le_of_ble_eq_true rfl, Nat.le_of_ble_eq_true rfl⟩) (fun r_1 er_1 => ?_)
  obtain rfl : r_1 = 0 := er_1
  refine lv_if_eq (tgt := 20) hx hb dX6_place_8 (by decide) (fun c_2 => ?_) (fun c9 => absurd (by decide) c9)
  refine lv_iconst (v := (-1)) hx hb dX6_place_20 (by decide) ?_
  exact rd_iret hx hb hr hk (rfl) dX6_place_21

set_option maxHeartbeats 4000000 in
set_option maxRecDepth 100000 in
theorem cf_log {l : Launch} {D : va_G} {q : Nat → ClassId} {a : Nat → Nat} {x : Int32} {y : Int32} : Met l yX6_log (Cond.code yX6_log cX6_log 3 (some .int) :: w_all) ({ frames := 1, cells := 0, slots := 0, locals := 21 }) (rd_P D q [.ref (a 0), .int x, .int y] (fb_w a q)) (vp_Si (fun r => r = (-1))) 0 0 (fun _ => False) := by
  refine rd_start (by decide) (Nat.le_of_ble_eq_true rfl) ?_
  intro p e s m below meth c ls hx hb hr hml hown ht hk hP hQ hl
  have hK := hQ.1
  have hown : s.vm.findClass RX6 = some m.cls := hown
  have hl : lv_has ls 3 [(0, .ref (a 0)), (1, .int x), (2, .int y)] := hl
  have hP := hP.sub (ws' := [((a 0), .inr (5, [.ref (a 1), .ref (a 3), .ref (a 16), .ref (a 29), .ref (a 33), .ref (a 41), .ref (a 43)])), ((a 3), .inr (0, [.int 0, .int 0, .int 0, .int 0, .int 0, .int 0, .ref (a 4), .ref (a 5), .ref (a 6), .ref (a 7), .ref (a 8), .ref (a 9), .ref (a 10), .ref (a 11), .ref (a 12), .ref (a 13), .ref (a 14), .ref (a 15)]))]) [0, 3] rfl
  refine lv_aload_n hx hb dX6_log_0 rfl (lv_at hl 0 rfl) ?_
  refine fl_get (C := RX6) (T := TX6) (N := 7) (ci := 5) (v := .ref (a 3)) hx hb ht in_X6 hown hK hP 0 rfl rfl 1 (by decide) mw_356 rfl dX6_log_1 ?_
  refine lv_iload_n hx hb dX6_log_4 rfl (lv_at hl 1 rfl) ?_
  refine vp_callSi (rd_wV (wc := [((a 3), .inr (0, [.int 0, .int 0, .int 0, .int 0, .int 0, .int 0, .ref (a 4), .ref (a 5), .ref (a 6), .ref (a 7), .ref (a 8), .ref (a 9), .ref (a 10), .ref (a 11), .ref (a 12), .ref (a 13), .ref (a 14), .ref (a 15)]))]) (As := [.int x]) (rest := []) hx hb hml hown ht (ct_Board_hasDrum) wd_X0_hasDrum mw_904 hQ (hP.sub [1] rfl) rfl rfl rfl hl.1 rfl (Nat.le_of_ble_eq_true rfl) dX6_log_5 ⟨Nat.le_of_ble_eq_true rfl, Nat.le_of_ble_eq_true rfl, rfl, rfl⟩ ⟨Nat.le_of_ble_eq_true rfl, Nat.le_of_ble_eq_true rfl⟩) (fun r_1 er_1 => ?_)
  obtain rfl : r_1 = 0 := er_1
  refine lv_if_ne (tgt := 13) hx hb dX6_log_8 (by decide) (fun c9 => absurd c9 (by decide)) (fun c_2 => ?_)
  refine lv_iconst (v := (-1)) hx hb dX6_log_11 (by decide) ?_
  exact rd_iret hx hb hr hk (rfl) dX6_log_12

set_option maxHeartbeats 4000000 in
set_option maxRecDepth 100000 in
theorem cf_usual {l : Launch} {D : va_G} {q : Nat → ClassId} {a : Nat → Nat} {x : Int32} {y : Int32} : Met l yX6_usual (Cond.code yX6_usual cX6_usual 7 (some .int) :: w_all) ({ frames := 1, cells := 0, slots := 0, locals := 21 }) (rd_P D q [.ref (a 0), .int x, .int y] (fb_w a q)) (vp_Si (fun r => r = (-1))) 0 0 (fun _ => False) := by
  refine rd_start (by decide) (Nat.le_of_ble_eq_true rfl) ?_
  intro p e s m below meth c ls hx hb hr hml hown ht hk hP hQ hl
  have hK := hQ.1
  have hown : s.vm.findClass RX6 = some m.cls := hown
  have hl : lv_has ls 7 [(0, .ref (a 0)), (1, .int x), (2, .int y)] := hl
  have hP := hP.sub (ws' := [((a 0), .inr (5, [.ref (a 1), .ref (a 3), .ref (a 16), .ref (a 29), .ref (a 33), .ref (a 41), .ref (a 43)])), ((a 3), .inr (0, [.int 0, .int 0, .int 0, .int 0, .int 0, .int 0, .ref (a 4), .ref (a 5), .ref (a 6), .ref (a 7), .ref (a 8), .ref (a 9), .ref (a 10), .ref (a 11), .ref (a 12), .ref (a 13), .ref (a 14), .ref (a 15)]))]) [0, 3] rfl
  refine lv_aload_n hx hb dX6_usual_0 rfl (lv_at hl 0 rfl) ?_
  refine fl_get (C := RX6) (T := TX6) (N := 7) (ci := 5) (v := .ref (a 3)) hx hb ht in_X6 hown hK hP 0 rfl rfl 1 (by decide) mw_356 rfl dX6_usual_1 ?_
  refine lv_iload_n hx hb dX6_usual_4 rfl (lv_at hl 1 rfl) ?_
  refine vp_callSi (rd_wV (wc := [((a 3), .inr (0, [.int 0, .int 0, .int 0, .int 0, .int 0, .int 0, .ref (a 4), .ref (a 5), .ref (a 6), .ref (a 7), .ref (a 8), .ref (a 9), .ref (a 10), .ref (a 11), .ref (a 12), .ref (a 13), .ref (a 14), .ref (a 15)]))]) (As := [.int x]) (rest := []) hx hb hml hown ht (ct_Board_hasDrum) wd_X0_hasDrum mw_904 hQ (hP.sub [1] rfl) rfl rfl rfl hl.1 rfl (Nat.le_of_ble_eq_true rfl) dX6_usual_5 ⟨Nat.le_of_ble_eq_true rfl, Nat.le_of_ble_eq_true rfl, rfl, rfl⟩ ⟨Nat.le_of_ble_eq_true rfl, Nat.le_of_ble_eq_true rfl⟩) (fun r_1 er_1 => ?_)
  obtain rfl : r_1 = 0 := er_1
  refine lv_if_eq (tgt := 20) hx hb dX6_usual_8 (by decide) (fun c_2 => ?_) (fun c9 => absurd (by decide) c9)
  refine lv_iconst (v := (-1)) hx hb dX6_usual_20 (by decide) ?_
  exact rd_iret hx hb hr hk (rfl) dX6_usual_21

set_option maxHeartbeats 4000000 in
set_option maxRecDepth 100000 in
theorem cf_better {l : Launch} {D : va_G} {q : Nat → ClassId} {a : Nat → Nat} {x : Int32} {y : Int32} : Met l yX6_better (Cond.code yX6_better cX6_better 10 (some .int) :: w_all) ({ frames := 1, cells := 0, slots := 0, locals := 21 }) (rd_P D q [.ref (a 0), .int x, .int y] (fb_w a q)) (vp_Si (fun r => r = (-1))) 0 0 (fun _ => False) := by
  refine rd_start (by decide) (Nat.le_of_ble_eq_true rfl) ?_
  intro p e s m below meth c ls hx hb hr hml hown ht hk hP hQ hl
  have hK := hQ.1
  have hown : s.vm.findClass RX6 = some m.cls := hown
  have hl : lv_has ls 10 [(0, .ref (a 0)), (1, .int x), (2, .int y)] := hl
  have hP := hP.sub (ws' := [((a 0), .inr (5, [.ref (a 1), .ref (a 3), .ref (a 16), .ref (a 29), .ref (a 33), .ref (a 41), .ref (a 43)])), ((a 3), .inr (0, [.int 0, .int 0, .int 0, .int 0, .int 0, .int 0, .ref (a 4), .ref (a 5), .ref (a 6), .ref (a 7), .ref (a 8), .ref (a 9), .ref (a 10), .ref (a 11), .ref (a 12), .ref (a 13), .ref (a 14), .ref (a 15)]))]) [0, 3] rfl
  refine lv_aload_n hx hb dX6_better_0 rfl (lv_at hl 0 rfl) ?_
  refine fl_get (C := RX6) (T := TX6) (N := 7) (ci := 5) (v := .ref (a 3)) hx hb ht in_X6 hown hK hP 0 rfl rfl 1 (by decide) mw_356 rfl dX6_better_1 ?_
  refine lv_iload_n hx hb dX6_better_4 rfl (lv_at hl 1 rfl) ?_
  refine vp_callSi (rd_wV (wc := [((a 3), .inr (0, [.int 0, .int 0, .int 0, .int 0, .int 0, .int 0, .ref (a 4), .ref (a 5), .ref (a 6), .ref (a 7), .ref (a 8), .ref (a 9), .ref (a 10), .ref (a 11), .ref (a 12), .ref (a 13), .ref (a 14), .ref (a 15)]))]) (As := [.int x]) (rest := []) hx hb hml hown ht (ct_Board_hasDrum) wd_X0_hasDrum mw_904 hQ (hP.sub [1] rfl) rfl rfl rfl hl.1 rfl (Nat.le_of_ble_eq_true rfl) dX6_better_5 ⟨Nat.le_of_ble_eq_true rfl, Nat.le_of_ble_eq_true rfl, rfl, rfl⟩ ⟨Nat.le_of_ble_eq_true rfl, Nat.le_of_ble_eq_true rfl⟩) (fun r_1 er_1 => ?_)
  obtain rfl : r_1 = 0 := er_1
  refine lv_if_eq (tgt := 20) hx hb dX6_better_8 (by decide) (fun c_2 => ?_) (fun c9 => absurd (by decide) c9)
  refine lv_iconst (v := (-1)) hx hb dX6_better_20 (by decide) ?_
  exact rd_iret hx hb hr hk (rfl) dX6_better_21

set_option maxHeartbeats 4000000 in
set_option maxRecDepth 100000 in
theorem cf_farthest {l : Launch} {D : va_G} {q : Nat → ClassId} {a : Nat → Nat} {x : Int32} {y : Int32} : Met l yX6_farthest (Cond.code yX6_farthest cX6_farthest 8 (some .int) :: w_all) ({ frames := 2, cells := 0, slots := 0, locals := 41 }) (rd_P D q [.ref (a 0), .int x, .int y] (fb_w a q)) (vp_Si (fun r => r = (-1))) 0 0 (fun _ => False) := by
  refine rd_start (by decide) (Nat.le_of_ble_eq_true rfl) ?_
  intro p e s m below meth c ls hx hb hr hml hown ht hk hP hQ hl
  have hK := hQ.1
  have hown : s.vm.findClass RX6 = some m.cls := hown
  have hl : lv_has ls 8 [(0, .ref (a 0)), (1, .int x), (2, .int y)] := hl
  have hP := hP.sub (ws' := [((a 0), .inr (5, [.ref (a 1), .ref (a 3), .ref (a 16), .ref (a 29), .ref (a 33), .ref (a 41), .ref (a 43)])), ((a 3), .inr (0, [.int 0, .int 0, .int 0, .int 0, .int 0, .int 0, .ref (a 4), .ref (a 5), .ref (a 6), .ref (a 7), .ref (a 8), .ref (a 9), .ref (a 10), .ref (a 11), .ref (a 12), .ref (a 13), .ref (a 14), .ref (a 15)]))]) [0, 3] rfl
  refine lv_aload_n hx hb dX6_farthest_0 rfl (lv_at hl 0 rfl) ?_
  refine fl_get (C := RX6) (T := TX6) (N := 7) (ci := 5) (v := .ref (a 3)) hx hb ht in_X6 hown hK hP 0 rfl rfl 1 (by decide) mw_356 rfl dX6_farthest_1 ?_
  refine lv_iload_n hx hb dX6_farthest_4 rfl (lv_at hl 1 rfl) ?_
  refine vp_callSi (rd_wV (wc := [((a 3), .inr (0, [.int 0, .int 0, .int 0, .int 0, .int 0, .int 0, .ref (a 4), .ref (a 5), .ref (a 6), .ref (a 7), .ref (a 8), .ref (a 9), .ref (a 10), .ref (a 11), .ref (a 12), .ref (a 13), .ref (a 14), .ref (a 15)]))]) (As := [.int x]) (rest := []) hx hb hml hown ht (ct_Board_hasCell) wd_X0_hasCell mw_730 hQ (hP.sub [1] rfl) rfl rfl rfl hl.1 rfl (Nat.le_of_ble_eq_true rfl) dX6_farthest_5 ⟨Nat.le_of_ble_eq_true rfl, Nat.le_of_ble_eq_true rfl, rfl, rfl⟩ ⟨Nat.le_of_ble_eq_true rfl, Nat.le_of_ble_eq_true rfl⟩) (fun r_1 er_1 => ?_)
  obtain rfl : r_1 = 0 := er_1
  refine lv_if_eq (tgt := 20) hx hb dX6_farthest_8 (by decide) (fun c_2 => ?_) (fun c9 => absurd (by decide) c9)
  refine lv_iconst (v := (-1)) hx hb dX6_farthest_20 (by decide) ?_
  exact rd_iret hx hb hr hk (rfl) dX6_farthest_21

set_option maxHeartbeats 4000000 in
set_option maxRecDepth 100000 in
theorem cf_lacks {l : Launch} {D : va_G} {q : Nat → ClassId} {a : Nat → Nat} {x : Int32} {y : Int32} : Met l yX6_lacks (Cond.code yX6_lacks cX6_lacks 3 (some .int) :: w_all) ({ frames := 2, cells := 0, slots := 0, locals := 41 }) (rd_P D q [.ref (a 0), .int x, .int y] (fb_w a q)) (vp_Si (fun r => r = (-1))) 0 0 (fun _ => False) := by
  refine rd_start (by decide) (Nat.le_of_ble_eq_true rfl) ?_
  intro p e s m below meth c ls hx hb hr hml hown ht hk hP hQ hl
  have hK := hQ.1
  have hown : s.vm.findClass RX6 = some m.cls := hown
  have hl : lv_has ls 3 [(0, .ref (a 0)), (1, .int x), (2, .int y)] := hl
  have hP := hP.sub (ws' := [((a 0), .inr (5, [.ref (a 1), .ref (a 3), .ref (a 16), .ref (a 29), .ref (a 33), .ref (a 41), .ref (a 43)])), ((a 3), .inr (0, [.int 0, .int 0, .int 0, .int 0, .int 0, .int 0, .ref (a 4), .ref (a 5), .ref (a 6), .ref (a 7), .ref (a 8), .ref (a 9), .ref (a 10), .ref (a 11), .ref (a 12), .ref (a 13), .ref (a 14), .ref (a 15)]))]) [0, 3] rfl
  refine lv_aload_n hx hb dX6_lacks_0 rfl (lv_at hl 0 rfl) ?_
  refine fl_get (C := RX6) (T := TX6) (N := 7) (ci := 5) (v := .ref (a 3)) hx hb ht in_X6 hown hK hP 0 rfl rfl 1 (by decide) mw_356 rfl dX6_lacks_1 ?_
  refine lv_iload_n hx hb dX6_lacks_4 rfl (lv_at hl 1 rfl) ?_
  refine vp_callSi (rd_wV (wc := [((a 3), .inr (0, [.int 0, .int 0, .int 0, .int 0, .int 0, .int 0, .ref (a 4), .ref (a 5), .ref (a 6), .ref (a 7), .ref (a 8), .ref (a 9), .ref (a 10), .ref (a 11), .ref (a 12), .ref (a 13), .ref (a 14), .ref (a 15)]))]) (As := [.int x]) (rest := []) hx hb hml hown ht (ct_Board_hasCell) wd_X0_hasCell mw_730 hQ (hP.sub [1] rfl) rfl rfl rfl hl.1 rfl (Nat.le_of_ble_eq_true rfl) dX6_lacks_5 ⟨Nat.le_of_ble_eq_true rfl, Nat.le_of_ble_eq_true rfl, rfl, rfl⟩ ⟨Nat.le_of_ble_eq_true rfl, Nat.le_of_ble_eq_true rfl⟩) (fun r_1 er_1 => ?_)
  obtain rfl : r_1 = 0 := er_1
  refine lv_if_eq (tgt := 20) hx hb dX6_lacks_8 (by decide) (fun c_2 => ?_) (fun c9 => absurd (by decide) c9)
  refine lv_iconst (v := (-1)) hx hb dX6_lacks_20 (by decide) ?_
  exact rd_iret hx hb hr hk (rfl) dX6_lacks_21

set_option maxHeartbeats 4000000 in
set_option maxRecDepth 100000 in
theorem cf_unlike {l : Launch} {D : va_G} {q : Nat → ClassId} {a : Nat → Nat} {x : Int32} {y : Int32} : Met l yX6_unlike (Cond.code yX6_unlike cX6_unlike 7 (some .int) :: w_all) ({ frames := 1, cells := 0, slots := 0, locals := 21 }) (rd_P D q [.ref (a 0), .int x, .int y] (fb_w a q)) (vp_Si (fun r => r = (-1))) 0 0 (fun _ => False) := by
  refine rd_start (by decide) (Nat.le_of_ble_eq_true rfl) ?_
  intro p e s m below meth c ls hx hb hr hml hown ht hk hP hQ hl
  have hK := hQ.1
  have hown : s.vm.findClass RX6 = some m.cls := hown
  have hl : lv_has ls 7 [(0, .ref (a 0)), (1, .int x), (2, .int y)] := hl
  have hP := hP.sub (ws' := [((a 0), .inr (5, [.ref (a 1), .ref (a 3), .ref (a 16), .ref (a 29), .ref (a 33), .ref (a 41), .ref (a 43)])), ((a 3), .inr (0, [.int 0, .int 0, .int 0, .int 0, .int 0, .int 0, .ref (a 4), .ref (a 5), .ref (a 6), .ref (a 7), .ref (a 8), .ref (a 9), .ref (a 10), .ref (a 11), .ref (a 12), .ref (a 13), .ref (a 14), .ref (a 15)]))]) [0, 3] rfl
  refine lv_aload_n hx hb dX6_unlike_0 rfl (lv_at hl 0 rfl) ?_
  refine fl_get (C := RX6) (T := TX6) (N := 7) (ci := 5) (v := .ref (a 3)) hx hb ht in_X6 hown hK hP 0 rfl rfl 1 (by decide) mw_356 rfl dX6_unlike_1 ?_
  refine lv_iload_n hx hb dX6_unlike_4 rfl (lv_at hl 1 rfl) ?_
  refine vp_callSi (rd_wV (wc := [((a 3), .inr (0, [.int 0, .int 0, .int 0, .int 0, .int 0, .int 0, .ref (a 4), .ref (a 5), .ref (a 6), .ref (a 7), .ref (a 8), .ref (a 9), .ref (a 10), .ref (a 11), .ref (a 12), .ref (a 13), .ref (a 14), .ref (a 15)]))]) (As := [.int x]) (rest := []) hx hb hml hown ht (ct_Board_hasRow) wd_X0_hasRow mw_621 hQ (hP.sub [1] rfl) rfl rfl rfl hl.1 rfl (Nat.le_of_ble_eq_true rfl) dX6_unlike_5 ⟨Nat.le_of_ble_eq_true rfl, Nat.le_of_ble_eq_true rfl, rfl, rfl⟩ ⟨Nat.le_of_ble_eq_true rfl, Nat.le_of_ble_eq_true rfl⟩) (fun r_1 er_1 => ?_)
  obtain rfl : r_1 = 0 := er_1
  refine lv_if_eq (tgt := 27) hx hb dX6_unlike_8 (by decide) (fun c_2 => ?_) (fun c9 => absurd (by decide) c9)
  refine lv_iconst (v := (-1)) hx hb dX6_unlike_27 (by decide) ?_
  exact rd_iret hx hb hr hk (rfl) dX6_unlike_28
