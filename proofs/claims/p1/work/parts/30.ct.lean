set_option maxHeartbeats 4000000 in
set_option maxRecDepth 100000 in
theorem cp_tick {l : Launch} {D : va_G} {q : Nat → ClassId} {b : Nat → Nat} {x : Int32} : Met l yX7_tick (Cond.code yX7_tick cX7_tick 4 (some .int) :: w_all) ({ frames := 2, cells := 0, slots := 0, locals := 40 }) (rd_P D q [.ref (b 0), .int x] (md_w b q)) (vp_Si (fun r => r = (-1))) 0 0 (fun _ => False) := by
  refine rd_start (by decide) (Nat.le_of_ble_eq_true rfl) ?_
  intro p e s m below meth c ls hx hb hr hml hown ht hk hP hQ hV hl
  have hK := hQ.1
  have hown : s.vm.findClass RX7 = some m.cls := hown
  have hl : lv_has ls 4 [(0, .ref (b 0)), (1, .int x)] := hl
  have hP := hP.sub (ws' := [((b 0), .inr (6, [.ref (b 1), .ref (b 2), .int 0, .ref (b 3), .ref (b 4), .ref (b 5), .long 0, .int 0, .int 0, .ref (b 6), .int 0, .int 0, .ref (b 7), .int 0, .int 0, .int 0, .int 0, .int 0, .int 0, .int 0, .int 0, .int 0, .int 0])), ((b 1), .inl (q 1, 6896, .inr (.inl (fun _ => 0))))]) [0, 1] rfl
  refine lv_aload_n hx hb dX7_tick_0 rfl (lv_at hl 0 rfl) ?_
  refine vp_callSi (rd_wV (wc := [((b 0), .inr (6, [.ref (b 1), .ref (b 2), .int 0, .ref (b 3), .ref (b 4), .ref (b 5), .long 0, .int 0, .int 0, .ref (b 6), .int 0, .int 0, .ref (b 7), .int 0, .int 0, .int 0, .int 0, .int 0, .int 0, .int 0, .int 0, .int 0, .int 0])), ((b 1), .inl (q 1, 6896, .inr (.inl (fun _ => 0))))]) (As := []) (rest := []) hx hb hml hown ht (cm_isBoard) wd_X7_isBoard mw_1283 hQ hV va_S.rf (hP.sub [0, 1] rfl) rfl rfl rfl hl.1 rfl (Nat.le_of_ble_eq_true rfl) dX7_tick_1 ⟨Nat.le_of_ble_eq_true rfl, Nat.le_of_ble_eq_true rfl, rfl, rfl⟩ ⟨Nat.le_of_ble_eq_true rfl, Nat.le_of_ble_eq_true rfl⟩) (fun r_1 er_1 => ?_)
  obtain rfl : r_1 = 0 := er_1
  refine lv_if_eq (tgt := 19) hx hb dX7_tick_4 (by decide) (fun c_2 => ?_) (fun c9 => absurd (by decide) c9)
  refine lv_iconst (v := (-1)) hx hb dX7_tick_19 (by decide) ?_
  exact rd_iret hx hb hr hk (rfl) dX7_tick_20

set_option maxHeartbeats 4000000 in
set_option maxRecDepth 100000 in
theorem cp_settle {l : Launch} {D : va_G} {q : Nat → ClassId} {b : Nat → Nat} : Met l yX7_settle (Cond.code yX7_settle cX7_settle 1 (some .int) :: w_all) ({ frames := 2, cells := 0, slots := 0, locals := 40 }) (rd_P D q [.ref (b 0)] (md_w b q)) (vp_Si (fun r => r = (-1))) 0 0 (fun _ => False) := by
  refine rd_start (by decide) (Nat.le_of_ble_eq_true rfl) ?_
  intro p e s m below meth c ls hx hb hr hml hown ht hk hP hQ hV hl
  have hK := hQ.1
  have hown : s.vm.findClass RX7 = some m.cls := hown
  have hl : lv_has ls 1 [(0, .ref (b 0))] := hl
  have hP := hP.sub (ws' := [((b 0), .inr (6, [.ref (b 1), .ref (b 2), .int 0, .ref (b 3), .ref (b 4), .ref (b 5), .long 0, .int 0, .int 0, .ref (b 6), .int 0, .int 0, .ref (b 7), .int 0, .int 0, .int 0, .int 0, .int 0, .int 0, .int 0, .int 0, .int 0, .int 0])), ((b 1), .inl (q 1, 6896, .inr (.inl (fun _ => 0))))]) [0, 1] rfl
  refine lv_aload_n hx hb dX7_settle_0 rfl (lv_at hl 0 rfl) ?_
  refine vp_callSi (rd_wV (wc := [((b 0), .inr (6, [.ref (b 1), .ref (b 2), .int 0, .ref (b 3), .ref (b 4), .ref (b 5), .long 0, .int 0, .int 0, .ref (b 6), .int 0, .int 0, .ref (b 7), .int 0, .int 0, .int 0, .int 0, .int 0, .int 0, .int 0, .int 0, .int 0, .int 0])), ((b 1), .inl (q 1, 6896, .inr (.inl (fun _ => 0))))]) (As := []) (rest := []) hx hb hml hown ht (cm_isBoard) wd_X7_isBoard mw_1283 hQ hV va_S.rf (hP.sub [0, 1] rfl) rfl rfl rfl hl.1 rfl (Nat.le_of_ble_eq_true rfl) dX7_settle_1 ⟨Nat.le_of_ble_eq_true rfl, Nat.le_of_ble_eq_true rfl, rfl, rfl⟩ ⟨Nat.le_of_ble_eq_true rfl, Nat.le_of_ble_eq_true rfl⟩) (fun r_1 er_1 => ?_)
  obtain rfl : r_1 = 0 := er_1
  refine lv_if_ne (tgt := 9) hx hb dX7_settle_4 (by decide) (fun c9 => absurd c9 (by decide)) (fun c_2 => ?_)
  refine lv_iconst (v := (-1)) hx hb dX7_settle_7 (by decide) ?_
  exact rd_iret hx hb hr hk (rfl) dX7_settle_8

set_option maxHeartbeats 4000000 in
set_option maxRecDepth 100000 in
theorem cp_lose {l : Launch} {D : va_G} {q : Nat → ClassId} {b : Nat → Nat} {x : Int32} {y : Int32} : Met l yX7_lose (Cond.code yX7_lose cX7_lose 4 (some .int) :: w_all) ({ frames := 3, cells := 0, slots := 0, locals := 61 }) (rd_P D q [.ref (b 0), .int x, .int y] (md_w b q)) (vp_Si (fun r => r = (-1))) 0 0 (fun _ => False) := by
  refine rd_start (by decide) (Nat.le_of_ble_eq_true rfl) ?_
  intro p e s m below meth c ls hx hb hr hml hown ht hk hP hQ hV hl
  have hK := hQ.1
  have hown : s.vm.findClass RX7 = some m.cls := hown
  have hl : lv_has ls 4 [(0, .ref (b 0)), (1, .int x), (2, .int y)] := hl
  have hP := hP.sub (ws' := [((b 0), .inr (6, [.ref (b 1), .ref (b 2), .int 0, .ref (b 3), .ref (b 4), .ref (b 5), .long 0, .int 0, .int 0, .ref (b 6), .int 0, .int 0, .ref (b 7), .int 0, .int 0, .int 0, .int 0, .int 0, .int 0, .int 0, .int 0, .int 0, .int 0])), ((b 1), .inl (q 1, 6896, .inr (.inl (fun _ => 0))))]) [0, 1] rfl
  refine lv_aload_n hx hb dX7_lose_0 rfl (lv_at hl 0 rfl) ?_
  refine lv_iload_n hx hb dX7_lose_1 rfl (lv_at hl 1 rfl) ?_
  refine vp_callSi (rd_wV (wc := [((b 0), .inr (6, [.ref (b 1), .ref (b 2), .int 0, .ref (b 3), .ref (b 4), .ref (b 5), .long 0, .int 0, .int 0, .ref (b 6), .int 0, .int 0, .ref (b 7), .int 0, .int 0, .int 0, .int 0, .int 0, .int 0, .int 0, .int 0, .int 0, .int 0])), ((b 1), .inl (q 1, 6896, .inr (.inl (fun _ => 0))))]) (As := [.int x]) (rest := []) hx hb hml hown ht (cm_isCell) wd_X7_isCell mw_1340 hQ hV va_S.rf (hP.sub [0, 1] rfl) rfl rfl rfl hl.1 rfl (Nat.le_of_ble_eq_true rfl) dX7_lose_2 ⟨Nat.le_of_ble_eq_true rfl, Nat.le_of_ble_eq_true rfl, rfl, rfl⟩ ⟨Nat.le_of_ble_eq_true rfl, Nat.le_of_ble_eq_true rfl⟩) (fun r_1 er_1 => ?_)
  obtain rfl : r_1 = 0 := er_1
  refine lv_if_eq (tgt := 20) hx hb dX7_lose_5 (by decide) (fun c_2 => ?_) (fun c9 => absurd (by decide) c9)
  refine lv_iconst (v := (-1)) hx hb dX7_lose_20 (by decide) ?_
  exact rd_iret hx hb hr hk (rfl) dX7_lose_21

set_option maxHeartbeats 4000000 in
set_option maxRecDepth 100000 in
theorem cp_wear {l : Launch} {D : va_G} {q : Nat → ClassId} {b : Nat → Nat} {x : Int32} {y : Int32} : Met l yX7_wear (Cond.code yX7_wear cX7_wear 3 (some .int) :: w_all) ({ frames := 4, cells := 0, slots := 0, locals := 83 }) (rd_P D q [.ref (b 0), .int x, .int y] (md_w b q)) (vp_Si (fun r => r = (-1))) 0 0 (fun _ => False) := by
  refine rd_start (by decide) (Nat.le_of_ble_eq_true rfl) ?_
  intro p e s m below meth c ls hx hb hr hml hown ht hk hP hQ hV hl
  have hK := hQ.1
  have hown : s.vm.findClass RX7 = some m.cls := hown
  have hl : lv_has ls 3 [(0, .ref (b 0)), (1, .int x), (2, .int y)] := hl
  have hP := hP.sub (ws' := [((b 0), .inr (6, [.ref (b 1), .ref (b 2), .int 0, .ref (b 3), .ref (b 4), .ref (b 5), .long 0, .int 0, .int 0, .ref (b 6), .int 0, .int 0, .ref (b 7), .int 0, .int 0, .int 0, .int 0, .int 0, .int 0, .int 0, .int 0, .int 0, .int 0])), ((b 1), .inl (q 1, 6896, .inr (.inl (fun _ => 0))))]) [0, 1] rfl
  refine lv_aload_n hx hb dX7_wear_0 rfl (lv_at hl 0 rfl) ?_
  refine lv_iload_n hx hb dX7_wear_1 rfl (lv_at hl 1 rfl) ?_
  refine lv_iload_n hx hb dX7_wear_2 rfl (lv_at hl 2 rfl) ?_
  refine vp_callSi (rd_wV (wc := [((b 0), .inr (6, [.ref (b 1), .ref (b 2), .int 0, .ref (b 3), .ref (b 4), .ref (b 5), .long 0, .int 0, .int 0, .ref (b 6), .int 0, .int 0, .ref (b 7), .int 0, .int 0, .int 0, .int 0, .int 0, .int 0, .int 0, .int 0, .int 0, .int 0])), ((b 1), .inl (q 1, 6896, .inr (.inl (fun _ => 0))))]) (As := [.int x, .int y]) (rest := []) hx hb hml hown ht (cm_isFlap) wd_X7_isFlap mw_1349 hQ hV va_S.rf (hP.sub [0, 1] rfl) rfl rfl rfl hl.1 rfl (Nat.le_of_ble_eq_true rfl) dX7_wear_3 ⟨Nat.le_of_ble_eq_true rfl, Nat.le_of_ble_eq_true rfl, rfl, rfl⟩ ⟨Nat.le_of_ble_eq_true rfl, Nat.le_of_ble_eq_true rfl⟩) (fun r_1 er_1 => ?_)
  obtain rfl : r_1 = 0 := er_1
  refine lv_if_ne (tgt := 11) hx hb dX7_wear_6 (by decide) (fun c9 => absurd c9 (by decide)) (fun c_2 => ?_)
  refine lv_iconst (v := (-1)) hx hb dX7_wear_9 (by decide) ?_
  exact rd_iret hx hb hr hk (rfl) dX7_wear_10

set_option maxHeartbeats 4000000 in
set_option maxRecDepth 100000 in
theorem cp_mend {l : Launch} {D : va_G} {q : Nat → ClassId} {b : Nat → Nat} {x : Int32} {y : Int32} : Met l yX7_mend (Cond.code yX7_mend cX7_mend 3 (some .int) :: w_all) ({ frames := 4, cells := 0, slots := 0, locals := 83 }) (rd_P D q [.ref (b 0), .int x, .int y] (md_w b q)) (vp_Si (fun r => r = (-1))) 0 0 (fun _ => False) := by
  refine rd_start (by decide) (Nat.le_of_ble_eq_true rfl) ?_
  intro p e s m below meth c ls hx hb hr hml hown ht hk hP hQ hV hl
  have hK := hQ.1
  have hown : s.vm.findClass RX7 = some m.cls := hown
  have hl : lv_has ls 3 [(0, .ref (b 0)), (1, .int x), (2, .int y)] := hl
  have hP := hP.sub (ws' := [((b 0), .inr (6, [.ref (b 1), .ref (b 2), .int 0, .ref (b 3), .ref (b 4), .ref (b 5), .long 0, .int 0, .int 0, .ref (b 6), .int 0, .int 0, .ref (b 7), .int 0, .int 0, .int 0, .int 0, .int 0, .int 0, .int 0, .int 0, .int 0, .int 0])), ((b 1), .inl (q 1, 6896, .inr (.inl (fun _ => 0))))]) [0, 1] rfl
  refine lv_aload_n hx hb dX7_mend_0 rfl (lv_at hl 0 rfl) ?_
  refine lv_iload_n hx hb dX7_mend_1 rfl (lv_at hl 1 rfl) ?_
  refine lv_iload_n hx hb dX7_mend_2 rfl (lv_at hl 2 rfl) ?_
  refine vp_callSi (rd_wV (wc := [((b 0), .inr (6, [.ref (b 1), .ref (b 2), .int 0, .ref (b 3), .ref (b 4), .ref (b 5), .long 0, .int 0, .int 0, .ref (b 6), .int 0, .int 0, .ref (b 7), .int 0, .int 0, .int 0, .int 0, .int 0, .int 0, .int 0, .int 0, .int 0, .int 0])), ((b 1), .inl (q 1, 6896, .inr (.inl (fun _ => 0))))]) (As := [.int x, .int y]) (rest := []) hx hb hml hown ht (cm_isFlap) wd_X7_isFlap mw_1349 hQ hV va_S.rf (hP.sub [0, 1] rfl) rfl rfl rfl hl.1 rfl (Nat.le_of_ble_eq_true rfl) dX7_mend_3 ⟨Nat.le_of_ble_eq_true rfl, Nat.le_of_ble_eq_true rfl, rfl, rfl⟩ ⟨Nat.le_of_ble_eq_true rfl, Nat.le_of_ble_eq_true rfl⟩) (fun r_1 er_1 => ?_)
  obtain rfl : r_1 = 0 := er_1
  refine lv_if_ne (tgt := 11) hx hb dX7_mend_6 (by decide) (fun c9 => absurd c9 (by decide)) (fun c_2 => ?_)
  refine lv_iconst (v := (-1)) hx hb dX7_mend_9 (by decide) ?_
  exact rd_iret hx hb hr hk (rfl) dX7_mend_10

set_option maxHeartbeats 4000000 in
set_option maxRecDepth 100000 in
theorem cp_limit {l : Launch} {D : va_G} {q : Nat → ClassId} {b : Nat → Nat} {x : Int32} : Met l yX7_limit (Cond.code yX7_limit cX7_limit 3 (some .int) :: w_all) ({ frames := 2, cells := 0, slots := 0, locals := 40 }) (rd_P D q [.ref (b 0), .int x] (md_w b q)) (vp_Si (fun r => r = (-1))) 0 0 (fun _ => False) := by
  refine rd_start (by decide) (Nat.le_of_ble_eq_true rfl) ?_
  intro p e s m below meth c ls hx hb hr hml hown ht hk hP hQ hV hl
  have hK := hQ.1
  have hown : s.vm.findClass RX7 = some m.cls := hown
  have hl : lv_has ls 3 [(0, .ref (b 0)), (1, .int x)] := hl
  have hP := hP.sub (ws' := [((b 0), .inr (6, [.ref (b 1), .ref (b 2), .int 0, .ref (b 3), .ref (b 4), .ref (b 5), .long 0, .int 0, .int 0, .ref (b 6), .int 0, .int 0, .ref (b 7), .int 0, .int 0, .int 0, .int 0, .int 0, .int 0, .int 0, .int 0, .int 0, .int 0])), ((b 1), .inl (q 1, 6896, .inr (.inl (fun _ => 0))))]) [0, 1] rfl
  refine lv_aload_n hx hb dX7_limit_0 rfl (lv_at hl 0 rfl) ?_
  refine vp_callSi (rd_wV (wc := [((b 0), .inr (6, [.ref (b 1), .ref (b 2), .int 0, .ref (b 3), .ref (b 4), .ref (b 5), .long 0, .int 0, .int 0, .ref (b 6), .int 0, .int 0, .ref (b 7), .int 0, .int 0, .int 0, .int 0, .int 0, .int 0, .int 0, .int 0, .int 0, .int 0])), ((b 1), .inl (q 1, 6896, .inr (.inl (fun _ => 0))))]) (As := []) (rest := []) hx hb hml hown ht (cm_isBoard) wd_X7_isBoard mw_1283 hQ hV va_S.rf (hP.sub [0, 1] rfl) rfl rfl rfl hl.1 rfl (Nat.le_of_ble_eq_true rfl) dX7_limit_1 ⟨Nat.le_of_ble_eq_true rfl, Nat.le_of_ble_eq_true rfl, rfl, rfl⟩ ⟨Nat.le_of_ble_eq_true rfl, Nat.le_of_ble_eq_true rfl⟩) (fun r_1 er_1 => ?_)
  obtain rfl : r_1 = 0 := er_1
  refine lv_if_eq (tgt := 19) hx hb dX7_limit_4 (by decide) (fun c_2 => ?_) (fun c9 => absurd (by decide) c9)
  refine lv_iconst (v := (-1)) hx hb dX7_limit_19 (by decide) ?_
  exact rd_iret hx hb hr hk (rfl) dX7_limit_20

set_option maxHeartbeats 4000000 in
set_option maxRecDepth 100000 in
theorem cp_exchange {l : Launch} {D : va_G} {q : Nat → ClassId} {b : Nat → Nat} {x : Int32} {y : Int32} {z : Int32} : Met l yX7_exchange (Cond.code yX7_exchange cX7_exchange 8 (some .int) :: w_all) ({ frames := 2, cells := 0, slots := 0, locals := 46 }) (rd_P D q [.ref (b 0), .int x, .int y, .int z] (md_w b q)) (vp_Si (fun r => r = (-1))) 0 0 (fun _ => False) := by
  refine rd_start (by decide) (Nat.le_of_ble_eq_true rfl) ?_
  intro p e s m below meth c ls hx hb hr hml hown ht hk hP hQ hV hl
  have hK := hQ.1
  have hown : s.vm.findClass RX7 = some m.cls := hown
  have hl : lv_has ls 8 [(0, .ref (b 0)), (1, .int x), (2, .int y), (3, .int z)] := hl
  have hP := hP.sub (ws' := [((b 0), .inr (6, [.ref (b 1), .ref (b 2), .int 0, .ref (b 3), .ref (b 4), .ref (b 5), .long 0, .int 0, .int 0, .ref (b 6), .int 0, .int 0, .ref (b 7), .int 0, .int 0, .int 0, .int 0, .int 0, .int 0, .int 0, .int 0, .int 0, .int 0])), ((b 1), .inl (q 1, 6896, .inr (.inl (fun _ => 0))))]) [0, 1] rfl
  refine lv_aload_n hx hb dX7_exchange_0 rfl (lv_at hl 0 rfl) ?_
  refine lv_iload_n hx hb dX7_exchange_1 rfl (lv_at hl 1 rfl) ?_
  refine vp_callSi (rd_wV (wc := [((b 0), .inr (6, [.ref (b 1), .ref (b 2), .int 0, .ref (b 3), .ref (b 4), .ref (b 5), .long 0, .int 0, .int 0, .ref (b 6), .int 0, .int 0, .ref (b 7), .int 0, .int 0, .int 0, .int 0, .int 0, .int 0, .int 0, .int 0, .int 0, .int 0])), ((b 1), .inl (q 1, 6896, .inr (.inl (fun _ => 0))))]) (As := [.int x]) (rest := []) hx hb hml hown ht (cm_isDrum) wd_X7_isDrum mw_1373 hQ hV va_S.rf (hP.sub [0, 1] rfl) rfl rfl rfl hl.1 rfl (Nat.le_of_ble_eq_true rfl) dX7_exchange_2 ⟨Nat.le_of_ble_eq_true rfl, Nat.le_of_ble_eq_true rfl, rfl, rfl⟩ ⟨Nat.le_of_ble_eq_true rfl, Nat.le_of_ble_eq_true rfl⟩) (fun r_1 er_1 => ?_)
  obtain rfl : r_1 = 0 := er_1
  refine lv_if_eq (tgt := 47) hx hb dX7_exchange_5 (by decide) (fun c_2 => ?_) (fun c9 => absurd (by decide) c9)
  refine lv_iconst (v := (-1)) hx hb dX7_exchange_47 (by decide) ?_
  exact rd_iret hx hb hr hk (rfl) dX7_exchange_48

set_option maxHeartbeats 4000000 in
set_option maxRecDepth 100000 in
theorem cp_cell {l : Launch} {D : va_G} {q : Nat → ClassId} {b : Nat → Nat} {x : Int32} {y : Int32} : Met l yX7_cell (Cond.code yX7_cell cX7_cell 3 (some .int) :: w_all) ({ frames := 3, cells := 0, slots := 0, locals := 61 }) (rd_P D q [.ref (b 0), .int x, .int y] (md_w b q)) (vp_Si (fun r => r = (-1))) 0 0 (fun _ => False) := by
  refine rd_start (by decide) (Nat.le_of_ble_eq_true rfl) ?_
  intro p e s m below meth c ls hx hb hr hml hown ht hk hP hQ hV hl
  have hK := hQ.1
  have hown : s.vm.findClass RX7 = some m.cls := hown
  have hl : lv_has ls 3 [(0, .ref (b 0)), (1, .int x), (2, .int y)] := hl
  have hP := hP.sub (ws' := [((b 0), .inr (6, [.ref (b 1), .ref (b 2), .int 0, .ref (b 3), .ref (b 4), .ref (b 5), .long 0, .int 0, .int 0, .ref (b 6), .int 0, .int 0, .ref (b 7), .int 0, .int 0, .int 0, .int 0, .int 0, .int 0, .int 0, .int 0, .int 0, .int 0])), ((b 1), .inl (q 1, 6896, .inr (.inl (fun _ => 0))))]) [0, 1] rfl
  refine lv_aload_n hx hb dX7_cell_0 rfl (lv_at hl 0 rfl) ?_
  refine lv_iload_n hx hb dX7_cell_1 rfl (lv_at hl 1 rfl) ?_
  refine vp_callSi (rd_wV (wc := [((b 0), .inr (6, [.ref (b 1), .ref (b 2), .int 0, .ref (b 3), .ref (b 4), .ref (b 5), .long 0, .int 0, .int 0, .ref (b 6), .int 0, .int 0, .ref (b 7), .int 0, .int 0, .int 0, .int 0, .int 0, .int 0, .int 0, .int 0, .int 0, .int 0])), ((b 1), .inl (q 1, 6896, .inr (.inl (fun _ => 0))))]) (As := [.int x]) (rest := []) hx hb hml hown ht (cm_isCell) wd_X7_isCell mw_1340 hQ hV va_S.rf (hP.sub [0, 1] rfl) rfl rfl rfl hl.1 rfl (Nat.le_of_ble_eq_true rfl) dX7_cell_2 ⟨Nat.le_of_ble_eq_true rfl, Nat.le_of_ble_eq_true rfl, rfl, rfl⟩ ⟨Nat.le_of_ble_eq_true rfl, Nat.le_of_ble_eq_true rfl⟩) (fun r_1 er_1 => ?_)
  obtain rfl : r_1 = 0 := er_1
  refine lv_if_ne (tgt := 10) hx hb dX7_cell_5 (by decide) (fun c9 => absurd c9 (by decide)) (fun c_2 => ?_)
  refine lv_iconst (v := (-1)) hx hb dX7_cell_8 (by decide) ?_
  exact rd_iret hx hb hr hk (rfl) dX7_cell_9

set_option maxHeartbeats 4000000 in
set_option maxRecDepth 100000 in
theorem cp_drum {l : Launch} {D : va_G} {q : Nat → ClassId} {b : Nat → Nat} {x : Int32} {y : Int32} : Met l yX7_drum (Cond.code yX7_drum cX7_drum 3 (some .int) :: w_all) ({ frames := 2, cells := 0, slots := 0, locals := 46 }) (rd_P D q [.ref (b 0), .int x, .int y] (md_w b q)) (vp_Si (fun r => r = (-1))) 0 0 (fun _ => False) := by
  refine rd_start (by decide) (Nat.le_of_ble_eq_true rfl) ?_
  intro p e s m below meth c ls hx hb hr hml hown ht hk hP hQ hV hl
  have hK := hQ.1
  have hown : s.vm.findClass RX7 = some m.cls := hown
  have hl : lv_has ls 3 [(0, .ref (b 0)), (1, .int x), (2, .int y)] := hl
  have hP := hP.sub (ws' := [((b 0), .inr (6, [.ref (b 1), .ref (b 2), .int 0, .ref (b 3), .ref (b 4), .ref (b 5), .long 0, .int 0, .int 0, .ref (b 6), .int 0, .int 0, .ref (b 7), .int 0, .int 0, .int 0, .int 0, .int 0, .int 0, .int 0, .int 0, .int 0, .int 0])), ((b 1), .inl (q 1, 6896, .inr (.inl (fun _ => 0))))]) [0, 1] rfl
  refine lv_aload_n hx hb dX7_drum_0 rfl (lv_at hl 0 rfl) ?_
  refine lv_iload_n hx hb dX7_drum_1 rfl (lv_at hl 1 rfl) ?_
  refine vp_callSi (rd_wV (wc := [((b 0), .inr (6, [.ref (b 1), .ref (b 2), .int 0, .ref (b 3), .ref (b 4), .ref (b 5), .long 0, .int 0, .int 0, .ref (b 6), .int 0, .int 0, .ref (b 7), .int 0, .int 0, .int 0, .int 0, .int 0, .int 0, .int 0, .int 0, .int 0, .int 0])), ((b 1), .inl (q 1, 6896, .inr (.inl (fun _ => 0))))]) (As := [.int x]) (rest := []) hx hb hml hown ht (cm_isDrum) wd_X7_isDrum mw_1373 hQ hV va_S.rf (hP.sub [0, 1] rfl) rfl rfl rfl hl.1 rfl (Nat.le_of_ble_eq_true rfl) dX7_drum_2 ⟨Nat.le_of_ble_eq_true rfl, Nat.le_of_ble_eq_true rfl, rfl, rfl⟩ ⟨Nat.le_of_ble_eq_true rfl, Nat.le_of_ble_eq_true rfl⟩) (fun r_1 er_1 => ?_)
  obtain rfl : r_1 = 0 := er_1
  refine lv_if_ne (tgt := 10) hx hb dX7_drum_5 (by decide) (fun c9 => absurd c9 (by decide)) (fun c_2 => ?_)
  refine lv_iconst (v := (-1)) hx hb dX7_drum_8 (by decide) ?_
  exact rd_iret hx hb hr hk (rfl) dX7_drum_9

set_option maxHeartbeats 4000000 in
set_option maxRecDepth 100000 in
theorem cp_sign {l : Launch} {D : va_G} {q : Nat → ClassId} {b : Nat → Nat} {x : Int32} {y : Int32} : Met l yX7_sign (Cond.code yX7_sign cX7_sign 3 (some .int) :: w_all) ({ frames := 2, cells := 0, slots := 0, locals := 46 }) (rd_P D q [.ref (b 0), .int x, .int y] (md_w b q)) (vp_Si (fun r => r = (-1))) 0 0 (fun _ => False) := by
  refine rd_start (by decide) (Nat.le_of_ble_eq_true rfl) ?_
  intro p e s m below meth c ls hx hb hr hml hown ht hk hP hQ hV hl
  have hK := hQ.1
  have hown : s.vm.findClass RX7 = some m.cls := hown
  have hl : lv_has ls 3 [(0, .ref (b 0)), (1, .int x), (2, .int y)] := hl
  have hP := hP.sub (ws' := [((b 0), .inr (6, [.ref (b 1), .ref (b 2), .int 0, .ref (b 3), .ref (b 4), .ref (b 5), .long 0, .int 0, .int 0, .ref (b 6), .int 0, .int 0, .ref (b 7), .int 0, .int 0, .int 0, .int 0, .int 0, .int 0, .int 0, .int 0, .int 0, .int 0])), ((b 1), .inl (q 1, 6896, .inr (.inl (fun _ => 0))))]) [0, 1] rfl
  refine lv_aload_n hx hb dX7_sign_0 rfl (lv_at hl 0 rfl) ?_
  refine lv_iload_n hx hb dX7_sign_1 rfl (lv_at hl 1 rfl) ?_
  refine vp_callSi (rd_wV (wc := [((b 0), .inr (6, [.ref (b 1), .ref (b 2), .int 0, .ref (b 3), .ref (b 4), .ref (b 5), .long 0, .int 0, .int 0, .ref (b 6), .int 0, .int 0, .ref (b 7), .int 0, .int 0, .int 0, .int 0, .int 0, .int 0, .int 0, .int 0, .int 0, .int 0])), ((b 1), .inl (q 1, 6896, .inr (.inl (fun _ => 0))))]) (As := [.int x]) (rest := []) hx hb hml hown ht (cm_isDrum) wd_X7_isDrum mw_1373 hQ hV va_S.rf (hP.sub [0, 1] rfl) rfl rfl rfl hl.1 rfl (Nat.le_of_ble_eq_true rfl) dX7_sign_2 ⟨Nat.le_of_ble_eq_true rfl, Nat.le_of_ble_eq_true rfl, rfl, rfl⟩ ⟨Nat.le_of_ble_eq_true rfl, Nat.le_of_ble_eq_true rfl⟩) (fun r_1 er_1 => ?_)
  obtain rfl : r_1 = 0 := er_1
  refine lv_if_eq (tgt := 34) hx hb dX7_sign_5 (by decide) (fun c_2 => ?_) (fun c9 => absurd (by decide) c9)
  refine lv_iconst (v := (-1)) hx hb dX7_sign_34 (by decide) ?_
  exact rd_iret hx hb hr hk (rfl) dX7_sign_35

set_option maxHeartbeats 4000000 in
set_option maxRecDepth 100000 in
theorem cp_at {l : Launch} {D : va_G} {q : Nat → ClassId} {b : Nat → Nat} {x : Int32} {y : Int32} {z : Int32} : Met l yX7_at (Cond.code yX7_at cX7_at 4 (some .int) :: w_all) ({ frames := 2, cells := 0, slots := 0, locals := 46 }) (rd_P D q [.ref (b 0), .int x, .int y, .int z] (md_w b q)) (vp_Si (fun r => r = (-1))) 0 0 (fun _ => False) := by
  refine rd_start (by decide) (Nat.le_of_ble_eq_true rfl) ?_
  intro p e s m below meth c ls hx hb hr hml hown ht hk hP hQ hV hl
  have hK := hQ.1
  have hown : s.vm.findClass RX7 = some m.cls := hown
  have hl : lv_has ls 4 [(0, .ref (b 0)), (1, .int x), (2, .int y), (3, .int z)] := hl
  have hP := hP.sub (ws' := [((b 0), .inr (6, [.ref (b 1), .ref (b 2), .int 0, .ref (b 3), .ref (b 4), .ref (b 5), .long 0, .int 0, .int 0, .ref (b 6), .int 0, .int 0, .ref (b 7), .int 0, .int 0, .int 0, .int 0, .int 0, .int 0, .int 0, .int 0, .int 0, .int 0])), ((b 1), .inl (q 1, 6896, .inr (.inl (fun _ => 0))))]) [0, 1] rfl
  refine lv_aload_n hx hb dX7_at_0 rfl (lv_at hl 0 rfl) ?_
  refine lv_iload_n hx hb dX7_at_1 rfl (lv_at hl 1 rfl) ?_
  refine vp_callSi (rd_wV (wc := [((b 0), .inr (6, [.ref (b 1), .ref (b 2), .int 0, .ref (b 3), .ref (b 4), .ref (b 5), .long 0, .int 0, .int 0, .ref (b 6), .int 0, .int 0, .ref (b 7), .int 0, .int 0, .int 0, .int 0, .int 0, .int 0, .int 0, .int 0, .int 0, .int 0])), ((b 1), .inl (q 1, 6896, .inr (.inl (fun _ => 0))))]) (As := [.int x]) (rest := []) hx hb hml hown ht (cm_isRow) wd_X7_isRow mw_1205 hQ hV va_S.rf (hP.sub [0, 1] rfl) rfl rfl rfl hl.1 rfl (Nat.le_of_ble_eq_true rfl) dX7_at_2 ⟨Nat.le_of_ble_eq_true rfl, Nat.le_of_ble_eq_true rfl, rfl, rfl⟩ ⟨Nat.le_of_ble_eq_true rfl, Nat.le_of_ble_eq_true rfl⟩) (fun r_1 er_1 => ?_)
  obtain rfl : r_1 = 0 := er_1
  refine lv_if_eq (tgt := 52) hx hb dX7_at_5 (by decide) (fun c_2 => ?_) (fun c9 => absurd (by decide) c9)
  refine lv_iconst (v := (-1)) hx hb dX7_at_52 (by decide) ?_
  exact rd_iret hx hb hr hk (rfl) dX7_at_53

set_option maxHeartbeats 4000000 in
set_option maxRecDepth 100000 in
theorem cp_left {l : Launch} {D : va_G} {q : Nat → ClassId} {b : Nat → Nat} {x : Int32} : Met l yX7_left (Cond.code yX7_left cX7_left 6 (some .int) :: w_all) ({ frames := 2, cells := 0, slots := 0, locals := 40 }) (rd_P D q [.ref (b 0), .int x] (md_w b q)) (vp_Si (fun r => r = (-1))) 0 0 (fun _ => False) := by
  refine rd_start (by decide) (Nat.le_of_ble_eq_true rfl) ?_
  intro p e s m below meth c ls hx hb hr hml hown ht hk hP hQ hV hl
  have hK := hQ.1
  have hown : s.vm.findClass RX7 = some m.cls := hown
  have hl : lv_has ls 6 [(0, .ref (b 0)), (1, .int x)] := hl
  have hP := hP.sub (ws' := [((b 0), .inr (6, [.ref (b 1), .ref (b 2), .int 0, .ref (b 3), .ref (b 4), .ref (b 5), .long 0, .int 0, .int 0, .ref (b 6), .int 0, .int 0, .ref (b 7), .int 0, .int 0, .int 0, .int 0, .int 0, .int 0, .int 0, .int 0, .int 0, .int 0])), ((b 1), .inl (q 1, 6896, .inr (.inl (fun _ => 0))))]) [0, 1] rfl
  refine lv_aload_n hx hb dX7_left_0 rfl (lv_at hl 0 rfl) ?_
  refine vp_callSi (rd_wV (wc := [((b 0), .inr (6, [.ref (b 1), .ref (b 2), .int 0, .ref (b 3), .ref (b 4), .ref (b 5), .long 0, .int 0, .int 0, .ref (b 6), .int 0, .int 0, .ref (b 7), .int 0, .int 0, .int 0, .int 0, .int 0, .int 0, .int 0, .int 0, .int 0, .int 0])), ((b 1), .inl (q 1, 6896, .inr (.inl (fun _ => 0))))]) (As := []) (rest := []) hx hb hml hown ht (cm_isBoard) wd_X7_isBoard mw_1283 hQ hV va_S.rf (hP.sub [0, 1] rfl) rfl rfl rfl hl.1 rfl (Nat.le_of_ble_eq_true rfl) dX7_left_1 ⟨Nat.le_of_ble_eq_true rfl, Nat.le_of_ble_eq_true rfl, rfl, rfl⟩ ⟨Nat.le_of_ble_eq_true rfl, Nat.le_of_ble_eq_true rfl⟩) (fun r_1 er_1 => ?_)
  obtain rfl : r_1 = 0 := er_1
  refine lv_if_eq (tgt := 19) hx hb dX7_left_4 (by decide) (fun c_2 => ?_) (fun c9 => absurd (by decide) c9)
  refine lv_iconst (v := (-1)) hx hb dX7_left_19 (by decide) ?_
  exact rd_iret hx hb hr hk (rfl) dX7_left_20

set_option maxHeartbeats 4000000 in
set_option maxRecDepth 100000 in
theorem cp_when {l : Launch} {D : va_G} {q : Nat → ClassId} {b : Nat → Nat} {x : Int32} : Met l yX7_when (Cond.code yX7_when cX7_when 8 (some .int) :: w_all) ({ frames := 2, cells := 0, slots := 0, locals := 40 }) (rd_P D q [.ref (b 0), .int x] (md_w b q)) (vp_Si (fun r => r = (-1))) 0 0 (fun _ => False) := by
  refine rd_start (by decide) (Nat.le_of_ble_eq_true rfl) ?_
  intro p e s m below meth c ls hx hb hr hml hown ht hk hP hQ hV hl
  have hK := hQ.1
  have hown : s.vm.findClass RX7 = some m.cls := hown
  have hl : lv_has ls 8 [(0, .ref (b 0)), (1, .int x)] := hl
  have hP := hP.sub (ws' := [((b 0), .inr (6, [.ref (b 1), .ref (b 2), .int 0, .ref (b 3), .ref (b 4), .ref (b 5), .long 0, .int 0, .int 0, .ref (b 6), .int 0, .int 0, .ref (b 7), .int 0, .int 0, .int 0, .int 0, .int 0, .int 0, .int 0, .int 0, .int 0, .int 0])), ((b 1), .inl (q 1, 6896, .inr (.inl (fun _ => 0))))]) [0, 1] rfl
  refine lv_aload_n hx hb dX7_when_0 rfl (lv_at hl 0 rfl) ?_
  refine vp_callSi (rd_wV (wc := [((b 0), .inr (6, [.ref (b 1), .ref (b 2), .int 0, .ref (b 3), .ref (b 4), .ref (b 5), .long 0, .int 0, .int 0, .ref (b 6), .int 0, .int 0, .ref (b 7), .int 0, .int 0, .int 0, .int 0, .int 0, .int 0, .int 0, .int 0, .int 0, .int 0])), ((b 1), .inl (q 1, 6896, .inr (.inl (fun _ => 0))))]) (As := []) (rest := []) hx hb hml hown ht (cm_isBoard) wd_X7_isBoard mw_1283 hQ hV va_S.rf (hP.sub [0, 1] rfl) rfl rfl rfl hl.1 rfl (Nat.le_of_ble_eq_true rfl) dX7_when_1 ⟨Nat.le_of_ble_eq_true rfl, Nat.le_of_ble_eq_true rfl, rfl, rfl⟩ ⟨Nat.le_of_ble_eq_true rfl, Nat.le_of_ble_eq_true rfl⟩) (fun r_1 er_1 => ?_)
  obtain rfl : r_1 = 0 := er_1
  refine lv_if_eq (tgt := 19) hx hb dX7_when_4 (by decide) (fun c_2 => ?_) (fun c9 => absurd (by decide) c9)
  refine lv_iconst (v := (-1)) hx hb dX7_when_19 (by decide) ?_
  exact rd_iret hx hb hr hk (rfl) dX7_when_20

set_option maxHeartbeats 4000000 in
set_option maxRecDepth 100000 in
theorem cp_loudest {l : Launch} {D : va_G} {q : Nat → ClassId} {b : Nat → Nat} {x : Int32} : Met l yX7_loudest (Cond.code yX7_loudest cX7_loudest 5 (some .int) :: w_all) ({ frames := 2, cells := 0, slots := 0, locals := 40 }) (rd_P D q [.ref (b 0), .int x] (md_w b q)) (vp_Si (fun r => r = (-1))) 0 0 (fun _ => False) := by
  refine rd_start (by decide) (Nat.le_of_ble_eq_true rfl) ?_
  intro p e s m below meth c ls hx hb hr hml hown ht hk hP hQ hV hl
  have hK := hQ.1
  have hown : s.vm.findClass RX7 = some m.cls := hown
  have hl : lv_has ls 5 [(0, .ref (b 0)), (1, .int x)] := hl
  have hP := hP.sub (ws' := [((b 0), .inr (6, [.ref (b 1), .ref (b 2), .int 0, .ref (b 3), .ref (b 4), .ref (b 5), .long 0, .int 0, .int 0, .ref (b 6), .int 0, .int 0, .ref (b 7), .int 0, .int 0, .int 0, .int 0, .int 0, .int 0, .int 0, .int 0, .int 0, .int 0])), ((b 1), .inl (q 1, 6896, .inr (.inl (fun _ => 0))))]) [0, 1] rfl
  refine lv_aload_n hx hb dX7_loudest_0 rfl (lv_at hl 0 rfl) ?_
  refine vp_callSi (rd_wV (wc := [((b 0), .inr (6, [.ref (b 1), .ref (b 2), .int 0, .ref (b 3), .ref (b 4), .ref (b 5), .long 0, .int 0, .int 0, .ref (b 6), .int 0, .int 0, .ref (b 7), .int 0, .int 0, .int 0, .int 0, .int 0, .int 0, .int 0, .int 0, .int 0, .int 0])), ((b 1), .inl (q 1, 6896, .inr (.inl (fun _ => 0))))]) (As := []) (rest := []) hx hb hml hown ht (cm_isBoard) wd_X7_isBoard mw_1283 hQ hV va_S.rf (hP.sub [0, 1] rfl) rfl rfl rfl hl.1 rfl (Nat.le_of_ble_eq_true rfl) dX7_loudest_1 ⟨Nat.le_of_ble_eq_true rfl, Nat.le_of_ble_eq_true rfl, rfl, rfl⟩ ⟨Nat.le_of_ble_eq_true rfl, Nat.le_of_ble_eq_true rfl⟩) (fun r_1 er_1 => ?_)
  obtain rfl : r_1 = 0 := er_1
  refine lv_if_eq (tgt := 17) hx hb dX7_loudest_4 (by decide) (fun c_2 => ?_) (fun c9 => absurd (by decide) c9)
  refine lv_iconst (v := (-1)) hx hb dX7_loudest_17 (by decide) ?_
  exact rd_iret hx hb hr hk (rfl) dX7_loudest_18

set_option maxHeartbeats 4000000 in
set_option maxRecDepth 100000 in
theorem cp_total {l : Launch} {D : va_G} {q : Nat → ClassId} {b : Nat → Nat} {x : Int32} : Met l yX7_total (Cond.code yX7_total cX7_total 2 (some .int) :: w_all) ({ frames := 2, cells := 0, slots := 0, locals := 40 }) (rd_P D q [.ref (b 0), .int x] (md_w b q)) (vp_Si (fun r => r = (-1))) 0 0 (fun _ => False) := by
  refine rd_start (by decide) (Nat.le_of_ble_eq_true rfl) ?_
  intro p e s m below meth c ls hx hb hr hml hown ht hk hP hQ hV hl
  have hK := hQ.1
  have hown : s.vm.findClass RX7 = some m.cls := hown
  have hl : lv_has ls 2 [(0, .ref (b 0)), (1, .int x)] := hl
  have hP := hP.sub (ws' := [((b 0), .inr (6, [.ref (b 1), .ref (b 2), .int 0, .ref (b 3), .ref (b 4), .ref (b 5), .long 0, .int 0, .int 0, .ref (b 6), .int 0, .int 0, .ref (b 7), .int 0, .int 0, .int 0, .int 0, .int 0, .int 0, .int 0, .int 0, .int 0, .int 0])), ((b 1), .inl (q 1, 6896, .inr (.inl (fun _ => 0))))]) [0, 1] rfl
  refine lv_aload_n hx hb dX7_total_0 rfl (lv_at hl 0 rfl) ?_
  refine vp_callSi (rd_wV (wc := [((b 0), .inr (6, [.ref (b 1), .ref (b 2), .int 0, .ref (b 3), .ref (b 4), .ref (b 5), .long 0, .int 0, .int 0, .ref (b 6), .int 0, .int 0, .ref (b 7), .int 0, .int 0, .int 0, .int 0, .int 0, .int 0, .int 0, .int 0, .int 0, .int 0])), ((b 1), .inl (q 1, 6896, .inr (.inl (fun _ => 0))))]) (As := []) (rest := []) hx hb hml hown ht (cm_isBoard) wd_X7_isBoard mw_1283 hQ hV va_S.rf (hP.sub [0, 1] rfl) rfl rfl rfl hl.1 rfl (Nat.le_of_ble_eq_true rfl) dX7_total_1 ⟨Nat.le_of_ble_eq_true rfl, Nat.le_of_ble_eq_true rfl, rfl, rfl⟩ ⟨Nat.le_of_ble_eq_true rfl, Nat.le_of_ble_eq_true rfl⟩) (fun r_1 er_1 => ?_)
  obtain rfl : r_1 = 0 := er_1
  refine lv_if_eq (tgt := 31) hx hb dX7_total_4 (by decide) (fun c_2 => ?_) (fun c9 => absurd (by decide) c9)
  refine lv_iconst (v := (-1)) hx hb dX7_total_31 (by decide) ?_
  exact rd_iret hx hb hr hk (rfl) dX7_total_32

set_option maxHeartbeats 4000000 in
set_option maxRecDepth 100000 in
theorem cp_rests {l : Launch} {D : va_G} {q : Nat → ClassId} {b : Nat → Nat} {x : Int32} : Met l yX7_rests (Cond.code yX7_rests cX7_rests 4 (some .int) :: w_all) ({ frames := 3, cells := 0, slots := 0, locals := 61 }) (rd_P D q [.ref (b 0), .int x] (md_w b q)) (vp_Si (fun r => r = (-1))) 0 0 (fun _ => False) := by
  refine rd_start (by decide) (Nat.le_of_ble_eq_true rfl) ?_
  intro p e s m below meth c ls hx hb hr hml hown ht hk hP hQ hV hl
  have hK := hQ.1
  have hown : s.vm.findClass RX7 = some m.cls := hown
  have hl : lv_has ls 4 [(0, .ref (b 0)), (1, .int x)] := hl
  have hP := hP.sub (ws' := [((b 0), .inr (6, [.ref (b 1), .ref (b 2), .int 0, .ref (b 3), .ref (b 4), .ref (b 5), .long 0, .int 0, .int 0, .ref (b 6), .int 0, .int 0, .ref (b 7), .int 0, .int 0, .int 0, .int 0, .int 0, .int 0, .int 0, .int 0, .int 0, .int 0])), ((b 1), .inl (q 1, 6896, .inr (.inl (fun _ => 0))))]) [0, 1] rfl
  refine lv_aload_n hx hb dX7_rests_0 rfl (lv_at hl 0 rfl) ?_
  refine lv_iload_n hx hb dX7_rests_1 rfl (lv_at hl 1 rfl) ?_
  refine vp_callSi (rd_wV (wc := [((b 0), .inr (6, [.ref (b 1), .ref (b 2), .int 0, .ref (b 3), .ref (b 4), .ref (b 5), .long 0, .int 0, .int 0, .ref (b 6), .int 0, .int 0, .ref (b 7), .int 0, .int 0, .int 0, .int 0, .int 0, .int 0, .int 0, .int 0, .int 0, .int 0])), ((b 1), .inl (q 1, 6896, .inr (.inl (fun _ => 0))))]) (As := [.int x]) (rest := []) hx hb hml hown ht (cm_isCell) wd_X7_isCell mw_1340 hQ hV va_S.rf (hP.sub [0, 1] rfl) rfl rfl rfl hl.1 rfl (Nat.le_of_ble_eq_true rfl) dX7_rests_2 ⟨Nat.le_of_ble_eq_true rfl, Nat.le_of_ble_eq_true rfl, rfl, rfl⟩ ⟨Nat.le_of_ble_eq_true rfl, Nat.le_of_ble_eq_true rfl⟩) (fun r_1 er_1 => ?_)
  obtain rfl : r_1 = 0 := er_1
  refine lv_if_ne (tgt := 10) hx hb dX7_rests_5 (by decide) (fun c9 => absurd c9 (by decide)) (fun c_2 => ?_)
  refine lv_iconst (v := (-1)) hx hb dX7_rests_8 (by decide) ?_
  exact rd_iret hx hb hr hk (rfl) dX7_rests_9

set_option maxHeartbeats 4000000 in
set_option maxRecDepth 100000 in
theorem cp_cost {l : Launch} {D : va_G} {q : Nat → ClassId} {b : Nat → Nat} {x : Int32} : Met l yX7_cost (Cond.code yX7_cost cX7_cost 2 (some .int) :: w_all) ({ frames := 2, cells := 0, slots := 0, locals := 46 }) (rd_P D q [.ref (b 0), .int x] (md_w b q)) (vp_Si (fun r => r = (-1))) 0 0 (fun _ => False) := by
  refine rd_start (by decide) (Nat.le_of_ble_eq_true rfl) ?_
  intro p e s m below meth c ls hx hb hr hml hown ht hk hP hQ hV hl
  have hK := hQ.1
  have hown : s.vm.findClass RX7 = some m.cls := hown
  have hl : lv_has ls 2 [(0, .ref (b 0)), (1, .int x)] := hl
  have hP := hP.sub (ws' := [((b 0), .inr (6, [.ref (b 1), .ref (b 2), .int 0, .ref (b 3), .ref (b 4), .ref (b 5), .long 0, .int 0, .int 0, .ref (b 6), .int 0, .int 0, .ref (b 7), .int 0, .int 0, .int 0, .int 0, .int 0, .int 0, .int 0, .int 0, .int 0, .int 0])), ((b 1), .inl (q 1, 6896, .inr (.inl (fun _ => 0))))]) [0, 1] rfl
  refine lv_aload_n hx hb dX7_cost_0 rfl (lv_at hl 0 rfl) ?_
  refine lv_iload_n hx hb dX7_cost_1 rfl (lv_at hl 1 rfl) ?_
  refine vp_callSi (rd_wV (wc := [((b 0), .inr (6, [.ref (b 1), .ref (b 2), .int 0, .ref (b 3), .ref (b 4), .ref (b 5), .long 0, .int 0, .int 0, .ref (b 6), .int 0, .int 0, .ref (b 7), .int 0, .int 0, .int 0, .int 0, .int 0, .int 0, .int 0, .int 0, .int 0, .int 0])), ((b 1), .inl (q 1, 6896, .inr (.inl (fun _ => 0))))]) (As := [.int x]) (rest := []) hx hb hml hown ht (cm_isRow) wd_X7_isRow mw_1205 hQ hV va_S.rf (hP.sub [0, 1] rfl) rfl rfl rfl hl.1 rfl (Nat.le_of_ble_eq_true rfl) dX7_cost_2 ⟨Nat.le_of_ble_eq_true rfl, Nat.le_of_ble_eq_true rfl, rfl, rfl⟩ ⟨Nat.le_of_ble_eq_true rfl, Nat.le_of_ble_eq_true rfl⟩) (fun r_1 er_1 => ?_)
  obtain rfl : r_1 = 0 := er_1
  refine lv_if_ne (tgt := 10) hx hb dX7_cost_5 (by decide) (fun c9 => absurd c9 (by decide)) (fun c_2 => ?_)
  refine lv_iconst (v := (-1)) hx hb dX7_cost_8 (by decide) ?_
  exact rd_iret hx hb hr hk (rfl) dX7_cost_9

set_option maxHeartbeats 4000000 in
set_option maxRecDepth 100000 in
theorem cp_best {l : Launch} {D : va_G} {q : Nat → ClassId} {b : Nat → Nat} {x : Int32} {y : Int32} : Met l yX7_best (Cond.code yX7_best cX7_best 9 (some .int) :: w_all) ({ frames := 2, cells := 0, slots := 0, locals := 46 }) (rd_P D q [.ref (b 0), .int x, .int y] (md_w b q)) (vp_Si (fun r => r = (-1))) 0 0 (fun _ => False) := by
  refine rd_start (by decide) (Nat.le_of_ble_eq_true rfl) ?_
  intro p e s m below meth c ls hx hb hr hml hown ht hk hP hQ hV hl
  have hK := hQ.1
  have hown : s.vm.findClass RX7 = some m.cls := hown
  have hl : lv_has ls 9 [(0, .ref (b 0)), (1, .int x), (2, .int y)] := hl
  have hP := hP.sub (ws' := [((b 0), .inr (6, [.ref (b 1), .ref (b 2), .int 0, .ref (b 3), .ref (b 4), .ref (b 5), .long 0, .int 0, .int 0, .ref (b 6), .int 0, .int 0, .ref (b 7), .int 0, .int 0, .int 0, .int 0, .int 0, .int 0, .int 0, .int 0, .int 0, .int 0])), ((b 1), .inl (q 1, 6896, .inr (.inl (fun _ => 0))))]) [0, 1] rfl
  refine lv_aload_n hx hb dX7_best_0 rfl (lv_at hl 0 rfl) ?_
  refine lv_iload_n hx hb dX7_best_1 rfl (lv_at hl 1 rfl) ?_
  refine vp_callSi (rd_wV (wc := [((b 0), .inr (6, [.ref (b 1), .ref (b 2), .int 0, .ref (b 3), .ref (b 4), .ref (b 5), .long 0, .int 0, .int 0, .ref (b 6), .int 0, .int 0, .ref (b 7), .int 0, .int 0, .int 0, .int 0, .int 0, .int 0, .int 0, .int 0, .int 0, .int 0])), ((b 1), .inl (q 1, 6896, .inr (.inl (fun _ => 0))))]) (As := [.int x]) (rest := []) hx hb hml hown ht (cm_isRow) wd_X7_isRow mw_1205 hQ hV va_S.rf (hP.sub [0, 1] rfl) rfl rfl rfl hl.1 rfl (Nat.le_of_ble_eq_true rfl) dX7_best_2 ⟨Nat.le_of_ble_eq_true rfl, Nat.le_of_ble_eq_true rfl, rfl, rfl⟩ ⟨Nat.le_of_ble_eq_true rfl, Nat.le_of_ble_eq_true rfl⟩) (fun r_1 er_1 => ?_)
  obtain rfl : r_1 = 0 := er_1
  refine lv_if_eq (tgt := 20) hx hb dX7_best_5 (by decide) (fun c_2 => ?_) (fun c9 => absurd (by decide) c9)
  refine lv_iconst (v := (-1)) hx hb dX7_best_20 (by decide) ?_
  exact rd_iret hx hb hr hk (rfl) dX7_best_21

set_option maxHeartbeats 4000000 in
set_option maxRecDepth 100000 in
theorem cp_place {l : Launch} {D : va_G} {q : Nat → ClassId} {b : Nat → Nat} {x : Int32} {y : Int32} : Met l yX7_place (Cond.code yX7_place cX7_place 7 (some .int) :: w_all) ({ frames := 2, cells := 0, slots := 0, locals := 46 }) (rd_P D q [.ref (b 0), .int x, .int y] (md_w b q)) (vp_Si (fun r => r = (-1))) 0 0 (fun _ => False) := by
  refine rd_start (by decide) (Nat.le_of_ble_eq_true rfl) ?_
  intro p e s m below meth c ls hx hb hr hml hown ht hk hP hQ hV hl
  have hK := hQ.1
  have hown : s.vm.findClass RX7 = some m.cls := hown
  have hl : lv_has ls 7 [(0, .ref (b 0)), (1, .int x), (2, .int y)] := hl
  have hP := hP.sub (ws' := [((b 0), .inr (6, [.ref (b 1), .ref (b 2), .int 0, .ref (b 3), .ref (b 4), .ref (b 5), .long 0, .int 0, .int 0, .ref (b 6), .int 0, .int 0, .ref (b 7), .int 0, .int 0, .int 0, .int 0, .int 0, .int 0, .int 0, .int 0, .int 0, .int 0])), ((b 1), .inl (q 1, 6896, .inr (.inl (fun _ => 0))))]) [0, 1] rfl
  refine lv_aload_n hx hb dX7_place_0 rfl (lv_at hl 0 rfl) ?_
  refine lv_iload_n hx hb dX7_place_1 rfl (lv_at hl 1 rfl) ?_
  refine vp_callSi (rd_wV (wc := [((b 0), .inr (6, [.ref (b 1), .ref (b 2), .int 0, .ref (b 3), .ref (b 4), .ref (b 5), .long 0, .int 0, .int 0, .ref (b 6), .int 0, .int 0, .ref (b 7), .int 0, .int 0, .int 0, .int 0, .int 0, .int 0, .int 0, .int 0, .int 0, .int 0])), ((b 1), .inl (q 1, 6896, .inr (.inl (fun _ => 0))))]) (As := [.int x]) (rest := []) hx hb hml hown ht (cm_isRow) wd_X7_isRow mw_1205 hQ hV va_S.rf (hP.sub [0, 1] rfl) rfl rfl rfl hl.1 rfl (Nat.le_of_ble_eq_true rfl) dX7_place_2 ⟨Nat.le_of_ble_eq_true rfl, Nat.le_of_ble_eq_true rfl, rfl, rfl⟩ ⟨Nat.le_of_ble_eq_true rfl, Nat.le_of_ble_eq_true rfl⟩) (fun r_1 er_1 => ?_)
  obtain rfl : r_1 = 0 := er_1
  refine lv_if_eq (tgt := 18) hx hb dX7_place_5 (by decide) (fun c_2 => ?_) (fun c9 => absurd (by decide) c9)
  refine lv_iconst (v := (-1)) hx hb dX7_place_18 (by decide) ?_
  exact rd_iret hx hb hr hk (rfl) dX7_place_19

set_option maxHeartbeats 4000000 in
set_option maxRecDepth 100000 in
theorem cp_log {l : Launch} {D : va_G} {q : Nat → ClassId} {b : Nat → Nat} {x : Int32} {y : Int32} : Met l yX7_log (Cond.code yX7_log cX7_log 3 (some .int) :: w_all) ({ frames := 2, cells := 0, slots := 0, locals := 46 }) (rd_P D q [.ref (b 0), .int x, .int y] (md_w b q)) (vp_Si (fun r => r = (-1))) 0 0 (fun _ => False) := by
  refine rd_start (by decide) (Nat.le_of_ble_eq_true rfl) ?_
  intro p e s m below meth c ls hx hb hr hml hown ht hk hP hQ hV hl
  have hK := hQ.1
  have hown : s.vm.findClass RX7 = some m.cls := hown
  have hl : lv_has ls 3 [(0, .ref (b 0)), (1, .int x), (2, .int y)] := hl
  have hP := hP.sub (ws' := [((b 0), .inr (6, [.ref (b 1), .ref (b 2), .int 0, .ref (b 3), .ref (b 4), .ref (b 5), .long 0, .int 0, .int 0, .ref (b 6), .int 0, .int 0, .ref (b 7), .int 0, .int 0, .int 0, .int 0, .int 0, .int 0, .int 0, .int 0, .int 0, .int 0])), ((b 1), .inl (q 1, 6896, .inr (.inl (fun _ => 0))))]) [0, 1] rfl
  refine lv_aload_n hx hb dX7_log_0 rfl (lv_at hl 0 rfl) ?_
  refine lv_iload_n hx hb dX7_log_1 rfl (lv_at hl 1 rfl) ?_
  refine vp_callSi (rd_wV (wc := [((b 0), .inr (6, [.ref (b 1), .ref (b 2), .int 0, .ref (b 3), .ref (b 4), .ref (b 5), .long 0, .int 0, .int 0, .ref (b 6), .int 0, .int 0, .ref (b 7), .int 0, .int 0, .int 0, .int 0, .int 0, .int 0, .int 0, .int 0, .int 0, .int 0])), ((b 1), .inl (q 1, 6896, .inr (.inl (fun _ => 0))))]) (As := [.int x]) (rest := []) hx hb hml hown ht (cm_isDrum) wd_X7_isDrum mw_1373 hQ hV va_S.rf (hP.sub [0, 1] rfl) rfl rfl rfl hl.1 rfl (Nat.le_of_ble_eq_true rfl) dX7_log_2 ⟨Nat.le_of_ble_eq_true rfl, Nat.le_of_ble_eq_true rfl, rfl, rfl⟩ ⟨Nat.le_of_ble_eq_true rfl, Nat.le_of_ble_eq_true rfl⟩) (fun r_1 er_1 => ?_)
  obtain rfl : r_1 = 0 := er_1
  refine lv_if_eq (tgt := 20) hx hb dX7_log_5 (by decide) (fun c_2 => ?_) (fun c9 => absurd (by decide) c9)
  refine lv_iconst (v := (-1)) hx hb dX7_log_20 (by decide) ?_
  exact rd_iret hx hb hr hk (rfl) dX7_log_21

set_option maxHeartbeats 4000000 in
set_option maxRecDepth 100000 in
theorem cp_usual {l : Launch} {D : va_G} {q : Nat → ClassId} {b : Nat → Nat} {x : Int32} {y : Int32} : Met l yX7_usual (Cond.code yX7_usual cX7_usual 6 (some .int) :: w_all) ({ frames := 2, cells := 0, slots := 0, locals := 46 }) (rd_P D q [.ref (b 0), .int x, .int y] (md_w b q)) (vp_Si (fun r => r = (-1))) 0 0 (fun _ => False) := by
  refine rd_start (by decide) (Nat.le_of_ble_eq_true rfl) ?_
  intro p e s m below meth c ls hx hb hr hml hown ht hk hP hQ hV hl
  have hK := hQ.1
  have hown : s.vm.findClass RX7 = some m.cls := hown
  have hl : lv_has ls 6 [(0, .ref (b 0)), (1, .int x), (2, .int y)] := hl
  have hP := hP.sub (ws' := [((b 0), .inr (6, [.ref (b 1), .ref (b 2), .int 0, .ref (b 3), .ref (b 4), .ref (b 5), .long 0, .int 0, .int 0, .ref (b 6), .int 0, .int 0, .ref (b 7), .int 0, .int 0, .int 0, .int 0, .int 0, .int 0, .int 0, .int 0, .int 0, .int 0])), ((b 1), .inl (q 1, 6896, .inr (.inl (fun _ => 0))))]) [0, 1] rfl
  refine lv_aload_n hx hb dX7_usual_0 rfl (lv_at hl 0 rfl) ?_
  refine lv_iload_n hx hb dX7_usual_1 rfl (lv_at hl 1 rfl) ?_
  refine vp_callSi (rd_wV (wc := [((b 0), .inr (6, [.ref (b 1), .ref (b 2), .int 0, .ref (b 3), .ref (b 4), .ref (b 5), .long 0, .int 0, .int 0, .ref (b 6), .int 0, .int 0, .ref (b 7), .int 0, .int 0, .int 0, .int 0, .int 0, .int 0, .int 0, .int 0, .int 0, .int 0])), ((b 1), .inl (q 1, 6896, .inr (.inl (fun _ => 0))))]) (As := [.int x]) (rest := []) hx hb hml hown ht (cm_isDrum) wd_X7_isDrum mw_1373 hQ hV va_S.rf (hP.sub [0, 1] rfl) rfl rfl rfl hl.1 rfl (Nat.le_of_ble_eq_true rfl) dX7_usual_2 ⟨Nat.le_of_ble_eq_true rfl, Nat.le_of_ble_eq_true rfl, rfl, rfl⟩ ⟨Nat.le_of_ble_eq_true rfl, Nat.le_of_ble_eq_true rfl⟩) (fun r_1 er_1 => ?_)
  obtain rfl : r_1 = 0 := er_1
  refine lv_if_eq (tgt := 18) hx hb dX7_usual_5 (by decide) (fun c_2 => ?_) (fun c9 => absurd (by decide) c9)
  refine lv_iconst (v := (-1)) hx hb dX7_usual_18 (by decide) ?_
  exact rd_iret hx hb hr hk (rfl) dX7_usual_19

set_option maxHeartbeats 4000000 in
set_option maxRecDepth 100000 in
theorem cp_better {l : Launch} {D : va_G} {q : Nat → ClassId} {b : Nat → Nat} {x : Int32} {y : Int32} : Met l yX7_better (Cond.code yX7_better cX7_better 9 (some .int) :: w_all) ({ frames := 2, cells := 0, slots := 0, locals := 46 }) (rd_P D q [.ref (b 0), .int x, .int y] (md_w b q)) (vp_Si (fun r => r = (-1))) 0 0 (fun _ => False) := by
  refine rd_start (by decide) (Nat.le_of_ble_eq_true rfl) ?_
  intro p e s m below meth c ls hx hb hr hml hown ht hk hP hQ hV hl
  have hK := hQ.1
  have hown : s.vm.findClass RX7 = some m.cls := hown
  have hl : lv_has ls 9 [(0, .ref (b 0)), (1, .int x), (2, .int y)] := hl
  have hP := hP.sub (ws' := [((b 0), .inr (6, [.ref (b 1), .ref (b 2), .int 0, .ref (b 3), .ref (b 4), .ref (b 5), .long 0, .int 0, .int 0, .ref (b 6), .int 0, .int 0, .ref (b 7), .int 0, .int 0, .int 0, .int 0, .int 0, .int 0, .int 0, .int 0, .int 0, .int 0])), ((b 1), .inl (q 1, 6896, .inr (.inl (fun _ => 0))))]) [0, 1] rfl
  refine lv_aload_n hx hb dX7_better_0 rfl (lv_at hl 0 rfl) ?_
  refine lv_iload_n hx hb dX7_better_1 rfl (lv_at hl 1 rfl) ?_
  refine vp_callSi (rd_wV (wc := [((b 0), .inr (6, [.ref (b 1), .ref (b 2), .int 0, .ref (b 3), .ref (b 4), .ref (b 5), .long 0, .int 0, .int 0, .ref (b 6), .int 0, .int 0, .ref (b 7), .int 0, .int 0, .int 0, .int 0, .int 0, .int 0, .int 0, .int 0, .int 0, .int 0])), ((b 1), .inl (q 1, 6896, .inr (.inl (fun _ => 0))))]) (As := [.int x]) (rest := []) hx hb hml hown ht (cm_isDrum) wd_X7_isDrum mw_1373 hQ hV va_S.rf (hP.sub [0, 1] rfl) rfl rfl rfl hl.1 rfl (Nat.le_of_ble_eq_true rfl) dX7_better_2 ⟨Nat.le_of_ble_eq_true rfl, Nat.le_of_ble_eq_true rfl, rfl, rfl⟩ ⟨Nat.le_of_ble_eq_true rfl, Nat.le_of_ble_eq_true rfl⟩) (fun r_1 er_1 => ?_)
  obtain rfl : r_1 = 0 := er_1
  refine lv_if_eq (tgt := 20) hx hb dX7_better_5 (by decide) (fun c_2 => ?_) (fun c9 => absurd (by decide) c9)
  refine lv_iconst (v := (-1)) hx hb dX7_better_20 (by decide) ?_
  exact rd_iret hx hb hr hk (rfl) dX7_better_21

set_option maxHeartbeats 4000000 in
set_option maxRecDepth 100000 in
theorem cp_farthest {l : Launch} {D : va_G} {q : Nat → ClassId} {b : Nat → Nat} {x : Int32} {y : Int32} : Met l yX7_farthest (Cond.code yX7_farthest cX7_farthest 7 (some .int) :: w_all) ({ frames := 3, cells := 0, slots := 0, locals := 61 }) (rd_P D q [.ref (b 0), .int x, .int y] (md_w b q)) (vp_Si (fun r => r = (-1))) 0 0 (fun _ => False) := by
  refine rd_start (by decide) (Nat.le_of_ble_eq_true rfl) ?_
  intro p e s m below meth c ls hx hb hr hml hown ht hk hP hQ hV hl
  have hK := hQ.1
  have hown : s.vm.findClass RX7 = some m.cls := hown
  have hl : lv_has ls 7 [(0, .ref (b 0)), (1, .int x), (2, .int y)] := hl
  have hP := hP.sub (ws' := [((b 0), .inr (6, [.ref (b 1), .ref (b 2), .int 0, .ref (b 3), .ref (b 4), .ref (b 5), .long 0, .int 0, .int 0, .ref (b 6), .int 0, .int 0, .ref (b 7), .int 0, .int 0, .int 0, .int 0, .int 0, .int 0, .int 0, .int 0, .int 0, .int 0])), ((b 1), .inl (q 1, 6896, .inr (.inl (fun _ => 0))))]) [0, 1] rfl
  refine lv_aload_n hx hb dX7_farthest_0 rfl (lv_at hl 0 rfl) ?_
  refine lv_iload_n hx hb dX7_farthest_1 rfl (lv_at hl 1 rfl) ?_
  refine vp_callSi (rd_wV (wc := [((b 0), .inr (6, [.ref (b 1), .ref (b 2), .int 0, .ref (b 3), .ref (b 4), .ref (b 5), .long 0, .int 0, .int 0, .ref (b 6), .int 0, .int 0, .ref (b 7), .int 0, .int 0, .int 0, .int 0, .int 0, .int 0, .int 0, .int 0, .int 0, .int 0])), ((b 1), .inl (q 1, 6896, .inr (.inl (fun _ => 0))))]) (As := [.int x]) (rest := []) hx hb hml hown ht (cm_isCell) wd_X7_isCell mw_1340 hQ hV va_S.rf (hP.sub [0, 1] rfl) rfl rfl rfl hl.1 rfl (Nat.le_of_ble_eq_true rfl) dX7_farthest_2 ⟨Nat.le_of_ble_eq_true rfl, Nat.le_of_ble_eq_true rfl, rfl, rfl⟩ ⟨Nat.le_of_ble_eq_true rfl, Nat.le_of_ble_eq_true rfl⟩) (fun r_1 er_1 => ?_)
  obtain rfl : r_1 = 0 := er_1
  refine lv_if_eq (tgt := 18) hx hb dX7_farthest_5 (by decide) (fun c_2 => ?_) (fun c9 => absurd (by decide) c9)
  refine lv_iconst (v := (-1)) hx hb dX7_farthest_18 (by decide) ?_
  exact rd_iret hx hb hr hk (rfl) dX7_farthest_19

set_option maxHeartbeats 4000000 in
set_option maxRecDepth 100000 in
theorem cp_lacks {l : Launch} {D : va_G} {q : Nat → ClassId} {b : Nat → Nat} {x : Int32} {y : Int32} : Met l yX7_lacks (Cond.code yX7_lacks cX7_lacks 6 (some .int) :: w_all) ({ frames := 3, cells := 0, slots := 0, locals := 61 }) (rd_P D q [.ref (b 0), .int x, .int y] (md_w b q)) (vp_Si (fun r => r = (-1))) 0 0 (fun _ => False) := by
  refine rd_start (by decide) (Nat.le_of_ble_eq_true rfl) ?_
  intro p e s m below meth c ls hx hb hr hml hown ht hk hP hQ hV hl
  have hK := hQ.1
  have hown : s.vm.findClass RX7 = some m.cls := hown
  have hl : lv_has ls 6 [(0, .ref (b 0)), (1, .int x), (2, .int y)] := hl
  have hP := hP.sub (ws' := [((b 0), .inr (6, [.ref (b 1), .ref (b 2), .int 0, .ref (b 3), .ref (b 4), .ref (b 5), .long 0, .int 0, .int 0, .ref (b 6), .int 0, .int 0, .ref (b 7), .int 0, .int 0, .int 0, .int 0, .int 0, .int 0, .int 0, .int 0, .int 0, .int 0])), ((b 1), .inl (q 1, 6896, .inr (.inl (fun _ => 0))))]) [0, 1] rfl
  refine lv_aload_n hx hb dX7_lacks_0 rfl (lv_at hl 0 rfl) ?_
  refine lv_iload_n hx hb dX7_lacks_1 rfl (lv_at hl 1 rfl) ?_
  refine vp_callSi (rd_wV (wc := [((b 0), .inr (6, [.ref (b 1), .ref (b 2), .int 0, .ref (b 3), .ref (b 4), .ref (b 5), .long 0, .int 0, .int 0, .ref (b 6), .int 0, .int 0, .ref (b 7), .int 0, .int 0, .int 0, .int 0, .int 0, .int 0, .int 0, .int 0, .int 0, .int 0])), ((b 1), .inl (q 1, 6896, .inr (.inl (fun _ => 0))))]) (As := [.int x]) (rest := []) hx hb hml hown ht (cm_isCell) wd_X7_isCell mw_1340 hQ hV va_S.rf (hP.sub [0, 1] rfl) rfl rfl rfl hl.1 rfl (Nat.le_of_ble_eq_true rfl) dX7_lacks_2 ⟨Nat.le_of_ble_eq_true rfl, Nat.le_of_ble_eq_true rfl, rfl, rfl⟩ ⟨Nat.le_of_ble_eq_true rfl, Nat.le_of_ble_eq_true rfl⟩) (fun r_1 er_1 => ?_)
  obtain rfl : r_1 = 0 := er_1
  refine lv_if_eq (tgt := 18) hx hb dX7_lacks_5 (by decide) (fun c_2 => ?_) (fun c9 => absurd (by decide) c9)
  refine lv_iconst (v := (-1)) hx hb dX7_lacks_18 (by decide) ?_
  exact rd_iret hx hb hr hk (rfl) dX7_lacks_19

set_option maxHeartbeats 4000000 in
set_option maxRecDepth 100000 in
theorem cp_unlike {l : Launch} {D : va_G} {q : Nat → ClassId} {b : Nat → Nat} {x : Int32} {y : Int32} : Met l yX7_unlike (Cond.code yX7_unlike cX7_unlike 5 (some .int) :: w_all) ({ frames := 2, cells := 0, slots := 0, locals := 46 }) (rd_P D q [.ref (b 0), .int x, .int y] (md_w b q)) (vp_Si (fun r => r = (-1))) 0 0 (fun _ => False) := by
  refine rd_start (by decide) (Nat.le_of_ble_eq_true rfl) ?_
  intro p e s m below meth c ls hx hb hr hml hown ht hk hP hQ hV hl
  have hK := hQ.1
  have hown : s.vm.findClass RX7 = some m.cls := hown
  have hl : lv_has ls 5 [(0, .ref (b 0)), (1, .int x), (2, .int y)] := hl
  have hP := hP.sub (ws' := [((b 0), .inr (6, [.ref (b 1), .ref (b 2), .int 0, .ref (b 3), .ref (b 4), .ref (b 5), .long 0, .int 0, .int 0, .ref (b 6), .int 0, .int 0, .ref (b 7), .int 0, .int 0, .int 0, .int 0, .int 0, .int 0, .int 0, .int 0, .int 0, .int 0])), ((b 1), .inl (q 1, 6896, .inr (.inl (fun _ => 0))))]) [0, 1] rfl
  refine lv_aload_n hx hb dX7_unlike_0 rfl (lv_at hl 0 rfl) ?_
  refine lv_iload_n hx hb dX7_unlike_1 rfl (lv_at hl 1 rfl) ?_
  refine vp_callSi (rd_wV (wc := [((b 0), .inr (6, [.ref (b 1), .ref (b 2), .int 0, .ref (b 3), .ref (b 4), .ref (b 5), .long 0, .int 0, .int 0, .ref (b 6), .int 0, .int 0, .ref (b 7), .int 0, .int 0, .int 0, .int 0, .int 0, .int 0, .int 0, .int 0, .int 0, .int 0])), ((b 1), .inl (q 1, 6896, .inr (.inl (fun _ => 0))))]) (As := [.int x]) (rest := []) hx hb hml hown ht (cm_isRow) wd_X7_isRow mw_1205 hQ hV va_S.rf (hP.sub [0, 1] rfl) rfl rfl rfl hl.1 rfl (Nat.le_of_ble_eq_true rfl) dX7_unlike_2 ⟨Nat.le_of_ble_eq_true rfl, Nat.le_of_ble_eq_true rfl, rfl, rfl⟩ ⟨Nat.le_of_ble_eq_true rfl, Nat.le_of_ble_eq_true rfl⟩) (fun r_1 er_1 => ?_)
  obtain rfl : r_1 = 0 := er_1
  refine lv_if_eq (tgt := 21) hx hb dX7_unlike_5 (by decide) (fun c_2 => ?_) (fun c9 => absurd (by decide) c9)
  refine lv_iconst (v := (-1)) hx hb dX7_unlike_21 (by decide) ?_
  exact rd_iret hx hb hr hk (rfl) dX7_unlike_22

set_option maxHeartbeats 4000000 in
set_option maxRecDepth 100000 in
theorem cp_worn {l : Launch} {D : va_G} {q : Nat → ClassId} {b : Nat → Nat} {x : Int32} : Met l yX7_worn (Cond.code yX7_worn cX7_worn 2 (some .long) :: w_all) ({ frames := 3, cells := 0, slots := 0, locals := 61 }) (rd_P D q [.ref (b 0), .int x] (md_w b q)) (vp_Sl (fun r => r = (-1))) 0 0 (fun _ => False) := by
  refine rd_start (by decide) (Nat.le_of_ble_eq_true rfl) ?_
  intro p e s m below meth c ls hx hb hr hml hown ht hk hP hQ hV hl
  have hK := hQ.1
  have hown : s.vm.findClass RX7 = some m.cls := hown
  have hl : lv_has ls 2 [(0, .ref (b 0)), (1, .int x)] := hl
  have hP := hP.sub (ws' := [((b 0), .inr (6, [.ref (b 1), .ref (b 2), .int 0, .ref (b 3), .ref (b 4), .ref (b 5), .long 0, .int 0, .int 0, .ref (b 6), .int 0, .int 0, .ref (b 7), .int 0, .int 0, .int 0, .int 0, .int 0, .int 0, .int 0, .int 0, .int 0, .int 0])), ((b 1), .inl (q 1, 6896, .inr (.inl (fun _ => 0))))]) [0, 1] rfl
  refine lv_aload_n hx hb dX7_worn_0 rfl (lv_at hl 0 rfl) ?_
  refine lv_iload_n hx hb dX7_worn_1 rfl (lv_at hl 1 rfl) ?_
  refine vp_callSi (rd_wV (wc := [((b 0), .inr (6, [.ref (b 1), .ref (b 2), .int 0, .ref (b 3), .ref (b 4), .ref (b 5), .long 0, .int 0, .int 0, .ref (b 6), .int 0, .int 0, .ref (b 7), .int 0, .int 0, .int 0, .int 0, .int 0, .int 0, .int 0, .int 0, .int 0, .int 0])), ((b 1), .inl (q 1, 6896, .inr (.inl (fun _ => 0))))]) (As := [.int x]) (rest := []) hx hb hml hown ht (cm_isCell) wd_X7_isCell mw_1340 hQ hV va_S.rf (hP.sub [0, 1] rfl) rfl rfl rfl hl.1 rfl (Nat.le_of_ble_eq_true rfl) dX7_worn_2 ⟨Nat.le_of_ble_eq_true rfl, Nat.le_of_ble_eq_true rfl, rfl, rfl⟩ ⟨Nat.le_of_ble_eq_true rfl, Nat.le_of_ble_eq_true rfl⟩) (fun r_1 er_1 => ?_)
  obtain rfl : r_1 = 0 := er_1
  refine lv_if_eq (tgt := 16) hx hb dX7_worn_5 (by decide) (fun c_2 => ?_) (fun c9 => absurd (by decide) c9)
  refine lv_ldc2 (v := (-1)) hx hb hown (ht _ mw_1364) dX7_worn_16 ?_
  exact rd_lret hx hb hr hk (rfl) dX7_worn_19

set_option maxHeartbeats 4000000 in
set_option maxRecDepth 100000 in
theorem cp_which {l : Launch} {D : va_G} {q : Nat → ClassId} {b : Nat → Nat} {x : Int32} : Met l yX7_which (Cond.code yX7_which cX7_which 5 (some .long) :: w_all) ({ frames := 2, cells := 0, slots := 0, locals := 40 }) (rd_P D q [.ref (b 0), .int x] (md_w b q)) (vp_Sl (fun r => r = (-1))) 0 0 (fun _ => False) := by
  refine rd_start (by decide) (Nat.le_of_ble_eq_true rfl) ?_
  intro p e s m below meth c ls hx hb hr hml hown ht hk hP hQ hV hl
  have hK := hQ.1
  have hown : s.vm.findClass RX7 = some m.cls := hown
  have hl : lv_has ls 5 [(0, .ref (b 0)), (1, .int x)] := hl
  have hP := hP.sub (ws' := [((b 0), .inr (6, [.ref (b 1), .ref (b 2), .int 0, .ref (b 3), .ref (b 4), .ref (b 5), .long 0, .int 0, .int 0, .ref (b 6), .int 0, .int 0, .ref (b 7), .int 0, .int 0, .int 0, .int 0, .int 0, .int 0, .int 0, .int 0, .int 0, .int 0])), ((b 1), .inl (q 1, 6896, .inr (.inl (fun _ => 0))))]) [0, 1] rfl
  refine lv_aload_n hx hb dX7_which_0 rfl (lv_at hl 0 rfl) ?_
  refine vp_callSi (rd_wV (wc := [((b 0), .inr (6, [.ref (b 1), .ref (b 2), .int 0, .ref (b 3), .ref (b 4), .ref (b 5), .long 0, .int 0, .int 0, .ref (b 6), .int 0, .int 0, .ref (b 7), .int 0, .int 0, .int 0, .int 0, .int 0, .int 0, .int 0, .int 0, .int 0, .int 0])), ((b 1), .inl (q 1, 6896, .inr (.inl (fun _ => 0))))]) (As := []) (rest := []) hx hb hml hown ht (cm_isBoard) wd_X7_isBoard mw_1283 hQ hV va_S.rf (hP.sub [0, 1] rfl) rfl rfl rfl hl.1 rfl (Nat.le_of_ble_eq_true rfl) dX7_which_1 ⟨Nat.le_of_ble_eq_true rfl, Nat.le_of_ble_eq_true rfl, rfl, rfl⟩ ⟨Nat.le_of_ble_eq_true rfl, Nat.le_of_ble_eq_true rfl⟩) (fun r_1 er_1 => ?_)
  obtain rfl : r_1 = 0 := er_1
  refine lv_if_eq (tgt := 19) hx hb dX7_which_4 (by decide) (fun c_2 => ?_) (fun c9 => absurd (by decide) c9)
  refine lv_ldc2 (v := (-1)) hx hb hown (ht _ mw_1364) dX7_which_19 ?_
  exact rd_lret hx hb hr hk (rfl) dX7_which_22

set_option maxHeartbeats 4000000 in
set_option maxRecDepth 100000 in
theorem cp_often {l : Launch} {D : va_G} {q : Nat → ClassId} {b : Nat → Nat} {x : Int32} {y : Int32} {z : Int32} : Met l yX7_often (Cond.code yX7_often cX7_often 6 (some .int) :: w_all) ({ frames := 2, cells := 0, slots := 0, locals := 46 }) (rd_P D q [.ref (b 0), .int x, .int y, .int z] (md_w b q)) (vp_Si (fun r => r = (-1))) 0 0 (fun _ => False) := by
  refine rd_start (by decide) (Nat.le_of_ble_eq_true rfl) ?_
  intro p e s m below meth c ls hx hb hr hml hown ht hk hP hQ hV hl
  have hK := hQ.1
  have hown : s.vm.findClass RX7 = some m.cls := hown
  have hl : lv_has ls 6 [(0, .ref (b 0)), (1, .int x), (2, .int y), (3, .int z)] := hl
  have hP := hP.sub (ws' := [((b 0), .inr (6, [.ref (b 1), .ref (b 2), .int 0, .ref (b 3), .ref (b 4), .ref (b 5), .long 0, .int 0, .int 0, .ref (b 6), .int 0, .int 0, .ref (b 7), .int 0, .int 0, .int 0, .int 0, .int 0, .int 0, .int 0, .int 0, .int 0, .int 0])), ((b 1), .inl (q 1, 6896, .inr (.inl (fun _ => 0))))]) [0, 1] rfl
  refine lv_aload_n hx hb dX7_often_0 rfl (lv_at hl 0 rfl) ?_
  refine lv_iload_n hx hb dX7_often_1 rfl (lv_at hl 1 rfl) ?_
  refine vp_callSi (rd_wV (wc := [((b 0), .inr (6, [.ref (b 1), .ref (b 2), .int 0, .ref (b 3), .ref (b 4), .ref (b 5), .long 0, .int 0, .int 0, .ref (b 6), .int 0, .int 0, .ref (b 7), .int 0, .int 0, .int 0, .int 0, .int 0, .int 0, .int 0, .int 0, .int 0, .int 0])), ((b 1), .inl (q 1, 6896, .inr (.inl (fun _ => 0))))]) (As := [.int x]) (rest := []) hx hb hml hown ht (cm_isDrum) wd_X7_isDrum mw_1373 hQ hV va_S.rf (hP.sub [0, 1] rfl) rfl rfl rfl hl.1 rfl (Nat.le_of_ble_eq_true rfl) dX7_often_2 ⟨Nat.le_of_ble_eq_true rfl, Nat.le_of_ble_eq_true rfl, rfl, rfl⟩ ⟨Nat.le_of_ble_eq_true rfl, Nat.le_of_ble_eq_true rfl⟩) (fun r_1 er_1 => ?_)
  obtain rfl : r_1 = 0 := er_1
  refine lv_if_eq (tgt := 25) hx hb dX7_often_5 (by decide) (fun c_2 => ?_) (fun c9 => absurd (by decide) c9)
  refine lv_iconst (v := (-1)) hx hb dX7_often_25 (by decide) ?_
  exact rd_iret hx hb hr hk (rfl) dX7_often_26

set_option maxHeartbeats 4000000 in
set_option maxRecDepth 100000 in
theorem cp_undo {l : Launch} {D : va_G} {q : Nat → ClassId} {b : Nat → Nat} : Met l yX7_undo (Cond.code yX7_undo cX7_undo 2 (some .int) :: w_all) ({ frames := 0, cells := 0, slots := 0, locals := 0 }) (rd_P D q [.ref (b 0)] (md_w b q)) (vp_Si (fun r => r = (-1))) 0 0 (fun _ => False) := by
  refine rd_start (by decide) (Nat.le_of_ble_eq_true rfl) ?_
  intro p e s m below meth c ls hx hb hr hml hown ht hk hP hQ hV hl
  have hK := hQ.1
  have hown : s.vm.findClass RX7 = some m.cls := hown
  have hl : lv_has ls 2 [(0, .ref (b 0))] := hl
  have hP := hP.sub (ws' := [((b 0), .inr (6, [.ref (b 1), .ref (b 2), .int 0, .ref (b 3), .ref (b 4), .ref (b 5), .long 0, .int 0, .int 0, .ref (b 6), .int 0, .int 0, .ref (b 7), .int 0, .int 0, .int 0, .int 0, .int 0, .int 0, .int 0, .int 0, .int 0, .int 0]))]) [0] rfl
  refine lv_aload_n hx hb dX7_undo_0 rfl (lv_at hl 0 rfl) ?_
  refine fl_get (C := RX7) (T := TX7) (N := 23) (ci := 6) (v := .int 0) hx hb ht in_X7 hown hK hP 0 rfl rfl 2 (by decide) mw_1132 rfl dX7_undo_1 ?_
  refine lv_if_ne (tgt := 9) hx hb dX7_undo_4 (by decide) (fun c9 => absurd c9 (by decide)) (fun c_1 => ?_)
  refine lv_iconst (v := (-1)) hx hb dX7_undo_7 (by decide) ?_
  exact rd_iret hx hb hr hk (rfl) dX7_undo_8

set_option maxHeartbeats 4000000 in
set_option maxRecDepth 100000 in
theorem cp_digest {l : Launch} {D : va_G} {q : Nat → ClassId} {b : Nat → Nat} : Met l yX7_digest (Cond.code yX7_digest cX7_digest 5 (some .long) :: w_all) ({ frames := 2, cells := 0, slots := 0, locals := 40 }) (rd_P D q [.ref (b 0)] (md_w b q)) (vp_Sl (fun r => r = 17)) 0 0 (fun _ => False) := by
  refine rd_start (by decide) (Nat.le_of_ble_eq_true rfl) ?_
  intro p e s m below meth c ls hx hb hr hml hown ht hk hP hQ hV hl
  have hK := hQ.1
  have hown : s.vm.findClass RX7 = some m.cls := hown
  have hl : lv_has ls 5 [(0, .ref (b 0))] := hl
  have hP := hP.sub (ws' := [((b 0), .inr (6, [.ref (b 1), .ref (b 2), .int 0, .ref (b 3), .ref (b 4), .ref (b 5), .long 0, .int 0, .int 0, .ref (b 6), .int 0, .int 0, .ref (b 7), .int 0, .int 0, .int 0, .int 0, .int 0, .int 0, .int 0, .int 0, .int 0, .int 0])), ((b 1), .inl (q 1, 6896, .inr (.inl (fun _ => 0))))]) [0, 1] rfl
  refine lv_ldc2 (v := 17) hx hb hown (ht _ mw_1477) dX7_digest_0 ?_
  refine lv_lstore_n (lv' := [(1, .long 17), (0, .ref (b 0))]) hx hb dX7_digest_3 rfl hl (by decide) rfl (fun ls hl => ?_)
  refine lv_iconst (v := 0) hx hb dX7_digest_4 (by decide) ?_
  refine lv_istore_n (lv' := [(3, .int 0), (1, .long 17), (0, .ref (b 0))]) hx hb dX7_digest_5 rfl hl (by decide) rfl (fun ls hl => ?_)
  refine lv_iload_n hx hb dX7_digest_6 rfl (lv_at hl 0 rfl) ?_
  refine lv_aload_n hx hb dX7_digest_7 rfl (lv_at hl 2 rfl) ?_
  refine vp_callSi (rd_wV (wc := [((b 0), .inr (6, [.ref (b 1), .ref (b 2), .int 0, .ref (b 3), .ref (b 4), .ref (b 5), .long 0, .int 0, .int 0, .ref (b 6), .int 0, .int 0, .ref (b 7), .int 0, .int 0, .int 0, .int 0, .int 0, .int 0, .int 0, .int 0, .int 0, .int 0])), ((b 1), .inl (q 1, 6896, .inr (.inl (fun _ => 0))))]) (As := []) (rest := [.int 0]) hx hb hml hown ht (cm_cells) wd_X7_cells mw_1295 hQ hV va_S.rf (hP.sub [0, 1] rfl) rfl rfl rfl hl.1 rfl (Nat.le_of_ble_eq_true rfl) dX7_digest_8 ⟨Nat.le_of_ble_eq_true rfl, Nat.le_of_ble_eq_true rfl, rfl, rfl⟩ ⟨Nat.le_of_ble_eq_true rfl, Nat.le_of_ble_eq_true rfl⟩) (fun r_1 er_1 => ?_)
  obtain rfl : r_1 = 0 := er_1
  refine lv_icmp_ge (tgt := 62) hx hb dX7_digest_11 (by decide) (fun c_2 => ?_) (fun c9 => absurd (by decide) c9)
  refine lv_lload_n hx hb dX7_digest_62 rfl (lv_at hl 1 rfl) ?_
  exact rd_lret hx hb hr hk (rfl) dX7_digest_63

set_option maxHeartbeats 4000000 in
set_option maxRecDepth 100000 in
theorem cp_end {l : Launch} {D : va_G} {q : Nat → ClassId} {sz : Nat} {b : Nat → Nat} {x : Int32} : Met l yX7_end (Cond.code yX7_end cX7_end 2 (some .int) :: w_all) ({ frames := 1, cells := 0, slots := 0, locals := 25 }) (mt_P D q [.ref (b 0), .int x] (md_w b q) sz) (va_Qi (fun r (u : Unit) => (x = 0 → r = 0) ∧ (¬ (x = 0) → r = (-1))) (mt_B D (md_w b q) sz (fun _ => [])) (va_A (md_w b q) sz)) 0 0 (va_A (md_w b q) sz) := by
  refine mt_start (by decide) (Nat.le_of_ble_eq_true rfl) ?_
  intro p e s m below meth c ls hx hb hr hml hown ht hk hin hP hQ hD hA hS hV hl
  have hK := hQ.1
  have hown : s.vm.findClass RX7 = some m.cls := hown
  have hl : lv_has ls 2 [(0, .ref (b 0)), (1, .int x)] := hl
  have hP := hP.sub (ws' := [((b 0), .inr (6, [.ref (b 1), .ref (b 2), .int 0, .ref (b 3), .ref (b 4), .ref (b 5), .long 0, .int 0, .int 0, .ref (b 6), .int 0, .int 0, .ref (b 7), .int 0, .int 0, .int 0, .int 0, .int 0, .int 0, .int 0, .int 0, .int 0, .int 0]))]) [0] rfl
  have hD := hD.sub (ws' := [((b 0), .inr (6, [.ref (b 1), .ref (b 2), .int 0, .ref (b 3), .ref (b 4), .ref (b 5), .long 0, .int 0, .int 0, .ref (b 6), .int 0, .int 0, .ref (b 7), .int 0, .int 0, .int 0, .int 0, .int 0, .int 0, .int 0, .int 0, .int 0, .int 0]))]) [0] (by decide) rfl
  refine lv_iload_n hx hb dX7_end_0 rfl (lv_at hl 1 rfl) ?_
  refine lv_i2l (v := x.toInt64) hx hb dX7_end_1 rfl ?_
  refine lv_lconst (v := 0) hx hb dX7_end_2 (by decide) ?_
  refine lv_aload_n hx hb dX7_end_3 rfl (lv_at hl 0 rfl) ?_
  refine fl_get (C := RX7) (T := TX7) (N := 23) (ci := 6) (v := .int 0) hx hb ht in_X7 hown hK hP 0 rfl rfl 13 (by decide) mw_1143 rfl dX7_end_4 ?_
  refine lv_i2l (v := 0) hx hb dX7_end_7 (by decide) ?_
  by_cases k_1 : 0 ≤ (x.toInt64) ∧ (x.toInt64) ≤ 0
  · refine vp_callSi (rd_wS (wc := []) (As := [.long (x.toInt64), .long 0, .long 0]) (rest := []) hx hb hml hown ht (ct_in_T k_1) wd_X7_in mw_1213 hQ hV hS (hP.sub [] rfl) rfl hl.1 rfl (Nat.le_of_ble_eq_true rfl) dX7_end_8 ⟨Nat.le_of_ble_eq_true rfl, Nat.le_of_ble_eq_true rfl, rfl, rfl⟩ ⟨Nat.le_of_ble_eq_true rfl, Nat.le_of_ble_eq_true rfl⟩) (fun r_2 er_2 => ?_)
    obtain rfl : r_2 = 1 := er_2
    refine lv_if_ne (tgt := 16) hx hb dX7_end_11 (by decide) (fun c_3 => ?_) (fun c9 => absurd c9 (by decide))
    refine lv_aload_n hx hb dX7_end_16 rfl (lv_at hl 0 rfl) ?_
    refine lv_iload_n hx hb dX7_end_17 rfl (lv_at hl 1 rfl) ?_
    refine fl_put (C := RX7) (T := TX7) (N := 23) (ci := 6) (v := .int x) (ws2 := [((b 0), .inr (6, [.ref (b 1), .ref (b 2), .int 0, .ref (b 3), .ref (b 4), .ref (b 5), .long 0, .int 0, .int 0, .ref (b 6), .int 0, .int 0, .ref (b 7), .int x, .int 0, .int 0, .int 0, .int 0, .int 0, .int 0, .int 0, .int 0, .int 0]))]) hx hb ht in_X7 tyX7_ok nmX7 hown hK hP hD hS 0 rfl rfl 13 (by decide) mw_1143 rfl rfl rfl (Nat.le_of_ble_eq_true rfl) dX7_end_18 rfl (fun H locs hP hD hS => ?_)
    refine lv_iload_n hx hb dX7_end_21 rfl (lv_at hl 1 rfl) ?_
    have hP := hP.sub (ws' := []) [] rfl
    have hD := hD.sub (ws' := []) [] (by decide) rfl
    exact mt_iret () hx hb hr hk (by refine ⟨fun h9 => ?_, fun h9 => ?_⟩ <;> first | rfl | exact h9 | (exfalso; have g0 := k_1; have g1 := c_3; have g2 := h9; (try simp only [lg_cmp_ge, lg_cmp_le, lg_cmp_gt, lg_cmp_lt, lg_cmp_eq] at g0 g1 g2); (try simp only [Int32.lt_iff_toInt_lt, Int32.le_iff_toInt_le, ← Int32.toInt_inj, Int32.reduceToInt, Int64.lt_iff_toInt_lt, Int64.le_iff_toInt_le, ← Int64.toInt_inj, Int64.reduceToInt, Int32.toInt_toInt64] at g0 g1 g2); omega)) hP hD hS dX7_end_22
  · refine vp_callSi (rd_wS (wc := []) (As := [.long (x.toInt64), .long 0, .long 0]) (rest := []) hx hb hml hown ht (ct_in_F k_1) wd_X7_in mw_1213 hQ hV hS (hP.sub [] rfl) rfl hl.1 rfl (Nat.le_of_ble_eq_true rfl) dX7_end_8 ⟨Nat.le_of_ble_eq_true rfl, Nat.le_of_ble_eq_true rfl, rfl, rfl⟩ ⟨Nat.le_of_ble_eq_true rfl, Nat.le_of_ble_eq_true rfl⟩) (fun r_4 er_4 => ?_)
    obtain rfl : r_4 = 0 := er_4
    refine lv_if_ne (tgt := 16) hx hb dX7_end_11 (by decide) (fun c9 => absurd c9 (by decide)) (fun c_5 => ?_)
    refine lv_iconst (v := (-1)) hx hb dX7_end_14 (by decide) ?_
    have hP := hP.sub (ws' := []) [] rfl
    have hD := hD.sub (ws' := []) [] (by decide) rfl
    exact mt_iret () hx hb hr hk (by refine ⟨fun h9 => ?_, fun h9 => ?_⟩ <;> first | rfl | exact h9 | (exfalso; have g0 := k_1; have g1 := c_5; have g2 := h9; (try simp only [lg_cmp_ge, lg_cmp_le, lg_cmp_gt, lg_cmp_lt, lg_cmp_eq] at g0 g1 g2); (try simp only [Int32.lt_iff_toInt_lt, Int32.le_iff_toInt_le, ← Int32.toInt_inj, Int32.reduceToInt, Int64.lt_iff_toInt_lt, Int64.le_iff_toInt_le, ← Int64.toInt_inj, Int64.reduceToInt, Int32.toInt_toInt64] at g0 g1 g2); omega)) hP hD hS dX7_end_15

set_option maxHeartbeats 4000000 in
set_option maxRecDepth 100000 in
theorem cp_row {l : Launch} {D : va_G} {q : Nat → ClassId} {sz : Nat} {b : Nat → Nat} {x : Int32} : Met l yX7_row (Cond.code yX7_row cX7_row 3 (some .int) :: w_all) ({ frames := 2, cells := 0, slots := 0, locals := 46 }) (mt_P D q [.ref (b 0), .int x] (md_w b q) sz) (va_Qi (fun r (u : Unit) => r = (-1)) (mt_B D (md_w b q) sz (fun _ => [])) (va_A (md_w b q) sz)) 0 0 (va_A (md_w b q) sz) := by
  refine mt_start (by decide) (Nat.le_of_ble_eq_true rfl) ?_
  intro p e s m below meth c ls hx hb hr hml hown ht hk hin hP hQ hD hA hS hV hl
  have hK := hQ.1
  have hown : s.vm.findClass RX7 = some m.cls := hown
  have hl : lv_has ls 3 [(0, .ref (b 0)), (1, .int x)] := hl
  have hP := hP.sub (ws' := [((b 0), .inr (6, [.ref (b 1), .ref (b 2), .int 0, .ref (b 3), .ref (b 4), .ref (b 5), .long 0, .int 0, .int 0, .ref (b 6), .int 0, .int 0, .ref (b 7), .int 0, .int 0, .int 0, .int 0, .int 0, .int 0, .int 0, .int 0, .int 0, .int 0])), ((b 1), .inl (q 1, 6896, .inr (.inl (fun _ => 0))))]) [0, 1] rfl
  have hD := hD.sub (ws' := [((b 0), .inr (6, [.ref (b 1), .ref (b 2), .int 0, .ref (b 3), .ref (b 4), .ref (b 5), .long 0, .int 0, .int 0, .ref (b 6), .int 0, .int 0, .ref (b 7), .int 0, .int 0, .int 0, .int 0, .int 0, .int 0, .int 0, .int 0, .int 0, .int 0])), ((b 1), .inl (q 1, 6896, .inr (.inl (fun _ => 0))))]) [0, 1] (by decide) rfl
  refine lv_aload_n hx hb dX7_row_0 rfl (lv_at hl 0 rfl) ?_
  refine fl_get (C := RX7) (T := TX7) (N := 23) (ci := 6) (v := .int 0) hx hb ht in_X7 hown hK hP 0 rfl rfl 13 (by decide) mw_1143 rfl dX7_row_1 ?_
  refine lv_istore_n (lv' := [(2, .int 0), (0, .ref (b 0)), (1, .int x)]) hx hb dX7_row_4 rfl hl (by decide) rfl (fun ls hl => ?_)
  refine lv_aload_n hx hb dX7_row_5 rfl (lv_at hl 1 rfl) ?_
  refine lv_iconst (v := 0) hx hb dX7_row_6 (by decide) ?_
  refine fl_put (C := RX7) (T := TX7) (N := 23) (ci := 6) (v := .int 0) (ws2 := [((b 0), .inr (6, [.ref (b 1), .ref (b 2), .int 0, .ref (b 3), .ref (b 4), .ref (b 5), .long 0, .int 0, .int 0, .ref (b 6), .int 0, .int 0, .ref (b 7), .int 0, .int 0, .int 0, .int 0, .int 0, .int 0, .int 0, .int 0, .int 0, .int 0])), ((b 1), .inl (q 1, 6896, .inr (.inl (fun _ => 0))))]) hx hb ht in_X7 tyX7_ok nmX7 hown hK hP hD hS 0 rfl rfl 13 (by decide) mw_1143 rfl rfl rfl (Nat.le_of_ble_eq_true rfl) dX7_row_7 rfl (fun H locs hP hD hS => ?_)
  refine lv_aload_n hx hb dX7_row_10 rfl (lv_at hl 1 rfl) ?_
  refine lv_iload_n hx hb dX7_row_11 rfl (lv_at hl 2 rfl) ?_
  refine vp_callSi (rd_wV (wc := [((b 0), .inr (6, [.ref (b 1), .ref (b 2), .int 0, .ref (b 3), .ref (b 4), .ref (b 5), .long 0, .int 0, .int 0, .ref (b 6), .int 0, .int 0, .ref (b 7), .int 0, .int 0, .int 0, .int 0, .int 0, .int 0, .int 0, .int 0, .int 0, .int 0])), ((b 1), .inl (q 1, 6896, .inr (.inl (fun _ => 0))))]) (As := [.int x]) (rest := []) hx hb hml hown ht (cm_isRow) wd_X7_isRow mw_1205 hQ hV hS (hP.sub [0, 1] rfl) rfl rfl rfl hl.1 rfl (Nat.le_of_ble_eq_true rfl) dX7_row_12 ⟨Nat.le_of_ble_eq_true rfl, Nat.le_of_ble_eq_true rfl, rfl, rfl⟩ ⟨Nat.le_of_ble_eq_true rfl, Nat.le_of_ble_eq_true rfl⟩) (fun r_1 er_1 => ?_)
  obtain rfl : r_1 = 0 := er_1
  refine lv_if_ne (tgt := 20) hx hb dX7_row_15 (by decide) (fun c9 => absurd c9 (by decide)) (fun c_2 => ?_)
  refine lv_iconst (v := (-1)) hx hb dX7_row_18 (by decide) ?_
  have hP := hP.sub (ws' := []) [] rfl
  have hD := hD.sub (ws' := []) [] (by decide) rfl
  exact mt_iret () hx hb hr hk (rfl) hP hD hS dX7_row_19

set_option maxHeartbeats 4000000 in
set_option maxRecDepth 100000 in
theorem cp_scroll {l : Launch} {D : va_G} {q : Nat → ClassId} {sz : Nat} {b : Nat → Nat} : Met l yX7_scroll (Cond.code yX7_scroll cX7_scroll 2 (some .int) :: w_all) ({ frames := 2, cells := 0, slots := 0, locals := 40 }) (mt_P D q [.ref (b 0)] (md_w b q) sz) (va_Qi (fun r (u : Unit) => r = (-1)) (mt_B D (md_w b q) sz (fun _ => [])) (va_A (md_w b q) sz)) 0 0 (va_A (md_w b q) sz) := by
  refine mt_start (by decide) (Nat.le_of_ble_eq_true rfl) ?_
  intro p e s m below meth c ls hx hb hr hml hown ht hk hin hP hQ hD hA hS hV hl
  have hK := hQ.1
  have hown : s.vm.findClass RX7 = some m.cls := hown
  have hl : lv_has ls 2 [(0, .ref (b 0))] := hl
  have hP := hP.sub (ws' := [((b 0), .inr (6, [.ref (b 1), .ref (b 2), .int 0, .ref (b 3), .ref (b 4), .ref (b 5), .long 0, .int 0, .int 0, .ref (b 6), .int 0, .int 0, .ref (b 7), .int 0, .int 0, .int 0, .int 0, .int 0, .int 0, .int 0, .int 0, .int 0, .int 0])), ((b 1), .inl (q 1, 6896, .inr (.inl (fun _ => 0))))]) [0, 1] rfl
  have hD := hD.sub (ws' := [((b 0), .inr (6, [.ref (b 1), .ref (b 2), .int 0, .ref (b 3), .ref (b 4), .ref (b 5), .long 0, .int 0, .int 0, .ref (b 6), .int 0, .int 0, .ref (b 7), .int 0, .int 0, .int 0, .int 0, .int 0, .int 0, .int 0, .int 0, .int 0, .int 0])), ((b 1), .inl (q 1, 6896, .inr (.inl (fun _ => 0))))]) [0, 1] (by decide) rfl
  refine lv_aload_n hx hb dX7_scroll_0 rfl (lv_at hl 0 rfl) ?_
  refine fl_get (C := RX7) (T := TX7) (N := 23) (ci := 6) (v := .int 0) hx hb ht in_X7 hown hK hP 0 rfl rfl 13 (by decide) mw_1143 rfl dX7_scroll_1 ?_
  refine lv_istore_n (lv' := [(1, .int 0), (0, .ref (b 0))]) hx hb dX7_scroll_4 rfl hl (by decide) rfl (fun ls hl => ?_)
  refine lv_aload_n hx hb dX7_scroll_5 rfl (lv_at hl 1 rfl) ?_
  refine lv_iconst (v := 0) hx hb dX7_scroll_6 (by decide) ?_
  refine fl_put (C := RX7) (T := TX7) (N := 23) (ci := 6) (v := .int 0) (ws2 := [((b 0), .inr (6, [.ref (b 1), .ref (b 2), .int 0, .ref (b 3), .ref (b 4), .ref (b 5), .long 0, .int 0, .int 0, .ref (b 6), .int 0, .int 0, .ref (b 7), .int 0, .int 0, .int 0, .int 0, .int 0, .int 0, .int 0, .int 0, .int 0, .int 0])), ((b 1), .inl (q 1, 6896, .inr (.inl (fun _ => 0))))]) hx hb ht in_X7 tyX7_ok nmX7 hown hK hP hD hS 0 rfl rfl 13 (by decide) mw_1143 rfl rfl rfl (Nat.le_of_ble_eq_true rfl) dX7_scroll_7 rfl (fun H locs hP hD hS => ?_)
  refine lv_aload_n hx hb dX7_scroll_10 rfl (lv_at hl 1 rfl) ?_
  refine vp_callSi (rd_wV (wc := [((b 0), .inr (6, [.ref (b 1), .ref (b 2), .int 0, .ref (b 3), .ref (b 4), .ref (b 5), .long 0, .int 0, .int 0, .ref (b 6), .int 0, .int 0, .ref (b 7), .int 0, .int 0, .int 0, .int 0, .int 0, .int 0, .int 0, .int 0, .int 0, .int 0])), ((b 1), .inl (q 1, 6896, .inr (.inl (fun _ => 0))))]) (As := []) (rest := []) hx hb hml hown ht (cm_isBoard) wd_X7_isBoard mw_1283 hQ hV hS (hP.sub [0, 1] rfl) rfl rfl rfl hl.1 rfl (Nat.le_of_ble_eq_true rfl) dX7_scroll_11 ⟨Nat.le_of_ble_eq_true rfl, Nat.le_of_ble_eq_true rfl, rfl, rfl⟩ ⟨Nat.le_of_ble_eq_true rfl, Nat.le_of_ble_eq_true rfl⟩) (fun r_1 er_1 => ?_)
  obtain rfl : r_1 = 0 := er_1
  refine lv_if_ne (tgt := 19) hx hb dX7_scroll_14 (by decide) (fun c9 => absurd c9 (by decide)) (fun c_2 => ?_)
  refine lv_iconst (v := (-1)) hx hb dX7_scroll_17 (by decide) ?_
  have hP := hP.sub (ws' := []) [] rfl
  have hD := hD.sub (ws' := []) [] (by decide) rfl
  exact mt_iret () hx hb hr hk (rfl) hP hD hS dX7_scroll_18

set_option maxHeartbeats 4000000 in
set_option maxRecDepth 100000 in
theorem cp_run {l : Launch} {D : va_G} {q : Nat → ClassId} {sz : Nat} {b : Nat → Nat} : Met l yX7_run (Cond.code yX7_run cX7_run 2 (some .int) :: w_all) ({ frames := 2, cells := 0, slots := 0, locals := 40 }) (mt_P D q [.ref (b 0)] (md_w b q) sz) (va_Qi (fun r (u : Unit) => r = (-1)) (mt_B D (md_w b q) sz (fun _ => [])) (va_A (md_w b q) sz)) 0 0 (va_A (md_w b q) sz) := by
  refine mt_start (by decide) (Nat.le_of_ble_eq_true rfl) ?_
  intro p e s m below meth c ls hx hb hr hml hown ht hk hin hP hQ hD hA hS hV hl
  have hK := hQ.1
  have hown : s.vm.findClass RX7 = some m.cls := hown
  have hl : lv_has ls 2 [(0, .ref (b 0))] := hl
  have hP := hP.sub (ws' := [((b 0), .inr (6, [.ref (b 1), .ref (b 2), .int 0, .ref (b 3), .ref (b 4), .ref (b 5), .long 0, .int 0, .int 0, .ref (b 6), .int 0, .int 0, .ref (b 7), .int 0, .int 0, .int 0, .int 0, .int 0, .int 0, .int 0, .int 0, .int 0, .int 0])), ((b 1), .inl (q 1, 6896, .inr (.inl (fun _ => 0))))]) [0, 1] rfl
  have hD := hD.sub (ws' := [((b 0), .inr (6, [.ref (b 1), .ref (b 2), .int 0, .ref (b 3), .ref (b 4), .ref (b 5), .long 0, .int 0, .int 0, .ref (b 6), .int 0, .int 0, .ref (b 7), .int 0, .int 0, .int 0, .int 0, .int 0, .int 0, .int 0, .int 0, .int 0, .int 0])), ((b 1), .inl (q 1, 6896, .inr (.inl (fun _ => 0))))]) [0, 1] (by decide) rfl
  refine lv_aload_n hx hb dX7_run_0 rfl (lv_at hl 0 rfl) ?_
  refine vp_callSi (rd_wV (wc := [((b 0), .inr (6, [.ref (b 1), .ref (b 2), .int 0, .ref (b 3), .ref (b 4), .ref (b 5), .long 0, .int 0, .int 0, .ref (b 6), .int 0, .int 0, .ref (b 7), .int 0, .int 0, .int 0, .int 0, .int 0, .int 0, .int 0, .int 0, .int 0, .int 0])), ((b 1), .inl (q 1, 6896, .inr (.inl (fun _ => 0))))]) (As := []) (rest := []) hx hb hml hown ht (cm_isBoard) wd_X7_isBoard mw_1283 hQ hV hS (hP.sub [0, 1] rfl) rfl rfl rfl hl.1 rfl (Nat.le_of_ble_eq_true rfl) dX7_run_1 ⟨Nat.le_of_ble_eq_true rfl, Nat.le_of_ble_eq_true rfl, rfl, rfl⟩ ⟨Nat.le_of_ble_eq_true rfl, Nat.le_of_ble_eq_true rfl⟩) (fun r_1 er_1 => ?_)
  obtain rfl : r_1 = 0 := er_1
  refine lv_if_eq (tgt := 19) hx hb dX7_run_4 (by decide) (fun c_2 => ?_) (fun c9 => absurd (by decide) c9)
  refine lv_iconst (v := 0) hx hb dX7_run_19 (by decide) ?_
  refine lv_istore_n (lv' := [(1, .int 0), (0, .ref (b 0))]) hx hb dX7_run_20 rfl hl (by decide) rfl (fun ls hl => ?_)
  refine lv_iload_n hx hb dX7_run_21 rfl (lv_at hl 0 rfl) ?_
  refine lv_if_eq (tgt := 35) hx hb dX7_run_22 (by decide) (fun c_3 => ?_) (fun c9 => absurd (by decide) c9)
  refine lv_aload_n hx hb dX7_run_35 rfl (lv_at hl 1 rfl) ?_
  refine lv_iconst (v := 0) hx hb dX7_run_36 (by decide) ?_
  refine fl_put (C := RX7) (T := TX7) (N := 23) (ci := 6) (v := .int 0) (ws2 := [((b 0), .inr (6, [.ref (b 1), .ref (b 2), .int 0, .ref (b 3), .ref (b 4), .ref (b 5), .long 0, .int 0, .int 0, .ref (b 6), .int 0, .int 0, .ref (b 7), .int 0, .int 0, .int 0, .int 0, .int 0, .int 0, .int 0, .int 0, .int 0, .int 0])), ((b 1), .inl (q 1, 6896, .inr (.inl (fun _ => 0))))]) hx hb ht in_X7 tyX7_ok nmX7 hown hK hP hD hS 0 rfl rfl 13 (by decide) mw_1143 rfl rfl rfl (Nat.le_of_ble_eq_true rfl) dX7_run_37 rfl (fun H locs hP hD hS => ?_)
  refine lv_aload_n hx hb dX7_run_40 rfl (lv_at hl 1 rfl) ?_
  refine vp_callSi (rd_wV (wc := [((b 0), .inr (6, [.ref (b 1), .ref (b 2), .int 0, .ref (b 3), .ref (b 4), .ref (b 5), .long 0, .int 0, .int 0, .ref (b 6), .int 0, .int 0, .ref (b 7), .int 0, .int 0, .int 0, .int 0, .int 0, .int 0, .int 0, .int 0, .int 0, .int 0])), ((b 1), .inl (q 1, 6896, .inr (.inl (fun _ => 0))))]) (As := []) (rest := []) hx hb hml hown ht (cm_isBoard) wd_X7_isBoard mw_1283 hQ hV hS (hP.sub [0, 1] rfl) rfl rfl rfl hl.1 rfl (Nat.le_of_ble_eq_true rfl) dX7_run_41 ⟨Nat.le_of_ble_eq_true rfl, Nat.le_of_ble_eq_true rfl, rfl, rfl⟩ ⟨Nat.le_of_ble_eq_true rfl, Nat.le_of_ble_eq_true rfl⟩) (fun r_4 er_4 => ?_)
  obtain rfl : r_4 = 0 := er_4
  refine lv_if_ne (tgt := 51) hx hb dX7_run_44 (by decide) (fun c9 => absurd c9 (by decide)) (fun c_5 => ?_)
  refine lv_iconst (v := (-1)) hx hb dX7_run_47 (by decide) ?_
  refine lv_goto (tgt := 69) hx hb dX7_run_48 (by decide) ?_
  have hP := hP.sub (ws' := []) [] rfl
  have hD := hD.sub (ws' := []) [] (by decide) rfl
  exact mt_iret () hx hb hr hk (rfl) hP hD hS dX7_run_69

set_option maxHeartbeats 4000000 in
set_option maxRecDepth 100000 in
theorem cp_back {l : Launch} {D : va_G} {q : Nat → ClassId} {b : Nat → Nat} {x : Int32} : Met l yX7_back (Cond.code yX7_back cX7_back 3 (some .int) :: w_all) ({ frames := 1, cells := 0, slots := 0, locals := 25 }) (rd_P D q [.ref (b 0), .int x] (md_w b q)) (vp_Si (fun r => (0 ≤ x ∧ x ≤ 1 → r = (-2)) ∧ (¬ (0 ≤ x ∧ x ≤ 1) → r = (-1)))) 0 0 (fun _ => False) := by
  refine rd_start (by decide) (Nat.le_of_ble_eq_true rfl) ?_
  intro p e s m below meth c ls hx hb hr hml hown ht hk hP hQ hV hl
  have hK := hQ.1
  have hown : s.vm.findClass RX7 = some m.cls := hown
  have hl : lv_has ls 3 [(0, .ref (b 0)), (1, .int x)] := hl
  have hP := hP.sub (ws' := [((b 0), .inr (6, [.ref (b 1), .ref (b 2), .int 0, .ref (b 3), .ref (b 4), .ref (b 5), .long 0, .int 0, .int 0, .ref (b 6), .int 0, .int 0, .ref (b 7), .int 0, .int 0, .int 0, .int 0, .int 0, .int 0, .int 0, .int 0, .int 0, .int 0])), ((b 4), .inl (q 3, 2, .inl (fun _ => 0)))]) [0, 4] rfl
  refine lv_iload_n hx hb dX7_back_0 rfl (lv_at hl 1 rfl) ?_
  refine lv_i2l (v := x.toInt64) hx hb dX7_back_1 rfl ?_
  refine lv_lconst (v := 0) hx hb dX7_back_2 (by decide) ?_
  refine lv_lconst (v := 1) hx hb dX7_back_3 (by decide) ?_
  by_cases k_1 : 0 ≤ (x.toInt64) ∧ (x.toInt64) ≤ 1
  · refine vp_callSi (rd_wS (wc := []) (As := [.long (x.toInt64), .long 0, .long 1]) (rest := []) hx hb hml hown ht (ct_in_T k_1) wd_X7_in mw_1213 hQ hV va_S.rf (hP.sub [] rfl) rfl hl.1 rfl (Nat.le_of_ble_eq_true rfl) dX7_back_4 ⟨Nat.le_of_ble_eq_true rfl, Nat.le_of_ble_eq_true rfl, rfl, rfl⟩ ⟨Nat.le_of_ble_eq_true rfl, Nat.le_of_ble_eq_true rfl⟩) (fun r_2 er_2 => ?_)
    obtain rfl : r_2 = 1 := er_2
    refine lv_if_ne (tgt := 12) hx hb dX7_back_7 (by decide) (fun c_3 => ?_) (fun c9 => absurd c9 (by decide))
    refine lv_aload_n hx hb dX7_back_12 rfl (lv_at hl 0 rfl) ?_
    refine fl_get (C := RX7) (T := TX7) (N := 23) (ci := 6) (v := .ref (b 4)) hx hb ht in_X7 hown hK hP 0 rfl rfl 4 (by decide) mw_1134 rfl dX7_back_13 ?_
    refine lv_iload_n hx hb dX7_back_16 rfl (lv_at hl 1 rfl) ?_
    refine va_zald hx hb hK hP 1 3 rfl rfl (in_r (by have g0 := k_1; have g1 := c_3; (try simp only [lg_cmp_ge, lg_cmp_le, lg_cmp_gt, lg_cmp_lt, lg_cmp_eq] at g0 g1); (try simp only [Int32.lt_iff_toInt_lt, Int32.le_iff_toInt_le, ← Int32.toInt_inj, Int32.reduceToInt, Int64.lt_iff_toInt_lt, Int64.le_iff_toInt_le, ← Int64.toInt_inj, Int64.reduceToInt, Int32.toInt_toInt64] at g0 g1 ⊢); omega) (by have g0 := k_1; have g1 := c_3; (try simp only [lg_cmp_ge, lg_cmp_le, lg_cmp_gt, lg_cmp_lt, lg_cmp_eq] at g0 g1); (try simp only [Int32.lt_iff_toInt_lt, Int32.le_iff_toInt_le, ← Int32.toInt_inj, Int32.reduceToInt, Int64.lt_iff_toInt_lt, Int64.le_iff_toInt_le, ← Int64.toInt_inj, Int64.reduceToInt, Int32.toInt_toInt64] at g0 g1 ⊢); omega)) dX7_back_17 ?_
    refine ab_i (v := 0) rfl ?_
    refine lv_if_ne (tgt := 24) hx hb dX7_back_18 (by decide) (fun c9 => absurd c9 (by decide)) (fun c_4 => ?_)
    refine lv_bipush (v := (-2)) hx hb dX7_back_21 (by decide) ?_
    exact rd_iret hx hb hr hk (by refine ⟨fun h9 => ?_, fun h9 => ?_⟩ <;> first | rfl | exact h9 | (exfalso; have g0 := k_1; have g1 := c_3; have g2 := c_4; have g3 := h9; (try simp only [lg_cmp_ge, lg_cmp_le, lg_cmp_gt, lg_cmp_lt, lg_cmp_eq] at g0 g1 g2 g3); (try simp only [Int32.lt_iff_toInt_lt, Int32.le_iff_toInt_le, ← Int32.toInt_inj, Int32.reduceToInt, Int64.lt_iff_toInt_lt, Int64.le_iff_toInt_le, ← Int64.toInt_inj, Int64.reduceToInt, Int32.toInt_toInt64] at g0 g1 g2 g3); omega)) dX7_back_23
  · refine vp_callSi (rd_wS (wc := []) (As := [.long (x.toInt64), .long 0, .long 1]) (rest := []) hx hb hml hown ht (ct_in_F k_1) wd_X7_in mw_1213 hQ hV va_S.rf (hP.sub [] rfl) rfl hl.1 rfl (Nat.le_of_ble_eq_true rfl) dX7_back_4 ⟨Nat.le_of_ble_eq_true rfl, Nat.le_of_ble_eq_true rfl, rfl, rfl⟩ ⟨Nat.le_of_ble_eq_true rfl, Nat.le_of_ble_eq_true rfl⟩) (fun r_5 er_5 => ?_)
    obtain rfl : r_5 = 0 := er_5
    refine lv_if_ne (tgt := 12) hx hb dX7_back_7 (by decide) (fun c9 => absurd c9 (by decide)) (fun c_6 => ?_)
    refine lv_iconst (v := (-1)) hx hb dX7_back_10 (by decide) ?_
    exact rd_iret hx hb hr hk (by refine ⟨fun h9 => ?_, fun h9 => ?_⟩ <;> first | rfl | exact h9 | (exfalso; have g0 := k_1; have g1 := c_6; have g2 := h9; (try simp only [lg_cmp_ge, lg_cmp_le, lg_cmp_gt, lg_cmp_lt, lg_cmp_eq] at g0 g1 g2); (try simp only [Int32.lt_iff_toInt_lt, Int32.le_iff_toInt_le, ← Int32.toInt_inj, Int32.reduceToInt, Int64.lt_iff_toInt_lt, Int64.le_iff_toInt_le, ← Int64.toInt_inj, Int64.reduceToInt, Int32.toInt_toInt64] at g0 g1 g2); omega)) dX7_back_11

set_option maxHeartbeats 4000000 in
set_option maxRecDepth 100000 in
theorem cp_letter {l : Launch} {D : va_G} {q : Nat → ClassId} {b : Nat → Nat} {x : Int32} {y : Int32} : Met l yX7_letter (Cond.code yX7_letter cX7_letter 5 (some .int) :: w_all) ({ frames := 2, cells := 0, slots := 0, locals := 40 }) (rd_P D q [.ref (b 0), .int x, .int y] (md_w b q)) (vp_Si (fun r => (¬ (0 ≤ x ∧ x ≤ 1) ∨ y < (-1) → r = (-1)) ∧ ((0 ≤ x ∧ x ≤ 1) ∧ y = (-1) → r = 0) ∧ ((0 ≤ x ∧ x ≤ 1) ∧ 0 ≤ y → r = (-2)))) 0 0 (fun _ => False) := by
  refine rd_start (by decide) (Nat.le_of_ble_eq_true rfl) ?_
  intro p e s m below meth c ls hx hb hr hml hown ht hk hP hQ hV hl
  have hK := hQ.1
  have hown : s.vm.findClass RX7 = some m.cls := hown
  have hl : lv_has ls 5 [(0, .ref (b 0)), (1, .int x), (2, .int y)] := hl
  have hP := hP.sub (ws' := [((b 0), .inr (6, [.ref (b 1), .ref (b 2), .int 0, .ref (b 3), .ref (b 4), .ref (b 5), .long 0, .int 0, .int 0, .ref (b 6), .int 0, .int 0, .ref (b 7), .int 0, .int 0, .int 0, .int 0, .int 0, .int 0, .int 0, .int 0, .int 0, .int 0])), ((b 1), .inl (q 1, 6896, .inr (.inl (fun _ => 0))))]) [0, 1] rfl
  refine lv_iload_n hx hb dX7_letter_0 rfl (lv_at hl 1 rfl) ?_
  refine lv_i2l (v := x.toInt64) hx hb dX7_letter_1 rfl ?_
  refine lv_lconst (v := 0) hx hb dX7_letter_2 (by decide) ?_
  refine lv_lconst (v := 1) hx hb dX7_letter_3 (by decide) ?_
  by_cases k_1 : 0 ≤ (x.toInt64) ∧ (x.toInt64) ≤ 1
  · refine vp_callSi (rd_wS (wc := []) (As := [.long (x.toInt64), .long 0, .long 1]) (rest := []) hx hb hml hown ht (ct_in_T k_1) wd_X7_in mw_1213 hQ hV va_S.rf (hP.sub [] rfl) rfl hl.1 rfl (Nat.le_of_ble_eq_true rfl) dX7_letter_4 ⟨Nat.le_of_ble_eq_true rfl, Nat.le_of_ble_eq_true rfl, rfl, rfl⟩ ⟨Nat.le_of_ble_eq_true rfl, Nat.le_of_ble_eq_true rfl⟩) (fun r_2 er_2 => ?_)
    obtain rfl : r_2 = 1 := er_2
    refine lv_if_eq (tgt := 15) hx hb dX7_letter_7 (by decide) (fun c9 => absurd c9 (by decide)) (fun c_3 => ?_)
    refine lv_iload_n hx hb dX7_letter_10 rfl (lv_at hl 2 rfl) ?_
    refine lv_iconst (v := (-1)) hx hb dX7_letter_11 (by decide) ?_
    refine lv_icmp_ge (tgt := 17) hx hb dX7_letter_12 (by decide) (fun c_4 => ?_) (fun c_4 => ?_)
    · refine lv_aload_n hx hb dX7_letter_17 rfl (lv_at hl 0 rfl) ?_
      refine vp_callSi (rd_wV (wc := [((b 0), .inr (6, [.ref (b 1), .ref (b 2), .int 0, .ref (b 3), .ref (b 4), .ref (b 5), .long 0, .int 0, .int 0, .ref (b 6), .int 0, .int 0, .ref (b 7), .int 0, .int 0, .int 0, .int 0, .int 0, .int 0, .int 0, .int 0, .int 0, .int 0])), ((b 1), .inl (q 1, 6896, .inr (.inl (fun _ => 0))))]) (As := []) (rest := []) hx hb hml hown ht (cm_cells) wd_X7_cells mw_1295 hQ hV va_S.rf (hP.sub [0, 1] rfl) rfl rfl rfl hl.1 rfl (Nat.le_of_ble_eq_true rfl) dX7_letter_18 ⟨Nat.le_of_ble_eq_true rfl, Nat.le_of_ble_eq_true rfl, rfl, rfl⟩ ⟨Nat.le_of_ble_eq_true rfl, Nat.le_of_ble_eq_true rfl⟩) (fun r_5 er_5 => ?_)
      obtain rfl : r_5 = 0 := er_5
      refine lv_if_ne (tgt := 28) hx hb dX7_letter_21 (by decide) (fun c9 => absurd c9 (by decide)) (fun c_6 => ?_)
      refine lv_iconst (v := 0) hx hb dX7_letter_24 (by decide) ?_
      refine lv_goto (tgt := 41) hx hb dX7_letter_25 (by decide) ?_
      refine lv_istore_n (lv' := [(3, .int 0), (0, .ref (b 0)), (1, .int x), (2, .int y)]) hx hb dX7_letter_41 rfl hl (by decide) rfl (fun ls hl => ?_)
      refine lv_iload_n hx hb dX7_letter_42 rfl (lv_at hl 3 rfl) ?_
      refine lv_iconst (v := (-1)) hx hb dX7_letter_43 (by decide) ?_
      refine lv_icmp_ne (tgt := 49) hx hb dX7_letter_44 (by decide) (fun c_7 => ?_) (fun c_7 => ?_)
      · refine lv_iload_n hx hb dX7_letter_49 rfl (lv_at hl 3 rfl) ?_
        refine lv_iload_n hx hb dX7_letter_50 rfl (lv_at hl 0 rfl) ?_
        refine lv_icmp_lt (tgt := 57) hx hb dX7_letter_51 (by decide) (fun c9 => by have g0 := k_1; have g1 := c_3; have g2 := c_4; have g3 := c_6; have g4 := c_7; have g5 := c9; (try simp only [lg_cmp_ge, lg_cmp_le, lg_cmp_gt, lg_cmp_lt, lg_cmp_eq] at g0 g1 g2 g3 g4 g5); (try simp only [Int32.lt_iff_toInt_lt, Int32.le_iff_toInt_le, ← Int32.toInt_inj, Int32.reduceToInt, Int64.lt_iff_toInt_lt, Int64.le_iff_toInt_le, ← Int64.toInt_inj, Int64.reduceToInt, Int32.toInt_toInt64] at g0 g1 g2 g3 g4 g5); omega) (fun c_8 => ?_)
        refine lv_bipush (v := (-2)) hx hb dX7_letter_54 (by decide) ?_
        exact rd_iret hx hb hr hk (by refine ⟨fun h9 => ?_, fun h9 => ?_, fun h9 => ?_⟩ <;> first | rfl | (exfalso; have g0 := k_1; have g1 := c_3; have g2 := c_4; have g3 := c_6; have g4 := c_7; have g5 := c_8; have g6 := h9; (try simp only [lg_cmp_ge, lg_cmp_le, lg_cmp_gt, lg_cmp_lt, lg_cmp_eq] at g0 g1 g2 g3 g4 g5 g6); (try simp only [Int32.lt_iff_toInt_lt, Int32.le_iff_toInt_le, ← Int32.toInt_inj, Int32.reduceToInt, Int64.lt_iff_toInt_lt, Int64.le_iff_toInt_le, ← Int64.toInt_inj, Int64.reduceToInt, Int32.toInt_toInt64] at g0 g1 g2 g3 g4 g5 g6); omega)) dX7_letter_56
      · refine lv_iload_n hx hb dX7_letter_47 rfl (lv_at hl 0 rfl) ?_
        exact rd_iret hx hb hr hk (by refine ⟨fun h9 => ?_, fun h9 => ?_, fun h9 => ?_⟩ <;> first | rfl | (exfalso; have g0 := k_1; have g1 := c_3; have g2 := c_4; have g3 := c_6; have g4 := c_7; have g5 := h9; (try simp only [lg_cmp_ge, lg_cmp_le, lg_cmp_gt, lg_cmp_lt, lg_cmp_eq] at g0 g1 g2 g3 g4 g5); (try simp only [Int32.lt_iff_toInt_lt, Int32.le_iff_toInt_le, ← Int32.toInt_inj, Int32.reduceToInt, Int64.lt_iff_toInt_lt, Int64.le_iff_toInt_le, ← Int64.toInt_inj, Int64.reduceToInt, Int32.toInt_toInt64] at g0 g1 g2 g3 g4 g5); omega)) dX7_letter_48
    · refine lv_iconst (v := (-1)) hx hb dX7_letter_15 (by decide) ?_
      exact rd_iret hx hb hr hk (by refine ⟨fun h9 => ?_, fun h9 => ?_, fun h9 => ?_⟩ <;> first | rfl | (exfalso; have g0 := k_1; have g1 := c_3; have g2 := c_4; have g3 := h9; (try simp only [lg_cmp_ge, lg_cmp_le, lg_cmp_gt, lg_cmp_lt, lg_cmp_eq] at g0 g1 g2 g3); (try simp only [Int32.lt_iff_toInt_lt, Int32.le_iff_toInt_le, ← Int32.toInt_inj, Int32.reduceToInt, Int64.lt_iff_toInt_lt, Int64.le_iff_toInt_le, ← Int64.toInt_inj, Int64.reduceToInt, Int32.toInt_toInt64] at g0 g1 g2 g3); omega)) dX7_letter_16
  · refine vp_callSi (rd_wS (wc := []) (As := [.long (x.toInt64), .long 0, .long 1]) (rest := []) hx hb hml hown ht (ct_in_F k_1) wd_X7_in mw_1213 hQ hV va_S.rf (hP.sub [] rfl) rfl hl.1 rfl (Nat.le_of_ble_eq_true rfl) dX7_letter_4 ⟨Nat.le_of_ble_eq_true rfl, Nat.le_of_ble_eq_true rfl, rfl, rfl⟩ ⟨Nat.le_of_ble_eq_true rfl, Nat.le_of_ble_eq_true rfl⟩) (fun r_9 er_9 => ?_)
    obtain rfl : r_9 = 0 := er_9
    refine lv_if_eq (tgt := 15) hx hb dX7_letter_7 (by decide) (fun c_10 => ?_) (fun c9 => absurd (by decide) c9)
    refine lv_iconst (v := (-1)) hx hb dX7_letter_15 (by decide) ?_
    exact rd_iret hx hb hr hk (by refine ⟨fun h9 => ?_, fun h9 => ?_, fun h9 => ?_⟩ <;> first | rfl | (exfalso; have g0 := k_1; have g1 := c_10; have g2 := h9; (try simp only [lg_cmp_ge, lg_cmp_le, lg_cmp_gt, lg_cmp_lt, lg_cmp_eq] at g0 g1 g2); (try simp only [Int32.lt_iff_toInt_lt, Int32.le_iff_toInt_le, ← Int32.toInt_inj, Int32.reduceToInt, Int64.lt_iff_toInt_lt, Int64.le_iff_toInt_le, ← Int64.toInt_inj, Int64.reduceToInt, Int32.toInt_toInt64] at g0 g1 g2); omega)) dX7_letter_16

set_option maxHeartbeats 4000000 in
set_option maxRecDepth 100000 in
theorem cp_count {l : Launch} {D : va_G} {q : Nat → ClassId} {sz : Nat} {b : Nat → Nat} {x : Int32} : Met l yX7_count (Cond.code yX7_count cX7_count 2 (some .int) :: w_all) ({ frames := 3, cells := 0, slots := 0, locals := 65 }) (mt_P D q [.ref (b 0), .int x] (md_w b q) sz) (va_Qi (fun r (u : Unit) => (0 ≤ x ∧ x ≤ 8 → r = 0) ∧ (¬ (0 ≤ x ∧ x ≤ 8) → r = (-1))) (mt_B D (md_w b q) sz (fun _ => [])) (va_A (md_w b q) sz)) 0 0 (va_A (md_w b q) sz) := by
  refine mt_start (by decide) (Nat.le_of_ble_eq_true rfl) ?_
  intro p e s m below meth c ls hx hb hr hml hown ht hk hin hP hQ hD hA hS hV hl
  have hK := hQ.1
  have hown : s.vm.findClass RX7 = some m.cls := hown
  have hl : lv_has ls 2 [(0, .ref (b 0)), (1, .int x)] := hl
  have hP := hP.sub (ws' := [((b 0), .inr (6, [.ref (b 1), .ref (b 2), .int 0, .ref (b 3), .ref (b 4), .ref (b 5), .long 0, .int 0, .int 0, .ref (b 6), .int 0, .int 0, .ref (b 7), .int 0, .int 0, .int 0, .int 0, .int 0, .int 0, .int 0, .int 0, .int 0, .int 0])), ((b 1), .inl (q 1, 6896, .inr (.inl (fun _ => 0)))), ((b 4), .inl (q 3, 2, .inl (fun _ => 0)))]) [0, 1, 4] rfl
  have hD := hD.sub (ws' := [((b 0), .inr (6, [.ref (b 1), .ref (b 2), .int 0, .ref (b 3), .ref (b 4), .ref (b 5), .long 0, .int 0, .int 0, .ref (b 6), .int 0, .int 0, .ref (b 7), .int 0, .int 0, .int 0, .int 0, .int 0, .int 0, .int 0, .int 0, .int 0, .int 0])), ((b 1), .inl (q 1, 6896, .inr (.inl (fun _ => 0)))), ((b 4), .inl (q 3, 2, .inl (fun _ => 0)))]) [0, 1, 4] (by decide) rfl
  refine lv_iload_n hx hb dX7_count_0 rfl (lv_at hl 1 rfl) ?_
  by_cases k_1 : x = 0
  · refine lv_tableIn (tgt := 52) hx hb dX7_count_1 (by rw [k_1]; decide) (by rw [k_1]; decide) (by rw [k_1]; rfl) (by decide) ?_
    refine lv_aload_n hx hb dX7_count_52 rfl (lv_at hl 0 rfl) ?_
    refine vp_callSi (rd_wV (wc := [((b 0), .inr (6, [.ref (b 1), .ref (b 2), .int 0, .ref (b 3), .ref (b 4), .ref (b 5), .long 0, .int 0, .int 0, .ref (b 6), .int 0, .int 0, .ref (b 7), .int 0, .int 0, .int 0, .int 0, .int 0, .int 0, .int 0, .int 0, .int 0, .int 0])), ((b 1), .inl (q 1, 6896, .inr (.inl (fun _ => 0))))]) (As := []) (rest := []) hx hb hml hown ht (cm_rows) wd_X7_rows mw_1209 hQ hV hS (hP.sub [0, 1] rfl) rfl rfl rfl hl.1 rfl (Nat.le_of_ble_eq_true rfl) dX7_count_53 ⟨Nat.le_of_ble_eq_true rfl, Nat.le_of_ble_eq_true rfl, rfl, rfl⟩ ⟨Nat.le_of_ble_eq_true rfl, Nat.le_of_ble_eq_true rfl⟩) (fun r_2 er_2 => ?_)
    obtain rfl : r_2 = 0 := er_2
    have hP := hP.sub (ws' := []) [] rfl
    have hD := hD.sub (ws' := []) [] (by decide) rfl
    exact mt_iret () hx hb hr hk (by refine ⟨fun h9 => ?_, fun h9 => ?_⟩ <;> first | rfl | exact h9 | (exfalso; have g0 := k_1; have g1 := h9; (try simp only [lg_cmp_ge, lg_cmp_le, lg_cmp_gt, lg_cmp_lt, lg_cmp_eq] at g0 g1); (try simp only [Int32.lt_iff_toInt_lt, Int32.le_iff_toInt_le, ← Int32.toInt_inj, Int32.reduceToInt, Int64.lt_iff_toInt_lt, Int64.le_iff_toInt_le, ← Int64.toInt_inj, Int64.reduceToInt, Int32.toInt_toInt64] at g0 g1); omega)) hP hD hS dX7_count_56
  by_cases k_3 : x = 1
  · refine lv_tableIn (tgt := 57) hx hb dX7_count_1 (by rw [k_3]; decide) (by rw [k_3]; decide) (by rw [k_3]; rfl) (by decide) ?_
    refine lv_aload_n hx hb dX7_count_57 rfl (lv_at hl 0 rfl) ?_
    refine vp_callSi (rd_wV (wc := [((b 0), .inr (6, [.ref (b 1), .ref (b 2), .int 0, .ref (b 3), .ref (b 4), .ref (b 5), .long 0, .int 0, .int 0, .ref (b 6), .int 0, .int 0, .ref (b 7), .int 0, .int 0, .int 0, .int 0, .int 0, .int 0, .int 0, .int 0, .int 0, .int 0])), ((b 1), .inl (q 1, 6896, .inr (.inl (fun _ => 0))))]) (As := []) (rest := []) hx hb hml hown ht (cm_wide) wd_X7_wide mw_1220 hQ hV hS (hP.sub [0, 1] rfl) rfl rfl rfl hl.1 rfl (Nat.le_of_ble_eq_true rfl) dX7_count_58 ⟨Nat.le_of_ble_eq_true rfl, Nat.le_of_ble_eq_true rfl, rfl, rfl⟩ ⟨Nat.le_of_ble_eq_true rfl, Nat.le_of_ble_eq_true rfl⟩) (fun r_4 er_4 => ?_)
    obtain rfl : r_4 = 0 := er_4
    have hP := hP.sub (ws' := []) [] rfl
    have hD := hD.sub (ws' := []) [] (by decide) rfl
    exact mt_iret () hx hb hr hk (by refine ⟨fun h9 => ?_, fun h9 => ?_⟩ <;> first | rfl | exact h9 | (exfalso; have g0 := k_1; have g1 := k_3; have g2 := h9; (try simp only [lg_cmp_ge, lg_cmp_le, lg_cmp_gt, lg_cmp_lt, lg_cmp_eq] at g0 g1 g2); (try simp only [Int32.lt_iff_toInt_lt, Int32.le_iff_toInt_le, ← Int32.toInt_inj, Int32.reduceToInt, Int64.lt_iff_toInt_lt, Int64.le_iff_toInt_le, ← Int64.toInt_inj, Int64.reduceToInt, Int32.toInt_toInt64] at g0 g1 g2); omega)) hP hD hS dX7_count_61
  by_cases k_5 : x = 2
  · refine lv_tableIn (tgt := 62) hx hb dX7_count_1 (by rw [k_5]; decide) (by rw [k_5]; decide) (by rw [k_5]; rfl) (by decide) ?_
    refine lv_aload_n hx hb dX7_count_62 rfl (lv_at hl 0 rfl) ?_
    refine vp_callSi (rd_wV (wc := [((b 0), .inr (6, [.ref (b 1), .ref (b 2), .int 0, .ref (b 3), .ref (b 4), .ref (b 5), .long 0, .int 0, .int 0, .ref (b 6), .int 0, .int 0, .ref (b 7), .int 0, .int 0, .int 0, .int 0, .int 0, .int 0, .int 0, .int 0, .int 0, .int 0])), ((b 1), .inl (q 1, 6896, .inr (.inl (fun _ => 0))))]) (As := []) (rest := []) hx hb hml hown ht (cm_cells) wd_X7_cells mw_1295 hQ hV hS (hP.sub [0, 1] rfl) rfl rfl rfl hl.1 rfl (Nat.le_of_ble_eq_true rfl) dX7_count_63 ⟨Nat.le_of_ble_eq_true rfl, Nat.le_of_ble_eq_true rfl, rfl, rfl⟩ ⟨Nat.le_of_ble_eq_true rfl, Nat.le_of_ble_eq_true rfl⟩) (fun r_6 er_6 => ?_)
    obtain rfl : r_6 = 0 := er_6
    have hP := hP.sub (ws' := []) [] rfl
    have hD := hD.sub (ws' := []) [] (by decide) rfl
    exact mt_iret () hx hb hr hk (by refine ⟨fun h9 => ?_, fun h9 => ?_⟩ <;> first | rfl | exact h9 | (exfalso; have g0 := k_1; have g1 := k_3; have g2 := k_5; have g3 := h9; (try simp only [lg_cmp_ge, lg_cmp_le, lg_cmp_gt, lg_cmp_lt, lg_cmp_eq] at g0 g1 g2 g3); (try simp only [Int32.lt_iff_toInt_lt, Int32.le_iff_toInt_le, ← Int32.toInt_inj, Int32.reduceToInt, Int64.lt_iff_toInt_lt, Int64.le_iff_toInt_le, ← Int64.toInt_inj, Int64.reduceToInt, Int32.toInt_toInt64] at g0 g1 g2 g3); omega)) hP hD hS dX7_count_66
  by_cases k_7 : x = 3
  · refine lv_tableIn (tgt := 67) hx hb dX7_count_1 (by rw [k_7]; decide) (by rw [k_7]; decide) (by rw [k_7]; rfl) (by decide) ?_
    refine lv_aload_n hx hb dX7_count_67 rfl (lv_at hl 0 rfl) ?_
    refine fl_get (C := RX7) (T := TX7) (N := 23) (ci := 6) (v := .ref (b 1)) hx hb ht in_X7 hown hK hP 0 rfl rfl 0 (by decide) mw_1130 rfl dX7_count_68 ?_
    refine lv_iconst (v := 2) hx hb dX7_count_71 (by decide) ?_
    refine va_lald hx hb hK hP 1 1 rfl rfl (in_c rfl) dX7_count_72 ?_
    refine ab_l (v := 0) rfl ?_
    refine lv_l2i (v := 0) hx hb dX7_count_73 (by decide) ?_
    have hP := hP.sub (ws' := []) [] rfl
    have hD := hD.sub (ws' := []) [] (by decide) rfl
    exact mt_iret () hx hb hr hk (by refine ⟨fun h9 => ?_, fun h9 => ?_⟩ <;> first | rfl | exact h9 | (exfalso; have g0 := k_1; have g1 := k_3; have g2 := k_5; have g3 := k_7; have g4 := h9; (try simp only [lg_cmp_ge, lg_cmp_le, lg_cmp_gt, lg_cmp_lt, lg_cmp_eq] at g0 g1 g2 g3 g4); (try simp only [Int32.lt_iff_toInt_lt, Int32.le_iff_toInt_le, ← Int32.toInt_inj, Int32.reduceToInt, Int64.lt_iff_toInt_lt, Int64.le_iff_toInt_le, ← Int64.toInt_inj, Int64.reduceToInt, Int32.toInt_toInt64] at g0 g1 g2 g3 g4); omega)) hP hD hS dX7_count_74
  by_cases k_8 : x = 4
  · refine lv_tableIn (tgt := 75) hx hb dX7_count_1 (by rw [k_8]; decide) (by rw [k_8]; decide) (by rw [k_8]; rfl) (by decide) ?_
    refine lv_aload_n hx hb dX7_count_75 rfl (lv_at hl 0 rfl) ?_
    refine vp_callSi (rd_wV (wc := [((b 0), .inr (6, [.ref (b 1), .ref (b 2), .int 0, .ref (b 3), .ref (b 4), .ref (b 5), .long 0, .int 0, .int 0, .ref (b 6), .int 0, .int 0, .ref (b 7), .int 0, .int 0, .int 0, .int 0, .int 0, .int 0, .int 0, .int 0, .int 0, .int 0])), ((b 1), .inl (q 1, 6896, .inr (.inl (fun _ => 0))))]) (As := []) (rest := []) hx hb hml hown ht (cm_drums) wd_X7_drums mw_1287 hQ hV hS (hP.sub [0, 1] rfl) rfl rfl rfl hl.1 rfl (Nat.le_of_ble_eq_true rfl) dX7_count_76 ⟨Nat.le_of_ble_eq_true rfl, Nat.le_of_ble_eq_true rfl, rfl, rfl⟩ ⟨Nat.le_of_ble_eq_true rfl, Nat.le_of_ble_eq_true rfl⟩) (fun r_9 er_9 => ?_)
    obtain rfl : r_9 = 0 := er_9
    have hP := hP.sub (ws' := []) [] rfl
    have hD := hD.sub (ws' := []) [] (by decide) rfl
    exact mt_iret () hx hb hr hk (by refine ⟨fun h9 => ?_, fun h9 => ?_⟩ <;> first | rfl | exact h9 | (exfalso; have g0 := k_1; have g1 := k_3; have g2 := k_5; have g3 := k_7; have g4 := k_8; have g5 := h9; (try simp only [lg_cmp_ge, lg_cmp_le, lg_cmp_gt, lg_cmp_lt, lg_cmp_eq] at g0 g1 g2 g3 g4 g5); (try simp only [Int32.lt_iff_toInt_lt, Int32.le_iff_toInt_le, ← Int32.toInt_inj, Int32.reduceToInt, Int64.lt_iff_toInt_lt, Int64.le_iff_toInt_le, ← Int64.toInt_inj, Int64.reduceToInt, Int32.toInt_toInt64] at g0 g1 g2 g3 g4 g5); omega)) hP hD hS dX7_count_79
  by_cases k_10 : x = 5
  · refine lv_tableIn (tgt := 80) hx hb dX7_count_1 (by rw [k_10]; decide) (by rw [k_10]; decide) (by rw [k_10]; rfl) (by decide) ?_
    refine lv_aload_n hx hb dX7_count_80 rfl (lv_at hl 0 rfl) ?_
    refine fl_get (C := RX7) (T := TX7) (N := 23) (ci := 6) (v := .int 0) hx hb ht in_X7 hown hK hP 0 rfl rfl 2 (by decide) mw_1132 rfl dX7_count_81 ?_
    have hP := hP.sub (ws' := []) [] rfl
    have hD := hD.sub (ws' := []) [] (by decide) rfl
    exact mt_iret () hx hb hr hk (by refine ⟨fun h9 => ?_, fun h9 => ?_⟩ <;> first | rfl | exact h9 | (exfalso; have g0 := k_1; have g1 := k_3; have g2 := k_5; have g3 := k_7; have g4 := k_8; have g5 := k_10; have g6 := h9; (try simp only [lg_cmp_ge, lg_cmp_le, lg_cmp_gt, lg_cmp_lt, lg_cmp_eq] at g0 g1 g2 g3 g4 g5 g6); (try simp only [Int32.lt_iff_toInt_lt, Int32.le_iff_toInt_le, ← Int32.toInt_inj, Int32.reduceToInt, Int64.lt_iff_toInt_lt, Int64.le_iff_toInt_le, ← Int64.toInt_inj, Int64.reduceToInt, Int32.toInt_toInt64] at g0 g1 g2 g3 g4 g5 g6); omega)) hP hD hS dX7_count_84
  by_cases k_11 : x = 6
  · refine lv_tableIn (tgt := 85) hx hb dX7_count_1 (by rw [k_11]; decide) (by rw [k_11]; decide) (by rw [k_11]; rfl) (by decide) ?_
    refine lv_aload_n hx hb dX7_count_85 rfl (lv_at hl 0 rfl) ?_
    refine fl_get (C := RX7) (T := TX7) (N := 23) (ci := 6) (v := .int 0) hx hb ht in_X7 hown hK hP 0 rfl rfl 13 (by decide) mw_1143 rfl dX7_count_86 ?_
    have hP := hP.sub (ws' := []) [] rfl
    have hD := hD.sub (ws' := []) [] (by decide) rfl
    exact mt_iret () hx hb hr hk (by refine ⟨fun h9 => ?_, fun h9 => ?_⟩ <;> first | rfl | exact h9 | (exfalso; have g0 := k_1; have g1 := k_3; have g2 := k_5; have g3 := k_7; have g4 := k_8; have g5 := k_10; have g6 := k_11; have g7 := h9; (try simp only [lg_cmp_ge, lg_cmp_le, lg_cmp_gt, lg_cmp_lt, lg_cmp_eq] at g0 g1 g2 g3 g4 g5 g6 g7); (try simp only [Int32.lt_iff_toInt_lt, Int32.le_iff_toInt_le, ← Int32.toInt_inj, Int32.reduceToInt, Int64.lt_iff_toInt_lt, Int64.le_iff_toInt_le, ← Int64.toInt_inj, Int64.reduceToInt, Int32.toInt_toInt64] at g0 g1 g2 g3 g4 g5 g6 g7); omega)) hP hD hS dX7_count_89
  by_cases k_12 : x = 7
  · refine lv_tableIn (tgt := 90) hx hb dX7_count_1 (by rw [k_12]; decide) (by rw [k_12]; decide) (by rw [k_12]; rfl) (by decide) ?_
    refine lv_aload_n hx hb dX7_count_90 rfl (lv_at hl 0 rfl) ?_
    refine fl_get (C := RX7) (T := TX7) (N := 23) (ci := 6) (v := .ref (b 4)) hx hb ht in_X7 hown hK hP 0 rfl rfl 4 (by decide) mw_1134 rfl dX7_count_91 ?_
    refine lv_iconst (v := 0) hx hb dX7_count_94 (by decide) ?_
    refine va_zald hx hb hK hP 2 3 rfl rfl (in_c rfl) dX7_count_95 ?_
    refine ab_i (v := 0) rfl ?_
    refine lv_if_eq (tgt := 103) hx hb dX7_count_96 (by decide) (fun c_13 => ?_) (fun c9 => absurd (by decide) c9)
    refine lv_iconst (v := 0) hx hb dX7_count_103 (by decide) ?_
    refine lv_aload_n hx hb dX7_count_104 rfl (lv_at hl 0 rfl) ?_
    refine fl_get (C := RX7) (T := TX7) (N := 23) (ci := 6) (v := .ref (b 4)) hx hb ht in_X7 hown hK hP 0 rfl rfl 4 (by decide) mw_1134 rfl dX7_count_105 ?_
    refine lv_iconst (v := 1) hx hb dX7_count_108 (by decide) ?_
    refine va_zald hx hb hK hP 2 3 rfl rfl (in_c rfl) dX7_count_109 ?_
    refine ab_i (v := 0) rfl ?_
    refine lv_if_eq (tgt := 117) hx hb dX7_count_110 (by decide) (fun c_14 => ?_) (fun c9 => absurd (by decide) c9)
    refine lv_iconst (v := 0) hx hb dX7_count_117 (by decide) ?_
    refine lv_iadd hx hb dX7_count_118 ?_
    refine ab_i (v := 0) (by decide) ?_
    have hP := hP.sub (ws' := []) [] rfl
    have hD := hD.sub (ws' := []) [] (by decide) rfl
    exact mt_iret () hx hb hr hk (by refine ⟨fun h9 => ?_, fun h9 => ?_⟩ <;> first | rfl | exact h9 | (exfalso; have g0 := k_1; have g1 := k_3; have g2 := k_5; have g3 := k_7; have g4 := k_8; have g5 := k_10; have g6 := k_11; have g7 := k_12; have g8 := c_13; have g9 := c_14; have g10 := h9; (try simp only [lg_cmp_ge, lg_cmp_le, lg_cmp_gt, lg_cmp_lt, lg_cmp_eq] at g0 g1 g2 g3 g4 g5 g6 g7 g8 g9 g10); (try simp only [Int32.lt_iff_toInt_lt, Int32.le_iff_toInt_le, ← Int32.toInt_inj, Int32.reduceToInt, Int64.lt_iff_toInt_lt, Int64.le_iff_toInt_le, ← Int64.toInt_inj, Int64.reduceToInt, Int32.toInt_toInt64] at g0 g1 g2 g3 g4 g5 g6 g7 g8 g9 g10); omega)) hP hD hS dX7_count_119
  by_cases k_15 : x = 8
  · refine lv_tableIn (tgt := 120) hx hb dX7_count_1 (by rw [k_15]; decide) (by rw [k_15]; decide) (by rw [k_15]; rfl) (by decide) ?_
    refine lv_aload_n hx hb dX7_count_120 rfl (lv_at hl 0 rfl) ?_
    refine mt_gov (mt_wV (wc := [((b 0), .inr (6, [.ref (b 1), .ref (b 2), .int 0, .ref (b 3), .ref (b 4), .ref (b 5), .long 0, .int 0, .int 0, .ref (b 6), .int 0, .int 0, .ref (b 7), .int 0, .int 0, .int 0, .int 0, .int 0, .int 0, .int 0, .int 0, .int 0, .int 0])), ((b 1), .inl (q 1, 6896, .inr (.inl (fun _ => 0))))]) (As := []) (rest := []) hx hb hml hown ht (cm_findsTurning) wd_X7_findsTurning mw_1308 hQ hV hS hA (hP.sub [0, 1] rfl) (hD.sub [0, 1] (by decide) rfl) rfl rfl rfl hl.1 rfl (Nat.le_of_ble_eq_true rfl) dX7_count_121 ⟨Nat.le_of_ble_eq_true rfl, Nat.le_of_ble_eq_true rfl, rfl, rfl⟩ ⟨Nat.le_of_ble_eq_true rfl, Nat.le_of_ble_eq_true rfl⟩) (wr := [((b 4), .inl (q 3, 2, .inl (fun _ => 0)))]) hP hD hS hA [0, 1] [2] rfl rfl (by decide) (by decide) (fun u_16 H locs hw hP hD hS => ?_)
    have hP : va_P D vwCl [((b 4), .inl (q 3, 2, .inl (fun _ => 0))), ((b 0), .inr (6, [.ref (b 1), .ref (b 2), .int 0, .ref (b 3), .ref (b 4), .ref (b 5), .long 0, .int 0, .int 0, .ref (b 6), .int 0, .int 0, .ref (b 7), .int 0, .int 0, .int 0, .int 0, .int 0, .int 0, .int 0, .int 0, .int 0, .int 0])), ((b 1), .inl (q 1, 6896, .inr (.inl (fun _ => 0))))] H := hP
    have hD : va_D _ [((b 4), .inl (q 3, 2, .inl (fun _ => 0))), ((b 0), .inr (6, [.ref (b 1), .ref (b 2), .int 0, .ref (b 3), .ref (b 4), .ref (b 5), .long 0, .int 0, .int 0, .ref (b 6), .int 0, .int 0, .ref (b 7), .int 0, .int 0, .int 0, .int 0, .int 0, .int 0, .int 0, .int 0, .int 0, .int 0])), ((b 1), .inl (q 1, 6896, .inr (.inl (fun _ => 0))))] := hD
    refine lv_aload_n hx hb dX7_count_124 rfl (lv_at hl 0 rfl) ?_
    refine fl_get (C := RX7) (T := TX7) (N := 23) (ci := 6) (v := .int 0) hx hb ht in_X7 hown hK hP 1 rfl rfl 7 (by decide) mw_1137 rfl dX7_count_125 ?_
    have hP := hP.sub (ws' := []) [] rfl
    have hD := hD.sub (ws' := []) [] (by decide) rfl
    exact mt_iret () hx hb hr hk (by refine ⟨fun h9 => ?_, fun h9 => ?_⟩ <;> first | rfl | exact h9 | (exfalso; have g0 := k_1; have g1 := k_3; have g2 := k_5; have g3 := k_7; have g4 := k_8; have g5 := k_10; have g6 := k_11; have g7 := k_12; have g8 := k_15; have g9 := h9; (try simp only [lg_cmp_ge, lg_cmp_le, lg_cmp_gt, lg_cmp_lt, lg_cmp_eq] at g0 g1 g2 g3 g4 g5 g6 g7 g8 g9); (try simp only [Int32.lt_iff_toInt_lt, Int32.le_iff_toInt_le, ← Int32.toInt_inj, Int32.reduceToInt, Int64.lt_iff_toInt_lt, Int64.le_iff_toInt_le, ← Int64.toInt_inj, Int64.reduceToInt, Int32.toInt_toInt64] at g0 g1 g2 g3 g4 g5 g6 g7 g8 g9); omega)) hP hD hS dX7_count_128
  refine lv_tableOut (tgt := 129) hx hb dX7_count_1 (by have g0 := k_1; have g1 := k_3; have g2 := k_5; have g3 := k_7; have g4 := k_8; have g5 := k_10; have g6 := k_11; have g7 := k_12; have g8 := k_15; (try simp only [lg_cmp_ge, lg_cmp_le, lg_cmp_gt, lg_cmp_lt, lg_cmp_eq] at g0 g1 g2 g3 g4 g5 g6 g7 g8); (try simp only [Int32.lt_iff_toInt_lt, Int32.le_iff_toInt_le, ← Int32.toInt_inj, Int32.reduceToInt, Int64.lt_iff_toInt_lt, Int64.le_iff_toInt_le, ← Int64.toInt_inj, Int64.reduceToInt, Int32.toInt_toInt64] at g0 g1 g2 g3 g4 g5 g6 g7 g8); omega) (by decide) ?_
  refine lv_iconst (v := (-1)) hx hb dX7_count_129 (by decide) ?_
  have hP := hP.sub (ws' := []) [] rfl
  have hD := hD.sub (ws' := []) [] (by decide) rfl
  exact mt_iret () hx hb hr hk (by refine ⟨fun h9 => ?_, fun h9 => ?_⟩ <;> first | rfl | exact h9 | (exfalso; have g0 := k_1; have g1 := k_3; have g2 := k_5; have g3 := k_7; have g4 := k_8; have g5 := k_10; have g6 := k_11; have g7 := k_12; have g8 := k_15; have g9 := h9; (try simp only [lg_cmp_ge, lg_cmp_le, lg_cmp_gt, lg_cmp_lt, lg_cmp_eq] at g0 g1 g2 g3 g4 g5 g6 g7 g8 g9); (try simp only [Int32.lt_iff_toInt_lt, Int32.le_iff_toInt_le, ← Int32.toInt_inj, Int32.reduceToInt, Int64.lt_iff_toInt_lt, Int64.le_iff_toInt_le, ← Int64.toInt_inj, Int64.reduceToInt, Int32.toInt_toInt64] at g0 g1 g2 g3 g4 g5 g6 g7 g8 g9); omega)) hP hD hS dX7_count_130
