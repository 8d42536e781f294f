def wp_X7_sign (post : Int32 → Prop) (s0 : Md) (x1 : Int32) (x2 : Int32) : Prop := wp_X7_isDrum (fun r_1 => ((r_1 = 0 → post (-1)) ∧ (¬ r_1 = 0 → wp_X7_flapsOf (fun r_4 => wp_X7_in (fun r_6 => ((r_6 = 0 → post (-1)) ∧ (¬ r_6 = 0 → wp_X7_signOf (fun r_9 => post r_9) s0 x1 x2))) (Int32.toInt64 x2) (0 : Int64) (Int32.toInt64 (r_4 - 1))) s0 x1))) s0 x1
set_option maxHeartbeats 4000000 in
set_option maxRecDepth 100000 in
theorem c2_X7_sign {l : Launch} {D : va_G} {q : Nat → ClassId} {a0 : Nat → Nat} {s0 : Md} {x1 : Int32} {x2 : Int32} {post : Int32 → Prop} (h : wp_X7_sign post s0 x1 x2) : Met l yX7_sign (Cond.code yX7_sign cX7_sign 3 (some .int) :: w_all) ({ frames := 2, cells := 0, slots := 0, locals := 46 } : Room) (rd_P D q [.ref (a0 0), .int x1, .int x2] (md_v a0 q s0)) (vp_Si post) 0 0 (fun _ => False) := by
  refine rd_start (by decide) (Nat.le_of_ble_eq_true rfl) ?_
  intro p e s m below meth c ls hx hb hr hml hown ht hk hP hQ hV hl
  have hK := hQ.1
  have hown : s.vm.findClass RX7 = some m.cls := hown
  have hl : lv_has ls 3 [(0, .ref (a0 0)), (1, .int x1), (2, .int x2)] := hl
  have hP : va_P D vwCl [((a0 0), .inr (6, [.ref (a0 1), .ref (a0 2), .int (s0.1 0), .ref (a0 3), .ref (a0 5), .ref (a0 4), .long s0.2.1, .int (s0.1 1), .int (s0.1 2), .ref (a0 6), .int (s0.1 3), .int (s0.1 4), .ref (a0 7), .int (s0.1 5), .int (s0.1 6), .int (s0.1 7), .int (s0.1 8), .int (s0.1 9), .int (s0.1 10), .int (s0.1 11), .int (s0.1 12), .int (s0.1 13), .int (s0.1 14)])), ((a0 1), .inl (q 1, 6896, .inr (.inl (s0.2.2.1 0)))), ((a0 2), .inl (q 1, 68960, .inr (.inl (s0.2.2.1 1)))), ((a0 3), .inl (q 1, 13792, .inr (.inl (s0.2.2.1 2)))), ((a0 4), .inl (q 1, 6896, .inr (.inl (s0.2.2.1 3)))), ((a0 5), .inl (q 3, 2, .inl (s0.2.2.2 0))), ((a0 6), .inl (q 0, 40, .inl (s0.2.2.2 1))), ((a0 7), .inl (q 2, 400, .inl (s0.2.2.2 2)))] s.heap := hP
  unfold wp_X7_sign at h
  refine lv_aload_n hx hb dX7_sign_0 rfl (lv_at hl 0 rfl) ?_
  refine lv_iload_n hx hb dX7_sign_1 rfl (lv_at hl 1 rfl) ?_
  refine vp_callSi (rd_wV (wc := md_v a0 q s0) (As := [.int x1]) (rest := []) hx hb hml hown ht (c2_X7_isDrum h) wd_X7_isDrum mw_1373 hQ hV va_S.rf (hP.sub [0, 1, 2, 3, 4, 5, 6, 7] rfl) rfl rfl rfl hl.1 rfl (Nat.le_of_ble_eq_true rfl) dX7_sign_2 ⟨Nat.le_of_ble_eq_true rfl, Nat.le_of_ble_eq_true rfl, rfl, rfl⟩ ⟨Nat.le_of_ble_eq_true rfl, Nat.le_of_ble_eq_true rfl⟩) (fun r_1 h => ?_)
  try dsimp only at h
  refine lv_if_eq (tgt := 34) hx hb dX7_sign_5 (by decide) (fun c_3 => ?_) (fun c_3 => ?_)
  · replace h := h.1 c_3
    refine lv_iconst (v := (-1)) hx hb dX7_sign_34 (by decide) ?_
    exact rd_iret hx hb hr hk h dX7_sign_35
  · replace h := h.2 c_3
    refine lv_iload_n hx hb dX7_sign_8 rfl (lv_at hl 2 rfl) ?_
    refine lv_i2l (v := (Int32.toInt64 x2)) hx hb dX7_sign_9 rfl ?_
    refine lv_lconst (v := 0) hx hb dX7_sign_10 (by decide) ?_
    refine lv_aload_n hx hb dX7_sign_11 rfl (lv_at hl 0 rfl) ?_
    refine lv_iload_n hx hb dX7_sign_12 rfl (lv_at hl 1 rfl) ?_
    refine vp_callSi (rd_wV (wc := md_v a0 q s0) (As := [.int x1]) (rest := [.long 0, .long (Int32.toInt64 x2)]) hx hb hml hown ht (c2_X7_flapsOf h) wd_X7_flapsOf mw_1253 hQ hV va_S.rf (hP.sub [0, 1, 2, 3, 4, 5, 6, 7] rfl) rfl rfl rfl hl.1 rfl (Nat.le_of_ble_eq_true rfl) dX7_sign_13 ⟨Nat.le_of_ble_eq_true rfl, Nat.le_of_ble_eq_true rfl, rfl, rfl⟩ ⟨Nat.le_of_ble_eq_true rfl, Nat.le_of_ble_eq_true rfl⟩) (fun r_4 h => ?_)
    try dsimp only at h
    refine lv_iconst (v := 1) hx hb dX7_sign_16 (by decide) ?_
    refine lv_isub hx hb dX7_sign_17 ?_
    refine lv_i2l (v := (Int32.toInt64 (r_4 - 1))) hx hb dX7_sign_18 rfl ?_
    refine vp_callSi (rd_wS (wc := ([] : va_W)) (As := [.long (Int32.toInt64 x2), .long 0, .long (Int32.toInt64 (r_4 - 1))]) (rest := []) hx hb hml hown ht (c2_X7_in h) wd_X7_in mw_1213 hQ hV va_S.rf (hP.sub [] rfl) rfl hl.1 rfl (Nat.le_of_ble_eq_true rfl) dX7_sign_19 ⟨Nat.le_of_ble_eq_true rfl, Nat.le_of_ble_eq_true rfl, rfl, rfl⟩ ⟨Nat.le_of_ble_eq_true rfl, Nat.le_of_ble_eq_true rfl⟩) (fun r_6 h => ?_)
    try dsimp only at h
    refine lv_if_eq (tgt := 34) hx hb dX7_sign_22 (by decide) (fun c_8 => ?_) (fun c_8 => ?_)
    · replace h := h.1 c_8
      refine lv_iconst (v := (-1)) hx hb dX7_sign_34 (by decide) ?_
      exact rd_iret hx hb hr hk h dX7_sign_35
    · replace h := h.2 c_8
      refine lv_aload_n hx hb dX7_sign_25 rfl (lv_at hl 0 rfl) ?_
      refine lv_iload_n hx hb dX7_sign_26 rfl (lv_at hl 1 rfl) ?_
      refine lv_iload_n hx hb dX7_sign_27 rfl (lv_at hl 2 rfl) ?_
      refine vp_callSi (rd_wV (wc := md_v a0 q s0) (As := [.int x1, .int x2]) (rest := []) hx hb hml hown ht (c2_X7_signOf h) wd_X7_signOf mw_1257 hQ hV va_S.rf (hP.sub [0, 1, 2, 3, 4, 5, 6, 7] rfl) rfl rfl rfl hl.1 rfl (Nat.le_of_ble_eq_true rfl) dX7_sign_28 ⟨Nat.le_of_ble_eq_true rfl, Nat.le_of_ble_eq_true rfl, rfl, rfl⟩ ⟨Nat.le_of_ble_eq_true rfl, Nat.le_of_ble_eq_true rfl⟩) (fun r_9 h => ?_)
      try dsimp only at h
      refine lv_goto (tgt := 35) hx hb dX7_sign_31 (by decide) ?_
      exact rd_iret hx hb hr hk h dX7_sign_35

def wp_X7_signAt (post : Int32 → Prop) (s0 : Md) (x1 : Int32) (x2 : Int32) : Prop := wp_X7_of (fun r_1 => wp_X7_of (fun r_3 => wp_X7_signOf (fun r_5 => post r_5) s0 r_1 r_3) s0 x1 (1 + x2)) s0 x1 (0 : Int32)
set_option maxHeartbeats 4000000 in
set_option maxRecDepth 100000 in
theorem c2_X7_signAt {l : Launch} {D : va_G} {q : Nat → ClassId} {a0 : Nat → Nat} {s0 : Md} {x1 : Int32} {x2 : Int32} {post : Int32 → Prop} (h : wp_X7_signAt post s0 x1 x2) : Met l yX7_signAt (Cond.code yX7_signAt cX7_signAt 3 (some .int) :: w_all) ({ frames := 1, cells := 0, slots := 0, locals := 22 } : Room) (rd_P D q [.ref (a0 0), .int x1, .int x2] (md_v a0 q s0)) (vp_Si post) 0 0 (fun _ => False) := by
  refine rd_start (by decide) (Nat.le_of_ble_eq_true rfl) ?_
  intro p e s m below meth c ls hx hb hr hml hown ht hk hP hQ hV hl
  have hK := hQ.1
  have hown : s.vm.findClass RX7 = some m.cls := hown
  have hl : lv_has ls 3 [(0, .ref (a0 0)), (1, .int x1), (2, .int x2)] := hl
  have hP : va_P D vwCl [((a0 0), .inr (6, [.ref (a0 1), .ref (a0 2), .int (s0.1 0), .ref (a0 3), .ref (a0 5), .ref (a0 4), .long s0.2.1, .int (s0.1 1), .int (s0.1 2), .ref (a0 6), .int (s0.1 3), .int (s0.1 4), .ref (a0 7), .int (s0.1 5), .int (s0.1 6), .int (s0.1 7), .int (s0.1 8), .int (s0.1 9), .int (s0.1 10), .int (s0.1 11), .int (s0.1 12), .int (s0.1 13), .int (s0.1 14)])), ((a0 1), .inl (q 1, 6896, .inr (.inl (s0.2.2.1 0)))), ((a0 2), .inl (q 1, 68960, .inr (.inl (s0.2.2.1 1)))), ((a0 3), .inl (q 1, 13792, .inr (.inl (s0.2.2.1 2)))), ((a0 4), .inl (q 1, 6896, .inr (.inl (s0.2.2.1 3)))), ((a0 5), .inl (q 3, 2, .inl (s0.2.2.2 0))), ((a0 6), .inl (q 0, 40, .inl (s0.2.2.2 1))), ((a0 7), .inl (q 2, 400, .inl (s0.2.2.2 2)))] s.heap := hP
  unfold wp_X7_signAt at h
  refine lv_aload_n hx hb dX7_signAt_0 rfl (lv_at hl 0 rfl) ?_
  refine lv_aload_n hx hb dX7_signAt_1 rfl (lv_at hl 0 rfl) ?_
  refine lv_iload_n hx hb dX7_signAt_2 rfl (lv_at hl 1 rfl) ?_
  refine lv_iconst (v := 0) hx hb dX7_signAt_3 (by decide) ?_
  refine vp_callSi (rd_wV (wc := md_v a0 q s0) (As := [.int x1, .int 0]) (rest := [.ref (a0 0)]) hx hb hml hown ht (c2_X7_of h) wd_X7_of mw_1249 hQ hV va_S.rf (hP.sub [0, 1, 2, 3, 4, 5, 6, 7] rfl) rfl rfl rfl hl.1 rfl (Nat.le_of_ble_eq_true rfl) dX7_signAt_4 ⟨Nat.le_of_ble_eq_true rfl, Nat.le_of_ble_eq_true rfl, rfl, rfl⟩ ⟨Nat.le_of_ble_eq_true rfl, Nat.le_of_ble_eq_true rfl⟩) (fun r_1 h => ?_)
  try dsimp only at h
  refine lv_aload_n hx hb dX7_signAt_7 rfl (lv_at hl 0 rfl) ?_
  refine lv_iload_n hx hb dX7_signAt_8 rfl (lv_at hl 1 rfl) ?_
  refine lv_iconst (v := 1) hx hb dX7_signAt_9 (by decide) ?_
  refine lv_iload_n hx hb dX7_signAt_10 rfl (lv_at hl 2 rfl) ?_
  refine lv_iadd hx hb dX7_signAt_11 ?_
  refine vp_callSi (rd_wV (wc := md_v a0 q s0) (As := [.int x1, .int (1 + x2)]) (rest := [.int r_1, .ref (a0 0)]) hx hb hml hown ht (c2_X7_of h) wd_X7_of mw_1249 hQ hV va_S.rf (hP.sub [0, 1, 2, 3, 4, 5, 6, 7] rfl) rfl rfl rfl hl.1 rfl (Nat.le_of_ble_eq_true rfl) dX7_signAt_12 ⟨Nat.le_of_ble_eq_true rfl, Nat.le_of_ble_eq_true rfl, rfl, rfl⟩ ⟨Nat.le_of_ble_eq_true rfl, Nat.le_of_ble_eq_true rfl⟩) (fun r_3 h => ?_)
  try dsimp only at h
  refine vp_callSi (rd_wV (wc := md_v a0 q s0) (As := [.int r_1, .int r_3]) (rest := []) hx hb hml hown ht (c2_X7_signOf h) wd_X7_signOf mw_1257 hQ hV va_S.rf (hP.sub [0, 1, 2, 3, 4, 5, 6, 7] rfl) rfl rfl rfl hl.1 rfl (Nat.le_of_ble_eq_true rfl) dX7_signAt_15 ⟨Nat.le_of_ble_eq_true rfl, Nat.le_of_ble_eq_true rfl, rfl, rfl⟩ ⟨Nat.le_of_ble_eq_true rfl, Nat.le_of_ble_eq_true rfl⟩) (fun r_5 h => ?_)
  try dsimp only at h
  exact rd_iret hx hb hr hk h dX7_signAt_18

def wp_X7_at (post : Int32 → Prop) (s0 : Md) (x1 : Int32) (x2 : Int32) (x3 : Int32) : Prop := wp_X7_isRow (fun r_1 => ((r_1 = 0 → post (-1)) ∧ (¬ r_1 = 0 → wp_X7_wide (fun r_4 => wp_X7_in (fun r_6 => ((r_6 = 0 → post (-1)) ∧ (¬ r_6 = 0 → wp_X7_in (fun r_9 => ((r_9 = 0 → post (-1)) ∧ (¬ r_9 = 0 → wp_X7_wide (fun r_12 => wp_X7_signAt (fun r_14 => post r_14) s0 ((r_12 * x1) + x2) x3) s0))) (Int32.toInt64 x3) (0 : Int64) (2 : Int64)))) (Int32.toInt64 x2) (0 : Int64) (Int32.toInt64 (r_4 - 1))) s0))) s0 x1
set_option maxHeartbeats 4000000 in
set_option maxRecDepth 100000 in
theorem c2_X7_at {l : Launch} {D : va_G} {q : Nat → ClassId} {a0 : Nat → Nat} {s0 : Md} {x1 : Int32} {x2 : Int32} {x3 : Int32} {post : Int32 → Prop} (h : wp_X7_at post s0 x1 x2 x3) : Met l yX7_at (Cond.code yX7_at cX7_at 4 (some .int) :: w_all) ({ frames := 2, cells := 0, slots := 0, locals := 46 } : Room) (rd_P D q [.ref (a0 0), .int x1, .int x2, .int x3] (md_v a0 q s0)) (vp_Si post) 0 0 (fun _ => False) := by
  refine rd_start (by decide) (Nat.le_of_ble_eq_true rfl) ?_
  intro p e s m below meth c ls hx hb hr hml hown ht hk hP hQ hV hl
  have hK := hQ.1
  have hown : s.vm.findClass RX7 = some m.cls := hown
  have hl : lv_has ls 4 [(0, .ref (a0 0)), (1, .int x1), (2, .int x2), (3, .int x3)] := hl
  have hP : va_P D vwCl [((a0 0), .inr (6, [.ref (a0 1), .ref (a0 2), .int (s0.1 0), .ref (a0 3), .ref (a0 5), .ref (a0 4), .long s0.2.1, .int (s0.1 1), .int (s0.1 2), .ref (a0 6), .int (s0.1 3), .int (s0.1 4), .ref (a0 7), .int (s0.1 5), .int (s0.1 6), .int (s0.1 7), .int (s0.1 8), .int (s0.1 9), .int (s0.1 10), .int (s0.1 11), .int (s0.1 12), .int (s0.1 13), .int (s0.1 14)])), ((a0 1), .inl (q 1, 6896, .inr (.inl (s0.2.2.1 0)))), ((a0 2), .inl (q 1, 68960, .inr (.inl (s0.2.2.1 1)))), ((a0 3), .inl (q 1, 13792, .inr (.inl (s0.2.2.1 2)))), ((a0 4), .inl (q 1, 6896, .inr (.inl (s0.2.2.1 3)))), ((a0 5), .inl (q 3, 2, .inl (s0.2.2.2 0))), ((a0 6), .inl (q 0, 40, .inl (s0.2.2.2 1))), ((a0 7), .inl (q 2, 400, .inl (s0.2.2.2 2)))] s.heap := hP
  unfold wp_X7_at at h
  refine lv_aload_n hx hb dX7_at_0 rfl (lv_at hl 0 rfl) ?_
  refine lv_iload_n hx hb dX7_at_1 rfl (lv_at hl 1 rfl) ?_
  refine vp_callSi (rd_wV (wc := md_v a0 q s0) (As := [.int x1]) (rest := []) hx hb hml hown ht (c2_X7_isRow h) wd_X7_isRow mw_1205 hQ hV va_S.rf (hP.sub [0, 1, 2, 3, 4, 5, 6, 7] rfl) rfl rfl rfl hl.1 rfl (Nat.le_of_ble_eq_true rfl) dX7_at_2 ⟨Nat.le_of_ble_eq_true rfl, Nat.le_of_ble_eq_true rfl, rfl, rfl⟩ ⟨Nat.le_of_ble_eq_true rfl, Nat.le_of_ble_eq_true rfl⟩) (fun r_1 h => ?_)
  try dsimp only at h
  refine lv_if_eq (tgt := 52) hx hb dX7_at_5 (by decide) (fun c_3 => ?_) (fun c_3 => ?_)
  · replace h := h.1 c_3
    refine lv_iconst (v := (-1)) hx hb dX7_at_52 (by decide) ?_
    exact rd_iret hx hb hr hk h dX7_at_53
  · replace h := h.2 c_3
    refine lv_iload_n hx hb dX7_at_8 rfl (lv_at hl 2 rfl) ?_
    refine lv_i2l (v := (Int32.toInt64 x2)) hx hb dX7_at_9 rfl ?_
    refine lv_lconst (v := 0) hx hb dX7_at_10 (by decide) ?_
    refine lv_aload_n hx hb dX7_at_11 rfl (lv_at hl 0 rfl) ?_
    refine vp_callSi (rd_wV (wc := md_v a0 q s0) (As := []) (rest := [.long 0, .long (Int32.toInt64 x2)]) hx hb hml hown ht (c2_X7_wide h) wd_X7_wide mw_1220 hQ hV va_S.rf (hP.sub [0, 1, 2, 3, 4, 5, 6, 7] rfl) rfl rfl rfl hl.1 rfl (Nat.le_of_ble_eq_true rfl) dX7_at_12 ⟨Nat.le_of_ble_eq_true rfl, Nat.le_of_ble_eq_true rfl, rfl, rfl⟩ ⟨Nat.le_of_ble_eq_true rfl, Nat.le_of_ble_eq_true rfl⟩) (fun r_4 h => ?_)
    try dsimp only at h
    refine lv_iconst (v := 1) hx hb dX7_at_15 (by decide) ?_
    refine lv_isub hx hb dX7_at_16 ?_
    refine lv_i2l (v := (Int32.toInt64 (r_4 - 1))) hx hb dX7_at_17 rfl ?_
    refine vp_callSi (rd_wS (wc := ([] : va_W)) (As := [.long (Int32.toInt64 x2), .long 0, .long (Int32.toInt64 (r_4 - 1))]) (rest := []) hx hb hml hown ht (c2_X7_in h) wd_X7_in mw_1213 hQ hV va_S.rf (hP.sub [] rfl) rfl hl.1 rfl (Nat.le_of_ble_eq_true rfl) dX7_at_18 ⟨Nat.le_of_ble_eq_true rfl, Nat.le_of_ble_eq_true rfl, rfl, rfl⟩ ⟨Nat.le_of_ble_eq_true rfl, Nat.le_of_ble_eq_true rfl⟩) (fun r_6 h => ?_)
    try dsimp only at h
    refine lv_if_eq (tgt := 52) hx hb dX7_at_21 (by decide) (fun c_8 => ?_) (fun c_8 => ?_)
    · replace h := h.1 c_8
      refine lv_iconst (v := (-1)) hx hb dX7_at_52 (by decide) ?_
      exact rd_iret hx hb hr hk h dX7_at_53
    · replace h := h.2 c_8
      refine lv_iload_n hx hb dX7_at_24 rfl (lv_at hl 3 rfl) ?_
      refine lv_i2l (v := (Int32.toInt64 x3)) hx hb dX7_at_25 rfl ?_
      refine lv_lconst (v := 0) hx hb dX7_at_26 (by decide) ?_
      refine lv_ldc2 (v := 2) hx hb hown (ht _ mw_1421) dX7_at_27 ?_
      refine vp_callSi (rd_wS (wc := ([] : va_W)) (As := [.long (Int32.toInt64 x3), .long 0, .long 2]) (rest := []) hx hb hml hown ht (c2_X7_in h) wd_X7_in mw_1213 hQ hV va_S.rf (hP.sub [] rfl) rfl hl.1 rfl (Nat.le_of_ble_eq_true rfl) dX7_at_30 ⟨Nat.le_of_ble_eq_true rfl, Nat.le_of_ble_eq_true rfl, rfl, rfl⟩ ⟨Nat.le_of_ble_eq_true rfl, Nat.le_of_ble_eq_true rfl⟩) (fun r_9 h => ?_)
      try dsimp only at h
      refine lv_if_eq (tgt := 52) hx hb dX7_at_33 (by decide) (fun c_11 => ?_) (fun c_11 => ?_)
      · replace h := h.1 c_11
        refine lv_iconst (v := (-1)) hx hb dX7_at_52 (by decide) ?_
        exact rd_iret hx hb hr hk h dX7_at_53
      · replace h := h.2 c_11
        refine lv_aload_n hx hb dX7_at_36 rfl (lv_at hl 0 rfl) ?_
        refine lv_aload_n hx hb dX7_at_37 rfl (lv_at hl 0 rfl) ?_
        refine vp_callSi (rd_wV (wc := md_v a0 q s0) (As := []) (rest := [.ref (a0 0)]) hx hb hml hown ht (c2_X7_wide h) wd_X7_wide mw_1220 hQ hV va_S.rf (hP.sub [0, 1, 2, 3, 4, 5, 6, 7] rfl) rfl rfl rfl hl.1 rfl (Nat.le_of_ble_eq_true rfl) dX7_at_38 ⟨Nat.le_of_ble_eq_true rfl, Nat.le_of_ble_eq_true rfl, rfl, rfl⟩ ⟨Nat.le_of_ble_eq_true rfl, Nat.le_of_ble_eq_true rfl⟩) (fun r_12 h => ?_)
        try dsimp only at h
        refine lv_iload_n hx hb dX7_at_41 rfl (lv_at hl 1 rfl) ?_
        refine lv_imul hx hb dX7_at_42 ?_
        refine lv_iload_n hx hb dX7_at_43 rfl (lv_at hl 2 rfl) ?_
        refine lv_iadd hx hb dX7_at_44 ?_
        refine lv_iload_n hx hb dX7_at_45 rfl (lv_at hl 3 rfl) ?_
        refine vp_callSi (rd_wV (wc := md_v a0 q s0) (As := [.int ((r_12 * x1) + x2), .int x3]) (rest := []) hx hb hml hown ht (c2_X7_signAt h) wd_X7_signAt mw_1422 hQ hV va_S.rf (hP.sub [0, 1, 2, 3, 4, 5, 6, 7] rfl) rfl rfl rfl hl.1 rfl (Nat.le_of_ble_eq_true rfl) dX7_at_46 ⟨Nat.le_of_ble_eq_true rfl, Nat.le_of_ble_eq_true rfl, rfl, rfl⟩ ⟨Nat.le_of_ble_eq_true rfl, Nat.le_of_ble_eq_true rfl⟩) (fun r_14 h => ?_)
        try dsimp only at h
        refine lv_goto (tgt := 53) hx hb dX7_at_49 (by decide) ?_
        exact rd_iret hx hb hr hk h dX7_at_53

def wp_X7_isOther (post : Int32 → Prop) (s0 : Md) (x1 : Int32) : Prop := wp_X7_signAt (fun r_1 => wp_X7_signAt (fun r_3 => ((r_1 = r_3 → post 0) ∧ (¬ r_1 = r_3 → post 1))) s0 x1 (2 : Int32)) s0 x1 (0 : Int32)
set_option maxHeartbeats 4000000 in
set_option maxRecDepth 100000 in
theorem c2_X7_isOther {l : Launch} {D : va_G} {q : Nat → ClassId} {a0 : Nat → Nat} {s0 : Md} {x1 : Int32} {post : Int32 → Prop} (h : wp_X7_isOther post s0 x1) : Met l yX7_isOther (Cond.code yX7_isOther cX7_isOther 2 (some .boolean) :: w_all) ({ frames := 2, cells := 0, slots := 0, locals := 44 } : Room) (rd_P D q [.ref (a0 0), .int x1] (md_v a0 q s0)) (vp_Si post) 0 0 (fun _ => False) := by
  refine rd_start (by decide) (Nat.le_of_ble_eq_true rfl) ?_
  intro p e s m below meth c ls hx hb hr hml hown ht hk hP hQ hV hl
  have hK := hQ.1
  have hown : s.vm.findClass RX7 = some m.cls := hown
  have hl : lv_has ls 2 [(0, .ref (a0 0)), (1, .int x1)] := hl
  have hP : va_P D vwCl [((a0 0), .inr (6, [.ref (a0 1), .ref (a0 2), .int (s0.1 0), .ref (a0 3), .ref (a0 5), .ref (a0 4), .long s0.2.1, .int (s0.1 1), .int (s0.1 2), .ref (a0 6), .int (s0.1 3), .int (s0.1 4), .ref (a0 7), .int (s0.1 5), .int (s0.1 6), .int (s0.1 7), .int (s0.1 8), .int (s0.1 9), .int (s0.1 10), .int (s0.1 11), .int (s0.1 12), .int (s0.1 13), .int (s0.1 14)])), ((a0 1), .inl (q 1, 6896, .inr (.inl (s0.2.2.1 0)))), ((a0 2), .inl (q 1, 68960, .inr (.inl (s0.2.2.1 1)))), ((a0 3), .inl (q 1, 13792, .inr (.inl (s0.2.2.1 2)))), ((a0 4), .inl (q 1, 6896, .inr (.inl (s0.2.2.1 3)))), ((a0 5), .inl (q 3, 2, .inl (s0.2.2.2 0))), ((a0 6), .inl (q 0, 40, .inl (s0.2.2.2 1))), ((a0 7), .inl (q 2, 400, .inl (s0.2.2.2 2)))] s.heap := hP
  unfold wp_X7_isOther at h
  refine lv_aload_n hx hb dX7_isOther_0 rfl (lv_at hl 0 rfl) ?_
  refine lv_iload_n hx hb dX7_isOther_1 rfl (lv_at hl 1 rfl) ?_
  refine lv_iconst (v := 0) hx hb dX7_isOther_2 (by decide) ?_
  refine vp_callSi (rd_wV (wc := md_v a0 q s0) (As := [.int x1, .int 0]) (rest := []) hx hb hml hown ht (c2_X7_signAt h) wd_X7_signAt mw_1422 hQ hV va_S.rf (hP.sub [0, 1, 2, 3, 4, 5, 6, 7] rfl) rfl rfl rfl hl.1 rfl (Nat.le_of_ble_eq_true rfl) dX7_isOther_3 ⟨Nat.le_of_ble_eq_true rfl, Nat.le_of_ble_eq_true rfl, rfl, rfl⟩ ⟨Nat.le_of_ble_eq_true rfl, Nat.le_of_ble_eq_true rfl⟩) (fun r_1 h => ?_)
  try dsimp only at h
  refine lv_aload_n hx hb dX7_isOther_6 rfl (lv_at hl 0 rfl) ?_
  refine lv_iload_n hx hb dX7_isOther_7 rfl (lv_at hl 1 rfl) ?_
  refine lv_iconst (v := 2) hx hb dX7_isOther_8 (by decide) ?_
  refine vp_callSi (rd_wV (wc := md_v a0 q s0) (As := [.int x1, .int 2]) (rest := [.int r_1]) hx hb hml hown ht (c2_X7_signAt h) wd_X7_signAt mw_1422 hQ hV va_S.rf (hP.sub [0, 1, 2, 3, 4, 5, 6, 7] rfl) rfl rfl rfl hl.1 rfl (Nat.le_of_ble_eq_true rfl) dX7_isOther_9 ⟨Nat.le_of_ble_eq_true rfl, Nat.le_of_ble_eq_true rfl, rfl, rfl⟩ ⟨Nat.le_of_ble_eq_true rfl, Nat.le_of_ble_eq_true rfl⟩) (fun r_3 h => ?_)
  try dsimp only at h
  refine lv_icmp_eq (tgt := 19) hx hb dX7_isOther_12 (by decide) (fun c_5 => ?_) (fun c_5 => ?_)
  · replace h := h.1 c_5
    refine lv_iconst (v := 0) hx hb dX7_isOther_19 (by decide) ?_
    exact rd_zret hx hb hr hk rfl h dX7_isOther_20
  · replace h := h.2 c_5
    refine lv_iconst (v := 1) hx hb dX7_isOther_15 (by decide) ?_
    refine lv_goto (tgt := 20) hx hb dX7_isOther_16 (by decide) ?_
    exact rd_zret hx hb hr hk rfl h dX7_isOther_20

def wp_X7_isSuch (post : Int32 → Prop) (s0 : Md) (x1 : Int32) (x2 : Int32) : Prop := ((x2 = 0 → wp_X7_leftOf (fun r_2 => ((r_2 ≤ 0 → post 0) ∧ (¬ r_2 ≤ 0 → post 1))) s0 x1) ∧ (¬ x2 = 0 → ((x2 = 1 → wp_X7_of (fun r_6 => wp_X7_of (fun r_8 => ((r_6 = r_8 → post 0) ∧ (¬ r_6 = r_8 → post 1))) s0 x1 (2 : Int32)) s0 x1 (1 : Int32)) ∧ (¬ x2 = 1 → ((x2 = 2 → wp_X7_isOther (fun r_12 => narrow .boolean (.int r_12) = .int r_12 ∧ post r_12) s0 x1) ∧ (¬ x2 = 2 → ((x2 = 3 → wp_X7_isIn (fun r_16 => narrow .boolean (.int r_16) = .int r_16 ∧ post r_16) s0.2.1 x1) ∧ (¬ x2 = 3 → wp_X7_current (fun r_19 => (((lg_cmp (Int32.toInt64 r_19) ((s0.2.2.1 0) (Int32.toNatClampNeg 2))) ≤ 0 → post 0) ∧ (¬ (lg_cmp (Int32.toInt64 r_19) ((s0.2.2.1 0) (Int32.toNatClampNeg 2))) ≤ 0 → post 1))) s0 x1))))))))
set_option maxHeartbeats 4000000 in
set_option maxRecDepth 100000 in
theorem c2_X7_isSuch {l : Launch} {D : va_G} {q : Nat → ClassId} {a0 : Nat → Nat} {s0 : Md} {x1 : Int32} {x2 : Int32} {post : Int32 → Prop} (h : wp_X7_isSuch post s0 x1 x2) : Met l yX7_isSuch (Cond.code yX7_isSuch cX7_isSuch 3 (some .boolean) :: w_all) ({ frames := 3, cells := 0, slots := 0, locals := 65 } : Room) (rd_P D q [.ref (a0 0), .int x1, .int x2] (md_v a0 q s0)) (vp_Si post) 0 0 (fun _ => False) := by
  refine rd_start (by decide) (Nat.le_of_ble_eq_true rfl) ?_
  intro p e s m below meth c ls hx hb hr hml hown ht hk hP hQ hV hl
  have hK := hQ.1
  have hown : s.vm.findClass RX7 = some m.cls := hown
  have hl : lv_has ls 3 [(0, .ref (a0 0)), (1, .int x1), (2, .int x2)] := hl
  have hP : va_P D vwCl [((a0 0), .inr (6, [.ref (a0 1), .ref (a0 2), .int (s0.1 0), .ref (a0 3), .ref (a0 5), .ref (a0 4), .long s0.2.1, .int (s0.1 1), .int (s0.1 2), .ref (a0 6), .int (s0.1 3), .int (s0.1 4), .ref (a0 7), .int (s0.1 5), .int (s0.1 6), .int (s0.1 7), .int (s0.1 8), .int (s0.1 9), .int (s0.1 10), .int (s0.1 11), .int (s0.1 12), .int (s0.1 13), .int (s0.1 14)])), ((a0 1), .inl (q 1, 6896, .inr (.inl (s0.2.2.1 0)))), ((a0 2), .inl (q 1, 68960, .inr (.inl (s0.2.2.1 1)))), ((a0 3), .inl (q 1, 13792, .inr (.inl (s0.2.2.1 2)))), ((a0 4), .inl (q 1, 6896, .inr (.inl (s0.2.2.1 3)))), ((a0 5), .inl (q 3, 2, .inl (s0.2.2.2 0))), ((a0 6), .inl (q 0, 40, .inl (s0.2.2.2 1))), ((a0 7), .inl (q 2, 400, .inl (s0.2.2.2 2)))] s.heap := hP
  unfold wp_X7_isSuch at h
  refine lv_iload_n hx hb dX7_isSuch_0 rfl (lv_at hl 2 rfl) ?_
  by_cases k_1 : x2 = 0
  · replace h := h.1 k_1
    refine lv_tableIn (tgt := 32) hx hb dX7_isSuch_1 (by rw [k_1]; decide) (by rw [k_1]; decide) (by rw [k_1]; rfl) (by decide) ?_
    refine lv_aload_n hx hb dX7_isSuch_32 rfl (lv_at hl 0 rfl) ?_
    refine lv_iload_n hx hb dX7_isSuch_33 rfl (lv_at hl 1 rfl) ?_
    refine vp_callSi (rd_wV (wc := md_v a0 q s0) (As := [.int x1]) (rest := []) hx hb hml hown ht (c2_X7_leftOf h) wd_X7_leftOf mw_1312 hQ hV va_S.rf (hP.sub [0, 1, 2, 3, 4, 5, 6, 7] rfl) rfl rfl rfl hl.1 rfl (Nat.le_of_ble_eq_true rfl) dX7_isSuch_34 ⟨Nat.le_of_ble_eq_true rfl, Nat.le_of_ble_eq_true rfl, rfl, rfl⟩ ⟨Nat.le_of_ble_eq_true rfl, Nat.le_of_ble_eq_true rfl⟩) (fun r_2 h => ?_)
    try dsimp only at h
    refine lv_if_le (tgt := 44) hx hb dX7_isSuch_37 (by decide) (fun c_4 => ?_) (fun c_4 => ?_)
    · replace h := h.1 c_4
      refine lv_iconst (v := 0) hx hb dX7_isSuch_44 (by decide) ?_
      exact rd_zret hx hb hr hk rfl h dX7_isSuch_45
    · replace h := h.2 c_4
      refine lv_iconst (v := 1) hx hb dX7_isSuch_40 (by decide) ?_
      refine lv_goto (tgt := 45) hx hb dX7_isSuch_41 (by decide) ?_
      exact rd_zret hx hb hr hk rfl h dX7_isSuch_45
  replace h := h.2 k_1
  by_cases k_5 : x2 = 1
  · replace h := h.1 k_5
    refine lv_tableIn (tgt := 46) hx hb dX7_isSuch_1 (by rw [k_5]; decide) (by rw [k_5]; decide) (by rw [k_5]; rfl) (by decide) ?_
    refine lv_aload_n hx hb dX7_isSuch_46 rfl (lv_at hl 0 rfl) ?_
    refine lv_iload_n hx hb dX7_isSuch_47 rfl (lv_at hl 1 rfl) ?_
    refine lv_iconst (v := 1) hx hb dX7_isSuch_48 (by decide) ?_
    refine vp_callSi (rd_wV (wc := md_v a0 q s0) (As := [.int x1, .int 1]) (rest := []) hx hb hml hown ht (c2_X7_of h) wd_X7_of mw_1249 hQ hV va_S.rf (hP.sub [0, 1, 2, 3, 4, 5, 6, 7] rfl) rfl rfl rfl hl.1 rfl (Nat.le_of_ble_eq_true rfl) dX7_isSuch_49 ⟨Nat.le_of_ble_eq_true rfl, Nat.le_of_ble_eq_true rfl, rfl, rfl⟩ ⟨Nat.le_of_ble_eq_true rfl, Nat.le_of_ble_eq_true rfl⟩) (fun r_6 h => ?_)
    try dsimp only at h
    refine lv_aload_n hx hb dX7_isSuch_52 rfl (lv_at hl 0 rfl) ?_
    refine lv_iload_n hx hb dX7_isSuch_53 rfl (lv_at hl 1 rfl) ?_
    refine lv_iconst (v := 2) hx hb dX7_isSuch_54 (by decide) ?_
    refine vp_callSi (rd_wV (wc := md_v a0 q s0) (As := [.int x1, .int 2]) (rest := [.int r_6]) hx hb hml hown ht (c2_X7_of h) wd_X7_of mw_1249 hQ hV va_S.rf (hP.sub [0, 1, 2, 3, 4, 5, 6, 7] rfl) rfl rfl rfl hl.1 rfl (Nat.le_of_ble_eq_true rfl) dX7_isSuch_55 ⟨Nat.le_of_ble_eq_true rfl, Nat.le_of_ble_eq_true rfl, rfl, rfl⟩ ⟨Nat.le_of_ble_eq_true rfl, Nat.le_of_ble_eq_true rfl⟩) (fun r_8 h => ?_)
    try dsimp only at h
    refine lv_icmp_eq (tgt := 65) hx hb dX7_isSuch_58 (by decide) (fun c_10 => ?_) (fun c_10 => ?_)
    · replace h := h.1 c_10
      refine lv_iconst (v := 0) hx hb dX7_isSuch_65 (by decide) ?_
      exact rd_zret hx hb hr hk rfl h dX7_isSuch_66
    · replace h := h.2 c_10
      refine lv_iconst (v := 1) hx hb dX7_isSuch_61 (by decide) ?_
      refine lv_goto (tgt := 66) hx hb dX7_isSuch_62 (by decide) ?_
      exact rd_zret hx hb hr hk rfl h dX7_isSuch_66
  replace h := h.2 k_5
  by_cases k_11 : x2 = 2
  · replace h := h.1 k_11
    refine lv_tableIn (tgt := 67) hx hb dX7_isSuch_1 (by rw [k_11]; decide) (by rw [k_11]; decide) (by rw [k_11]; rfl) (by decide) ?_
    refine lv_aload_n hx hb dX7_isSuch_67 rfl (lv_at hl 0 rfl) ?_
    refine lv_iload_n hx hb dX7_isSuch_68 rfl (lv_at hl 1 rfl) ?_
    refine vp_callSi (rd_wV (wc := md_v a0 q s0) (As := [.int x1]) (rest := []) hx hb hml hown ht (c2_X7_isOther h) wd_X7_isOther mw_1435 hQ hV va_S.rf (hP.sub [0, 1, 2, 3, 4, 5, 6, 7] rfl) rfl rfl rfl hl.1 rfl (Nat.le_of_ble_eq_true rfl) dX7_isSuch_69 ⟨Nat.le_of_ble_eq_true rfl, Nat.le_of_ble_eq_true rfl, rfl, rfl⟩ ⟨Nat.le_of_ble_eq_true rfl, Nat.le_of_ble_eq_true rfl⟩) (fun r_12 h => ?_)
    try dsimp only at h
    obtain ⟨g_14, h⟩ := h
    exact rd_zret hx hb hr hk g_14 h dX7_isSuch_72
  replace h := h.2 k_11
  by_cases k_15 : x2 = 3
  · replace h := h.1 k_15
    refine lv_tableIn (tgt := 73) hx hb dX7_isSuch_1 (by rw [k_15]; decide) (by rw [k_15]; decide) (by rw [k_15]; rfl) (by decide) ?_
    refine lv_aload_n hx hb dX7_isSuch_73 rfl (lv_at hl 0 rfl) ?_
    refine fl_get (C := RX7) (T := TX7) (N := 23) (ci := 6) (v := .long s0.2.1) hx hb ht in_X7 hown hK hP 0 rfl rfl 6 (by decide) mw_1136 rfl dX7_isSuch_74 ?_
    refine lv_iload_n hx hb dX7_isSuch_77 rfl (lv_at hl 1 rfl) ?_
    refine vp_callSi (rd_wS (wc := ([] : va_W)) (As := [.long s0.2.1, .int x1]) (rest := []) hx hb hml hown ht (c2_X7_isIn h) wd_X7_isIn mw_1265 hQ hV va_S.rf (hP.sub [] rfl) rfl hl.1 rfl (Nat.le_of_ble_eq_true rfl) dX7_isSuch_78 ⟨Nat.le_of_ble_eq_true rfl, Nat.le_of_ble_eq_true rfl, rfl, rfl⟩ ⟨Nat.le_of_ble_eq_true rfl, Nat.le_of_ble_eq_true rfl⟩) (fun r_16 h => ?_)
    try dsimp only at h
    obtain ⟨g_18, h⟩ := h
    exact rd_zret hx hb hr hk g_18 h dX7_isSuch_81
  replace h := h.2 k_15
  refine lv_tableOut (tgt := 82) hx hb dX7_isSuch_1 (by have g0 := k_1; have g1 := k_5; have g2 := k_11; have g3 := k_15; (try simp only [lg_cmp_ge, lg_cmp_le, lg_cmp_gt, lg_cmp_lt, lg_cmp_eq] at g0 g1 g2 g3); (try simp only [Int32.lt_iff_toInt_lt, Int32.le_iff_toInt_le, ← Int32.toInt_inj, Int32.reduceToInt, Int64.lt_iff_toInt_lt, Int64.le_iff_toInt_le, ← Int64.toInt_inj, Int64.reduceToInt, Int32.toInt_toInt64] at g0 g1 g2 g3); omega) (by decide) ?_
  refine lv_aload_n hx hb dX7_isSuch_82 rfl (lv_at hl 0 rfl) ?_
  refine lv_iload_n hx hb dX7_isSuch_83 rfl (lv_at hl 1 rfl) ?_
  refine vp_callSi (rd_wV (wc := md_v a0 q s0) (As := [.int x1]) (rest := []) hx hb hml hown ht (c2_X7_current h) wd_X7_current mw_1316 hQ hV va_S.rf (hP.sub [0, 1, 2, 3, 4, 5, 6, 7] rfl) rfl rfl rfl hl.1 rfl (Nat.le_of_ble_eq_true rfl) dX7_isSuch_84 ⟨Nat.le_of_ble_eq_true rfl, Nat.le_of_ble_eq_true rfl, rfl, rfl⟩ ⟨Nat.le_of_ble_eq_true rfl, Nat.le_of_ble_eq_true rfl⟩) (fun r_19 h => ?_)
  try dsimp only at h
  refine lv_i2l (v := (Int32.toInt64 r_19)) hx hb dX7_isSuch_87 rfl ?_
  refine lv_aload_n hx hb dX7_isSuch_88 rfl (lv_at hl 0 rfl) ?_
  refine fl_get (C := RX7) (T := TX7) (N := 23) (ci := 6) (v := .ref (a0 1)) hx hb ht in_X7 hown hK hP 0 rfl rfl 0 (by decide) mw_1130 rfl dX7_isSuch_89 ?_
  refine lv_iconst (v := 2) hx hb dX7_isSuch_92 (by decide) ?_
  refine va_lald hx hb hK hP 1 1 rfl rfl (in_c rfl) dX7_isSuch_93 ?_
  refine W.lcmp hx hb dX7_isSuch_94 ?_
  refine lv_if_le (tgt := 102) hx hb dX7_isSuch_95 (by decide) (fun c_21 => ?_) (fun c_21 => ?_)
  · replace h := h.1 c_21
    refine lv_iconst (v := 0) hx hb dX7_isSuch_102 (by decide) ?_
    exact rd_zret hx hb hr hk rfl h dX7_isSuch_103
  · replace h := h.2 c_21
    refine lv_iconst (v := 1) hx hb dX7_isSuch_98 (by decide) ?_
    refine lv_goto (tgt := 103) hx hb dX7_isSuch_99 (by decide) ?_
    exact rd_zret hx hb hr hk rfl h dX7_isSuch_103

def wp_X7_which_L32 (post : Int64 → Md → Prop) (e64 : Md → Int32 → Int64 → Int32 → Prop) : Nat → Md → Int32 → Int64 → Int32 → Prop
  | 0, _, _, _, _ => False
  | n32 + 1, t0, z1, w2, z4 => wp_X7_cells (fun r_9 => ((r_9 ≤ z4 → e64 t0 z1 w2 z4) ∧ (¬ r_9 ≤ z4 → wp_X7_isSuch (fun r_12 => ((r_12 = 0 → wp_X7_which_L32 post e64 n32 t0 z1 w2 (z4 + 1)) ∧ (¬ r_12 = 0 → wp_X7_which_L32 post e64 n32 t0 z1 (w2 ||| ((1 : Int64) <<< (Int32.toInt64 z4 &&& 63))) (z4 + 1)))) t0 z4 z1))) t0
def wp_X7_which (post : Int64 → Md → Prop) (s0 : Md) (x1 : Int32) : Prop := wp_X7_isBoard (fun r_1 => ((r_1 = 0 → post (-1) s0) ∧ (¬ r_1 = 0 → wp_X7_in (fun r_4 => ((¬ r_4 = 0 → wp_X7_findsTurning (fun u_8 => (∃ n32, wp_X7_which_L32 post (fun t0 z1 w2 z4 => post w2 t0) n32 u_8 x1 0 0)) s0) ∧ (r_4 = 0 → post (-1) s0))) (Int32.toInt64 x1) (0 : Int64) (4 : Int64)))) s0
set_option maxHeartbeats 4000000 in
set_option maxRecDepth 100000 in
theorem c2_X7_which {l : Launch} {D : va_G} {q : Nat → ClassId} {sz : Nat} {a0 : Nat → Nat} {s0 : Md} {x1 : Int32} {post : Int64 → Md → Prop} (h : wp_X7_which post s0 x1) : Met l yX7_which (Cond.code yX7_which cX7_which 5 (some .long) :: w_all) ({ frames := 4, cells := 0, slots := 0, locals := 89 } : Room) (mt_P D q [.ref (a0 0), .int x1] (md_v a0 q s0) sz) (va_Ql (fun r (u : Md) => post r u) (mt_B D (md_v a0 q s0) sz (fun u : Md => md_v a0 q u)) (va_A (md_v a0 q s0) sz)) 0 0 (va_A (md_v a0 q s0) sz) := by
  refine mt_start (by decide) (Nat.le_of_ble_eq_true rfl) ?_
  intro p e s m below meth c ls hx hb hr hml hown ht hk hin hP hQ hD hA hS hV hl
  have hK := hQ.1
  have hown : s.vm.findClass RX7 = some m.cls := hown
  have hl : lv_has ls 5 [(0, .ref (a0 0)), (1, .int x1)] := hl
  have hP : va_P D vwCl [((a0 0), .inr (6, [.ref (a0 1), .ref (a0 2), .int (s0.1 0), .ref (a0 3), .ref (a0 5), .ref (a0 4), .long s0.2.1, .int (s0.1 1), .int (s0.1 2), .ref (a0 6), .int (s0.1 3), .int (s0.1 4), .ref (a0 7), .int (s0.1 5), .int (s0.1 6), .int (s0.1 7), .int (s0.1 8), .int (s0.1 9), .int (s0.1 10), .int (s0.1 11), .int (s0.1 12), .int (s0.1 13), .int (s0.1 14)])), ((a0 1), .inl (q 1, 6896, .inr (.inl (s0.2.2.1 0)))), ((a0 2), .inl (q 1, 68960, .inr (.inl (s0.2.2.1 1)))), ((a0 3), .inl (q 1, 13792, .inr (.inl (s0.2.2.1 2)))), ((a0 4), .inl (q 1, 6896, .inr (.inl (s0.2.2.1 3)))), ((a0 5), .inl (q 3, 2, .inl (s0.2.2.2 0))), ((a0 6), .inl (q 0, 40, .inl (s0.2.2.2 1))), ((a0 7), .inl (q 2, 400, .inl (s0.2.2.2 2)))] s.heap := hP
  have hD : va_D _ [((a0 0), .inr (6, [.ref (a0 1), .ref (a0 2), .int (s0.1 0), .ref (a0 3), .ref (a0 5), .ref (a0 4), .long s0.2.1, .int (s0.1 1), .int (s0.1 2), .ref (a0 6), .int (s0.1 3), .int (s0.1 4), .ref (a0 7), .int (s0.1 5), .int (s0.1 6), .int (s0.1 7), .int (s0.1 8), .int (s0.1 9), .int (s0.1 10), .int (s0.1 11), .int (s0.1 12), .int (s0.1 13), .int (s0.1 14)])), ((a0 1), .inl (q 1, 6896, .inr (.inl (s0.2.2.1 0)))), ((a0 2), .inl (q 1, 68960, .inr (.inl (s0.2.2.1 1)))), ((a0 3), .inl (q 1, 13792, .inr (.inl (s0.2.2.1 2)))), ((a0 4), .inl (q 1, 6896, .inr (.inl (s0.2.2.1 3)))), ((a0 5), .inl (q 3, 2, .inl (s0.2.2.2 0))), ((a0 6), .inl (q 0, 40, .inl (s0.2.2.2 1))), ((a0 7), .inl (q 2, 400, .inl (s0.2.2.2 2)))] := hD
  unfold wp_X7_which at h
  refine lv_aload_n hx hb dX7_which_0 rfl (lv_at hl 0 rfl) ?_
  refine vp_callSi (rd_wV (wc := md_v a0 q s0) (As := []) (rest := []) hx hb hml hown ht (c2_X7_isBoard h) wd_X7_isBoard mw_1283 hQ hV hS (hP.sub [0, 1, 2, 3, 4, 5, 6, 7] rfl) rfl rfl rfl hl.1 rfl (Nat.le_of_ble_eq_true rfl) dX7_which_1 ⟨Nat.le_of_ble_eq_true rfl, Nat.le_of_ble_eq_true rfl, rfl, rfl⟩ ⟨Nat.le_of_ble_eq_true rfl, Nat.le_of_ble_eq_true rfl⟩) (fun r_1 h => ?_)
  try dsimp only at h
  refine lv_if_eq (tgt := 19) hx hb dX7_which_4 (by decide) (fun c_3 => ?_) (fun c_3 => ?_)
  · replace h := h.1 c_3
    refine lv_ldc2 (v := (-1)) hx hb hown (ht _ mw_1364) dX7_which_19 ?_
    exact mt_lret s0 hx hb hr hk h (hP.sub (ws' := md_v a0 q s0) [0, 1, 2, 3, 4, 5, 6, 7] rfl) (hD.sub (ws' := md_v a0 q s0) [0, 1, 2, 3, 4, 5, 6, 7] (by decide) rfl) hS dX7_which_22
  · replace h := h.2 c_3
    refine lv_iload_n hx hb dX7_which_7 rfl (lv_at hl 1 rfl) ?_
    refine lv_i2l (v := (Int32.toInt64 x1)) hx hb dX7_which_8 rfl ?_
    refine lv_lconst (v := 0) hx hb dX7_which_9 (by decide) ?_
    refine lv_ldc2 (v := 4) hx hb hown (ht _ mw_1430) dX7_which_10 ?_
    refine vp_callSi (rd_wS (wc := ([] : va_W)) (As := [.long (Int32.toInt64 x1), .long 0, .long 4]) (rest := []) hx hb hml hown ht (c2_X7_in h) wd_X7_in mw_1213 hQ hV hS (hP.sub [] rfl) rfl hl.1 rfl (Nat.le_of_ble_eq_true rfl) dX7_which_13 ⟨Nat.le_of_ble_eq_true rfl, Nat.le_of_ble_eq_true rfl, rfl, rfl⟩ ⟨Nat.le_of_ble_eq_true rfl, Nat.le_of_ble_eq_true rfl⟩) (fun r_4 h => ?_)
    try dsimp only at h
    refine lv_if_ne (tgt := 23) hx hb dX7_which_16 (by decide) (fun c_6 => ?_) (fun c_6 => ?_)
    · replace h := h.1 c_6
      refine lv_aload_n hx hb dX7_which_23 rfl (lv_at hl 0 rfl) ?_
      refine mt_gov (mt_wV (wc := md_v a0 q s0) (As := []) (rest := []) hx hb hml hown ht (c2_X7_findsTurning h) wd_X7_findsTurning mw_1308 hQ hV hS hA (hP.sub [0, 1, 2, 3, 4, 5, 6, 7] rfl) (hD.sub [0, 1, 2, 3, 4, 5, 6, 7] (by decide) rfl) rfl rfl rfl hl.1 rfl (Nat.le_of_ble_eq_true rfl) dX7_which_24 ⟨Nat.le_of_ble_eq_true rfl, Nat.le_of_ble_eq_true rfl, rfl, rfl⟩ ⟨Nat.le_of_ble_eq_true rfl, Nat.le_of_ble_eq_true rfl⟩) (wr := []) hP hD hS hA [0, 1, 2, 3, 4, 5, 6, 7] [] rfl rfl (by decide) (by decide) (fun u_8 H locs h hP hD hS => ?_)
      try dsimp only at h
      have hP : va_P D vwCl [((a0 0), .inr (6, [.ref (a0 1), .ref (a0 2), .int (u_8.1 0), .ref (a0 3), .ref (a0 5), .ref (a0 4), .long u_8.2.1, .int (u_8.1 1), .int (u_8.1 2), .ref (a0 6), .int (u_8.1 3), .int (u_8.1 4), .ref (a0 7), .int (u_8.1 5), .int (u_8.1 6), .int (u_8.1 7), .int (u_8.1 8), .int (u_8.1 9), .int (u_8.1 10), .int (u_8.1 11), .int (u_8.1 12), .int (u_8.1 13), .int (u_8.1 14)])), ((a0 1), .inl (q 1, 6896, .inr (.inl (u_8.2.2.1 0)))), ((a0 2), .inl (q 1, 68960, .inr (.inl (u_8.2.2.1 1)))), ((a0 3), .inl (q 1, 13792, .inr (.inl (u_8.2.2.1 2)))), ((a0 4), .inl (q 1, 6896, .inr (.inl (u_8.2.2.1 3)))), ((a0 5), .inl (q 3, 2, .inl (u_8.2.2.2 0))), ((a0 6), .inl (q 0, 40, .inl (u_8.2.2.2 1))), ((a0 7), .inl (q 2, 400, .inl (u_8.2.2.2 2)))] H := hP
      have hD : va_D _ [((a0 0), .inr (6, [.ref (a0 1), .ref (a0 2), .int (u_8.1 0), .ref (a0 3), .ref (a0 5), .ref (a0 4), .long u_8.2.1, .int (u_8.1 1), .int (u_8.1 2), .ref (a0 6), .int (u_8.1 3), .int (u_8.1 4), .ref (a0 7), .int (u_8.1 5), .int (u_8.1 6), .int (u_8.1 7), .int (u_8.1 8), .int (u_8.1 9), .int (u_8.1 10), .int (u_8.1 11), .int (u_8.1 12), .int (u_8.1 13), .int (u_8.1 14)])), ((a0 1), .inl (q 1, 6896, .inr (.inl (u_8.2.2.1 0)))), ((a0 2), .inl (q 1, 68960, .inr (.inl (u_8.2.2.1 1)))), ((a0 3), .inl (q 1, 13792, .inr (.inl (u_8.2.2.1 2)))), ((a0 4), .inl (q 1, 6896, .inr (.inl (u_8.2.2.1 3)))), ((a0 5), .inl (q 3, 2, .inl (u_8.2.2.2 0))), ((a0 6), .inl (q 0, 40, .inl (u_8.2.2.2 1))), ((a0 7), .inl (q 2, 400, .inl (u_8.2.2.2 2)))] := hD
      refine lv_lconst (v := 0) hx hb dX7_which_27 (by decide) ?_
      refine lv_lstore_n (lv' := [(2, .long 0), (0, .ref (a0 0)), (1, .int x1)]) hx hb dX7_which_28 rfl hl (by decide) rfl (fun ls hl => ?_)
      refine lv_iconst (v := 0) hx hb dX7_which_29 (by decide) ?_
      refine lv_istore (lv' := [(4, .int 0), (2, .long 0), (0, .ref (a0 0)), (1, .int x1)]) hx hb dX7_which_30 hl (by decide) rfl (fun ls hl => ?_)
      have lp32 : ∀ (e64 : Md → Int32 → Int64 → Int32 → Prop) (k64 : ∀ (t0 : Md) (z1 : Int32) (w2 : Int64) (z4 : Int32) (H : Heap) (locs : List Loc) (ls : Array Slot), e64 t0 z1 w2 z4 → va_P D vwCl (md_v a0 q t0) H → va_D (va_A (md_v a0 q s0) sz) (md_v a0 q t0) → va_S (va_A (md_v a0 q s0) sz) s.heap H locs → lv_has ls 5 [(1, .int z1), (2, .long w2), (4, .int z4), (0, .ref (a0 0))] → W p l e ({ frames := 4, cells := 0, slots := 0, locals := 89 } : Room) s m [.ref (a0 0), .int x1].toArray below meth c H locs 0 0 (MQ below (va_Ql (fun r (u : Md) => post r u) (mt_B D (md_v a0 q s0) sz (fun u : Md => md_v a0 q u)) (va_A (md_v a0 q s0) sz)) [.ref (a0 0), .int x1].toArray s 0 0 (va_A (md_v a0 q s0) sz)) (F0 m 64 ls [])) (n : Nat) (t0 : Md) (z1 : Int32) (w2 : Int64) (z4 : Int32) (H : Heap) (locs : List Loc) (ls : Array Slot), wp_X7_which_L32 post e64 n t0 z1 w2 z4 → va_P D vwCl (md_v a0 q t0) H → va_D (va_A (md_v a0 q s0) sz) (md_v a0 q t0) → va_S (va_A (md_v a0 q s0) sz) s.heap H locs → lv_has ls 5 [(1, .int z1), (2, .long w2), (4, .int z4), (0, .ref (a0 0))] → W p l e ({ frames := 4, cells := 0, slots := 0, locals := 89 } : Room) s m [.ref (a0 0), .int x1].toArray below meth c H locs 0 0 (MQ below (va_Ql (fun r (u : Md) => post r u) (mt_B D (md_v a0 q s0) sz (fun u : Md => md_v a0 q u)) (va_A (md_v a0 q s0) sz)) [.ref (a0 0), .int x1].toArray s 0 0 (va_A (md_v a0 q s0) sz)) (F0 m 32 ls []) := by
        intro e64 k64 n
        induction n with
        | zero =>
          intro t0 z1 w2 z4 H locs ls h
          exact h.elim
        | succ n ih =>
          intro t0 z1 w2 z4 H locs ls h hP hD hS hl
          have hP : va_P D vwCl [((a0 0), .inr (6, [.ref (a0 1), .ref (a0 2), .int (t0.1 0), .ref (a0 3), .ref (a0 5), .ref (a0 4), .long t0.2.1, .int (t0.1 1), .int (t0.1 2), .ref (a0 6), .int (t0.1 3), .int (t0.1 4), .ref (a0 7), .int (t0.1 5), .int (t0.1 6), .int (t0.1 7), .int (t0.1 8), .int (t0.1 9), .int (t0.1 10), .int (t0.1 11), .int (t0.1 12), .int (t0.1 13), .int (t0.1 14)])), ((a0 1), .inl (q 1, 6896, .inr (.inl (t0.2.2.1 0)))), ((a0 2), .inl (q 1, 68960, .inr (.inl (t0.2.2.1 1)))), ((a0 3), .inl (q 1, 13792, .inr (.inl (t0.2.2.1 2)))), ((a0 4), .inl (q 1, 6896, .inr (.inl (t0.2.2.1 3)))), ((a0 5), .inl (q 3, 2, .inl (t0.2.2.2 0))), ((a0 6), .inl (q 0, 40, .inl (t0.2.2.2 1))), ((a0 7), .inl (q 2, 400, .inl (t0.2.2.2 2)))] H := hP
          have hD : va_D _ [((a0 0), .inr (6, [.ref (a0 1), .ref (a0 2), .int (t0.1 0), .ref (a0 3), .ref (a0 5), .ref (a0 4), .long t0.2.1, .int (t0.1 1), .int (t0.1 2), .ref (a0 6), .int (t0.1 3), .int (t0.1 4), .ref (a0 7), .int (t0.1 5), .int (t0.1 6), .int (t0.1 7), .int (t0.1 8), .int (t0.1 9), .int (t0.1 10), .int (t0.1 11), .int (t0.1 12), .int (t0.1 13), .int (t0.1 14)])), ((a0 1), .inl (q 1, 6896, .inr (.inl (t0.2.2.1 0)))), ((a0 2), .inl (q 1, 68960, .inr (.inl (t0.2.2.1 1)))), ((a0 3), .inl (q 1, 13792, .inr (.inl (t0.2.2.1 2)))), ((a0 4), .inl (q 1, 6896, .inr (.inl (t0.2.2.1 3)))), ((a0 5), .inl (q 3, 2, .inl (t0.2.2.2 0))), ((a0 6), .inl (q 0, 40, .inl (t0.2.2.2 1))), ((a0 7), .inl (q 2, 400, .inl (t0.2.2.2 2)))] := hD
          unfold wp_X7_which_L32 at h
          refine lv_iload hx hb dX7_which_32 (lv_at hl 2 rfl) ?_
          refine lv_aload_n hx hb dX7_which_34 rfl (lv_at hl 3 rfl) ?_
          refine vp_callSi (rd_wV (wc := md_v a0 q t0) (As := []) (rest := [.int z4]) hx hb hml hown ht (c2_X7_cells h) wd_X7_cells mw_1295 hQ hV hS (hP.sub [0, 1, 2, 3, 4, 5, 6, 7] rfl) rfl rfl rfl hl.1 rfl (Nat.le_of_ble_eq_true rfl) dX7_which_35 ⟨Nat.le_of_ble_eq_true rfl, Nat.le_of_ble_eq_true rfl, rfl, rfl⟩ ⟨Nat.le_of_ble_eq_true rfl, Nat.le_of_ble_eq_true rfl⟩) (fun r_9 h => ?_)
          try dsimp only at h
          refine lv_icmp_ge (tgt := 64) hx hb dX7_which_38 (by decide) (fun c_11 => ?_) (fun c_11 => ?_)
          · replace h := h.1 c_11
            exact k64 _ _ _ _ _ _ ls h (hP.sub (ws' := md_v a0 q t0) [0, 1, 2, 3, 4, 5, 6, 7] rfl) (hD.sub (ws' := md_v a0 q t0) [0, 1, 2, 3, 4, 5, 6, 7] (by decide) rfl) hS (lv_sub hl [0, 1, 2, 3] rfl)
          · replace h := h.2 c_11
            refine lv_aload_n hx hb dX7_which_41 rfl (lv_at hl 3 rfl) ?_
            refine lv_iload hx hb dX7_which_42 (lv_at hl 2 rfl) ?_
            refine lv_iload_n hx hb dX7_which_44 rfl (lv_at hl 0 rfl) ?_
            refine vp_callSi (rd_wV (wc := md_v a0 q t0) (As := [.int z4, .int z1]) (rest := []) hx hb hml hown ht (c2_X7_isSuch h) wd_X7_isSuch mw_1431 hQ hV hS (hP.sub [0, 1, 2, 3, 4, 5, 6, 7] rfl) rfl rfl rfl hl.1 rfl (Nat.le_of_ble_eq_true rfl) dX7_which_45 ⟨Nat.le_of_ble_eq_true rfl, Nat.le_of_ble_eq_true rfl, rfl, rfl⟩ ⟨Nat.le_of_ble_eq_true rfl, Nat.le_of_ble_eq_true rfl⟩) (fun r_12 h => ?_)
            try dsimp only at h
            refine lv_if_eq (tgt := 58) hx hb dX7_which_48 (by decide) (fun c_14 => ?_) (fun c_14 => ?_)
            · replace h := h.1 c_14
              refine lv_iinc (v := (z4 + 1)) (lv' := [(4, .int (z4 + 1)), (1, .int z1), (2, .long w2), (0, .ref (a0 0))]) hx hb dX7_which_58 hl (k := 2) rfl rfl (by decide) rfl (fun ls hl => ?_)
              refine lv_goto (tgt := 32) hx hb dX7_which_61 (by decide) ?_
              exact ih _ _ _ _ _ _ ls h (hP.sub (ws' := md_v a0 q t0) [0, 1, 2, 3, 4, 5, 6, 7] rfl) (hD.sub (ws' := md_v a0 q t0) [0, 1, 2, 3, 4, 5, 6, 7] (by decide) rfl) hS (lv_sub hl [1, 2, 0, 3] rfl)
            · replace h := h.2 c_14
              refine lv_lload_n hx hb dX7_which_51 rfl (lv_at hl 1 rfl) ?_
              refine lv_lconst (v := 1) hx hb dX7_which_52 (by decide) ?_
              refine lv_iload hx hb dX7_which_53 (lv_at hl 2 rfl) ?_
              refine lv_lshl (v := ((1 : Int64) <<< (Int32.toInt64 z4 &&& 63))) hx hb dX7_which_55 rfl ?_
              refine lv_lor hx hb dX7_which_56 ?_
              refine lv_lstore_n (lv' := [(2, .long (w2 ||| ((1 : Int64) <<< (Int32.toInt64 z4 &&& 63)))), (1, .int z1), (4, .int z4), (0, .ref (a0 0))]) hx hb dX7_which_57 rfl hl (by decide) rfl (fun ls hl => ?_)
              refine lv_iinc (v := (z4 + 1)) (lv' := [(4, .int (z4 + 1)), (2, .long (w2 ||| ((1 : Int64) <<< (Int32.toInt64 z4 &&& 63)))), (1, .int z1), (0, .ref (a0 0))]) hx hb dX7_which_58 hl (k := 2) rfl rfl (by decide) rfl (fun ls hl => ?_)
              refine lv_goto (tgt := 32) hx hb dX7_which_61 (by decide) ?_
              exact ih _ _ _ _ _ _ ls h (hP.sub (ws' := md_v a0 q t0) [0, 1, 2, 3, 4, 5, 6, 7] rfl) (hD.sub (ws' := md_v a0 q t0) [0, 1, 2, 3, 4, 5, 6, 7] (by decide) rfl) hS (lv_sub hl [2, 1, 0, 3] rfl)
      obtain ⟨n32, h⟩ := h
      refine lp32 _ ?_ n32 _ _ _ _ _ _ ls h (hP.sub (ws' := md_v a0 q u_8) [0, 1, 2, 3, 4, 5, 6, 7] rfl) (hD.sub (ws' := md_v a0 q u_8) [0, 1, 2, 3, 4, 5, 6, 7] (by decide) rfl) hS (lv_sub hl [3, 1, 0, 2] rfl)
      · intro t0 z1 w2 z4 H locs ls h hP hD hS hl
        try dsimp only at h
        have hP : va_P D vwCl [((a0 0), .inr (6, [.ref (a0 1), .ref (a0 2), .int (t0.1 0), .ref (a0 3), .ref (a0 5), .ref (a0 4), .long t0.2.1, .int (t0.1 1), .int (t0.1 2), .ref (a0 6), .int (t0.1 3), .int (t0.1 4), .ref (a0 7), .int (t0.1 5), .int (t0.1 6), .int (t0.1 7), .int (t0.1 8), .int (t0.1 9), .int (t0.1 10), .int (t0.1 11), .int (t0.1 12), .int (t0.1 13), .int (t0.1 14)])), ((a0 1), .inl (q 1, 6896, .inr (.inl (t0.2.2.1 0)))), ((a0 2), .inl (q 1, 68960, .inr (.inl (t0.2.2.1 1)))), ((a0 3), .inl (q 1, 13792, .inr (.inl (t0.2.2.1 2)))), ((a0 4), .inl (q 1, 6896, .inr (.inl (t0.2.2.1 3)))), ((a0 5), .inl (q 3, 2, .inl (t0.2.2.2 0))), ((a0 6), .inl (q 0, 40, .inl (t0.2.2.2 1))), ((a0 7), .inl (q 2, 400, .inl (t0.2.2.2 2)))] H := hP
        have hD : va_D _ [((a0 0), .inr (6, [.ref (a0 1), .ref (a0 2), .int (t0.1 0), .ref (a0 3), .ref (a0 5), .ref (a0 4), .long t0.2.1, .int (t0.1 1), .int (t0.1 2), .ref (a0 6), .int (t0.1 3), .int (t0.1 4), .ref (a0 7), .int (t0.1 5), .int (t0.1 6), .int (t0.1 7), .int (t0.1 8), .int (t0.1 9), .int (t0.1 10), .int (t0.1 11), .int (t0.1 12), .int (t0.1 13), .int (t0.1 14)])), ((a0 1), .inl (q 1, 6896, .inr (.inl (t0.2.2.1 0)))), ((a0 2), .inl (q 1, 68960, .inr (.inl (t0.2.2.1 1)))), ((a0 3), .inl (q 1, 13792, .inr (.inl (t0.2.2.1 2)))), ((a0 4), .inl (q 1, 6896, .inr (.inl (t0.2.2.1 3)))), ((a0 5), .inl (q 3, 2, .inl (t0.2.2.2 0))), ((a0 6), .inl (q 0, 40, .inl (t0.2.2.2 1))), ((a0 7), .inl (q 2, 400, .inl (t0.2.2.2 2)))] := hD
        refine lv_lload_n hx hb dX7_which_64 rfl (lv_at hl 1 rfl) ?_
        exact mt_lret t0 hx hb hr hk h (hP.sub (ws' := md_v a0 q t0) [0, 1, 2, 3, 4, 5, 6, 7] rfl) (hD.sub (ws' := md_v a0 q t0) [0, 1, 2, 3, 4, 5, 6, 7] (by decide) rfl) hS dX7_which_65
    · replace h := h.2 c_6
      refine lv_ldc2 (v := (-1)) hx hb hown (ht _ mw_1364) dX7_which_19 ?_
      exact mt_lret s0 hx hb hr hk h (hP.sub (ws' := md_v a0 q s0) [0, 1, 2, 3, 4, 5, 6, 7] rfl) (hD.sub (ws' := md_v a0 q s0) [0, 1, 2, 3, 4, 5, 6, 7] (by decide) rfl) hS dX7_which_22

def wp_X7_left_L31 (s0 : Md) (post : Int32 → Prop) (e90 : Int32 → Int32 → Int32 → Int32 → Int32 → Prop) : Nat → Int32 → Int32 → Int32 → Int32 → Int32 → Prop
  | 0, _, _, _, _, _ => False
  | n31 + 1, z1, z2, z3, z4, z5 => wp_X7_cells (fun r_7 => ((r_7 ≤ z5 → e90 z1 z2 z3 z4 z5) ∧ (¬ r_7 ≤ z5 → wp_X7_leftOf (fun r_10 => wp_X7_leftOf (fun r_12 => wp_X7_current (fun r_14 => wp_X7_leftOf (fun r_16 => ((r_16 ≤ z3 → wp_X7_left_L31 s0 post e90 n31 z1 (z2 + r_10) z3 (z4 + (r_12 * r_14)) (z5 + 1)) ∧ (¬ r_16 ≤ z3 → wp_X7_leftOf (fun r_19 => wp_X7_left_L31 s0 post e90 n31 z1 (z2 + r_10) r_19 (z4 + (r_12 * r_14)) (z5 + 1)) s0 z5))) s0 z5) s0 z5) s0 z5) s0 z5))) s0
def wp_X7_left (post : Int32 → Prop) (s0 : Md) (x1 : Int32) : Prop := wp_X7_isBoard (fun r_1 => ((r_1 = 0 → post (-1)) ∧ (¬ r_1 = 0 → wp_X7_in (fun r_4 => ((¬ r_4 = 0 → (∃ n31, wp_X7_left_L31 s0 post (fun z1 z2 z3 z4 z5 => ¬ ((s0.2.2.1 0) (Int32.toNatClampNeg 2)) = 0 ∧ ((¬ z1 = 0 → ((¬ z1 = 1 → ((¬ z1 = 2 → (((Int64.toInt32 ((((Int32.toInt64 z4) + ((s0.2.2.1 0) (Int32.toNatClampNeg 2))) - 1) / ((s0.2.2.1 0) (Int32.toNatClampNeg 2)))) ≤ z3 → post z3) ∧ (¬ (Int64.toInt32 ((((Int32.toInt64 z4) + ((s0.2.2.1 0) (Int32.toNatClampNeg 2))) - 1) / ((s0.2.2.1 0) (Int32.toNatClampNeg 2)))) ≤ z3 → post (Int64.toInt32 ((((Int32.toInt64 z4) + ((s0.2.2.1 0) (Int32.toNatClampNeg 2))) - 1) / ((s0.2.2.1 0) (Int32.toNatClampNeg 2))))))) ∧ (z1 = 2 → post z4))) ∧ (z1 = 1 → post z3))) ∧ (z1 = 0 → post z2))) n31 x1 0 0 0 0)) ∧ (r_4 = 0 → post (-1)))) (Int32.toInt64 x1) (0 : Int64) (3 : Int64)))) s0
set_option maxHeartbeats 4000000 in
set_option maxRecDepth 100000 in
theorem c2_X7_left {l : Launch} {D : va_G} {q : Nat → ClassId} {a0 : Nat → Nat} {s0 : Md} {x1 : Int32} {post : Int32 → Prop} (h : wp_X7_left post s0 x1) : Met l yX7_left (Cond.code yX7_left cX7_left 6 (some .int) :: w_all) ({ frames := 3, cells := 0, slots := 0, locals := 64 } : Room) (rd_P D q [.ref (a0 0), .int x1] (md_v a0 q s0)) (vp_Si post) 0 0 (fun _ => False) := by
  refine rd_start (by decide) (Nat.le_of_ble_eq_true rfl) ?_
  intro p e s m below meth c ls hx hb hr hml hown ht hk hP hQ hV hl
  have hK := hQ.1
  have hown : s.vm.findClass RX7 = some m.cls := hown
  have hl : lv_has ls 6 [(0, .ref (a0 0)), (1, .int x1)] := hl
  have hP : va_P D vwCl [((a0 0), .inr (6, [.ref (a0 1), .ref (a0 2), .int (s0.1 0), .ref (a0 3), .ref (a0 5), .ref (a0 4), .long s0.2.1, .int (s0.1 1), .int (s0.1 2), .ref (a0 6), .int (s0.1 3), .int (s0.1 4), .ref (a0 7), .int (s0.1 5), .int (s0.1 6), .int (s0.1 7), .int (s0.1 8), .int (s0.1 9), .int (s0.1 10), .int (s0.1 11), .int (s0.1 12), .int (s0.1 13), .int (s0.1 14)])), ((a0 1), .inl (q 1, 6896, .inr (.inl (s0.2.2.1 0)))), ((a0 2), .inl (q 1, 68960, .inr (.inl (s0.2.2.1 1)))), ((a0 3), .inl (q 1, 13792, .inr (.inl (s0.2.2.1 2)))), ((a0 4), .inl (q 1, 6896, .inr (.inl (s0.2.2.1 3)))), ((a0 5), .inl (q 3, 2, .inl (s0.2.2.2 0))), ((a0 6), .inl (q 0, 40, .inl (s0.2.2.2 1))), ((a0 7), .inl (q 2, 400, .inl (s0.2.2.2 2)))] s.heap := hP
  unfold wp_X7_left at h
  refine lv_aload_n hx hb dX7_left_0 rfl (lv_at hl 0 rfl) ?_
  refine vp_callSi (rd_wV (wc := md_v a0 q s0) (As := []) (rest := []) hx hb hml hown ht (c2_X7_isBoard h) wd_X7_isBoard mw_1283 hQ hV va_S.rf (hP.sub [0, 1, 2, 3, 4, 5, 6, 7] rfl) rfl rfl rfl hl.1 rfl (Nat.le_of_ble_eq_true rfl) dX7_left_1 ⟨Nat.le_of_ble_eq_true rfl, Nat.le_of_ble_eq_true rfl, rfl, rfl⟩ ⟨Nat.le_of_ble_eq_true rfl, Nat.le_of_ble_eq_true rfl⟩) (fun r_1 h => ?_)
  try dsimp only at h
  refine lv_if_eq (tgt := 19) hx hb dX7_left_4 (by decide) (fun c_3 => ?_) (fun c_3 => ?_)
  · replace h := h.1 c_3
    refine lv_iconst (v := (-1)) hx hb dX7_left_19 (by decide) ?_
    exact rd_iret hx hb hr hk h dX7_left_20
  · replace h := h.2 c_3
    refine lv_iload_n hx hb dX7_left_7 rfl (lv_at hl 1 rfl) ?_
    refine lv_i2l (v := (Int32.toInt64 x1)) hx hb dX7_left_8 rfl ?_
    refine lv_lconst (v := 0) hx hb dX7_left_9 (by decide) ?_
    refine lv_ldc2 (v := 3) hx hb hown (ht _ mw_1443) dX7_left_10 ?_
    refine vp_callSi (rd_wS (wc := ([] : va_W)) (As := [.long (Int32.toInt64 x1), .long 0, .long 3]) (rest := []) hx hb hml hown ht (c2_X7_in h) wd_X7_in mw_1213 hQ hV va_S.rf (hP.sub [] rfl) rfl hl.1 rfl (Nat.le_of_ble_eq_true rfl) dX7_left_13 ⟨Nat.le_of_ble_eq_true rfl, Nat.le_of_ble_eq_true rfl, rfl, rfl⟩ ⟨Nat.le_of_ble_eq_true rfl, Nat.le_of_ble_eq_true rfl⟩) (fun r_4 h => ?_)
    try dsimp only at h
    refine lv_if_ne (tgt := 21) hx hb dX7_left_16 (by decide) (fun c_6 => ?_) (fun c_6 => ?_)
    · replace h := h.1 c_6
      refine lv_iconst (v := 0) hx hb dX7_left_21 (by decide) ?_
      refine lv_istore_n (lv' := [(2, .int 0), (0, .ref (a0 0)), (1, .int x1)]) hx hb dX7_left_22 rfl hl (by decide) rfl (fun ls hl => ?_)
      refine lv_iconst (v := 0) hx hb dX7_left_23 (by decide) ?_
      refine lv_istore_n (lv' := [(3, .int 0), (2, .int 0), (0, .ref (a0 0)), (1, .int x1)]) hx hb dX7_left_24 rfl hl (by decide) rfl (fun ls hl => ?_)
      refine lv_iconst (v := 0) hx hb dX7_left_25 (by decide) ?_
      refine lv_istore (lv' := [(4, .int 0), (3, .int 0), (2, .int 0), (0, .ref (a0 0)), (1, .int x1)]) hx hb dX7_left_26 hl (by decide) rfl (fun ls hl => ?_)
      refine lv_iconst (v := 0) hx hb dX7_left_28 (by decide) ?_
      refine lv_istore (lv' := [(5, .int 0), (4, .int 0), (3, .int 0), (2, .int 0), (0, .ref (a0 0)), (1, .int x1)]) hx hb dX7_left_29 hl (by decide) rfl (fun ls hl => ?_)
      have lp31 : ∀ (e90 : Int32 → Int32 → Int32 → Int32 → Int32 → Prop) (k90 : ∀ (z1 : Int32) (z2 : Int32) (z3 : Int32) (z4 : Int32) (z5 : Int32) (ls : Array Slot), e90 z1 z2 z3 z4 z5 → lv_has ls 6 [(1, .int z1), (2, .int z2), (3, .int z3), (4, .int z4), (5, .int z5), (0, .ref (a0 0))] → W p l e ({ frames := 3, cells := 0, slots := 0, locals := 64 } : Room) s m [.ref (a0 0), .int x1].toArray below meth c s.heap [] 0 0 (MQ below (vp_Si post) [.ref (a0 0), .int x1].toArray s 0 0 (fun _ => False)) (F0 m 90 ls [])) (n : Nat) (z1 : Int32) (z2 : Int32) (z3 : Int32) (z4 : Int32) (z5 : Int32) (ls : Array Slot), wp_X7_left_L31 s0 post e90 n z1 z2 z3 z4 z5 → lv_has ls 6 [(1, .int z1), (2, .int z2), (3, .int z3), (4, .int z4), (5, .int z5), (0, .ref (a0 0))] → W p l e ({ frames := 3, cells := 0, slots := 0, locals := 64 } : Room) s m [.ref (a0 0), .int x1].toArray below meth c s.heap [] 0 0 (MQ below (vp_Si post) [.ref (a0 0), .int x1].toArray s 0 0 (fun _ => False)) (F0 m 31 ls []) := by
        intro e90 k90 n
        induction n with
        | zero =>
          intro z1 z2 z3 z4 z5 ls h
          exact h.elim
        | succ n ih =>
          intro z1 z2 z3 z4 z5 ls h hl
          unfold wp_X7_left_L31 at h
          refine lv_iload hx hb dX7_left_31 (lv_at hl 4 rfl) ?_
          refine lv_aload_n hx hb dX7_left_33 rfl (lv_at hl 5 rfl) ?_
          refine vp_callSi (rd_wV (wc := md_v a0 q s0) (As := []) (rest := [.int z5]) hx hb hml hown ht (c2_X7_cells h) wd_X7_cells mw_1295 hQ hV va_S.rf (hP.sub [0, 1, 2, 3, 4, 5, 6, 7] rfl) rfl rfl rfl hl.1 rfl (Nat.le_of_ble_eq_true rfl) dX7_left_34 ⟨Nat.le_of_ble_eq_true rfl, Nat.le_of_ble_eq_true rfl, rfl, rfl⟩ ⟨Nat.le_of_ble_eq_true rfl, Nat.le_of_ble_eq_true rfl⟩) (fun r_7 h => ?_)
          try dsimp only at h
          refine lv_icmp_ge (tgt := 90) hx hb dX7_left_37 (by decide) (fun c_9 => ?_) (fun c_9 => ?_)
          · replace h := h.1 c_9
            exact k90 _ _ _ _ _ ls h (lv_sub hl [0, 1, 2, 3, 4, 5] rfl)
          · replace h := h.2 c_9
            refine lv_iload_n hx hb dX7_left_40 rfl (lv_at hl 1 rfl) ?_
            refine lv_aload_n hx hb dX7_left_41 rfl (lv_at hl 5 rfl) ?_
            refine lv_iload hx hb dX7_left_42 (lv_at hl 4 rfl) ?_
            refine vp_callSi (rd_wV (wc := md_v a0 q s0) (As := [.int z5]) (rest := [.int z2]) hx hb hml hown ht (c2_X7_leftOf h) wd_X7_leftOf mw_1312 hQ hV va_S.rf (hP.sub [0, 1, 2, 3, 4, 5, 6, 7] rfl) rfl rfl rfl hl.1 rfl (Nat.le_of_ble_eq_true rfl) dX7_left_44 ⟨Nat.le_of_ble_eq_true rfl, Nat.le_of_ble_eq_true rfl, rfl, rfl⟩ ⟨Nat.le_of_ble_eq_true rfl, Nat.le_of_ble_eq_true rfl⟩) (fun r_10 h => ?_)
            try dsimp only at h
            refine lv_iadd hx hb dX7_left_47 ?_
            refine lv_istore_n (lv' := [(2, .int (z2 + r_10)), (1, .int z1), (3, .int z3), (4, .int z4), (5, .int z5), (0, .ref (a0 0))]) hx hb dX7_left_48 rfl hl (by decide) rfl (fun ls hl => ?_)
            refine lv_iload hx hb dX7_left_49 (lv_at hl 3 rfl) ?_
            refine lv_aload_n hx hb dX7_left_51 rfl (lv_at hl 5 rfl) ?_
            refine lv_iload hx hb dX7_left_52 (lv_at hl 4 rfl) ?_
            refine vp_callSi (rd_wV (wc := md_v a0 q s0) (As := [.int z5]) (rest := [.int z4]) hx hb hml hown ht (c2_X7_leftOf h) wd_X7_leftOf mw_1312 hQ hV va_S.rf (hP.sub [0, 1, 2, 3, 4, 5, 6, 7] rfl) rfl rfl rfl hl.1 rfl (Nat.le_of_ble_eq_true rfl) dX7_left_54 ⟨Nat.le_of_ble_eq_true rfl, Nat.le_of_ble_eq_true rfl, rfl, rfl⟩ ⟨Nat.le_of_ble_eq_true rfl, Nat.le_of_ble_eq_true rfl⟩) (fun r_12 h => ?_)
            try dsimp only at h
            refine lv_aload_n hx hb dX7_left_57 rfl (lv_at hl 5 rfl) ?_
            refine lv_iload hx hb dX7_left_58 (lv_at hl 4 rfl) ?_
            refine vp_callSi (rd_wV (wc := md_v a0 q s0) (As := [.int z5]) (rest := [.int r_12, .int z4]) hx hb hml hown ht (c2_X7_current h) wd_X7_current mw_1316 hQ hV va_S.rf (hP.sub [0, 1, 2, 3, 4, 5, 6, 7] rfl) rfl rfl rfl hl.1 rfl (Nat.le_of_ble_eq_true rfl) dX7_left_60 ⟨Nat.le_of_ble_eq_true rfl, Nat.le_of_ble_eq_true rfl, rfl, rfl⟩ ⟨Nat.le_of_ble_eq_true rfl, Nat.le_of_ble_eq_true rfl⟩) (fun r_14 h => ?_)
            try dsimp only at h
            refine lv_imul hx hb dX7_left_63 ?_
            refine lv_iadd hx hb dX7_left_64 ?_
            refine lv_istore (lv' := [(4, .int (z4 + (r_12 * r_14))), (2, .int (z2 + r_10)), (1, .int z1), (3, .int z3), (5, .int z5), (0, .ref (a0 0))]) hx hb dX7_left_65 hl (by decide) rfl (fun ls hl => ?_)
            refine lv_aload_n hx hb dX7_left_67 rfl (lv_at hl 5 rfl) ?_
            refine lv_iload hx hb dX7_left_68 (lv_at hl 4 rfl) ?_
            refine vp_callSi (rd_wV (wc := md_v a0 q s0) (As := [.int z5]) (rest := []) hx hb hml hown ht (c2_X7_leftOf h) wd_X7_leftOf mw_1312 hQ hV va_S.rf (hP.sub [0, 1, 2, 3, 4, 5, 6, 7] rfl) rfl rfl rfl hl.1 rfl (Nat.le_of_ble_eq_true rfl) dX7_left_70 ⟨Nat.le_of_ble_eq_true rfl, Nat.le_of_ble_eq_true rfl, rfl, rfl⟩ ⟨Nat.le_of_ble_eq_true rfl, Nat.le_of_ble_eq_true rfl⟩) (fun r_16 h => ?_)
            try dsimp only at h
            refine lv_iload_n hx hb dX7_left_73 rfl (lv_at hl 3 rfl) ?_
            refine lv_icmp_le (tgt := 84) hx hb dX7_left_74 (by decide) (fun c_18 => ?_) (fun c_18 => ?_)
            · replace h := h.1 c_18
              refine lv_iinc (v := (z5 + 1)) (lv' := [(5, .int (z5 + 1)), (4, .int (z4 + (r_12 * r_14))), (2, .int (z2 + r_10)), (1, .int z1), (3, .int z3), (0, .ref (a0 0))]) hx hb dX7_left_84 hl (k := 4) rfl rfl (by decide) rfl (fun ls hl => ?_)
              refine lv_goto (tgt := 31) hx hb dX7_left_87 (by decide) ?_
              exact ih _ _ _ _ _ ls h (lv_sub hl [3, 2, 4, 1, 0, 5] rfl)
            · replace h := h.2 c_18
              refine lv_aload_n hx hb dX7_left_77 rfl (lv_at hl 5 rfl) ?_
              refine lv_iload hx hb dX7_left_78 (lv_at hl 4 rfl) ?_
              refine vp_callSi (rd_wV (wc := md_v a0 q s0) (As := [.int z5]) (rest := []) hx hb hml hown ht (c2_X7_leftOf h) wd_X7_leftOf mw_1312 hQ hV va_S.rf (hP.sub [0, 1, 2, 3, 4, 5, 6, 7] rfl) rfl rfl rfl hl.1 rfl (Nat.le_of_ble_eq_true rfl) dX7_left_80 ⟨Nat.le_of_ble_eq_true rfl, Nat.le_of_ble_eq_true rfl, rfl, rfl⟩ ⟨Nat.le_of_ble_eq_true rfl, Nat.le_of_ble_eq_true rfl⟩) (fun r_19 h => ?_)
              try dsimp only at h
              refine lv_istore_n (lv' := [(3, .int r_19), (4, .int (z4 + (r_12 * r_14))), (2, .int (z2 + r_10)), (1, .int z1), (5, .int z5), (0, .ref (a0 0))]) hx hb dX7_left_83 rfl hl (by decide) rfl (fun ls hl => ?_)
              refine lv_iinc (v := (z5 + 1)) (lv' := [(5, .int (z5 + 1)), (3, .int r_19), (4, .int (z4 + (r_12 * r_14))), (2, .int (z2 + r_10)), (1, .int z1), (0, .ref (a0 0))]) hx hb dX7_left_84 hl (k := 4) rfl rfl (by decide) rfl (fun ls hl => ?_)
              refine lv_goto (tgt := 31) hx hb dX7_left_87 (by decide) ?_
              exact ih _ _ _ _ _ ls h (lv_sub hl [4, 3, 1, 2, 0, 5] rfl)
      obtain ⟨n31, h⟩ := h
      refine lp31 _ ?_ n31 _ _ _ _ _ ls h (lv_sub hl [5, 3, 2, 1, 0, 4] rfl)
      · intro z1 z2 z3 z4 z5 ls h hl
        try dsimp only at h
        refine lv_iload hx hb dX7_left_90 (lv_at hl 3 rfl) ?_
        refine lv_i2l (v := (Int32.toInt64 z4)) hx hb dX7_left_92 rfl ?_
        refine lv_aload_n hx hb dX7_left_93 rfl (lv_at hl 5 rfl) ?_
        refine fl_get (C := RX7) (T := TX7) (N := 23) (ci := 6) (v := .ref (a0 1)) hx hb ht in_X7 hown hK hP 0 rfl rfl 0 (by decide) mw_1130 rfl dX7_left_94 ?_
        refine lv_iconst (v := 2) hx hb dX7_left_97 (by decide) ?_
        refine va_lald hx hb hK hP 1 1 rfl rfl (in_c rfl) dX7_left_98 ?_
        refine lv_ladd hx hb dX7_left_99 ?_
        refine lv_lconst (v := 1) hx hb dX7_left_100 (by decide) ?_
        refine lv_lsub hx hb dX7_left_101 ?_
        refine lv_aload_n hx hb dX7_left_102 rfl (lv_at hl 5 rfl) ?_
        refine fl_get (C := RX7) (T := TX7) (N := 23) (ci := 6) (v := .ref (a0 1)) hx hb ht in_X7 hown hK hP 0 rfl rfl 0 (by decide) mw_1130 rfl dX7_left_103 ?_
        refine lv_iconst (v := 2) hx hb dX7_left_106 (by decide) ?_
        refine va_lald hx hb hK hP 1 1 rfl rfl (in_c rfl) dX7_left_107 ?_
        obtain ⟨g_21, h⟩ := h
        refine lv_ldiv hx hb dX7_left_108 g_21 ?_
        refine lv_l2i (v := (Int64.toInt32 ((((Int32.toInt64 z4) + ((s0.2.2.1 0) (Int32.toNatClampNeg 2))) - 1) / ((s0.2.2.1 0) (Int32.toNatClampNeg 2))))) hx hb dX7_left_109 rfl ?_
        refine lv_istore (lv' := [(5, .int (Int64.toInt32 ((((Int32.toInt64 z4) + ((s0.2.2.1 0) (Int32.toNatClampNeg 2))) - 1) / ((s0.2.2.1 0) (Int32.toNatClampNeg 2))))), (1, .int z1), (2, .int z2), (3, .int z3), (4, .int z4), (0, .ref (a0 0))]) hx hb dX7_left_110 hl (by decide) rfl (fun ls hl => ?_)
        refine lv_iload_n hx hb dX7_left_112 rfl (lv_at hl 1 rfl) ?_
        refine lv_if_ne (tgt := 120) hx hb dX7_left_113 (by decide) (fun c_22 => ?_) (fun c_22 => ?_)
        · replace h := h.1 c_22
          refine lv_iload_n hx hb dX7_left_120 rfl (lv_at hl 1 rfl) ?_
          refine lv_iconst (v := 1) hx hb dX7_left_121 (by decide) ?_
          refine lv_icmp_ne (tgt := 129) hx hb dX7_left_122 (by decide) (fun c_23 => ?_) (fun c_23 => ?_)
          · replace h := h.1 c_23
            refine lv_iload_n hx hb dX7_left_129 rfl (lv_at hl 1 rfl) ?_
            refine lv_iconst (v := 2) hx hb dX7_left_130 (by decide) ?_
            refine lv_icmp_ne (tgt := 139) hx hb dX7_left_131 (by decide) (fun c_24 => ?_) (fun c_24 => ?_)
            · replace h := h.1 c_24
              refine lv_iload hx hb dX7_left_139 (lv_at hl 0 rfl) ?_
              refine lv_iload_n hx hb dX7_left_141 rfl (lv_at hl 3 rfl) ?_
              refine lv_icmp_le (tgt := 150) hx hb dX7_left_142 (by decide) (fun c_25 => ?_) (fun c_25 => ?_)
              · replace h := h.1 c_25
                refine lv_iload_n hx hb dX7_left_150 rfl (lv_at hl 3 rfl) ?_
                exact rd_iret hx hb hr hk h dX7_left_151
              · replace h := h.2 c_25
                refine lv_iload hx hb dX7_left_145 (lv_at hl 0 rfl) ?_
                refine lv_goto (tgt := 151) hx hb dX7_left_147 (by decide) ?_
                exact rd_iret hx hb hr hk h dX7_left_151
            · replace h := h.2 c_24
              refine lv_iload hx hb dX7_left_134 (lv_at hl 4 rfl) ?_
              refine lv_goto (tgt := 151) hx hb dX7_left_136 (by decide) ?_
              exact rd_iret hx hb hr hk h dX7_left_151
          · replace h := h.2 c_23
            refine lv_iload_n hx hb dX7_left_125 rfl (lv_at hl 3 rfl) ?_
            refine lv_goto (tgt := 151) hx hb dX7_left_126 (by decide) ?_
            exact rd_iret hx hb hr hk h dX7_left_151
        · replace h := h.2 c_22
          refine lv_iload_n hx hb dX7_left_116 rfl (lv_at hl 2 rfl) ?_
          refine lv_goto (tgt := 151) hx hb dX7_left_117 (by decide) ?_
          exact rd_iret hx hb hr hk h dX7_left_151
    · replace h := h.2 c_6
      refine lv_iconst (v := (-1)) hx hb dX7_left_19 (by decide) ?_
      exact rd_iret hx hb hr hk h dX7_left_20

def wp_X7_putsAside_L2 (post : Md → Prop) (e27 : Md → Int32 → Prop) : Nat → Md → Int32 → Prop
  | 0, _, _ => False
  | n2 + 1, t0, z1 => ((6896 ≤ z1 → e27 t0 z1) ∧ (¬ 6896 ≤ z1 → vp_in z1 6896 ∧ vp_in z1 6896 ∧ wp_X7_putsAside_L2 post e27 n2 (t0.1, t0.2.1, (va_up t0.2.2.1 3 (vp_updL (t0.2.2.1 3) (Int32.toNatClampNeg z1) ((t0.2.2.1 0) (Int32.toNatClampNeg z1)))), t0.2.2.2) (z1 + 1)))
def wp_X7_putsAside (post : Md → Prop) (s0 : Md) : Prop := (∃ n2, wp_X7_putsAside_L2 post (fun t0 z1 => post t0) n2 s0 0)
set_option maxHeartbeats 4000000 in
set_option maxRecDepth 100000 in
theorem c2_X7_putsAside {l : Launch} {D : va_G} {q : Nat → ClassId} {sz : Nat} {a0 : Nat → Nat} {s0 : Md} {post : Md → Prop} (h : wp_X7_putsAside post s0) : Met l yX7_putsAside (Cond.code yX7_putsAside cX7_putsAside 2 none :: w_all) ({ frames := 0, cells := 0, slots := 0, locals := 0 } : Room) (mt_P D q [.ref (a0 0)] (md_v a0 q s0) sz) (va_Qv (fun u : Md => post u) (mt_B D (md_v a0 q s0) sz (fun u : Md => md_v a0 q u)) (va_A (md_v a0 q s0) sz)) 0 0 (va_A (md_v a0 q s0) sz) := by
  refine mt_start (by decide) (Nat.le_of_ble_eq_true rfl) ?_
  intro p e s m below meth c ls hx hb hr hml hown ht hk hin hP hQ hD hA hS hV hl
  have hK := hQ.1
  have hown : s.vm.findClass RX7 = some m.cls := hown
  have hl : lv_has ls 2 [(0, .ref (a0 0))] := hl
  have hP : va_P D vwCl [((a0 0), .inr (6, [.ref (a0 1), .ref (a0 2), .int (s0.1 0), .ref (a0 3), .ref (a0 5), .ref (a0 4), .long s0.2.1, .int (s0.1 1), .int (s0.1 2), .ref (a0 6), .int (s0.1 3), .int (s0.1 4), .ref (a0 7), .int (s0.1 5), .int (s0.1 6), .int (s0.1 7), .int (s0.1 8), .int (s0.1 9), .int (s0.1 10), .int (s0.1 11), .int (s0.1 12), .int (s0.1 13), .int (s0.1 14)])), ((a0 1), .inl (q 1, 6896, .inr (.inl (s0.2.2.1 0)))), ((a0 2), .inl (q 1, 68960, .inr (.inl (s0.2.2.1 1)))), ((a0 3), .inl (q 1, 13792, .inr (.inl (s0.2.2.1 2)))), ((a0 4), .inl (q 1, 6896, .inr (.inl (s0.2.2.1 3)))), ((a0 5), .inl (q 3, 2, .inl (s0.2.2.2 0))), ((a0 6), .inl (q 0, 40, .inl (s0.2.2.2 1))), ((a0 7), .inl (q 2, 400, .inl (s0.2.2.2 2)))] s.heap := hP
  have hD : va_D _ [((a0 0), .inr (6, [.ref (a0 1), .ref (a0 2), .int (s0.1 0), .ref (a0 3), .ref (a0 5), .ref (a0 4), .long s0.2.1, .int (s0.1 1), .int (s0.1 2), .ref (a0 6), .int (s0.1 3), .int (s0.1 4), .ref (a0 7), .int (s0.1 5), .int (s0.1 6), .int (s0.1 7), .int (s0.1 8), .int (s0.1 9), .int (s0.1 10), .int (s0.1 11), .int (s0.1 12), .int (s0.1 13), .int (s0.1 14)])), ((a0 1), .inl (q 1, 6896, .inr (.inl (s0.2.2.1 0)))), ((a0 2), .inl (q 1, 68960, .inr (.inl (s0.2.2.1 1)))), ((a0 3), .inl (q 1, 13792, .inr (.inl (s0.2.2.1 2)))), ((a0 4), .inl (q 1, 6896, .inr (.inl (s0.2.2.1 3)))), ((a0 5), .inl (q 3, 2, .inl (s0.2.2.2 0))), ((a0 6), .inl (q 0, 40, .inl (s0.2.2.2 1))), ((a0 7), .inl (q 2, 400, .inl (s0.2.2.2 2)))] := hD
  unfold wp_X7_putsAside at h
  refine lv_iconst (v := 0) hx hb dX7_putsAside_0 (by decide) ?_
  refine lv_istore_n (lv' := [(1, .int 0), (0, .ref (a0 0))]) hx hb dX7_putsAside_1 rfl hl (by decide) rfl (fun ls hl => ?_)
  have lp2 : ∀ (e27 : Md → Int32 → Prop) (k27 : ∀ (t0 : Md) (z1 : Int32) (H : Heap) (locs : List Loc) (ls : Array Slot), e27 t0 z1 → va_P D vwCl (md_v a0 q t0) H → va_D (va_A (md_v a0 q s0) sz) (md_v a0 q t0) → va_S (va_A (md_v a0 q s0) sz) s.heap H locs → lv_has ls 2 [(1, .int z1), (0, .ref (a0 0))] → W p l e ({ frames := 0, cells := 0, slots := 0, locals := 0 } : Room) s m [.ref (a0 0)].toArray below meth c H locs 0 0 (MQ below (va_Qv (fun u : Md => post u) (mt_B D (md_v a0 q s0) sz (fun u : Md => md_v a0 q u)) (va_A (md_v a0 q s0) sz)) [.ref (a0 0)].toArray s 0 0 (va_A (md_v a0 q s0) sz)) (F0 m 27 ls [])) (n : Nat) (t0 : Md) (z1 : Int32) (H : Heap) (locs : List Loc) (ls : Array Slot), wp_X7_putsAside_L2 post e27 n t0 z1 → va_P D vwCl (md_v a0 q t0) H → va_D (va_A (md_v a0 q s0) sz) (md_v a0 q t0) → va_S (va_A (md_v a0 q s0) sz) s.heap H locs → lv_has ls 2 [(1, .int z1), (0, .ref (a0 0))] → W p l e ({ frames := 0, cells := 0, slots := 0, locals := 0 } : Room) s m [.ref (a0 0)].toArray below meth c H locs 0 0 (MQ below (va_Qv (fun u : Md => post u) (mt_B D (md_v a0 q s0) sz (fun u : Md => md_v a0 q u)) (va_A (md_v a0 q s0) sz)) [.ref (a0 0)].toArray s 0 0 (va_A (md_v a0 q s0) sz)) (F0 m 2 ls []) := by
    intro e27 k27 n
    induction n with
    | zero =>
      intro t0 z1 H locs ls h
      exact h.elim
    | succ n ih =>
      intro t0 z1 H locs ls h hP hD hS hl
      have hP : va_P D vwCl [((a0 0), .inr (6, [.ref (a0 1), .ref (a0 2), .int (t0.1 0), .ref (a0 3), .ref (a0 5), .ref (a0 4), .long t0.2.1, .int (t0.1 1), .int (t0.1 2), .ref (a0 6), .int (t0.1 3), .int (t0.1 4), .ref (a0 7), .int (t0.1 5), .int (t0.1 6), .int (t0.1 7), .int (t0.1 8), .int (t0.1 9), .int (t0.1 10), .int (t0.1 11), .int (t0.1 12), .int (t0.1 13), .int (t0.1 14)])), ((a0 1), .inl (q 1, 6896, .inr (.inl (t0.2.2.1 0)))), ((a0 2), .inl (q 1, 68960, .inr (.inl (t0.2.2.1 1)))), ((a0 3), .inl (q 1, 13792, .inr (.inl (t0.2.2.1 2)))), ((a0 4), .inl (q 1, 6896, .inr (.inl (t0.2.2.1 3)))), ((a0 5), .inl (q 3, 2, .inl (t0.2.2.2 0))), ((a0 6), .inl (q 0, 40, .inl (t0.2.2.2 1))), ((a0 7), .inl (q 2, 400, .inl (t0.2.2.2 2)))] H := hP
      have hD : va_D _ [((a0 0), .inr (6, [.ref (a0 1), .ref (a0 2), .int (t0.1 0), .ref (a0 3), .ref (a0 5), .ref (a0 4), .long t0.2.1, .int (t0.1 1), .int (t0.1 2), .ref (a0 6), .int (t0.1 3), .int (t0.1 4), .ref (a0 7), .int (t0.1 5), .int (t0.1 6), .int (t0.1 7), .int (t0.1 8), .int (t0.1 9), .int (t0.1 10), .int (t0.1 11), .int (t0.1 12), .int (t0.1 13), .int (t0.1 14)])), ((a0 1), .inl (q 1, 6896, .inr (.inl (t0.2.2.1 0)))), ((a0 2), .inl (q 1, 68960, .inr (.inl (t0.2.2.1 1)))), ((a0 3), .inl (q 1, 13792, .inr (.inl (t0.2.2.1 2)))), ((a0 4), .inl (q 1, 6896, .inr (.inl (t0.2.2.1 3)))), ((a0 5), .inl (q 3, 2, .inl (t0.2.2.2 0))), ((a0 6), .inl (q 0, 40, .inl (t0.2.2.2 1))), ((a0 7), .inl (q 2, 400, .inl (t0.2.2.2 2)))] := hD
      unfold wp_X7_putsAside_L2 at h
      refine lv_iload_n hx hb dX7_putsAside_2 rfl (lv_at hl 0 rfl) ?_
      refine lv_sipush (v := 6896) hx hb dX7_putsAside_3 (by decide) ?_
      refine lv_icmp_ge (tgt := 27) hx hb dX7_putsAside_6 (by decide) (fun c_1 => ?_) (fun c_1 => ?_)
      · replace h := h.1 c_1
        exact k27 _ _ _ _ ls h (hP.sub (ws' := md_v a0 q t0) [0, 1, 2, 3, 4, 5, 6, 7] rfl) (hD.sub (ws' := md_v a0 q t0) [0, 1, 2, 3, 4, 5, 6, 7] (by decide) rfl) hS (lv_sub hl [0, 1] rfl)
      · replace h := h.2 c_1
        refine lv_aload_n hx hb dX7_putsAside_9 rfl (lv_at hl 1 rfl) ?_
        refine fl_get (C := RX7) (T := TX7) (N := 23) (ci := 6) (v := .ref (a0 4)) hx hb ht in_X7 hown hK hP 0 rfl rfl 5 (by decide) mw_1135 rfl dX7_putsAside_10 ?_
        refine lv_iload_n hx hb dX7_putsAside_13 rfl (lv_at hl 0 rfl) ?_
        refine lv_aload_n hx hb dX7_putsAside_14 rfl (lv_at hl 1 rfl) ?_
        refine fl_get (C := RX7) (T := TX7) (N := 23) (ci := 6) (v := .ref (a0 1)) hx hb ht in_X7 hown hK hP 0 rfl rfl 0 (by decide) mw_1130 rfl dX7_putsAside_15 ?_
        refine lv_iload_n hx hb dX7_putsAside_18 rfl (lv_at hl 0 rfl) ?_
        obtain ⟨g_2, h⟩ := h
        refine va_lald hx hb hK hP 1 1 rfl rfl g_2 dX7_putsAside_19 ?_
        obtain ⟨g_3, h⟩ := h
        refine va_last hx hb hK hP hD hS 4 1 rfl rfl g_3 dX7_putsAside_20 (fun H locs hP hD hS => ?_)
        have hP : va_P D vwCl [((a0 0), .inr (6, [.ref (a0 1), .ref (a0 2), .int (t0.1 0), .ref (a0 3), .ref (a0 5), .ref (a0 4), .long t0.2.1, .int (t0.1 1), .int (t0.1 2), .ref (a0 6), .int (t0.1 3), .int (t0.1 4), .ref (a0 7), .int (t0.1 5), .int (t0.1 6), .int (t0.1 7), .int (t0.1 8), .int (t0.1 9), .int (t0.1 10), .int (t0.1 11), .int (t0.1 12), .int (t0.1 13), .int (t0.1 14)])), ((a0 1), .inl (q 1, 6896, .inr (.inl (t0.2.2.1 0)))), ((a0 2), .inl (q 1, 68960, .inr (.inl (t0.2.2.1 1)))), ((a0 3), .inl (q 1, 13792, .inr (.inl (t0.2.2.1 2)))), ((a0 4), .inl (q 1, 6896, .inr (.inl (vp_updL (t0.2.2.1 3) (Int32.toNatClampNeg z1) ((t0.2.2.1 0) (Int32.toNatClampNeg z1)))))), ((a0 5), .inl (q 3, 2, .inl (t0.2.2.2 0))), ((a0 6), .inl (q 0, 40, .inl (t0.2.2.2 1))), ((a0 7), .inl (q 2, 400, .inl (t0.2.2.2 2)))] H := hP
        have hD : va_D _ [((a0 0), .inr (6, [.ref (a0 1), .ref (a0 2), .int (t0.1 0), .ref (a0 3), .ref (a0 5), .ref (a0 4), .long t0.2.1, .int (t0.1 1), .int (t0.1 2), .ref (a0 6), .int (t0.1 3), .int (t0.1 4), .ref (a0 7), .int (t0.1 5), .int (t0.1 6), .int (t0.1 7), .int (t0.1 8), .int (t0.1 9), .int (t0.1 10), .int (t0.1 11), .int (t0.1 12), .int (t0.1 13), .int (t0.1 14)])), ((a0 1), .inl (q 1, 6896, .inr (.inl (t0.2.2.1 0)))), ((a0 2), .inl (q 1, 68960, .inr (.inl (t0.2.2.1 1)))), ((a0 3), .inl (q 1, 13792, .inr (.inl (t0.2.2.1 2)))), ((a0 4), .inl (q 1, 6896, .inr (.inl (vp_updL (t0.2.2.1 3) (Int32.toNatClampNeg z1) ((t0.2.2.1 0) (Int32.toNatClampNeg z1)))))), ((a0 5), .inl (q 3, 2, .inl (t0.2.2.2 0))), ((a0 6), .inl (q 0, 40, .inl (t0.2.2.2 1))), ((a0 7), .inl (q 2, 400, .inl (t0.2.2.2 2)))] := hD
        refine lv_iinc (v := (z1 + 1)) (lv' := [(1, .int (z1 + 1)), (0, .ref (a0 0))]) hx hb dX7_putsAside_21 hl (k := 0) rfl rfl (by decide) rfl (fun ls hl => ?_)
        refine lv_goto (tgt := 2) hx hb dX7_putsAside_24 (by decide) ?_
        exact ih _ _ _ _ ls h (hP.sub (ws' := md_v a0 q (t0.1, t0.2.1, (va_up t0.2.2.1 3 (vp_updL (t0.2.2.1 3) (Int32.toNatClampNeg z1) ((t0.2.2.1 0) (Int32.toNatClampNeg z1)))), t0.2.2.2)) [0, 1, 2, 3, 4, 5, 6, 7] rfl) (hD.sub (ws' := md_v a0 q (t0.1, t0.2.1, (va_up t0.2.2.1 3 (vp_updL (t0.2.2.1 3) (Int32.toNatClampNeg z1) ((t0.2.2.1 0) (Int32.toNatClampNeg z1)))), t0.2.2.2)) [0, 1, 2, 3, 4, 5, 6, 7] (by decide) rfl) hS (lv_sub hl [0, 1] rfl)
  obtain ⟨n2, h⟩ := h
  refine lp2 _ ?_ n2 _ _ _ _ ls h (hP.sub (ws' := md_v a0 q s0) [0, 1, 2, 3, 4, 5, 6, 7] rfl) (hD.sub (ws' := md_v a0 q s0) [0, 1, 2, 3, 4, 5, 6, 7] (by decide) rfl) hS (lv_sub hl [0, 1] rfl)
  · intro t0 z1 H locs ls h hP hD hS hl
    try dsimp only at h
    have hP : va_P D vwCl [((a0 0), .inr (6, [.ref (a0 1), .ref (a0 2), .int (t0.1 0), .ref (a0 3), .ref (a0 5), .ref (a0 4), .long t0.2.1, .int (t0.1 1), .int (t0.1 2), .ref (a0 6), .int (t0.1 3), .int (t0.1 4), .ref (a0 7), .int (t0.1 5), .int (t0.1 6), .int (t0.1 7), .int (t0.1 8), .int (t0.1 9), .int (t0.1 10), .int (t0.1 11), .int (t0.1 12), .int (t0.1 13), .int (t0.1 14)])), ((a0 1), .inl (q 1, 6896, .inr (.inl (t0.2.2.1 0)))), ((a0 2), .inl (q 1, 68960, .inr (.inl (t0.2.2.1 1)))), ((a0 3), .inl (q 1, 13792, .inr (.inl (t0.2.2.1 2)))), ((a0 4), .inl (q 1, 6896, .inr (.inl (t0.2.2.1 3)))), ((a0 5), .inl (q 3, 2, .inl (t0.2.2.2 0))), ((a0 6), .inl (q 0, 40, .inl (t0.2.2.2 1))), ((a0 7), .inl (q 2, 400, .inl (t0.2.2.2 2)))] H := hP
    have hD : va_D _ [((a0 0), .inr (6, [.ref (a0 1), .ref (a0 2), .int (t0.1 0), .ref (a0 3), .ref (a0 5), .ref (a0 4), .long t0.2.1, .int (t0.1 1), .int (t0.1 2), .ref (a0 6), .int (t0.1 3), .int (t0.1 4), .ref (a0 7), .int (t0.1 5), .int (t0.1 6), .int (t0.1 7), .int (t0.1 8), .int (t0.1 9), .int (t0.1 10), .int (t0.1 11), .int (t0.1 12), .int (t0.1 13), .int (t0.1 14)])), ((a0 1), .inl (q 1, 6896, .inr (.inl (t0.2.2.1 0)))), ((a0 2), .inl (q 1, 68960, .inr (.inl (t0.2.2.1 1)))), ((a0 3), .inl (q 1, 13792, .inr (.inl (t0.2.2.1 2)))), ((a0 4), .inl (q 1, 6896, .inr (.inl (t0.2.2.1 3)))), ((a0 5), .inl (q 3, 2, .inl (t0.2.2.2 0))), ((a0 6), .inl (q 0, 40, .inl (t0.2.2.2 1))), ((a0 7), .inl (q 2, 400, .inl (t0.2.2.2 2)))] := hD
    exact mt_vret t0 hx hb hr hk h (hP.sub (ws' := md_v a0 q t0) [0, 1, 2, 3, 4, 5, 6, 7] rfl) (hD.sub (ws' := md_v a0 q t0) [0, 1, 2, 3, 4, 5, 6, 7] (by decide) rfl) hS dX7_putsAside_27

def wp_X7_takesBack_L2 (post : Md → Prop) (e27 : Md → Int32 → Prop) : Nat → Md → Int32 → Prop
  | 0, _, _ => False
  | n2 + 1, t0, z1 => ((6896 ≤ z1 → e27 t0 z1) ∧ (¬ 6896 ≤ z1 → vp_in z1 6896 ∧ vp_in z1 6896 ∧ wp_X7_takesBack_L2 post e27 n2 (t0.1, t0.2.1, (va_up t0.2.2.1 0 (vp_updL (t0.2.2.1 0) (Int32.toNatClampNeg z1) ((t0.2.2.1 3) (Int32.toNatClampNeg z1)))), t0.2.2.2) (z1 + 1)))
def wp_X7_takesBack (post : Md → Prop) (s0 : Md) : Prop := (∃ n2, wp_X7_takesBack_L2 post (fun t0 z1 => post t0) n2 s0 0)
set_option maxHeartbeats 4000000 in
set_option maxRecDepth 100000 in
theorem c2_X7_takesBack {l : Launch} {D : va_G} {q : Nat → ClassId} {sz : Nat} {a0 : Nat → Nat} {s0 : Md} {post : Md → Prop} (h : wp_X7_takesBack post s0) : Met l yX7_takesBack (Cond.code yX7_takesBack cX7_takesBack 2 none :: w_all) ({ frames := 0, cells := 0, slots := 0, locals := 0 } : Room) (mt_P D q [.ref (a0 0)] (md_v a0 q s0) sz) (va_Qv (fun u : Md => post u) (mt_B D (md_v a0 q s0) sz (fun u : Md => md_v a0 q u)) (va_A (md_v a0 q s0) sz)) 0 0 (va_A (md_v a0 q s0) sz) := by
  refine mt_start (by decide) (Nat.le_of_ble_eq_true rfl) ?_
  intro p e s m below meth c ls hx hb hr hml hown ht hk hin hP hQ hD hA hS hV hl
  have hK := hQ.1
  have hown : s.vm.findClass RX7 = some m.cls := hown
  have hl : lv_has ls 2 [(0, .ref (a0 0))] := hl
  have hP : va_P D vwCl [((a0 0), .inr (6, [.ref (a0 1), .ref (a0 2), .int (s0.1 0), .ref (a0 3), .ref (a0 5), .ref (a0 4), .long s0.2.1, .int (s0.1 1), .int (s0.1 2), .ref (a0 6), .int (s0.1 3), .int (s0.1 4), .ref (a0 7), .int (s0.1 5), .int (s0.1 6), .int (s0.1 7), .int (s0.1 8), .int (s0.1 9), .int (s0.1 10), .int (s0.1 11), .int (s0.1 12), .int (s0.1 13), .int (s0.1 14)])), ((a0 1), .inl (q 1, 6896, .inr (.inl (s0.2.2.1 0)))), ((a0 2), .inl (q 1, 68960, .inr (.inl (s0.2.2.1 1)))), ((a0 3), .inl (q 1, 13792, .inr (.inl (s0.2.2.1 2)))), ((a0 4), .inl (q 1, 6896, .inr (.inl (s0.2.2.1 3)))), ((a0 5), .inl (q 3, 2, .inl (s0.2.2.2 0))), ((a0 6), .inl (q 0, 40, .inl (s0.2.2.2 1))), ((a0 7), .inl (q 2, 400, .inl (s0.2.2.2 2)))] s.heap := hP
  have hD : va_D _ [((a0 0), .inr (6, [.ref (a0 1), .ref (a0 2), .int (s0.1 0), .ref (a0 3), .ref (a0 5), .ref (a0 4), .long s0.2.1, .int (s0.1 1), .int (s0.1 2), .ref (a0 6), .int (s0.1 3), .int (s0.1 4), .ref (a0 7), .int (s0.1 5), .int (s0.1 6), .int (s0.1 7), .int (s0.1 8), .int (s0.1 9), .int (s0.1 10), .int (s0.1 11), .int (s0.1 12), .int (s0.1 13), .int (s0.1 14)])), ((a0 1), .inl (q 1, 6896, .inr (.inl (s0.2.2.1 0)))), ((a0 2), .inl (q 1, 68960, .inr (.inl (s0.2.2.1 1)))), ((a0 3), .inl (q 1, 13792, .inr (.inl (s0.2.2.1 2)))), ((a0 4), .inl (q 1, 6896, .inr (.inl (s0.2.2.1 3)))), ((a0 5), .inl (q 3, 2, .inl (s0.2.2.2 0))), ((a0 6), .inl (q 0, 40, .inl (s0.2.2.2 1))), ((a0 7), .inl (q 2, 400, .inl (s0.2.2.2 2)))] := hD
  unfold wp_X7_takesBack at h
  refine lv_iconst (v := 0) hx hb dX7_takesBack_0 (by decide) ?_
  refine lv_istore_n (lv' := [(1, .int 0), (0, .ref (a0 0))]) hx hb dX7_takesBack_1 rfl hl (by decide) rfl (fun ls hl => ?_)
  have lp2 : ∀ (e27 : Md → Int32 → Prop) (k27 : ∀ (t0 : Md) (z1 : Int32) (H : Heap) (locs : List Loc) (ls : Array Slot), e27 t0 z1 → va_P D vwCl (md_v a0 q t0) H → va_D (va_A (md_v a0 q s0) sz) (md_v a0 q t0) → va_S (va_A (md_v a0 q s0) sz) s.heap H locs → lv_has ls 2 [(1, .int z1), (0, .ref (a0 0))] → W p l e ({ frames := 0, cells := 0, slots := 0, locals := 0 } : Room) s m [.ref (a0 0)].toArray below meth c H locs 0 0 (MQ below (va_Qv (fun u : Md => post u) (mt_B D (md_v a0 q s0) sz (fun u : Md => md_v a0 q u)) (va_A (md_v a0 q s0) sz)) [.ref (a0 0)].toArray s 0 0 (va_A (md_v a0 q s0) sz)) (F0 m 27 ls [])) (n : Nat) (t0 : Md) (z1 : Int32) (H : Heap) (locs : List Loc) (ls : Array Slot), wp_X7_takesBack_L2 post e27 n t0 z1 → va_P D vwCl (md_v a0 q t0) H → va_D (va_A (md_v a0 q s0) sz) (md_v a0 q t0) → va_S (va_A (md_v a0 q s0) sz) s.heap H locs → lv_has ls 2 [(1, .int z1), (0, .ref (a0 0))] → W p l e ({ frames := 0, cells := 0, slots := 0, locals := 0 } : Room) s m [.ref (a0 0)].toArray below meth c H locs 0 0 (MQ below (va_Qv (fun u : Md => post u) (mt_B D (md_v a0 q s0) sz (fun u : Md => md_v a0 q u)) (va_A (md_v a0 q s0) sz)) [.ref (a0 0)].toArray s 0 0 (va_A (md_v a0 q s0) sz)) (F0 m 2 ls []) := by
    intro e27 k27 n
    induction n with
    | zero =>
      intro t0 z1 H locs ls h
      exact h.elim
    | succ n ih =>
      intro t0 z1 H locs ls h hP hD hS hl
      have hP : va_P D vwCl [((a0 0), .inr (6, [.ref (a0 1), .ref (a0 2), .int (t0.1 0), .ref (a0 3), .ref (a0 5), .ref (a0 4), .long t0.2.1, .int (t0.1 1), .int (t0.1 2), .ref (a0 6), .int (t0.1 3), .int (t0.1 4), .ref (a0 7), .int (t0.1 5), .int (t0.1 6), .int (t0.1 7), .int (t0.1 8), .int (t0.1 9), .int (t0.1 10), .int (t0.1 11), .int (t0.1 12), .int (t0.1 13), .int (t0.1 14)])), ((a0 1), .inl (q 1, 6896, .inr (.inl (t0.2.2.1 0)))), ((a0 2), .inl (q 1, 68960, .inr (.inl (t0.2.2.1 1)))), ((a0 3), .inl (q 1, 13792, .inr (.inl (t0.2.2.1 2)))), ((a0 4), .inl (q 1, 6896, .inr (.inl (t0.2.2.1 3)))), ((a0 5), .inl (q 3, 2, .inl (t0.2.2.2 0))), ((a0 6), .inl (q 0, 40, .inl (t0.2.2.2 1))), ((a0 7), .inl (q 2, 400, .inl (t0.2.2.2 2)))] H := hP
      have hD : va_D _ [((a0 0), .inr (6, [.ref (a0 1), .ref (a0 2), .int (t0.1 0), .ref (a0 3), .ref (a0 5), .ref (a0 4), .long t0.2.1, .int (t0.1 1), .int (t0.1 2), .ref (a0 6), .int (t0.1 3), .int (t0.1 4), .ref (a0 7), .int (t0.1 5), .int (t0.1 6), .int (t0.1 7), .int (t0.1 8), .int (t0.1 9), .int (t0.1 10), .int (t0.1 11), .int (t0.1 12), .int (t0.1 13), .int (t0.1 14)])), ((a0 1), .inl (q 1, 6896, .inr (.inl (t0.2.2.1 0)))), ((a0 2), .inl (q 1, 68960, .inr (.inl (t0.2.2.1 1)))), ((a0 3), .inl (q 1, 13792, .inr (.inl (t0.2.2.1 2)))), ((a0 4), .inl (q 1, 6896, .inr (.inl (t0.2.2.1 3)))), ((a0 5), .inl (q 3, 2, .inl (t0.2.2.2 0))), ((a0 6), .inl (q 0, 40, .inl (t0.2.2.2 1))), ((a0 7), .inl (q 2, 400, .inl (t0.2.2.2 2)))] := hD
      unfold wp_X7_takesBack_L2 at h
      refine lv_iload_n hx hb dX7_takesBack_2 rfl (lv_at hl 0 rfl) ?_
      refine lv_sipush (v := 6896) hx hb dX7_takesBack_3 (by decide) ?_
      refine lv_icmp_ge (tgt := 27) hx hb dX7_takesBack_6 (by decide) (fun c_1 => ?_) (fun c_1 => ?_)
      · replace h := h.1 c_1
        exact k27 _ _ _ _ ls h (hP.sub (ws' := md_v a0 q t0) [0, 1, 2, 3, 4, 5, 6, 7] rfl) (hD.sub (ws' := md_v a0 q t0) [0, 1, 2, 3, 4, 5, 6, 7] (by decide) rfl) hS (lv_sub hl [0, 1] rfl)
      · replace h := h.2 c_1
        refine lv_aload_n hx hb dX7_takesBack_9 rfl (lv_at hl 1 rfl) ?_
        refine fl_get (C := RX7) (T := TX7) (N := 23) (ci := 6) (v := .ref (a0 1)) hx hb ht in_X7 hown hK hP 0 rfl rfl 0 (by decide) mw_1130 rfl dX7_takesBack_10 ?_
        refine lv_iload_n hx hb dX7_takesBack_13 rfl (lv_at hl 0 rfl) ?_
        refine lv_aload_n hx hb dX7_takesBack_14 rfl (lv_at hl 1 rfl) ?_
        refine fl_get (C := RX7) (T := TX7) (N := 23) (ci := 6) (v := .ref (a0 4)) hx hb ht in_X7 hown hK hP 0 rfl rfl 5 (by decide) mw_1135 rfl dX7_takesBack_15 ?_
        refine lv_iload_n hx hb dX7_takesBack_18 rfl (lv_at hl 0 rfl) ?_
        obtain ⟨g_2, h⟩ := h
        refine va_lald hx hb hK hP 4 1 rfl rfl g_2 dX7_takesBack_19 ?_
        obtain ⟨g_3, h⟩ := h
        refine va_last hx hb hK hP hD hS 1 1 rfl rfl g_3 dX7_takesBack_20 (fun H locs hP hD hS => ?_)
        have hP : va_P D vwCl [((a0 0), .inr (6, [.ref (a0 1), .ref (a0 2), .int (t0.1 0), .ref (a0 3), .ref (a0 5), .ref (a0 4), .long t0.2.1, .int (t0.1 1), .int (t0.1 2), .ref (a0 6), .int (t0.1 3), .int (t0.1 4), .ref (a0 7), .int (t0.1 5), .int (t0.1 6), .int (t0.1 7), .int (t0.1 8), .int (t0.1 9), .int (t0.1 10), .int (t0.1 11), .int (t0.1 12), .int (t0.1 13), .int (t0.1 14)])), ((a0 1), .inl (q 1, 6896, .inr (.inl (vp_updL (t0.2.2.1 0) (Int32.toNatClampNeg z1) ((t0.2.2.1 3) (Int32.toNatClampNeg z1)))))), ((a0 2), .inl (q 1, 68960, .inr (.inl (t0.2.2.1 1)))), ((a0 3), .inl (q 1, 13792, .inr (.inl (t0.2.2.1 2)))), ((a0 4), .inl (q 1, 6896, .inr (.inl (t0.2.2.1 3)))), ((a0 5), .inl (q 3, 2, .inl (t0.2.2.2 0))), ((a0 6), .inl (q 0, 40, .inl (t0.2.2.2 1))), ((a0 7), .inl (q 2, 400, .inl (t0.2.2.2 2)))] H := hP
        have hD : va_D _ [((a0 0), .inr (6, [.ref (a0 1), .ref (a0 2), .int (t0.1 0), .ref (a0 3), .ref (a0 5), .ref (a0 4), .long t0.2.1, .int (t0.1 1), .int (t0.1 2), .ref (a0 6), .int (t0.1 3), .int (t0.1 4), .ref (a0 7), .int (t0.1 5), .int (t0.1 6), .int (t0.1 7), .int (t0.1 8), .int (t0.1 9), .int (t0.1 10), .int (t0.1 11), .int (t0.1 12), .int (t0.1 13), .int (t0.1 14)])), ((a0 1), .inl (q 1, 6896, .inr (.inl (vp_updL (t0.2.2.1 0) (Int32.toNatClampNeg z1) ((t0.2.2.1 3) (Int32.toNatClampNeg z1)))))), ((a0 2), .inl (q 1, 68960, .inr (.inl (t0.2.2.1 1)))), ((a0 3), .inl (q 1, 13792, .inr (.inl (t0.2.2.1 2)))), ((a0 4), .inl (q 1, 6896, .inr (.inl (t0.2.2.1 3)))), ((a0 5), .inl (q 3, 2, .inl (t0.2.2.2 0))), ((a0 6), .inl (q 0, 40, .inl (t0.2.2.2 1))), ((a0 7), .inl (q 2, 400, .inl (t0.2.2.2 2)))] := hD
        refine lv_iinc (v := (z1 + 1)) (lv' := [(1, .int (z1 + 1)), (0, .ref (a0 0))]) hx hb dX7_takesBack_21 hl (k := 0) rfl rfl (by decide) rfl (fun ls hl => ?_)
        refine lv_goto (tgt := 2) hx hb dX7_takesBack_24 (by decide) ?_
        exact ih _ _ _ _ ls h (hP.sub (ws' := md_v a0 q (t0.1, t0.2.1, (va_up t0.2.2.1 0 (vp_updL (t0.2.2.1 0) (Int32.toNatClampNeg z1) ((t0.2.2.1 3) (Int32.toNatClampNeg z1)))), t0.2.2.2)) [0, 1, 2, 3, 4, 5, 6, 7] rfl) (hD.sub (ws' := md_v a0 q (t0.1, t0.2.1, (va_up t0.2.2.1 0 (vp_updL (t0.2.2.1 0) (Int32.toNatClampNeg z1) ((t0.2.2.1 3) (Int32.toNatClampNeg z1)))), t0.2.2.2)) [0, 1, 2, 3, 4, 5, 6, 7] (by decide) rfl) hS (lv_sub hl [0, 1] rfl)
  obtain ⟨n2, h⟩ := h
  refine lp2 _ ?_ n2 _ _ _ _ ls h (hP.sub (ws' := md_v a0 q s0) [0, 1, 2, 3, 4, 5, 6, 7] rfl) (hD.sub (ws' := md_v a0 q s0) [0, 1, 2, 3, 4, 5, 6, 7] (by decide) rfl) hS (lv_sub hl [0, 1] rfl)
  · intro t0 z1 H locs ls h hP hD hS hl
    try dsimp only at h
    have hP : va_P D vwCl [((a0 0), .inr (6, [.ref (a0 1), .ref (a0 2), .int (t0.1 0), .ref (a0 3), .ref (a0 5), .ref (a0 4), .long t0.2.1, .int (t0.1 1), .int (t0.1 2), .ref (a0 6), .int (t0.1 3), .int (t0.1 4), .ref (a0 7), .int (t0.1 5), .int (t0.1 6), .int (t0.1 7), .int (t0.1 8), .int (t0.1 9), .int (t0.1 10), .int (t0.1 11), .int (t0.1 12), .int (t0.1 13), .int (t0.1 14)])), ((a0 1), .inl (q 1, 6896, .inr (.inl (t0.2.2.1 0)))), ((a0 2), .inl (q 1, 68960, .inr (.inl (t0.2.2.1 1)))), ((a0 3), .inl (q 1, 13792, .inr (.inl (t0.2.2.1 2)))), ((a0 4), .inl (q 1, 6896, .inr (.inl (t0.2.2.1 3)))), ((a0 5), .inl (q 3, 2, .inl (t0.2.2.2 0))), ((a0 6), .inl (q 0, 40, .inl (t0.2.2.2 1))), ((a0 7), .inl (q 2, 400, .inl (t0.2.2.2 2)))] H := hP
    have hD : va_D _ [((a0 0), .inr (6, [.ref (a0 1), .ref (a0 2), .int (t0.1 0), .ref (a0 3), .ref (a0 5), .ref (a0 4), .long t0.2.1, .int (t0.1 1), .int (t0.1 2), .ref (a0 6), .int (t0.1 3), .int (t0.1 4), .ref (a0 7), .int (t0.1 5), .int (t0.1 6), .int (t0.1 7), .int (t0.1 8), .int (t0.1 9), .int (t0.1 10), .int (t0.1 11), .int (t0.1 12), .int (t0.1 13), .int (t0.1 14)])), ((a0 1), .inl (q 1, 6896, .inr (.inl (t0.2.2.1 0)))), ((a0 2), .inl (q 1, 68960, .inr (.inl (t0.2.2.1 1)))), ((a0 3), .inl (q 1, 13792, .inr (.inl (t0.2.2.1 2)))), ((a0 4), .inl (q 1, 6896, .inr (.inl (t0.2.2.1 3)))), ((a0 5), .inl (q 3, 2, .inl (t0.2.2.2 0))), ((a0 6), .inl (q 0, 40, .inl (t0.2.2.2 1))), ((a0 7), .inl (q 2, 400, .inl (t0.2.2.2 2)))] := hD
    exact mt_vret t0 hx hb hr hk h (hP.sub (ws' := md_v a0 q t0) [0, 1, 2, 3, 4, 5, 6, 7] rfl) (hD.sub (ws' := md_v a0 q t0) [0, 1, 2, 3, 4, 5, 6, 7] (by decide) rfl) hS dX7_takesBack_27

def wp_X7_others_L4 (s0 : Md) (post : Int32 → Prop) (e34 : Int32 → Int32 → Prop) : Nat → Int32 → Int32 → Prop
  | 0, _, _ => False
  | n4 + 1, z1, z2 => wp_X7_cells (fun r_1 => ((r_1 ≤ z2 → e34 z1 z2) ∧ (¬ r_1 ≤ z2 → wp_X7_isOther (fun r_4 => ((r_4 = 0 → wp_X7_others_L4 s0 post e34 n4 (z1 + 0) (z2 + 1)) ∧ (¬ r_4 = 0 → wp_X7_others_L4 s0 post e34 n4 (z1 + 1) (z2 + 1)))) s0 z2))) s0
def wp_X7_others (post : Int32 → Prop) (s0 : Md) : Prop := (∃ n4, wp_X7_others_L4 s0 post (fun z1 z2 => post z1) n4 0 0)
set_option maxHeartbeats 4000000 in
set_option maxRecDepth 100000 in
theorem c2_X7_others {l : Launch} {D : va_G} {q : Nat → ClassId} {a0 : Nat → Nat} {s0 : Md} {post : Int32 → Prop} (h : wp_X7_others post s0) : Met l yX7_others (Cond.code yX7_others cX7_others 3 (some .int) :: w_all) ({ frames := 3, cells := 0, slots := 0, locals := 65 } : Room) (rd_P D q [.ref (a0 0)] (md_v a0 q s0)) (vp_Si post) 0 0 (fun _ => False) := by
  refine rd_start (by decide) (Nat.le_of_ble_eq_true rfl) ?_
  intro p e s m below meth c ls hx hb hr hml hown ht hk hP hQ hV hl
  have hK := hQ.1
  have hown : s.vm.findClass RX7 = some m.cls := hown
  have hl : lv_has ls 3 [(0, .ref (a0 0))] := hl
  have hP : va_P D vwCl [((a0 0), .inr (6, [.ref (a0 1), .ref (a0 2), .int (s0.1 0), .ref (a0 3), .ref (a0 5), .ref (a0 4), .long s0.2.1, .int (s0.1 1), .int (s0.1 2), .ref (a0 6), .int (s0.1 3), .int (s0.1 4), .ref (a0 7), .int (s0.1 5), .int (s0.1 6), .int (s0.1 7), .int (s0.1 8), .int (s0.1 9), .int (s0.1 10), .int (s0.1 11), .int (s0.1 12), .int (s0.1 13), .int (s0.1 14)])), ((a0 1), .inl (q 1, 6896, .inr (.inl (s0.2.2.1 0)))), ((a0 2), .inl (q 1, 68960, .inr (.inl (s0.2.2.1 1)))), ((a0 3), .inl (q 1, 13792, .inr (.inl (s0.2.2.1 2)))), ((a0 4), .inl (q 1, 6896, .inr (.inl (s0.2.2.1 3)))), ((a0 5), .inl (q 3, 2, .inl (s0.2.2.2 0))), ((a0 6), .inl (q 0, 40, .inl (s0.2.2.2 1))), ((a0 7), .inl (q 2, 400, .inl (s0.2.2.2 2)))] s.heap := hP
  unfold wp_X7_others at h
  refine lv_iconst (v := 0) hx hb dX7_others_0 (by decide) ?_
  refine lv_istore_n (lv' := [(1, .int 0), (0, .ref (a0 0))]) hx hb dX7_others_1 rfl hl (by decide) rfl (fun ls hl => ?_)
  refine lv_iconst (v := 0) hx hb dX7_others_2 (by decide) ?_
  refine lv_istore_n (lv' := [(2, .int 0), (1, .int 0), (0, .ref (a0 0))]) hx hb dX7_others_3 rfl hl (by decide) rfl (fun ls hl => ?_)
  have lp4 : ∀ (e34 : Int32 → Int32 → Prop) (k34 : ∀ (z1 : Int32) (z2 : Int32) (ls : Array Slot), e34 z1 z2 → lv_has ls 3 [(1, .int z1), (2, .int z2), (0, .ref (a0 0))] → W p l e ({ frames := 3, cells := 0, slots := 0, locals := 65 } : Room) s m [.ref (a0 0)].toArray below meth c s.heap [] 0 0 (MQ below (vp_Si post) [.ref (a0 0)].toArray s 0 0 (fun _ => False)) (F0 m 34 ls [])) (n : Nat) (z1 : Int32) (z2 : Int32) (ls : Array Slot), wp_X7_others_L4 s0 post e34 n z1 z2 → lv_has ls 3 [(1, .int z1), (2, .int z2), (0, .ref (a0 0))] → W p l e ({ frames := 3, cells := 0, slots := 0, locals := 65 } : Room) s m [.ref (a0 0)].toArray below meth c s.heap [] 0 0 (MQ below (vp_Si post) [.ref (a0 0)].toArray s 0 0 (fun _ => False)) (F0 m 4 ls []) := by
    intro e34 k34 n
    induction n with
    | zero =>
      intro z1 z2 ls h
      exact h.elim
    | succ n ih =>
      intro z1 z2 ls h hl
      unfold wp_X7_others_L4 at h
      refine lv_iload_n hx hb dX7_others_4 rfl (lv_at hl 1 rfl) ?_
      refine lv_aload_n hx hb dX7_others_5 rfl (lv_at hl 2 rfl) ?_
      refine vp_callSi (rd_wV (wc := md_v a0 q s0) (As := []) (rest := [.int z2]) hx hb hml hown ht (c2_X7_cells h) wd_X7_cells mw_1295 hQ hV va_S.rf (hP.sub [0, 1, 2, 3, 4, 5, 6, 7] rfl) rfl rfl rfl hl.1 rfl (Nat.le_of_ble_eq_true rfl) dX7_others_6 ⟨Nat.le_of_ble_eq_true rfl, Nat.le_of_ble_eq_true rfl, rfl, rfl⟩ ⟨Nat.le_of_ble_eq_true rfl, Nat.le_of_ble_eq_true rfl⟩) (fun r_1 h => ?_)
      try dsimp only at h
      refine lv_icmp_ge (tgt := 34) hx hb dX7_others_9 (by decide) (fun c_3 => ?_) (fun c_3 => ?_)
      · replace h := h.1 c_3
        exact k34 _ _ ls h (lv_sub hl [0, 1, 2] rfl)
      · replace h := h.2 c_3
        refine lv_iload_n hx hb dX7_others_12 rfl (lv_at hl 0 rfl) ?_
        refine lv_aload_n hx hb dX7_others_13 rfl (lv_at hl 2 rfl) ?_
        refine lv_iload_n hx hb dX7_others_14 rfl (lv_at hl 1 rfl) ?_
        refine vp_callSi (rd_wV (wc := md_v a0 q s0) (As := [.int z2]) (rest := [.int z1]) hx hb hml hown ht (c2_X7_isOther h) wd_X7_isOther mw_1435 hQ hV va_S.rf (hP.sub [0, 1, 2, 3, 4, 5, 6, 7] rfl) rfl rfl rfl hl.1 rfl (Nat.le_of_ble_eq_true rfl) dX7_others_15 ⟨Nat.le_of_ble_eq_true rfl, Nat.le_of_ble_eq_true rfl, rfl, rfl⟩ ⟨Nat.le_of_ble_eq_true rfl, Nat.le_of_ble_eq_true rfl⟩) (fun r_4 h => ?_)
        try dsimp only at h
        refine lv_if_eq (tgt := 25) hx hb dX7_others_18 (by decide) (fun c_6 => ?_) (fun c_6 => ?_)
        · replace h := h.1 c_6
          refine lv_iconst (v := 0) hx hb dX7_others_25 (by decide) ?_
          refine lv_iadd hx hb dX7_others_26 ?_
          refine lv_istore_n (lv' := [(1, .int (z1 + 0)), (2, .int z2), (0, .ref (a0 0))]) hx hb dX7_others_27 rfl hl (by decide) rfl (fun ls hl => ?_)
          refine lv_iinc (v := (z2 + 1)) (lv' := [(2, .int (z2 + 1)), (1, .int (z1 + 0)), (0, .ref (a0 0))]) hx hb dX7_others_28 hl (k := 1) rfl rfl (by decide) rfl (fun ls hl => ?_)
          refine lv_goto (tgt := 4) hx hb dX7_others_31 (by decide) ?_
          exact ih _ _ ls h (lv_sub hl [1, 0, 2] rfl)
        · replace h := h.2 c_6
          refine lv_iconst (v := 1) hx hb dX7_others_21 (by decide) ?_
          refine lv_goto (tgt := 26) hx hb dX7_others_22 (by decide) ?_
          refine lv_iadd hx hb dX7_others_26 ?_
          refine lv_istore_n (lv' := [(1, .int (z1 + 1)), (2, .int z2), (0, .ref (a0 0))]) hx hb dX7_others_27 rfl hl (by decide) rfl (fun ls hl => ?_)
          refine lv_iinc (v := (z2 + 1)) (lv' := [(2, .int (z2 + 1)), (1, .int (z1 + 1)), (0, .ref (a0 0))]) hx hb dX7_others_28 hl (k := 1) rfl rfl (by decide) rfl (fun ls hl => ?_)
          refine lv_goto (tgt := 4) hx hb dX7_others_31 (by decide) ?_
          exact ih _ _ ls h (lv_sub hl [1, 0, 2] rfl)
  obtain ⟨n4, h⟩ := h
  refine lp4 _ ?_ n4 _ _ ls h (lv_sub hl [1, 0, 2] rfl)
  · intro z1 z2 ls h hl
    try dsimp only at h
    refine lv_iload_n hx hb dX7_others_34 rfl (lv_at hl 0 rfl) ?_
    exact rd_iret hx hb hr hk h dX7_others_35

def wp_X7_when_L32 (post : Int32 → Md → Prop) (e72 : Md → Int32 → Int32 → Int32 → Int32 → Prop) : Nat → Md → Int32 → Int32 → Int32 → Int32 → Prop
  | 0, _, _, _, _, _ => False
  | n32 + 1, t0, z1, z2, z3, z4 => wp_X7_ticks (fun r_9 u_10 => ((r_9 ≤ 0 → e72 u_10 z1 z2 z3 z4) ∧ (¬ r_9 ≤ 0 → (((u_10.1 2) ≤ z4 → wp_X7_when_L32 post e72 n32 u_10 z1 (z2 + 1) (z3 + ((u_10.1 1) * (u_10.1 1))) z4) ∧ (¬ (u_10.1 2) ≤ z4 → wp_X7_when_L32 post e72 n32 u_10 z1 (z2 + 1) (z3 + ((u_10.1 1) * (u_10.1 1))) (u_10.1 2)))))) t0
def wp_X7_when (post : Int32 → Md → Prop) (s0 : Md) (x1 : Int32) : Prop := wp_X7_isBoard (fun r_1 => ((r_1 = 0 → post (-1) s0) ∧ (¬ r_1 = 0 → wp_X7_in (fun r_4 => ((¬ r_4 = 0 → wp_X7_putsAside (fun u_8 => (∃ n32, wp_X7_when_L32 post (fun t0 z1 z2 z3 z4 => wp_X7_others (fun r_13 => wp_X7_takesBack (fun u_16 => ((z1 = 0 → post z2 u_16) ∧ (¬ z1 = 0 → ((z1 = 1 → post (Int64.toInt32 (((t0.2.2.1 0) (Int32.toNatClampNeg 6)) - ((t0.2.2.1 3) (Int32.toNatClampNeg 6)))) u_16) ∧ (¬ z1 = 1 → ((z1 = 2 → post z3 u_16) ∧ (¬ z1 = 2 → ((z1 = 3 → post z4 u_16) ∧ (¬ z1 = 3 → ((z1 = 4 → post r_13 u_16) ∧ (¬ z1 = 4 → post (Int64.toInt32 (((t0.2.2.1 0) (Int32.toNatClampNeg 7)) - ((t0.2.2.1 3) (Int32.toNatClampNeg 7)))) u_16))))))))))) t0) t0) n32 u_8 x1 0 0 0)) s0) ∧ (r_4 = 0 → post (-1) s0))) (Int32.toInt64 x1) (0 : Int64) (5 : Int64)))) s0
set_option maxHeartbeats 4000000 in
set_option maxRecDepth 100000 in
theorem c2_X7_when {l : Launch} {D : va_G} {q : Nat → ClassId} {sz : Nat} {a0 : Nat → Nat} {s0 : Md} {x1 : Int32} {post : Int32 → Md → Prop} (h : wp_X7_when post s0 x1) : Met l yX7_when (Cond.code yX7_when cX7_when 8 (some .int) :: w_all) ({ frames := 5, cells := 0, slots := 0, locals := 110 } : Room) (mt_P D q [.ref (a0 0), .int x1] (md_v a0 q s0) sz) (va_Qi (fun r (u : Md) => post r u) (mt_B D (md_v a0 q s0) sz (fun u : Md => md_v a0 q u)) (va_A (md_v a0 q s0) sz)) 0 0 (va_A (md_v a0 q s0) sz) := by
  refine mt_start (by decide) (Nat.le_of_ble_eq_true rfl) ?_
  intro p e s m below meth c ls hx hb hr hml hown ht hk hin hP hQ hD hA hS hV hl
  have hK := hQ.1
  have hown : s.vm.findClass RX7 = some m.cls := hown
  have hl : lv_has ls 8 [(0, .ref (a0 0)), (1, .int x1)] := hl
  have hP : va_P D vwCl [((a0 0), .inr (6, [.ref (a0 1), .ref (a0 2), .int (s0.1 0), .ref (a0 3), .ref (a0 5), .ref (a0 4), .long s0.2.1, .int (s0.1 1), .int (s0.1 2), .ref (a0 6), .int (s0.1 3), .int (s0.1 4), .ref (a0 7), .int (s0.1 5), .int (s0.1 6), .int (s0.1 7), .int (s0.1 8), .int (s0.1 9), .int (s0.1 10), .int (s0.1 11), .int (s0.1 12), .int (s0.1 13), .int (s0.1 14)])), ((a0 1), .inl (q 1, 6896, .inr (.inl (s0.2.2.1 0)))), ((a0 2), .inl (q 1, 68960, .inr (.inl (s0.2.2.1 1)))), ((a0 3), .inl (q 1, 13792, .inr (.inl (s0.2.2.1 2)))), ((a0 4), .inl (q 1, 6896, .inr (.inl (s0.2.2.1 3)))), ((a0 5), .inl (q 3, 2, .inl (s0.2.2.2 0))), ((a0 6), .inl (q 0, 40, .inl (s0.2.2.2 1))), ((a0 7), .inl (q 2, 400, .inl (s0.2.2.2 2)))] s.heap := hP
  have hD : va_D _ [((a0 0), .inr (6, [.ref (a0 1), .ref (a0 2), .int (s0.1 0), .ref (a0 3), .ref (a0 5), .ref (a0 4), .long s0.2.1, .int (s0.1 1), .int (s0.1 2), .ref (a0 6), .int (s0.1 3), .int (s0.1 4), .ref (a0 7), .int (s0.1 5), .int (s0.1 6), .int (s0.1 7), .int (s0.1 8), .int (s0.1 9), .int (s0.1 10), .int (s0.1 11), .int (s0.1 12), .int (s0.1 13), .int (s0.1 14)])), ((a0 1), .inl (q 1, 6896, .inr (.inl (s0.2.2.1 0)))), ((a0 2), .inl (q 1, 68960, .inr (.inl (s0.2.2.1 1)))), ((a0 3), .inl (q 1, 13792, .inr (.inl (s0.2.2.1 2)))), ((a0 4), .inl (q 1, 6896, .inr (.inl (s0.2.2.1 3)))), ((a0 5), .inl (q 3, 2, .inl (s0.2.2.2 0))), ((a0 6), .inl (q 0, 40, .inl (s0.2.2.2 1))), ((a0 7), .inl (q 2, 400, .inl (s0.2.2.2 2)))] := hD
  unfold wp_X7_when at h
  refine lv_aload_n hx hb dX7_when_0 rfl (lv_at hl 0 rfl) ?_
  refine vp_callSi (rd_wV (wc := md_v a0 q s0) (As := []) (rest := []) hx hb hml hown ht (c2_X7_isBoard h) wd_X7_isBoard mw_1283 hQ hV hS (hP.sub [0, 1, 2, 3, 4, 5, 6, 7] rfl) rfl rfl rfl hl.1 rfl (Nat.le_of_ble_eq_true rfl) dX7_when_1 ⟨Nat.le_of_ble_eq_true rfl, Nat.le_of_ble_eq_true rfl, rfl, rfl⟩ ⟨Nat.le_of_ble_eq_true rfl, Nat.le_of_ble_eq_true rfl⟩) (fun r_1 h => ?_)
  try dsimp only at h
  refine lv_if_eq (tgt := 19) hx hb dX7_when_4 (by decide) (fun c_3 => ?_) (fun c_3 => ?_)
  · replace h := h.1 c_3
    refine lv_iconst (v := (-1)) hx hb dX7_when_19 (by decide) ?_
    exact mt_iret s0 hx hb hr hk h (hP.sub (ws' := md_v a0 q s0) [0, 1, 2, 3, 4, 5, 6, 7] rfl) (hD.sub (ws' := md_v a0 q s0) [0, 1, 2, 3, 4, 5, 6, 7] (by decide) rfl) hS dX7_when_20
  · replace h := h.2 c_3
    refine lv_iload_n hx hb dX7_when_7 rfl (lv_at hl 1 rfl) ?_
    refine lv_i2l (v := (Int32.toInt64 x1)) hx hb dX7_when_8 rfl ?_
    refine lv_lconst (v := 0) hx hb dX7_when_9 (by decide) ?_
    refine lv_ldc2 (v := 5) hx hb hown (ht _ mw_1448) dX7_when_10 ?_
    refine vp_callSi (rd_wS (wc := ([] : va_W)) (As := [.long (Int32.toInt64 x1), .long 0, .long 5]) (rest := []) hx hb hml hown ht (c2_X7_in h) wd_X7_in mw_1213 hQ hV hS (hP.sub [] rfl) rfl hl.1 rfl (Nat.le_of_ble_eq_true rfl) dX7_when_13 ⟨Nat.le_of_ble_eq_true rfl, Nat.le_of_ble_eq_true rfl, rfl, rfl⟩ ⟨Nat.le_of_ble_eq_true rfl, Nat.le_of_ble_eq_true rfl⟩) (fun r_4 h => ?_)
    try dsimp only at h
    refine lv_if_ne (tgt := 21) hx hb dX7_when_16 (by decide) (fun c_6 => ?_) (fun c_6 => ?_)
    · replace h := h.1 c_6
      refine lv_aload_n hx hb dX7_when_21 rfl (lv_at hl 0 rfl) ?_
      refine mt_gov (mt_wV (wc := md_v a0 q s0) (As := []) (rest := []) hx hb hml hown ht (c2_X7_putsAside h) wd_X7_putsAside mw_1449 hQ hV hS hA (hP.sub [0, 1, 2, 3, 4, 5, 6, 7] rfl) (hD.sub [0, 1, 2, 3, 4, 5, 6, 7] (by decide) rfl) rfl rfl rfl hl.1 rfl (Nat.le_of_ble_eq_true rfl) dX7_when_22 ⟨Nat.le_of_ble_eq_true rfl, Nat.le_of_ble_eq_true rfl, rfl, rfl⟩ ⟨Nat.le_of_ble_eq_true rfl, Nat.le_of_ble_eq_true rfl⟩) (wr := []) hP hD hS hA [0, 1, 2, 3, 4, 5, 6, 7] [] rfl rfl (by decide) (by decide) (fun u_8 H locs h hP hD hS => ?_)
      try dsimp only at h
      have hP : va_P D vwCl [((a0 0), .inr (6, [.ref (a0 1), .ref (a0 2), .int (u_8.1 0), .ref (a0 3), .ref (a0 5), .ref (a0 4), .long u_8.2.1, .int (u_8.1 1), .int (u_8.1 2), .ref (a0 6), .int (u_8.1 3), .int (u_8.1 4), .ref (a0 7), .int (u_8.1 5), .int (u_8.1 6), .int (u_8.1 7), .int (u_8.1 8), .int (u_8.1 9), .int (u_8.1 10), .int (u_8.1 11), .int (u_8.1 12), .int (u_8.1 13), .int (u_8.1 14)])), ((a0 1), .inl (q 1, 6896, .inr (.inl (u_8.2.2.1 0)))), ((a0 2), .inl (q 1, 68960, .inr (.inl (u_8.2.2.1 1)))), ((a0 3), .inl (q 1, 13792, .inr (.inl (u_8.2.2.1 2)))), ((a0 4), .inl (q 1, 6896, .inr (.inl (u_8.2.2.1 3)))), ((a0 5), .inl (q 3, 2, .inl (u_8.2.2.2 0))), ((a0 6), .inl (q 0, 40, .inl (u_8.2.2.2 1))), ((a0 7), .inl (q 2, 400, .inl (u_8.2.2.2 2)))] H := hP
      have hD : va_D _ [((a0 0), .inr (6, [.ref (a0 1), .ref (a0 2), .int (u_8.1 0), .ref (a0 3), .ref (a0 5), .ref (a0 4), .long u_8.2.1, .int (u_8.1 1), .int (u_8.1 2), .ref (a0 6), .int (u_8.1 3), .int (u_8.1 4), .ref (a0 7), .int (u_8.1 5), .int (u_8.1 6), .int (u_8.1 7), .int (u_8.1 8), .int (u_8.1 9), .int (u_8.1 10), .int (u_8.1 11), .int (u_8.1 12), .int (u_8.1 13), .int (u_8.1 14)])), ((a0 1), .inl (q 1, 6896, .inr (.inl (u_8.2.2.1 0)))), ((a0 2), .inl (q 1, 68960, .inr (.inl (u_8.2.2.1 1)))), ((a0 3), .inl (q 1, 13792, .inr (.inl (u_8.2.2.1 2)))), ((a0 4), .inl (q 1, 6896, .inr (.inl (u_8.2.2.1 3)))), ((a0 5), .inl (q 3, 2, .inl (u_8.2.2.2 0))), ((a0 6), .inl (q 0, 40, .inl (u_8.2.2.2 1))), ((a0 7), .inl (q 2, 400, .inl (u_8.2.2.2 2)))] := hD
      refine lv_iconst (v := 0) hx hb dX7_when_25 (by decide) ?_
      refine lv_istore_n (lv' := [(2, .int 0), (0, .ref (a0 0)), (1, .int x1)]) hx hb dX7_when_26 rfl hl (by decide) rfl (fun ls hl => ?_)
      refine lv_iconst (v := 0) hx hb dX7_when_27 (by decide) ?_
      refine lv_istore_n (lv' := [(3, .int 0), (2, .int 0), (0, .ref (a0 0)), (1, .int x1)]) hx hb dX7_when_28 rfl hl (by decide) rfl (fun ls hl => ?_)
      refine lv_iconst (v := 0) hx hb dX7_when_29 (by decide) ?_
      refine lv_istore (lv' := [(4, .int 0), (3, .int 0), (2, .int 0), (0, .ref (a0 0)), (1, .int x1)]) hx hb dX7_when_30 hl (by decide) rfl (fun ls hl => ?_)
      have lp32 : ∀ (e72 : Md → Int32 → Int32 → Int32 → Int32 → Prop) (k72 : ∀ (t0 : Md) (z1 : Int32) (z2 : Int32) (z3 : Int32) (z4 : Int32) (H : Heap) (locs : List Loc) (ls : Array Slot), e72 t0 z1 z2 z3 z4 → va_P D vwCl (md_v a0 q t0) H → va_D (va_A (md_v a0 q s0) sz) (md_v a0 q t0) → va_S (va_A (md_v a0 q s0) sz) s.heap H locs → lv_has ls 8 [(1, .int z1), (2, .int z2), (3, .int z3), (4, .int z4), (0, .ref (a0 0))] → W p l e ({ frames := 5, cells := 0, slots := 0, locals := 110 } : Room) s m [.ref (a0 0), .int x1].toArray below meth c H locs 0 0 (MQ below (va_Qi (fun r (u : Md) => post r u) (mt_B D (md_v a0 q s0) sz (fun u : Md => md_v a0 q u)) (va_A (md_v a0 q s0) sz)) [.ref (a0 0), .int x1].toArray s 0 0 (va_A (md_v a0 q s0) sz)) (F0 m 72 ls [])) (n : Nat) (t0 : Md) (z1 : Int32) (z2 : Int32) (z3 : Int32) (z4 : Int32) (H : Heap) (locs : List Loc) (ls : Array Slot), wp_X7_when_L32 post e72 n t0 z1 z2 z3 z4 → va_P D vwCl (md_v a0 q t0) H → va_D (va_A (md_v a0 q s0) sz) (md_v a0 q t0) → va_S (va_A (md_v a0 q s0) sz) s.heap H locs → lv_has ls 8 [(1, .int z1), (2, .int z2), (3, .int z3), (4, .int z4), (0, .ref (a0 0))] → W p l e ({ frames := 5, cells := 0, slots := 0, locals := 110 } : Room) s m [.ref (a0 0), .int x1].toArray below meth c H locs 0 0 (MQ below (va_Qi (fun r (u : Md) => post r u) (mt_B D (md_v a0 q s0) sz (fun u : Md => md_v a0 q u)) (va_A (md_v a0 q s0) sz)) [.ref (a0 0), .int x1].toArray s 0 0 (va_A (md_v a0 q s0) sz)) (F0 m 32 ls []) := by
        intro e72 k72 n
        induction n with
        | zero =>
          intro t0 z1 z2 z3 z4 H locs ls h
          exact h.elim
        | succ n ih =>
          intro t0 z1 z2 z3 z4 H locs ls h hP hD hS hl
          have hP : va_P D vwCl [((a0 0), .inr (6, [.ref (a0 1), .ref (a0 2), .int (t0.1 0), .ref (a0 3), .ref (a0 5), .ref (a0 4), .long t0.2.1, .int (t0.1 1), .int (t0.1 2), .ref (a0 6), .int (t0.1 3), .int (t0.1 4), .ref (a0 7), .int (t0.1 5), .int (t0.1 6), .int (t0.1 7), .int (t0.1 8), .int (t0.1 9), .int (t0.1 10), .int (t0.1 11), .int (t0.1 12), .int (t0.1 13), .int (t0.1 14)])), ((a0 1), .inl (q 1, 6896, .inr (.inl (t0.2.2.1 0)))), ((a0 2), .inl (q 1, 68960, .inr (.inl (t0.2.2.1 1)))), ((a0 3), .inl (q 1, 13792, .inr (.inl (t0.2.2.1 2)))), ((a0 4), .inl (q 1, 6896, .inr (.inl (t0.2.2.1 3)))), ((a0 5), .inl (q 3, 2, .inl (t0.2.2.2 0))), ((a0 6), .inl (q 0, 40, .inl (t0.2.2.2 1))), ((a0 7), .inl (q 2, 400, .inl (t0.2.2.2 2)))] H := hP
          have hD : va_D _ [((a0 0), .inr (6, [.ref (a0 1), .ref (a0 2), .int (t0.1 0), .ref (a0 3), .ref (a0 5), .ref (a0 4), .long t0.2.1, .int (t0.1 1), .int (t0.1 2), .ref (a0 6), .int (t0.1 3), .int (t0.1 4), .ref (a0 7), .int (t0.1 5), .int (t0.1 6), .int (t0.1 7), .int (t0.1 8), .int (t0.1 9), .int (t0.1 10), .int (t0.1 11), .int (t0.1 12), .int (t0.1 13), .int (t0.1 14)])), ((a0 1), .inl (q 1, 6896, .inr (.inl (t0.2.2.1 0)))), ((a0 2), .inl (q 1, 68960, .inr (.inl (t0.2.2.1 1)))), ((a0 3), .inl (q 1, 13792, .inr (.inl (t0.2.2.1 2)))), ((a0 4), .inl (q 1, 6896, .inr (.inl (t0.2.2.1 3)))), ((a0 5), .inl (q 3, 2, .inl (t0.2.2.2 0))), ((a0 6), .inl (q 0, 40, .inl (t0.2.2.2 1))), ((a0 7), .inl (q 2, 400, .inl (t0.2.2.2 2)))] := hD
          unfold wp_X7_when_L32 at h
          refine lv_aload_n hx hb dX7_when_32 rfl (lv_at hl 4 rfl) ?_
          refine mt_goi (mt_wV (wc := md_v a0 q t0) (As := []) (rest := []) hx hb hml hown ht (c2_X7_ticks h) wd_X7_ticks mw_1304 hQ hV hS hA (hP.sub [0, 1, 2, 3, 4, 5, 6, 7] rfl) (hD.sub [0, 1, 2, 3, 4, 5, 6, 7] (by decide) rfl) rfl rfl rfl hl.1 rfl (Nat.le_of_ble_eq_true rfl) dX7_when_33 ⟨Nat.le_of_ble_eq_true rfl, Nat.le_of_ble_eq_true rfl, rfl, rfl⟩ ⟨Nat.le_of_ble_eq_true rfl, Nat.le_of_ble_eq_true rfl⟩) (wr := []) hP hD hS hA [0, 1, 2, 3, 4, 5, 6, 7] [] rfl rfl (by decide) (by decide) (fun r_9 u_10 H locs h hP hD hS => ?_)
          try dsimp only at h
          have hP : va_P D vwCl [((a0 0), .inr (6, [.ref (a0 1), .ref (a0 2), .int (u_10.1 0), .ref (a0 3), .ref (a0 5), .ref (a0 4), .long u_10.2.1, .int (u_10.1 1), .int (u_10.1 2), .ref (a0 6), .int (u_10.1 3), .int (u_10.1 4), .ref (a0 7), .int (u_10.1 5), .int (u_10.1 6), .int (u_10.1 7), .int (u_10.1 8), .int (u_10.1 9), .int (u_10.1 10), .int (u_10.1 11), .int (u_10.1 12), .int (u_10.1 13), .int (u_10.1 14)])), ((a0 1), .inl (q 1, 6896, .inr (.inl (u_10.2.2.1 0)))), ((a0 2), .inl (q 1, 68960, .inr (.inl (u_10.2.2.1 1)))), ((a0 3), .inl (q 1, 13792, .inr (.inl (u_10.2.2.1 2)))), ((a0 4), .inl (q 1, 6896, .inr (.inl (u_10.2.2.1 3)))), ((a0 5), .inl (q 3, 2, .inl (u_10.2.2.2 0))), ((a0 6), .inl (q 0, 40, .inl (u_10.2.2.2 1))), ((a0 7), .inl (q 2, 400, .inl (u_10.2.2.2 2)))] H := hP
          have hD : va_D _ [((a0 0), .inr (6, [.ref (a0 1), .ref (a0 2), .int (u_10.1 0), .ref (a0 3), .ref (a0 5), .ref (a0 4), .long u_10.2.1, .int (u_10.1 1), .int (u_10.1 2), .ref (a0 6), .int (u_10.1 3), .int (u_10.1 4), .ref (a0 7), .int (u_10.1 5), .int (u_10.1 6), .int (u_10.1 7), .int (u_10.1 8), .int (u_10.1 9), .int (u_10.1 10), .int (u_10.1 11), .int (u_10.1 12), .int (u_10.1 13), .int (u_10.1 14)])), ((a0 1), .inl (q 1, 6896, .inr (.inl (u_10.2.2.1 0)))), ((a0 2), .inl (q 1, 68960, .inr (.inl (u_10.2.2.1 1)))), ((a0 3), .inl (q 1, 13792, .inr (.inl (u_10.2.2.1 2)))), ((a0 4), .inl (q 1, 6896, .inr (.inl (u_10.2.2.1 3)))), ((a0 5), .inl (q 3, 2, .inl (u_10.2.2.2 0))), ((a0 6), .inl (q 0, 40, .inl (u_10.2.2.2 1))), ((a0 7), .inl (q 2, 400, .inl (u_10.2.2.2 2)))] := hD
          refine lv_if_le (tgt := 72) hx hb dX7_when_36 (by decide) (fun c_11 => ?_) (fun c_11 => ?_)
          · replace h := h.1 c_11
            exact k72 _ _ _ _ _ _ _ ls h (hP.sub (ws' := md_v a0 q u_10) [0, 1, 2, 3, 4, 5, 6, 7] rfl) (hD.sub (ws' := md_v a0 q u_10) [0, 1, 2, 3, 4, 5, 6, 7] (by decide) rfl) hS (lv_sub hl [0, 1, 2, 3, 4] rfl)
          · replace h := h.2 c_11
            refine lv_iinc (v := (z2 + 1)) (lv' := [(2, .int (z2 + 1)), (1, .int z1), (3, .int z3), (4, .int z4), (0, .ref (a0 0))]) hx hb dX7_when_39 hl (k := 1) rfl rfl (by decide) rfl (fun ls hl => ?_)
            refine lv_iload_n hx hb dX7_when_42 rfl (lv_at hl 2 rfl) ?_
            refine lv_aload_n hx hb dX7_when_43 rfl (lv_at hl 4 rfl) ?_
            refine fl_get (C := RX7) (T := TX7) (N := 23) (ci := 6) (v := .int (u_10.1 1)) hx hb ht in_X7 hown hK hP 0 rfl rfl 7 (by decide) mw_1137 rfl dX7_when_44 ?_
            refine lv_aload_n hx hb dX7_when_47 rfl (lv_at hl 4 rfl) ?_
            refine fl_get (C := RX7) (T := TX7) (N := 23) (ci := 6) (v := .int (u_10.1 1)) hx hb ht in_X7 hown hK hP 0 rfl rfl 7 (by decide) mw_1137 rfl dX7_when_48 ?_
            refine lv_imul hx hb dX7_when_51 ?_
            refine lv_iadd hx hb dX7_when_52 ?_
            refine lv_istore_n (lv' := [(3, .int (z3 + ((u_10.1 1) * (u_10.1 1)))), (2, .int (z2 + 1)), (1, .int z1), (4, .int z4), (0, .ref (a0 0))]) hx hb dX7_when_53 rfl hl (by decide) rfl (fun ls hl => ?_)
            refine lv_aload_n hx hb dX7_when_54 rfl (lv_at hl 4 rfl) ?_
            refine fl_get (C := RX7) (T := TX7) (N := 23) (ci := 6) (v := .int (u_10.1 2)) hx hb ht in_X7 hown hK hP 0 rfl rfl 8 (by decide) mw_1138 rfl dX7_when_55 ?_
            refine lv_iload hx hb dX7_when_58 (lv_at hl 3 rfl) ?_
            refine lv_icmp_le (tgt := 32) hx hb dX7_when_60 (by decide) (fun c_12 => ?_) (fun c_12 => ?_)
            · replace h := h.1 c_12
              exact ih _ _ _ _ _ _ _ ls h (hP.sub (ws' := md_v a0 q u_10) [0, 1, 2, 3, 4, 5, 6, 7] rfl) (hD.sub (ws' := md_v a0 q u_10) [0, 1, 2, 3, 4, 5, 6, 7] (by decide) rfl) hS (lv_sub hl [2, 1, 0, 3, 4] rfl)
            · replace h := h.2 c_12
              refine lv_aload_n hx hb dX7_when_63 rfl (lv_at hl 4 rfl) ?_
              refine fl_get (C := RX7) (T := TX7) (N := 23) (ci := 6) (v := .int (u_10.1 2)) hx hb ht in_X7 hown hK hP 0 rfl rfl 8 (by decide) mw_1138 rfl dX7_when_64 ?_
              refine lv_istore (lv' := [(4, .int (u_10.1 2)), (3, .int (z3 + ((u_10.1 1) * (u_10.1 1)))), (2, .int (z2 + 1)), (1, .int z1), (0, .ref (a0 0))]) hx hb dX7_when_67 hl (by decide) rfl (fun ls hl => ?_)
              refine lv_goto (tgt := 32) hx hb dX7_when_69 (by decide) ?_
              exact ih _ _ _ _ _ _ _ ls h (hP.sub (ws' := md_v a0 q u_10) [0, 1, 2, 3, 4, 5, 6, 7] rfl) (hD.sub (ws' := md_v a0 q u_10) [0, 1, 2, 3, 4, 5, 6, 7] (by decide) rfl) hS (lv_sub hl [3, 2, 1, 0, 4] rfl)
      obtain ⟨n32, h⟩ := h
      refine lp32 _ ?_ n32 _ _ _ _ _ _ _ ls h (hP.sub (ws' := md_v a0 q u_8) [0, 1, 2, 3, 4, 5, 6, 7] rfl) (hD.sub (ws' := md_v a0 q u_8) [0, 1, 2, 3, 4, 5, 6, 7] (by decide) rfl) hS (lv_sub hl [4, 2, 1, 0, 3] rfl)
      · intro t0 z1 z2 z3 z4 H locs ls h hP hD hS hl
        try dsimp only at h
        have hP : va_P D vwCl [((a0 0), .inr (6, [.ref (a0 1), .ref (a0 2), .int (t0.1 0), .ref (a0 3), .ref (a0 5), .ref (a0 4), .long t0.2.1, .int (t0.1 1), .int (t0.1 2), .ref (a0 6), .int (t0.1 3), .int (t0.1 4), .ref (a0 7), .int (t0.1 5), .int (t0.1 6), .int (t0.1 7), .int (t0.1 8), .int (t0.1 9), .int (t0.1 10), .int (t0.1 11), .int (t0.1 12), .int (t0.1 13), .int (t0.1 14)])), ((a0 1), .inl (q 1, 6896, .inr (.inl (t0.2.2.1 0)))), ((a0 2), .inl (q 1, 68960, .inr (.inl (t0.2.2.1 1)))), ((a0 3), .inl (q 1, 13792, .inr (.inl (t0.2.2.1 2)))), ((a0 4), .inl (q 1, 6896, .inr (.inl (t0.2.2.1 3)))), ((a0 5), .inl (q 3, 2, .inl (t0.2.2.2 0))), ((a0 6), .inl (q 0, 40, .inl (t0.2.2.2 1))), ((a0 7), .inl (q 2, 400, .inl (t0.2.2.2 2)))] H := hP
        have hD : va_D _ [((a0 0), .inr (6, [.ref (a0 1), .ref (a0 2), .int (t0.1 0), .ref (a0 3), .ref (a0 5), .ref (a0 4), .long t0.2.1, .int (t0.1 1), .int (t0.1 2), .ref (a0 6), .int (t0.1 3), .int (t0.1 4), .ref (a0 7), .int (t0.1 5), .int (t0.1 6), .int (t0.1 7), .int (t0.1 8), .int (t0.1 9), .int (t0.1 10), .int (t0.1 11), .int (t0.1 12), .int (t0.1 13), .int (t0.1 14)])), ((a0 1), .inl (q 1, 6896, .inr (.inl (t0.2.2.1 0)))), ((a0 2), .inl (q 1, 68960, .inr (.inl (t0.2.2.1 1)))), ((a0 3), .inl (q 1, 13792, .inr (.inl (t0.2.2.1 2)))), ((a0 4), .inl (q 1, 6896, .inr (.inl (t0.2.2.1 3)))), ((a0 5), .inl (q 3, 2, .inl (t0.2.2.2 0))), ((a0 6), .inl (q 0, 40, .inl (t0.2.2.2 1))), ((a0 7), .inl (q 2, 400, .inl (t0.2.2.2 2)))] := hD
        refine lv_aload_n hx hb dX7_when_72 rfl (lv_at hl 4 rfl) ?_
        refine fl_get (C := RX7) (T := TX7) (N := 23) (ci := 6) (v := .ref (a0 1)) hx hb ht in_X7 hown hK hP 0 rfl rfl 0 (by decide) mw_1130 rfl dX7_when_73 ?_
        refine lv_bipush (v := 6) hx hb dX7_when_76 (by decide) ?_
        refine va_lald hx hb hK hP 1 1 rfl rfl (in_c rfl) dX7_when_78 ?_
        refine lv_aload_n hx hb dX7_when_79 rfl (lv_at hl 4 rfl) ?_
        refine fl_get (C := RX7) (T := TX7) (N := 23) (ci := 6) (v := .ref (a0 4)) hx hb ht in_X7 hown hK hP 0 rfl rfl 5 (by decide) mw_1135 rfl dX7_when_80 ?_
        refine lv_bipush (v := 6) hx hb dX7_when_83 (by decide) ?_
        refine va_lald hx hb hK hP 4 1 rfl rfl (in_c rfl) dX7_when_85 ?_
        refine lv_lsub hx hb dX7_when_86 ?_
        refine lv_l2i (v := (Int64.toInt32 (((t0.2.2.1 0) (Int32.toNatClampNeg 6)) - ((t0.2.2.1 3) (Int32.toNatClampNeg 6))))) hx hb dX7_when_87 rfl ?_
        refine lv_istore (lv' := [(5, .int (Int64.toInt32 (((t0.2.2.1 0) (Int32.toNatClampNeg 6)) - ((t0.2.2.1 3) (Int32.toNatClampNeg 6))))), (1, .int z1), (2, .int z2), (3, .int z3), (4, .int z4), (0, .ref (a0 0))]) hx hb dX7_when_88 hl (by decide) rfl (fun ls hl => ?_)
        refine lv_aload_n hx hb dX7_when_90 rfl (lv_at hl 5 rfl) ?_
        refine fl_get (C := RX7) (T := TX7) (N := 23) (ci := 6) (v := .ref (a0 1)) hx hb ht in_X7 hown hK hP 0 rfl rfl 0 (by decide) mw_1130 rfl dX7_when_91 ?_
        refine lv_bipush (v := 7) hx hb dX7_when_94 (by decide) ?_
        refine va_lald hx hb hK hP 1 1 rfl rfl (in_c rfl) dX7_when_96 ?_
        refine lv_aload_n hx hb dX7_when_97 rfl (lv_at hl 5 rfl) ?_
        refine fl_get (C := RX7) (T := TX7) (N := 23) (ci := 6) (v := .ref (a0 4)) hx hb ht in_X7 hown hK hP 0 rfl rfl 5 (by decide) mw_1135 rfl dX7_when_98 ?_
        refine lv_bipush (v := 7) hx hb dX7_when_101 (by decide) ?_
        refine va_lald hx hb hK hP 4 1 rfl rfl (in_c rfl) dX7_when_103 ?_
        refine lv_lsub hx hb dX7_when_104 ?_
        refine lv_l2i (v := (Int64.toInt32 (((t0.2.2.1 0) (Int32.toNatClampNeg 7)) - ((t0.2.2.1 3) (Int32.toNatClampNeg 7))))) hx hb dX7_when_105 rfl ?_
        refine lv_istore (lv' := [(6, .int (Int64.toInt32 (((t0.2.2.1 0) (Int32.toNatClampNeg 7)) - ((t0.2.2.1 3) (Int32.toNatClampNeg 7))))), (5, .int (Int64.toInt32 (((t0.2.2.1 0) (Int32.toNatClampNeg 6)) - ((t0.2.2.1 3) (Int32.toNatClampNeg 6))))), (1, .int z1), (2, .int z2), (3, .int z3), (4, .int z4), (0, .ref (a0 0))]) hx hb dX7_when_106 hl (by decide) rfl (fun ls hl => ?_)
        refine lv_aload_n hx hb dX7_when_108 rfl (lv_at hl 6 rfl) ?_
        refine vp_callSi (rd_wV (wc := md_v a0 q t0) (As := []) (rest := []) hx hb hml hown ht (c2_X7_others h) wd_X7_others mw_1453 hQ hV hS (hP.sub [0, 1, 2, 3, 4, 5, 6, 7] rfl) rfl rfl rfl hl.1 rfl (Nat.le_of_ble_eq_true rfl) dX7_when_109 ⟨Nat.le_of_ble_eq_true rfl, Nat.le_of_ble_eq_true rfl, rfl, rfl⟩ ⟨Nat.le_of_ble_eq_true rfl, Nat.le_of_ble_eq_true rfl⟩) (fun r_13 h => ?_)
        try dsimp only at h
        refine lv_istore (lv' := [(7, .int r_13), (6, .int (Int64.toInt32 (((t0.2.2.1 0) (Int32.toNatClampNeg 7)) - ((t0.2.2.1 3) (Int32.toNatClampNeg 7))))), (5, .int (Int64.toInt32 (((t0.2.2.1 0) (Int32.toNatClampNeg 6)) - ((t0.2.2.1 3) (Int32.toNatClampNeg 6))))), (1, .int z1), (2, .int z2), (3, .int z3), (4, .int z4), (0, .ref (a0 0))]) hx hb dX7_when_112 hl (by decide) rfl (fun ls hl => ?_)
        refine lv_aload_n hx hb dX7_when_114 rfl (lv_at hl 7 rfl) ?_
        refine mt_gov (mt_wV (wc := md_v a0 q t0) (As := []) (rest := []) hx hb hml hown ht (c2_X7_takesBack h) wd_X7_takesBack mw_1457 hQ hV hS hA (hP.sub [0, 1, 2, 3, 4, 5, 6, 7] rfl) (hD.sub [0, 1, 2, 3, 4, 5, 6, 7] (by decide) rfl) rfl rfl rfl hl.1 rfl (Nat.le_of_ble_eq_true rfl) dX7_when_115 ⟨Nat.le_of_ble_eq_true rfl, Nat.le_of_ble_eq_true rfl, rfl, rfl⟩ ⟨Nat.le_of_ble_eq_true rfl, Nat.le_of_ble_eq_true rfl⟩) (wr := []) hP hD hS hA [0, 1, 2, 3, 4, 5, 6, 7] [] rfl rfl (by decide) (by decide) (fun u_16 H locs h hP hD hS => ?_)
        try dsimp only at h
        have hP : va_P D vwCl [((a0 0), .inr (6, [.ref (a0 1), .ref (a0 2), .int (u_16.1 0), .ref (a0 3), .ref (a0 5), .ref (a0 4), .long u_16.2.1, .int (u_16.1 1), .int (u_16.1 2), .ref (a0 6), .int (u_16.1 3), .int (u_16.1 4), .ref (a0 7), .int (u_16.1 5), .int (u_16.1 6), .int (u_16.1 7), .int (u_16.1 8), .int (u_16.1 9), .int (u_16.1 10), .int (u_16.1 11), .int (u_16.1 12), .int (u_16.1 13), .int (u_16.1 14)])), ((a0 1), .inl (q 1, 6896, .inr (.inl (u_16.2.2.1 0)))), ((a0 2), .inl (q 1, 68960, .inr (.inl (u_16.2.2.1 1)))), ((a0 3), .inl (q 1, 13792, .inr (.inl (u_16.2.2.1 2)))), ((a0 4), .inl (q 1, 6896, .inr (.inl (u_16.2.2.1 3)))), ((a0 5), .inl (q 3, 2, .inl (u_16.2.2.2 0))), ((a0 6), .inl (q 0, 40, .inl (u_16.2.2.2 1))), ((a0 7), .inl (q 2, 400, .inl (u_16.2.2.2 2)))] H := hP
        have hD : va_D _ [((a0 0), .inr (6, [.ref (a0 1), .ref (a0 2), .int (u_16.1 0), .ref (a0 3), .ref (a0 5), .ref (a0 4), .long u_16.2.1, .int (u_16.1 1), .int (u_16.1 2), .ref (a0 6), .int (u_16.1 3), .int (u_16.1 4), .ref (a0 7), .int (u_16.1 5), .int (u_16.1 6), .int (u_16.1 7), .int (u_16.1 8), .int (u_16.1 9), .int (u_16.1 10), .int (u_16.1 11), .int (u_16.1 12), .int (u_16.1 13), .int (u_16.1 14)])), ((a0 1), .inl (q 1, 6896, .inr (.inl (u_16.2.2.1 0)))), ((a0 2), .inl (q 1, 68960, .inr (.inl (u_16.2.2.1 1)))), ((a0 3), .inl (q 1, 13792, .inr (.inl (u_16.2.2.1 2)))), ((a0 4), .inl (q 1, 6896, .inr (.inl (u_16.2.2.1 3)))), ((a0 5), .inl (q 3, 2, .inl (u_16.2.2.2 0))), ((a0 6), .inl (q 0, 40, .inl (u_16.2.2.2 1))), ((a0 7), .inl (q 2, 400, .inl (u_16.2.2.2 2)))] := hD
        refine lv_iload_n hx hb dX7_when_118 rfl (lv_at hl 3 rfl) ?_
        by_cases k_17 : z1 = 0
        · replace h := h.1 k_17
          refine lv_tableIn (tgt := 152) hx hb dX7_when_119 (by rw [k_17]; decide) (by rw [k_17]; decide) (by rw [k_17]; rfl) (by decide) ?_
          refine lv_iload_n hx hb dX7_when_152 rfl (lv_at hl 4 rfl) ?_
          exact mt_iret u_16 hx hb hr hk h (hP.sub (ws' := md_v a0 q u_16) [0, 1, 2, 3, 4, 5, 6, 7] rfl) (hD.sub (ws' := md_v a0 q u_16) [0, 1, 2, 3, 4, 5, 6, 7] (by decide) rfl) hS dX7_when_153
        replace h := h.2 k_17
        by_cases k_18 : z1 = 1
        · replace h := h.1 k_18
          refine lv_tableIn (tgt := 154) hx hb dX7_when_119 (by rw [k_18]; decide) (by rw [k_18]; decide) (by rw [k_18]; rfl) (by decide) ?_
          refine lv_iload hx hb dX7_when_154 (lv_at hl 2 rfl) ?_
          exact mt_iret u_16 hx hb hr hk h (hP.sub (ws' := md_v a0 q u_16) [0, 1, 2, 3, 4, 5, 6, 7] rfl) (hD.sub (ws' := md_v a0 q u_16) [0, 1, 2, 3, 4, 5, 6, 7] (by decide) rfl) hS dX7_when_156
        replace h := h.2 k_18
        by_cases k_19 : z1 = 2
        · replace h := h.1 k_19
          refine lv_tableIn (tgt := 157) hx hb dX7_when_119 (by rw [k_19]; decide) (by rw [k_19]; decide) (by rw [k_19]; rfl) (by decide) ?_
          refine lv_iload_n hx hb dX7_when_157 rfl (lv_at hl 5 rfl) ?_
          exact mt_iret u_16 hx hb hr hk h (hP.sub (ws' := md_v a0 q u_16) [0, 1, 2, 3, 4, 5, 6, 7] rfl) (hD.sub (ws' := md_v a0 q u_16) [0, 1, 2, 3, 4, 5, 6, 7] (by decide) rfl) hS dX7_when_158
        replace h := h.2 k_19
        by_cases k_20 : z1 = 3
        · replace h := h.1 k_20
          refine lv_tableIn (tgt := 159) hx hb dX7_when_119 (by rw [k_20]; decide) (by rw [k_20]; decide) (by rw [k_20]; rfl) (by decide) ?_
          refine lv_iload hx hb dX7_when_159 (lv_at hl 6 rfl) ?_
          exact mt_iret u_16 hx hb hr hk h (hP.sub (ws' := md_v a0 q u_16) [0, 1, 2, 3, 4, 5, 6, 7] rfl) (hD.sub (ws' := md_v a0 q u_16) [0, 1, 2, 3, 4, 5, 6, 7] (by decide) rfl) hS dX7_when_161
        replace h := h.2 k_20
        by_cases k_21 : z1 = 4
        · replace h := h.1 k_21
          refine lv_tableIn (tgt := 162) hx hb dX7_when_119 (by rw [k_21]; decide) (by rw [k_21]; decide) (by rw [k_21]; rfl) (by decide) ?_
          refine lv_iload hx hb dX7_when_162 (lv_at hl 0 rfl) ?_
          exact mt_iret u_16 hx hb hr hk h (hP.sub (ws' := md_v a0 q u_16) [0, 1, 2, 3, 4, 5, 6, 7] rfl) (hD.sub (ws' := md_v a0 q u_16) [0, 1, 2, 3, 4, 5, 6, 7] (by decide) rfl) hS dX7_when_164
        replace h := h.2 k_21
        refine lv_tableOut (tgt := 165) hx hb dX7_when_119 (by have g0 := k_17; have g1 := k_18; have g2 := k_19; have g3 := k_20; have g4 := k_21; (try simp only [lg_cmp_ge, lg_cmp_le, lg_cmp_gt, lg_cmp_lt, lg_cmp_eq] at g0 g1 g2 g3 g4); (try simp only [Int32.lt_iff_toInt_lt, Int32.le_iff_toInt_le, ← Int32.toInt_inj, Int32.reduceToInt, Int64.lt_iff_toInt_lt, Int64.le_iff_toInt_le, ← Int64.toInt_inj, Int64.reduceToInt, Int32.toInt_toInt64] at g0 g1 g2 g3 g4); omega) (by decide) ?_
        refine lv_iload hx hb dX7_when_165 (lv_at hl 1 rfl) ?_
        exact mt_iret u_16 hx hb hr hk h (hP.sub (ws' := md_v a0 q u_16) [0, 1, 2, 3, 4, 5, 6, 7] rfl) (hD.sub (ws' := md_v a0 q u_16) [0, 1, 2, 3, 4, 5, 6, 7] (by decide) rfl) hS dX7_when_167
    · replace h := h.2 c_6
      refine lv_iconst (v := (-1)) hx hb dX7_when_19 (by decide) ?_
      exact mt_iret s0 hx hb hr hk h (hP.sub (ws' := md_v a0 q s0) [0, 1, 2, 3, 4, 5, 6, 7] rfl) (hD.sub (ws' := md_v a0 q s0) [0, 1, 2, 3, 4, 5, 6, 7] (by decide) rfl) hS dX7_when_20
