def wp_X7_feed (post : Int32 → Md → Prop) (s0 : Md) (x1 : Int32) (x2 : Int32) (x3 : Int32) (x4 : Int32) (x5 : Int32) : Prop := (((s0.1 5) ≤ 380 → wp_X7_lays (fun u_3 => wp_X7_lays (fun u_5 => wp_X7_lays (fun u_7 => wp_X7_lays (fun u_9 => wp_X7_lays (fun u_11 => post (u_11.1 5) u_11) u_9 x5) u_7 x4) u_5 x3) u_3 x2) s0 x1) ∧ (¬ (s0.1 5) ≤ 380 → post (-1) s0))
set_option maxHeartbeats 4000000 in
set_option maxRecDepth 100000 in
theorem c2_X7_feed {l : Launch} {D : va_G} {q : Nat → ClassId} {sz : Nat} {a0 : Nat → Nat} {s0 : Md} {x1 : Int32} {x2 : Int32} {x3 : Int32} {x4 : Int32} {x5 : Int32} {post : Int32 → Md → Prop} (h : wp_X7_feed post s0 x1 x2 x3 x4 x5) : Met l yX7_feed (Cond.code yX7_feed cX7_feed 6 (some .int) :: w_all) ({ frames := 1, cells := 0, slots := 0, locals := 22 } : Room) (mt_P D q [.ref (a0 0), .int x1, .int x2, .int x3, .int x4, .int x5] (md_v a0 q s0) sz) (va_Qi (fun r (u : Md) => post r u) (mt_B D (md_v a0 q s0) sz (fun u : Md => md_v a0 q u)) (va_A (md_v a0 q s0) sz)) 0 0 (va_A (md_v a0 q s0) sz) := by
  refine mt_start (by decide) (Nat.le_of_ble_eq_true rfl) ?_
  intro p e s m below meth c ls hx hb hr hml hown ht hk hin hP hQ hD hA hS hV hl
  have hK := hQ.1
  have hown : s.vm.findClass RX7 = some m.cls := hown
  have hl : lv_has ls 6 [(0, .ref (a0 0)), (1, .int x1), (2, .int x2), (3, .int x3), (4, .int x4), (5, .int x5)] := hl
  have hP : va_P D vwCl [((a0 0), .inr (6, [.ref (a0 1), .ref (a0 2), .int (s0.1 0), .ref (a0 3), .ref (a0 5), .ref (a0 4), .long s0.2.1, .int (s0.1 1), .int (s0.1 2), .ref (a0 6), .int (s0.1 3), .int (s0.1 4), .ref (a0 7), .int (s0.1 5), .int (s0.1 6), .int (s0.1 7), .int (s0.1 8), .int (s0.1 9), .int (s0.1 10), .int (s0.1 11), .int (s0.1 12), .int (s0.1 13), .int (s0.1 14)])), ((a0 1), .inl (q 1, 6896, .inr (.inl (s0.2.2.1 0)))), ((a0 2), .inl (q 1, 68960, .inr (.inl (s0.2.2.1 1)))), ((a0 3), .inl (q 1, 13792, .inr (.inl (s0.2.2.1 2)))), ((a0 4), .inl (q 1, 6896, .inr (.inl (s0.2.2.1 3)))), ((a0 5), .inl (q 3, 2, .inl (s0.2.2.2 0))), ((a0 6), .inl (q 0, 40, .inl (s0.2.2.2 1))), ((a0 7), .inl (q 2, 400, .inl (s0.2.2.2 2)))] s.heap := hP
  have hD : va_D _ [((a0 0), .inr (6, [.ref (a0 1), .ref (a0 2), .int (s0.1 0), .ref (a0 3), .ref (a0 5), .ref (a0 4), .long s0.2.1, .int (s0.1 1), .int (s0.1 2), .ref (a0 6), .int (s0.1 3), .int (s0.1 4), .ref (a0 7), .int (s0.1 5), .int (s0.1 6), .int (s0.1 7), .int (s0.1 8), .int (s0.1 9), .int (s0.1 10), .int (s0.1 11), .int (s0.1 12), .int (s0.1 13), .int (s0.1 14)])), ((a0 1), .inl (q 1, 6896, .inr (.inl (s0.2.2.1 0)))), ((a0 2), .inl (q 1, 68960, .inr (.inl (s0.2.2.1 1)))), ((a0 3), .inl (q 1, 13792, .inr (.inl (s0.2.2.1 2)))), ((a0 4), .inl (q 1, 6896, .inr (.inl (s0.2.2.1 3)))), ((a0 5), .inl (q 3, 2, .inl (s0.2.2.2 0))), ((a0 6), .inl (q 0, 40, .inl (s0.2.2.2 1))), ((a0 7), .inl (q 2, 400, .inl (s0.2.2.2 2)))] := hD
  unfold wp_X7_feed at h
  refine lv_aload_n hx hb dX7_feed_0 rfl (lv_at hl 0 rfl) ?_
  refine fl_get (C := RX7) (T := TX7) (N := 23) (ci := 6) (v := .int (s0.1 5)) hx hb ht in_X7 hown hK hP 0 rfl rfl 13 (by decide) mw_1143 rfl dX7_feed_1 ?_
  refine lv_sipush (v := 380) hx hb dX7_feed_4 (by decide) ?_
  refine lv_icmp_le (tgt := 12) hx hb dX7_feed_7 (by decide) (fun c_1 => ?_) (fun c_1 => ?_)
  · replace h := h.1 c_1
    refine lv_aload_n hx hb dX7_feed_12 rfl (lv_at hl 0 rfl) ?_
    refine lv_iload_n hx hb dX7_feed_13 rfl (lv_at hl 1 rfl) ?_
    refine mt_gov (mt_wV (wc := md_v a0 q s0) (As := [.int x1]) (rest := []) hx hb hml hown ht (c2_X7_lays h) wd_X7_lays mw_1550 hQ hV hS hA (hP.sub [0, 1, 2, 3, 4, 5, 6, 7] rfl) (hD.sub [0, 1, 2, 3, 4, 5, 6, 7] (by decide) rfl) rfl rfl rfl hl.1 rfl (Nat.le_of_ble_eq_true rfl) dX7_feed_14 ⟨Nat.le_of_ble_eq_true rfl, Nat.le_of_ble_eq_true rfl, rfl, rfl⟩ ⟨Nat.le_of_ble_eq_true rfl, Nat.le_of_ble_eq_true rfl⟩) (wr := []) hP hD hS hA [0, 1, 2, 3, 4, 5, 6, 7] [] rfl rfl (by decide) (by decide) (fun u_3 H locs h hP hD hS => ?_)
    try dsimp only at h
    have hP : va_P D vwCl [((a0 0), .inr (6, [.ref (a0 1), .ref (a0 2), .int (u_3.1 0), .ref (a0 3), .ref (a0 5), .ref (a0 4), .long u_3.2.1, .int (u_3.1 1), .int (u_3.1 2), .ref (a0 6), .int (u_3.1 3), .int (u_3.1 4), .ref (a0 7), .int (u_3.1 5), .int (u_3.1 6), .int (u_3.1 7), .int (u_3.1 8), .int (u_3.1 9), .int (u_3.1 10), .int (u_3.1 11), .int (u_3.1 12), .int (u_3.1 13), .int (u_3.1 14)])), ((a0 1), .inl (q 1, 6896, .inr (.inl (u_3.2.2.1 0)))), ((a0 2), .inl (q 1, 68960, .inr (.inl (u_3.2.2.1 1)))), ((a0 3), .inl (q 1, 13792, .inr (.inl (u_3.2.2.1 2)))), ((a0 4), .inl (q 1, 6896, .inr (.inl (u_3.2.2.1 3)))), ((a0 5), .inl (q 3, 2, .inl (u_3.2.2.2 0))), ((a0 6), .inl (q 0, 40, .inl (u_3.2.2.2 1))), ((a0 7), .inl (q 2, 400, .inl (u_3.2.2.2 2)))] H := hP
    have hD : va_D _ [((a0 0), .inr (6, [.ref (a0 1), .ref (a0 2), .int (u_3.1 0), .ref (a0 3), .ref (a0 5), .ref (a0 4), .long u_3.2.1, .int (u_3.1 1), .int (u_3.1 2), .ref (a0 6), .int (u_3.1 3), .int (u_3.1 4), .ref (a0 7), .int (u_3.1 5), .int (u_3.1 6), .int (u_3.1 7), .int (u_3.1 8), .int (u_3.1 9), .int (u_3.1 10), .int (u_3.1 11), .int (u_3.1 12), .int (u_3.1 13), .int (u_3.1 14)])), ((a0 1), .inl (q 1, 6896, .inr (.inl (u_3.2.2.1 0)))), ((a0 2), .inl (q 1, 68960, .inr (.inl (u_3.2.2.1 1)))), ((a0 3), .inl (q 1, 13792, .inr (.inl (u_3.2.2.1 2)))), ((a0 4), .inl (q 1, 6896, .inr (.inl (u_3.2.2.1 3)))), ((a0 5), .inl (q 3, 2, .inl (u_3.2.2.2 0))), ((a0 6), .inl (q 0, 40, .inl (u_3.2.2.2 1))), ((a0 7), .inl (q 2, 400, .inl (u_3.2.2.2 2)))] := hD
    refine lv_aload_n hx hb dX7_feed_17 rfl (lv_at hl 0 rfl) ?_
    refine lv_iload_n hx hb dX7_feed_18 rfl (lv_at hl 2 rfl) ?_
    refine mt_gov (mt_wV (wc := md_v a0 q u_3) (As := [.int x2]) (rest := []) hx hb hml hown ht (c2_X7_lays h) wd_X7_lays mw_1550 hQ hV hS hA (hP.sub [0, 1, 2, 3, 4, 5, 6, 7] rfl) (hD.sub [0, 1, 2, 3, 4, 5, 6, 7] (by decide) rfl) rfl rfl rfl hl.1 rfl (Nat.le_of_ble_eq_true rfl) dX7_feed_19 ⟨Nat.le_of_ble_eq_true rfl, Nat.le_of_ble_eq_true rfl, rfl, rfl⟩ ⟨Nat.le_of_ble_eq_true rfl, Nat.le_of_ble_eq_true rfl⟩) (wr := []) hP hD hS hA [0, 1, 2, 3, 4, 5, 6, 7] [] rfl rfl (by decide) (by decide) (fun u_5 H locs h hP hD hS => ?_)
    try dsimp only at h
    have hP : va_P D vwCl [((a0 0), .inr (6, [.ref (a0 1), .ref (a0 2), .int (u_5.1 0), .ref (a0 3), .ref (a0 5), .ref (a0 4), .long u_5.2.1, .int (u_5.1 1), .int (u_5.1 2), .ref (a0 6), .int (u_5.1 3), .int (u_5.1 4), .ref (a0 7), .int (u_5.1 5), .int (u_5.1 6), .int (u_5.1 7), .int (u_5.1 8), .int (u_5.1 9), .int (u_5.1 10), .int (u_5.1 11), .int (u_5.1 12), .int (u_5.1 13), .int (u_5.1 14)])), ((a0 1), .inl (q 1, 6896, .inr (.inl (u_5.2.2.1 0)))), ((a0 2), .inl (q 1, 68960, .inr (.inl (u_5.2.2.1 1)))), ((a0 3), .inl (q 1, 13792, .inr (.inl (u_5.2.2.1 2)))), ((a0 4), .inl (q 1, 6896, .inr (.inl (u_5.2.2.1 3)))), ((a0 5), .inl (q 3, 2, .inl (u_5.2.2.2 0))), ((a0 6), .inl (q 0, 40, .inl (u_5.2.2.2 1))), ((a0 7), .inl (q 2, 400, .inl (u_5.2.2.2 2)))] H := hP
    have hD : va_D _ [((a0 0), .inr (6, [.ref (a0 1), .ref (a0 2), .int (u_5.1 0), .ref (a0 3), .ref (a0 5), .ref (a0 4), .long u_5.2.1, .int (u_5.1 1), .int (u_5.1 2), .ref (a0 6), .int (u_5.1 3), .int (u_5.1 4), .ref (a0 7), .int (u_5.1 5), .int (u_5.1 6), .int (u_5.1 7), .int (u_5.1 8), .int (u_5.1 9), .int (u_5.1 10), .int (u_5.1 11), .int (u_5.1 12), .int (u_5.1 13), .int (u_5.1 14)])), ((a0 1), .inl (q 1, 6896, .inr (.inl (u_5.2.2.1 0)))), ((a0 2), .inl (q 1, 68960, .inr (.inl (u_5.2.2.1 1)))), ((a0 3), .inl (q 1, 13792, .inr (.inl (u_5.2.2.1 2)))), ((a0 4), .inl (q 1, 6896, .inr (.inl (u_5.2.2.1 3)))), ((a0 5), .inl (q 3, 2, .inl (u_5.2.2.2 0))), ((a0 6), .inl (q 0, 40, .inl (u_5.2.2.2 1))), ((a0 7), .inl (q 2, 400, .inl (u_5.2.2.2 2)))] := hD
    refine lv_aload_n hx hb dX7_feed_22 rfl (lv_at hl 0 rfl) ?_
    refine lv_iload_n hx hb dX7_feed_23 rfl (lv_at hl 3 rfl) ?_
    refine mt_gov (mt_wV (wc := md_v a0 q u_5) (As := [.int x3]) (rest := []) hx hb hml hown ht (c2_X7_lays h) wd_X7_lays mw_1550 hQ hV hS hA (hP.sub [0, 1, 2, 3, 4, 5, 6, 7] rfl) (hD.sub [0, 1, 2, 3, 4, 5, 6, 7] (by decide) rfl) rfl rfl rfl hl.1 rfl (Nat.le_of_ble_eq_true rfl) dX7_feed_24 ⟨Nat.le_of_ble_eq_true rfl, Nat.le_of_ble_eq_true rfl, rfl, rfl⟩ ⟨Nat.le_of_ble_eq_true rfl, Nat.le_of_ble_eq_true rfl⟩) (wr := []) hP hD hS hA [0, 1, 2, 3, 4, 5, 6, 7] [] rfl rfl (by decide) (by decide) (fun u_7 H locs h hP hD hS => ?_)
    try dsimp only at h
    have hP : va_P D vwCl [((a0 0), .inr (6, [.ref (a0 1), .ref (a0 2), .int (u_7.1 0), .ref (a0 3), .ref (a0 5), .ref (a0 4), .long u_7.2.1, .int (u_7.1 1), .int (u_7.1 2), .ref (a0 6), .int (u_7.1 3), .int (u_7.1 4), .ref (a0 7), .int (u_7.1 5), .int (u_7.1 6), .int (u_7.1 7), .int (u_7.1 8), .int (u_7.1 9), .int (u_7.1 10), .int (u_7.1 11), .int (u_7.1 12), .int (u_7.1 13), .int (u_7.1 14)])), ((a0 1), .inl (q 1, 6896, .inr (.inl (u_7.2.2.1 0)))), ((a0 2), .inl (q 1, 68960, .inr (.inl (u_7.2.2.1 1)))), ((a0 3), .inl (q 1, 13792, .inr (.inl (u_7.2.2.1 2)))), ((a0 4), .inl (q 1, 6896, .inr (.inl (u_7.2.2.1 3)))), ((a0 5), .inl (q 3, 2, .inl (u_7.2.2.2 0))), ((a0 6), .inl (q 0, 40, .inl (u_7.2.2.2 1))), ((a0 7), .inl (q 2, 400, .inl (u_7.2.2.2 2)))] H := hP
    have hD : va_D _ [((a0 0), .inr (6, [.ref (a0 1), .ref (a0 2), .int (u_7.1 0), .ref (a0 3), .ref (a0 5), .ref (a0 4), .long u_7.2.1, .int (u_7.1 1), .int (u_7.1 2), .ref (a0 6), .int (u_7.1 3), .int (u_7.1 4), .ref (a0 7), .int (u_7.1 5), .int (u_7.1 6), .int (u_7.1 7), .int (u_7.1 8), .int (u_7.1 9), .int (u_7.1 10), .int (u_7.1 11), .int (u_7.1 12), .int (u_7.1 13), .int (u_7.1 14)])), ((a0 1), .inl (q 1, 6896, .inr (.inl (u_7.2.2.1 0)))), ((a0 2), .inl (q 1, 68960, .inr (.inl (u_7.2.2.1 1)))), ((a0 3), .inl (q 1, 13792, .inr (.inl (u_7.2.2.1 2)))), ((a0 4), .inl (q 1, 6896, .inr (.inl (u_7.2.2.1 3)))), ((a0 5), .inl (q 3, 2, .inl (u_7.2.2.2 0))), ((a0 6), .inl (q 0, 40, .inl (u_7.2.2.2 1))), ((a0 7), .inl (q 2, 400, .inl (u_7.2.2.2 2)))] := hD
    refine lv_aload_n hx hb dX7_feed_27 rfl (lv_at hl 0 rfl) ?_
    refine lv_iload hx hb dX7_feed_28 (lv_at hl 4 rfl) ?_
    refine mt_gov (mt_wV (wc := md_v a0 q u_7) (As := [.int x4]) (rest := []) hx hb hml hown ht (c2_X7_lays h) wd_X7_lays mw_1550 hQ hV hS hA (hP.sub [0, 1, 2, 3, 4, 5, 6, 7] rfl) (hD.sub [0, 1, 2, 3, 4, 5, 6, 7] (by decide) rfl) rfl rfl rfl hl.1 rfl (Nat.le_of_ble_eq_true rfl) dX7_feed_30 ⟨Nat.le_of_ble_eq_true rfl, Nat.le_of_ble_eq_true rfl, rfl, rfl⟩ ⟨Nat.le_of_ble_eq_true rfl, Nat.le_of_ble_eq_true rfl⟩) (wr := []) hP hD hS hA [0, 1, 2, 3, 4, 5, 6, 7] [] rfl rfl (by decide) (by decide) (fun u_9 H locs h hP hD hS => ?_)
    try dsimp only at h
    have hP : va_P D vwCl [((a0 0), .inr (6, [.ref (a0 1), .ref (a0 2), .int (u_9.1 0), .ref (a0 3), .ref (a0 5), .ref (a0 4), .long u_9.2.1, .int (u_9.1 1), .int (u_9.1 2), .ref (a0 6), .int (u_9.1 3), .int (u_9.1 4), .ref (a0 7), .int (u_9.1 5), .int (u_9.1 6), .int (u_9.1 7), .int (u_9.1 8), .int (u_9.1 9), .int (u_9.1 10), .int (u_9.1 11), .int (u_9.1 12), .int (u_9.1 13), .int (u_9.1 14)])), ((a0 1), .inl (q 1, 6896, .inr (.inl (u_9.2.2.1 0)))), ((a0 2), .inl (q 1, 68960, .inr (.inl (u_9.2.2.1 1)))), ((a0 3), .inl (q 1, 13792, .inr (.inl (u_9.2.2.1 2)))), ((a0 4), .inl (q 1, 6896, .inr (.inl (u_9.2.2.1 3)))), ((a0 5), .inl (q 3, 2, .inl (u_9.2.2.2 0))), ((a0 6), .inl (q 0, 40, .inl (u_9.2.2.2 1))), ((a0 7), .inl (q 2, 400, .inl (u_9.2.2.2 2)))] H := hP
    have hD : va_D _ [((a0 0), .inr (6, [.ref (a0 1), .ref (a0 2), .int (u_9.1 0), .ref (a0 3), .ref (a0 5), .ref (a0 4), .long u_9.2.1, .int (u_9.1 1), .int (u_9.1 2), .ref (a0 6), .int (u_9.1 3), .int (u_9.1 4), .ref (a0 7), .int (u_9.1 5), .int (u_9.1 6), .int (u_9.1 7), .int (u_9.1 8), .int (u_9.1 9), .int (u_9.1 10), .int (u_9.1 11), .int (u_9.1 12), .int (u_9.1 13), .int (u_9.1 14)])), ((a0 1), .inl (q 1, 6896, .inr (.inl (u_9.2.2.1 0)))), ((a0 2), .inl (q 1, 68960, .inr (.inl (u_9.2.2.1 1)))), ((a0 3), .inl (q 1, 13792, .inr (.inl (u_9.2.2.1 2)))), ((a0 4), .inl (q 1, 6896, .inr (.inl (u_9.2.2.1 3)))), ((a0 5), .inl (q 3, 2, .inl (u_9.2.2.2 0))), ((a0 6), .inl (q 0, 40, .inl (u_9.2.2.2 1))), ((a0 7), .inl (q 2, 400, .inl (u_9.2.2.2 2)))] := hD
    refine lv_aload_n hx hb dX7_feed_33 rfl (lv_at hl 0 rfl) ?_
    refine lv_iload hx hb dX7_feed_34 (lv_at hl 5 rfl) ?_
    refine mt_gov (mt_wV (wc := md_v a0 q u_9) (As := [.int x5]) (rest := []) hx hb hml hown ht (c2_X7_lays h) wd_X7_lays mw_1550 hQ hV hS hA (hP.sub [0, 1, 2, 3, 4, 5, 6, 7] rfl) (hD.sub [0, 1, 2, 3, 4, 5, 6, 7] (by decide) rfl) rfl rfl rfl hl.1 rfl (Nat.le_of_ble_eq_true rfl) dX7_feed_36 ⟨Nat.le_of_ble_eq_true rfl, Nat.le_of_ble_eq_true rfl, rfl, rfl⟩ ⟨Nat.le_of_ble_eq_true rfl, Nat.le_of_ble_eq_true rfl⟩) (wr := []) hP hD hS hA [0, 1, 2, 3, 4, 5, 6, 7] [] rfl rfl (by decide) (by decide) (fun u_11 H locs h hP hD hS => ?_)
    try dsimp only at h
    have hP : va_P D vwCl [((a0 0), .inr (6, [.ref (a0 1), .ref (a0 2), .int (u_11.1 0), .ref (a0 3), .ref (a0 5), .ref (a0 4), .long u_11.2.1, .int (u_11.1 1), .int (u_11.1 2), .ref (a0 6), .int (u_11.1 3), .int (u_11.1 4), .ref (a0 7), .int (u_11.1 5), .int (u_11.1 6), .int (u_11.1 7), .int (u_11.1 8), .int (u_11.1 9), .int (u_11.1 10), .int (u_11.1 11), .int (u_11.1 12), .int (u_11.1 13), .int (u_11.1 14)])), ((a0 1), .inl (q 1, 6896, .inr (.inl (u_11.2.2.1 0)))), ((a0 2), .inl (q 1, 68960, .inr (.inl (u_11.2.2.1 1)))), ((a0 3), .inl (q 1, 13792, .inr (.inl (u_11.2.2.1 2)))), ((a0 4), .inl (q 1, 6896, .inr (.inl (u_11.2.2.1 3)))), ((a0 5), .inl (q 3, 2, .inl (u_11.2.2.2 0))), ((a0 6), .inl (q 0, 40, .inl (u_11.2.2.2 1))), ((a0 7), .inl (q 2, 400, .inl (u_11.2.2.2 2)))] H := hP
    have hD : va_D _ [((a0 0), .inr (6, [.ref (a0 1), .ref (a0 2), .int (u_11.1 0), .ref (a0 3), .ref (a0 5), .ref (a0 4), .long u_11.2.1, .int (u_11.1 1), .int (u_11.1 2), .ref (a0 6), .int (u_11.1 3), .int (u_11.1 4), .ref (a0 7), .int (u_11.1 5), .int (u_11.1 6), .int (u_11.1 7), .int (u_11.1 8), .int (u_11.1 9), .int (u_11.1 10), .int (u_11.1 11), .int (u_11.1 12), .int (u_11.1 13), .int (u_11.1 14)])), ((a0 1), .inl (q 1, 6896, .inr (.inl (u_11.2.2.1 0)))), ((a0 2), .inl (q 1, 68960, .inr (.inl (u_11.2.2.1 1)))), ((a0 3), .inl (q 1, 13792, .inr (.inl (u_11.2.2.1 2)))), ((a0 4), .inl (q 1, 6896, .inr (.inl (u_11.2.2.1 3)))), ((a0 5), .inl (q 3, 2, .inl (u_11.2.2.2 0))), ((a0 6), .inl (q 0, 40, .inl (u_11.2.2.2 1))), ((a0 7), .inl (q 2, 400, .inl (u_11.2.2.2 2)))] := hD
    refine lv_aload_n hx hb dX7_feed_39 rfl (lv_at hl 0 rfl) ?_
    refine fl_get (C := RX7) (T := TX7) (N := 23) (ci := 6) (v := .int (u_11.1 5)) hx hb ht in_X7 hown hK hP 0 rfl rfl 13 (by decide) mw_1143 rfl dX7_feed_40 ?_
    exact mt_iret u_11 hx hb hr hk h (hP.sub (ws' := md_v a0 q u_11) [0, 1, 2, 3, 4, 5, 6, 7] rfl) (hD.sub (ws' := md_v a0 q u_11) [0, 1, 2, 3, 4, 5, 6, 7] (by decide) rfl) hS dX7_feed_43
  · replace h := h.2 c_1
    refine lv_iconst (v := (-1)) hx hb dX7_feed_10 (by decide) ?_
    exact mt_iret s0 hx hb hr hk h (hP.sub (ws' := md_v a0 q s0) [0, 1, 2, 3, 4, 5, 6, 7] rfl) (hD.sub (ws' := md_v a0 q s0) [0, 1, 2, 3, 4, 5, 6, 7] (by decide) rfl) hS dX7_feed_11

def wp_X7_end (post : Int32 → Md → Prop) (s0 : Md) (x1 : Int32) : Prop := wp_X7_in (fun r_1 => ((¬ r_1 = 0 → post x1 ((va_up s0.1 5 x1), s0.2.1, s0.2.2.1, s0.2.2.2)) ∧ (r_1 = 0 → post (-1) s0))) (Int32.toInt64 x1) (0 : Int64) (Int32.toInt64 (s0.1 5))
set_option maxHeartbeats 4000000 in
set_option maxRecDepth 100000 in
theorem c2_X7_end {l : Launch} {D : va_G} {q : Nat → ClassId} {sz : Nat} {a0 : Nat → Nat} {s0 : Md} {x1 : Int32} {post : Int32 → Md → Prop} (h : wp_X7_end post s0 x1) : Met l yX7_end (Cond.code yX7_end cX7_end 2 (some .int) :: w_all) ({ frames := 1, cells := 0, slots := 0, locals := 25 } : Room) (mt_P D q [.ref (a0 0), .int x1] (md_v a0 q s0) sz) (va_Qi (fun r (u : Md) => post r u) (mt_B D (md_v a0 q s0) sz (fun u : Md => md_v a0 q u)) (va_A (md_v a0 q s0) sz)) 0 0 (va_A (md_v a0 q s0) sz) := by
  refine mt_start (by decide) (Nat.le_of_ble_eq_true rfl) ?_
  intro p e s m below meth c ls hx hb hr hml hown ht hk hin hP hQ hD hA hS hV hl
  have hK := hQ.1
  have hown : s.vm.findClass RX7 = some m.cls := hown
  have hl : lv_has ls 2 [(0, .ref (a0 0)), (1, .int x1)] := hl
  have hP : va_P D vwCl [((a0 0), .inr (6, [.ref (a0 1), .ref (a0 2), .int (s0.1 0), .ref (a0 3), .ref (a0 5), .ref (a0 4), .long s0.2.1, .int (s0.1 1), .int (s0.1 2), .ref (a0 6), .int (s0.1 3), .int (s0.1 4), .ref (a0 7), .int (s0.1 5), .int (s0.1 6), .int (s0.1 7), .int (s0.1 8), .int (s0.1 9), .int (s0.1 10), .int (s0.1 11), .int (s0.1 12), .int (s0.1 13), .int (s0.1 14)])), ((a0 1), .inl (q 1, 6896, .inr (.inl (s0.2.2.1 0)))), ((a0 2), .inl (q 1, 68960, .inr (.inl (s0.2.2.1 1)))), ((a0 3), .inl (q 1, 13792, .inr (.inl (s0.2.2.1 2)))), ((a0 4), .inl (q 1, 6896, .inr (.inl (s0.2.2.1 3)))), ((a0 5), .inl (q 3, 2, .inl (s0.2.2.2 0))), ((a0 6), .inl (q 0, 40, .inl (s0.2.2.2 1))), ((a0 7), .inl (q 2, 400, .inl (s0.2.2.2 2)))] s.heap := hP
  have hD : va_D _ [((a0 0), .inr (6, [.ref (a0 1), .ref (a0 2), .int (s0.1 0), .ref (a0 3), .ref (a0 5), .ref (a0 4), .long s0.2.1, .int (s0.1 1), .int (s0.1 2), .ref (a0 6), .int (s0.1 3), .int (s0.1 4), .ref (a0 7), .int (s0.1 5), .int (s0.1 6), .int (s0.1 7), .int (s0.1 8), .int (s0.1 9), .int (s0.1 10), .int (s0.1 11), .int (s0.1 12), .int (s0.1 13), .int (s0.1 14)])), ((a0 1), .inl (q 1, 6896, .inr (.inl (s0.2.2.1 0)))), ((a0 2), .inl (q 1, 68960, .inr (.inl (s0.2.2.1 1)))), ((a0 3), .inl (q 1, 13792, .inr (.inl (s0.2.2.1 2)))), ((a0 4), .inl (q 1, 6896, .inr (.inl (s0.2.2.1 3)))), ((a0 5), .inl (q 3, 2, .inl (s0.2.2.2 0))), ((a0 6), .inl (q 0, 40, .inl (s0.2.2.2 1))), ((a0 7), .inl (q 2, 400, .inl (s0.2.2.2 2)))] := hD
  unfold wp_X7_end at h
  refine lv_iload_n hx hb dX7_end_0 rfl (lv_at hl 1 rfl) ?_
  refine lv_i2l (v := (Int32.toInt64 x1)) hx hb dX7_end_1 rfl ?_
  refine lv_lconst (v := 0) hx hb dX7_end_2 (by decide) ?_
  refine lv_aload_n hx hb dX7_end_3 rfl (lv_at hl 0 rfl) ?_
  refine fl_get (C := RX7) (T := TX7) (N := 23) (ci := 6) (v := .int (s0.1 5)) hx hb ht in_X7 hown hK hP 0 rfl rfl 13 (by decide) mw_1143 rfl dX7_end_4 ?_
  refine lv_i2l (v := (Int32.toInt64 (s0.1 5))) hx hb dX7_end_7 rfl ?_
  refine vp_callSi (rd_wS (wc := ([] : va_W)) (As := [.long (Int32.toInt64 x1), .long 0, .long (Int32.toInt64 (s0.1 5))]) (rest := []) hx hb hml hown ht (c2_X7_in h) wd_X7_in mw_1213 hQ hV hS (hP.sub [] rfl) rfl hl.1 rfl (Nat.le_of_ble_eq_true rfl) dX7_end_8 ⟨Nat.le_of_ble_eq_true rfl, Nat.le_of_ble_eq_true rfl, rfl, rfl⟩ ⟨Nat.le_of_ble_eq_true rfl, Nat.le_of_ble_eq_true rfl⟩) (fun r_1 h => ?_)
  try dsimp only at h
  refine lv_if_ne (tgt := 16) hx hb dX7_end_11 (by decide) (fun c_3 => ?_) (fun c_3 => ?_)
  · replace h := h.1 c_3
    refine lv_aload_n hx hb dX7_end_16 rfl (lv_at hl 0 rfl) ?_
    refine lv_iload_n hx hb dX7_end_17 rfl (lv_at hl 1 rfl) ?_
    refine fl_put (C := RX7) (T := TX7) (N := 23) (ci := 6) (v := .int x1) (ws2 := [((a0 0), .inr (6, [.ref (a0 1), .ref (a0 2), .int (s0.1 0), .ref (a0 3), .ref (a0 5), .ref (a0 4), .long s0.2.1, .int (s0.1 1), .int (s0.1 2), .ref (a0 6), .int (s0.1 3), .int (s0.1 4), .ref (a0 7), .int x1, .int (s0.1 6), .int (s0.1 7), .int (s0.1 8), .int (s0.1 9), .int (s0.1 10), .int (s0.1 11), .int (s0.1 12), .int (s0.1 13), .int (s0.1 14)])), ((a0 1), .inl (q 1, 6896, .inr (.inl (s0.2.2.1 0)))), ((a0 2), .inl (q 1, 68960, .inr (.inl (s0.2.2.1 1)))), ((a0 3), .inl (q 1, 13792, .inr (.inl (s0.2.2.1 2)))), ((a0 4), .inl (q 1, 6896, .inr (.inl (s0.2.2.1 3)))), ((a0 5), .inl (q 3, 2, .inl (s0.2.2.2 0))), ((a0 6), .inl (q 0, 40, .inl (s0.2.2.2 1))), ((a0 7), .inl (q 2, 400, .inl (s0.2.2.2 2)))]) hx hb ht in_X7 tyX7_ok nmX7 hown hK hP hD hS 0 rfl rfl 13 (by decide) mw_1143 rfl rfl rfl (Nat.le_of_ble_eq_true rfl) dX7_end_18 rfl (fun H locs hP hD hS => ?_)
    refine lv_iload_n hx hb dX7_end_21 rfl (lv_at hl 1 rfl) ?_
    exact mt_iret ((va_up s0.1 5 x1), s0.2.1, s0.2.2.1, s0.2.2.2) hx hb hr hk h (hP.sub (ws' := md_v a0 q ((va_up s0.1 5 x1), s0.2.1, s0.2.2.1, s0.2.2.2)) [0, 1, 2, 3, 4, 5, 6, 7] rfl) (hD.sub (ws' := md_v a0 q ((va_up s0.1 5 x1), s0.2.1, s0.2.2.1, s0.2.2.2)) [0, 1, 2, 3, 4, 5, 6, 7] (by decide) rfl) hS dX7_end_22
  · replace h := h.2 c_3
    refine lv_iconst (v := (-1)) hx hb dX7_end_14 (by decide) ?_
    exact mt_iret s0 hx hb hr hk h (hP.sub (ws' := md_v a0 q s0) [0, 1, 2, 3, 4, 5, 6, 7] rfl) (hD.sub (ws' := md_v a0 q s0) [0, 1, 2, 3, 4, 5, 6, 7] (by decide) rfl) hS dX7_end_15

def wp_X7_byteAt (post : Int32 → Prop) (s0 : Md) (x1 : Int32) : Prop := (((s0.1 5) ≤ x1 → post (-1)) ∧ (¬ (s0.1 5) ≤ x1 → vp_in x1 400 ∧ post (((s0.2.2.2 2) (Int32.toNatClampNeg x1)) &&& 255)))
set_option maxHeartbeats 4000000 in
set_option maxRecDepth 100000 in
theorem c2_X7_byteAt {l : Launch} {D : va_G} {q : Nat → ClassId} {a0 : Nat → Nat} {s0 : Md} {x1 : Int32} {post : Int32 → Prop} (h : wp_X7_byteAt post s0 x1) : Met l yX7_byteAt (Cond.code yX7_byteAt cX7_byteAt 2 (some .int) :: w_all) ({ frames := 0, cells := 0, slots := 0, locals := 0 } : Room) (rd_P D q [.ref (a0 0), .int x1] (md_v a0 q s0)) (vp_Si post) 0 0 (fun _ => False) := by
  refine rd_start (by decide) (Nat.le_of_ble_eq_true rfl) ?_
  intro p e s m below meth c ls hx hb hr hml hown ht hk hP hQ hV hl
  have hK := hQ.1
  have hown : s.vm.findClass RX7 = some m.cls := hown
  have hl : lv_has ls 2 [(0, .ref (a0 0)), (1, .int x1)] := hl
  have hP : va_P D vwCl [((a0 0), .inr (6, [.ref (a0 1), .ref (a0 2), .int (s0.1 0), .ref (a0 3), .ref (a0 5), .ref (a0 4), .long s0.2.1, .int (s0.1 1), .int (s0.1 2), .ref (a0 6), .int (s0.1 3), .int (s0.1 4), .ref (a0 7), .int (s0.1 5), .int (s0.1 6), .int (s0.1 7), .int (s0.1 8), .int (s0.1 9), .int (s0.1 10), .int (s0.1 11), .int (s0.1 12), .int (s0.1 13), .int (s0.1 14)])), ((a0 1), .inl (q 1, 6896, .inr (.inl (s0.2.2.1 0)))), ((a0 2), .inl (q 1, 68960, .inr (.inl (s0.2.2.1 1)))), ((a0 3), .inl (q 1, 13792, .inr (.inl (s0.2.2.1 2)))), ((a0 4), .inl (q 1, 6896, .inr (.inl (s0.2.2.1 3)))), ((a0 5), .inl (q 3, 2, .inl (s0.2.2.2 0))), ((a0 6), .inl (q 0, 40, .inl (s0.2.2.2 1))), ((a0 7), .inl (q 2, 400, .inl (s0.2.2.2 2)))] s.heap := hP
  unfold wp_X7_byteAt at h
  refine lv_iload_n hx hb dX7_byteAt_0 rfl (lv_at hl 1 rfl) ?_
  refine lv_aload_n hx hb dX7_byteAt_1 rfl (lv_at hl 0 rfl) ?_
  refine fl_get (C := RX7) (T := TX7) (N := 23) (ci := 6) (v := .int (s0.1 5)) hx hb ht in_X7 hown hK hP 0 rfl rfl 13 (by decide) mw_1143 rfl dX7_byteAt_2 ?_
  refine lv_icmp_ge (tgt := 21) hx hb dX7_byteAt_5 (by decide) (fun c_1 => ?_) (fun c_1 => ?_)
  · replace h := h.1 c_1
    refine lv_iconst (v := (-1)) hx hb dX7_byteAt_21 (by decide) ?_
    exact rd_iret hx hb hr hk h dX7_byteAt_22
  · replace h := h.2 c_1
    refine lv_aload_n hx hb dX7_byteAt_8 rfl (lv_at hl 0 rfl) ?_
    refine fl_get (C := RX7) (T := TX7) (N := 23) (ci := 6) (v := .ref (a0 7)) hx hb ht in_X7 hown hK hP 0 rfl rfl 12 (by decide) mw_1142 rfl dX7_byteAt_9 ?_
    refine lv_iload_n hx hb dX7_byteAt_12 rfl (lv_at hl 1 rfl) ?_
    obtain ⟨g_2, h⟩ := h
    refine va_bald hx hb hK hP 7 2 rfl rfl g_2 dX7_byteAt_13 ?_
    refine lv_sipush (v := 255) hx hb dX7_byteAt_14 (by decide) ?_
    refine lv_iand hx hb dX7_byteAt_17 ?_
    refine lv_goto (tgt := 22) hx hb dX7_byteAt_18 (by decide) ?_
    exact rd_iret hx hb hr hk h dX7_byteAt_22

def wp_X7_nextByte_L0 (post : Int32 → Md → Prop) (e26 : Md → Prop) : Nat → Md → Prop
  | 0, _ => False
  | n0 + 1, t0 => wp_X7_byteAt (fun r_1 => ((¬ r_1 = 32 → e26 t0) ∧ (r_1 = 32 → wp_X7_nextByte_L0 post e26 n0 ((va_up t0.1 6 ((t0.1 6) + 1)), t0.2.1, t0.2.2.1, t0.2.2.2)))) t0 (t0.1 6)
def wp_X7_nextByte (post : Int32 → Md → Prop) (s0 : Md) : Prop := (∃ n0, wp_X7_nextByte_L0 post (fun t0 => wp_X7_byteAt (fun r_4 => post r_4 t0) t0 (t0.1 6)) n0 s0)
set_option maxHeartbeats 4000000 in
set_option maxRecDepth 100000 in
theorem c2_X7_nextByte {l : Launch} {D : va_G} {q : Nat → ClassId} {sz : Nat} {a0 : Nat → Nat} {s0 : Md} {post : Int32 → Md → Prop} (h : wp_X7_nextByte post s0) : Met l yX7_nextByte (Cond.code yX7_nextByte cX7_nextByte 1 (some .int) :: w_all) ({ frames := 1, cells := 0, slots := 0, locals := 21 } : Room) (mt_P D q [.ref (a0 0)] (md_v a0 q s0) sz) (va_Qi (fun r (u : Md) => post r u) (mt_B D (md_v a0 q s0) sz (fun u : Md => md_v a0 q u)) (va_A (md_v a0 q s0) sz)) 0 0 (va_A (md_v a0 q s0) sz) := by
  refine mt_start (by decide) (Nat.le_of_ble_eq_true rfl) ?_
  intro p e s m below meth c ls hx hb hr hml hown ht hk hin hP hQ hD hA hS hV hl
  have hK := hQ.1
  have hown : s.vm.findClass RX7 = some m.cls := hown
  have hl : lv_has ls 1 [(0, .ref (a0 0))] := hl
  have hP : va_P D vwCl [((a0 0), .inr (6, [.ref (a0 1), .ref (a0 2), .int (s0.1 0), .ref (a0 3), .ref (a0 5), .ref (a0 4), .long s0.2.1, .int (s0.1 1), .int (s0.1 2), .ref (a0 6), .int (s0.1 3), .int (s0.1 4), .ref (a0 7), .int (s0.1 5), .int (s0.1 6), .int (s0.1 7), .int (s0.1 8), .int (s0.1 9), .int (s0.1 10), .int (s0.1 11), .int (s0.1 12), .int (s0.1 13), .int (s0.1 14)])), ((a0 1), .inl (q 1, 6896, .inr (.inl (s0.2.2.1 0)))), ((a0 2), .inl (q 1, 68960, .inr (.inl (s0.2.2.1 1)))), ((a0 3), .inl (q 1, 13792, .inr (.inl (s0.2.2.1 2)))), ((a0 4), .inl (q 1, 6896, .inr (.inl (s0.2.2.1 3)))), ((a0 5), .inl (q 3, 2, .inl (s0.2.2.2 0))), ((a0 6), .inl (q 0, 40, .inl (s0.2.2.2 1))), ((a0 7), .inl (q 2, 400, .inl (s0.2.2.2 2)))] s.heap := hP
  have hD : va_D _ [((a0 0), .inr (6, [.ref (a0 1), .ref (a0 2), .int (s0.1 0), .ref (a0 3), .ref (a0 5), .ref (a0 4), .long s0.2.1, .int (s0.1 1), .int (s0.1 2), .ref (a0 6), .int (s0.1 3), .int (s0.1 4), .ref (a0 7), .int (s0.1 5), .int (s0.1 6), .int (s0.1 7), .int (s0.1 8), .int (s0.1 9), .int (s0.1 10), .int (s0.1 11), .int (s0.1 12), .int (s0.1 13), .int (s0.1 14)])), ((a0 1), .inl (q 1, 6896, .inr (.inl (s0.2.2.1 0)))), ((a0 2), .inl (q 1, 68960, .inr (.inl (s0.2.2.1 1)))), ((a0 3), .inl (q 1, 13792, .inr (.inl (s0.2.2.1 2)))), ((a0 4), .inl (q 1, 6896, .inr (.inl (s0.2.2.1 3)))), ((a0 5), .inl (q 3, 2, .inl (s0.2.2.2 0))), ((a0 6), .inl (q 0, 40, .inl (s0.2.2.2 1))), ((a0 7), .inl (q 2, 400, .inl (s0.2.2.2 2)))] := hD
  unfold wp_X7_nextByte at h
  have lp0 : ∀ (e26 : Md → Prop) (k26 : ∀ (t0 : Md) (H : Heap) (locs : List Loc) (ls : Array Slot), e26 t0 → va_P D vwCl (md_v a0 q t0) H → va_D (va_A (md_v a0 q s0) sz) (md_v a0 q t0) → va_S (va_A (md_v a0 q s0) sz) s.heap H locs → lv_has ls 1 [(0, .ref (a0 0))] → W p l e ({ frames := 1, cells := 0, slots := 0, locals := 21 } : Room) s m [.ref (a0 0)].toArray below meth c H locs 0 0 (MQ below (va_Qi (fun r (u : Md) => post r u) (mt_B D (md_v a0 q s0) sz (fun u : Md => md_v a0 q u)) (va_A (md_v a0 q s0) sz)) [.ref (a0 0)].toArray s 0 0 (va_A (md_v a0 q s0) sz)) (F0 m 26 ls [])) (n : Nat) (t0 : Md) (H : Heap) (locs : List Loc) (ls : Array Slot), wp_X7_nextByte_L0 post e26 n t0 → va_P D vwCl (md_v a0 q t0) H → va_D (va_A (md_v a0 q s0) sz) (md_v a0 q t0) → va_S (va_A (md_v a0 q s0) sz) s.heap H locs → lv_has ls 1 [(0, .ref (a0 0))] → W p l e ({ frames := 1, cells := 0, slots := 0, locals := 21 } : Room) s m [.ref (a0 0)].toArray below meth c H locs 0 0 (MQ below (va_Qi (fun r (u : Md) => post r u) (mt_B D (md_v a0 q s0) sz (fun u : Md => md_v a0 q u)) (va_A (md_v a0 q s0) sz)) [.ref (a0 0)].toArray s 0 0 (va_A (md_v a0 q s0) sz)) (F0 m 0 ls []) := by
    intro e26 k26 n
    induction n with
    | zero =>
      intro t0 H locs ls h
      exact h.elim
    | succ n ih =>
      intro t0 H locs ls h hP hD hS hl
      have hP : va_P D vwCl [((a0 0), .inr (6, [.ref (a0 1), .ref (a0 2), .int (t0.1 0), .ref (a0 3), .ref (a0 5), .ref (a0 4), .long t0.2.1, .int (t0.1 1), .int (t0.1 2), .ref (a0 6), .int (t0.1 3), .int (t0.1 4), .ref (a0 7), .int (t0.1 5), .int (t0.1 6), .int (t0.1 7), .int (t0.1 8), .int (t0.1 9), .int (t0.1 10), .int (t0.1 11), .int (t0.1 12), .int (t0.1 13), .int (t0.1 14)])), ((a0 1), .inl (q 1, 6896, .inr (.inl (t0.2.2.1 0)))), ((a0 2), .inl (q 1, 68960, .inr (.inl (t0.2.2.1 1)))), ((a0 3), .inl (q 1, 13792, .inr (.inl (t0.2.2.1 2)))), ((a0 4), .inl (q 1, 6896, .inr (.inl (t0.2.2.1 3)))), ((a0 5), .inl (q 3, 2, .inl (t0.2.2.2 0))), ((a0 6), .inl (q 0, 40, .inl (t0.2.2.2 1))), ((a0 7), .inl (q 2, 400, .inl (t0.2.2.2 2)))] H := hP
      have hD : va_D _ [((a0 0), .inr (6, [.ref (a0 1), .ref (a0 2), .int (t0.1 0), .ref (a0 3), .ref (a0 5), .ref (a0 4), .long t0.2.1, .int (t0.1 1), .int (t0.1 2), .ref (a0 6), .int (t0.1 3), .int (t0.1 4), .ref (a0 7), .int (t0.1 5), .int (t0.1 6), .int (t0.1 7), .int (t0.1 8), .int (t0.1 9), .int (t0.1 10), .int (t0.1 11), .int (t0.1 12), .int (t0.1 13), .int (t0.1 14)])), ((a0 1), .inl (q 1, 6896, .inr (.inl (t0.2.2.1 0)))), ((a0 2), .inl (q 1, 68960, .inr (.inl (t0.2.2.1 1)))), ((a0 3), .inl (q 1, 13792, .inr (.inl (t0.2.2.1 2)))), ((a0 4), .inl (q 1, 6896, .inr (.inl (t0.2.2.1 3)))), ((a0 5), .inl (q 3, 2, .inl (t0.2.2.2 0))), ((a0 6), .inl (q 0, 40, .inl (t0.2.2.2 1))), ((a0 7), .inl (q 2, 400, .inl (t0.2.2.2 2)))] := hD
      unfold wp_X7_nextByte_L0 at h
      refine lv_aload_n hx hb dX7_nextByte_0 rfl (lv_at hl 0 rfl) ?_
      refine lv_aload_n hx hb dX7_nextByte_1 rfl (lv_at hl 0 rfl) ?_
      refine fl_get (C := RX7) (T := TX7) (N := 23) (ci := 6) (v := .int (t0.1 6)) hx hb ht in_X7 hown hK hP 0 rfl rfl 14 (by decide) mw_1144 rfl dX7_nextByte_2 ?_
      refine vp_callSi (rd_wV (wc := md_v a0 q t0) (As := [.int (t0.1 6)]) (rest := []) hx hb hml hown ht (c2_X7_byteAt h) wd_X7_byteAt mw_1583 hQ hV hS (hP.sub [0, 1, 2, 3, 4, 5, 6, 7] rfl) rfl rfl rfl hl.1 rfl (Nat.le_of_ble_eq_true rfl) dX7_nextByte_5 ⟨Nat.le_of_ble_eq_true rfl, Nat.le_of_ble_eq_true rfl, rfl, rfl⟩ ⟨Nat.le_of_ble_eq_true rfl, Nat.le_of_ble_eq_true rfl⟩) (fun r_1 h => ?_)
      try dsimp only at h
      refine lv_bipush (v := 32) hx hb dX7_nextByte_8 (by decide) ?_
      refine lv_icmp_ne (tgt := 26) hx hb dX7_nextByte_10 (by decide) (fun c_3 => ?_) (fun c_3 => ?_)
      · replace h := h.1 c_3
        exact k26 _ _ _ ls h (hP.sub (ws' := md_v a0 q t0) [0, 1, 2, 3, 4, 5, 6, 7] rfl) (hD.sub (ws' := md_v a0 q t0) [0, 1, 2, 3, 4, 5, 6, 7] (by decide) rfl) hS (lv_sub hl [0] rfl)
      · replace h := h.2 c_3
        refine lv_aload_n hx hb dX7_nextByte_13 rfl (lv_at hl 0 rfl) ?_
        refine lv_dup hx hb dX7_nextByte_14 rfl ?_
        refine fl_get (C := RX7) (T := TX7) (N := 23) (ci := 6) (v := .int (t0.1 6)) hx hb ht in_X7 hown hK hP 0 rfl rfl 14 (by decide) mw_1144 rfl dX7_nextByte_15 ?_
        refine lv_iconst (v := 1) hx hb dX7_nextByte_18 (by decide) ?_
        refine lv_iadd hx hb dX7_nextByte_19 ?_
        refine fl_put (C := RX7) (T := TX7) (N := 23) (ci := 6) (v := .int ((t0.1 6) + 1)) (ws2 := [((a0 0), .inr (6, [.ref (a0 1), .ref (a0 2), .int (t0.1 0), .ref (a0 3), .ref (a0 5), .ref (a0 4), .long t0.2.1, .int (t0.1 1), .int (t0.1 2), .ref (a0 6), .int (t0.1 3), .int (t0.1 4), .ref (a0 7), .int (t0.1 5), .int ((t0.1 6) + 1), .int (t0.1 7), .int (t0.1 8), .int (t0.1 9), .int (t0.1 10), .int (t0.1 11), .int (t0.1 12), .int (t0.1 13), .int (t0.1 14)])), ((a0 1), .inl (q 1, 6896, .inr (.inl (t0.2.2.1 0)))), ((a0 2), .inl (q 1, 68960, .inr (.inl (t0.2.2.1 1)))), ((a0 3), .inl (q 1, 13792, .inr (.inl (t0.2.2.1 2)))), ((a0 4), .inl (q 1, 6896, .inr (.inl (t0.2.2.1 3)))), ((a0 5), .inl (q 3, 2, .inl (t0.2.2.2 0))), ((a0 6), .inl (q 0, 40, .inl (t0.2.2.2 1))), ((a0 7), .inl (q 2, 400, .inl (t0.2.2.2 2)))]) hx hb ht in_X7 tyX7_ok nmX7 hown hK hP hD hS 0 rfl rfl 14 (by decide) mw_1144 rfl rfl rfl (Nat.le_of_ble_eq_true rfl) dX7_nextByte_20 rfl (fun H locs hP hD hS => ?_)
        refine lv_goto (tgt := 0) hx hb dX7_nextByte_23 (by decide) ?_
        exact ih _ _ _ ls h (hP.sub (ws' := md_v a0 q ((va_up t0.1 6 ((t0.1 6) + 1)), t0.2.1, t0.2.2.1, t0.2.2.2)) [0, 1, 2, 3, 4, 5, 6, 7] rfl) (hD.sub (ws' := md_v a0 q ((va_up t0.1 6 ((t0.1 6) + 1)), t0.2.1, t0.2.2.1, t0.2.2.2)) [0, 1, 2, 3, 4, 5, 6, 7] (by decide) rfl) hS (lv_sub hl [0] rfl)
  obtain ⟨n0, h⟩ := h
  refine lp0 _ ?_ n0 _ _ _ ls h (hP.sub (ws' := md_v a0 q s0) [0, 1, 2, 3, 4, 5, 6, 7] rfl) (hD.sub (ws' := md_v a0 q s0) [0, 1, 2, 3, 4, 5, 6, 7] (by decide) rfl) hS (lv_sub hl [0] rfl)
  · intro t0 H locs ls h hP hD hS hl
    try dsimp only at h
    have hP : va_P D vwCl [((a0 0), .inr (6, [.ref (a0 1), .ref (a0 2), .int (t0.1 0), .ref (a0 3), .ref (a0 5), .ref (a0 4), .long t0.2.1, .int (t0.1 1), .int (t0.1 2), .ref (a0 6), .int (t0.1 3), .int (t0.1 4), .ref (a0 7), .int (t0.1 5), .int (t0.1 6), .int (t0.1 7), .int (t0.1 8), .int (t0.1 9), .int (t0.1 10), .int (t0.1 11), .int (t0.1 12), .int (t0.1 13), .int (t0.1 14)])), ((a0 1), .inl (q 1, 6896, .inr (.inl (t0.2.2.1 0)))), ((a0 2), .inl (q 1, 68960, .inr (.inl (t0.2.2.1 1)))), ((a0 3), .inl (q 1, 13792, .inr (.inl (t0.2.2.1 2)))), ((a0 4), .inl (q 1, 6896, .inr (.inl (t0.2.2.1 3)))), ((a0 5), .inl (q 3, 2, .inl (t0.2.2.2 0))), ((a0 6), .inl (q 0, 40, .inl (t0.2.2.2 1))), ((a0 7), .inl (q 2, 400, .inl (t0.2.2.2 2)))] H := hP
    have hD : va_D _ [((a0 0), .inr (6, [.ref (a0 1), .ref (a0 2), .int (t0.1 0), .ref (a0 3), .ref (a0 5), .ref (a0 4), .long t0.2.1, .int (t0.1 1), .int (t0.1 2), .ref (a0 6), .int (t0.1 3), .int (t0.1 4), .ref (a0 7), .int (t0.1 5), .int (t0.1 6), .int (t0.1 7), .int (t0.1 8), .int (t0.1 9), .int (t0.1 10), .int (t0.1 11), .int (t0.1 12), .int (t0.1 13), .int (t0.1 14)])), ((a0 1), .inl (q 1, 6896, .inr (.inl (t0.2.2.1 0)))), ((a0 2), .inl (q 1, 68960, .inr (.inl (t0.2.2.1 1)))), ((a0 3), .inl (q 1, 13792, .inr (.inl (t0.2.2.1 2)))), ((a0 4), .inl (q 1, 6896, .inr (.inl (t0.2.2.1 3)))), ((a0 5), .inl (q 3, 2, .inl (t0.2.2.2 0))), ((a0 6), .inl (q 0, 40, .inl (t0.2.2.2 1))), ((a0 7), .inl (q 2, 400, .inl (t0.2.2.2 2)))] := hD
    refine lv_aload_n hx hb dX7_nextByte_26 rfl (lv_at hl 0 rfl) ?_
    refine lv_aload_n hx hb dX7_nextByte_27 rfl (lv_at hl 0 rfl) ?_
    refine fl_get (C := RX7) (T := TX7) (N := 23) (ci := 6) (v := .int (t0.1 6)) hx hb ht in_X7 hown hK hP 0 rfl rfl 14 (by decide) mw_1144 rfl dX7_nextByte_28 ?_
    refine vp_callSi (rd_wV (wc := md_v a0 q t0) (As := [.int (t0.1 6)]) (rest := []) hx hb hml hown ht (c2_X7_byteAt h) wd_X7_byteAt mw_1583 hQ hV hS (hP.sub [0, 1, 2, 3, 4, 5, 6, 7] rfl) rfl rfl rfl hl.1 rfl (Nat.le_of_ble_eq_true rfl) dX7_nextByte_31 ⟨Nat.le_of_ble_eq_true rfl, Nat.le_of_ble_eq_true rfl, rfl, rfl⟩ ⟨Nat.le_of_ble_eq_true rfl, Nat.le_of_ble_eq_true rfl⟩) (fun r_4 h => ?_)
    try dsimp only at h
    exact mt_iret t0 hx hb hr hk h (hP.sub (ws' := md_v a0 q t0) [0, 1, 2, 3, 4, 5, 6, 7] rfl) (hD.sub (ws' := md_v a0 q t0) [0, 1, 2, 3, 4, 5, 6, 7] (by decide) rfl) hS dX7_nextByte_34

def wp_X7_fails (post : Int32 → Md → Prop) (s0 : Md) (x1 : Int32) (x2 : Int32) : Prop := post 0 ((va_up s0.1 7 ((8 * x2) + x1)), s0.2.1, s0.2.2.1, s0.2.2.2)
set_option maxHeartbeats 4000000 in
set_option maxRecDepth 100000 in
theorem c2_X7_fails {l : Launch} {D : va_G} {q : Nat → ClassId} {sz : Nat} {a0 : Nat → Nat} {s0 : Md} {x1 : Int32} {x2 : Int32} {post : Int32 → Md → Prop} (h : wp_X7_fails post s0 x1 x2) : Met l yX7_fails (Cond.code yX7_fails cX7_fails 3 (some .boolean) :: w_all) ({ frames := 0, cells := 0, slots := 0, locals := 0 } : Room) (mt_P D q [.ref (a0 0), .int x1, .int x2] (md_v a0 q s0) sz) (va_Qi (fun r (u : Md) => post r u) (mt_B D (md_v a0 q s0) sz (fun u : Md => md_v a0 q u)) (va_A (md_v a0 q s0) sz)) 0 0 (va_A (md_v a0 q s0) sz) := by
  refine mt_start (by decide) (Nat.le_of_ble_eq_true rfl) ?_
  intro p e s m below meth c ls hx hb hr hml hown ht hk hin hP hQ hD hA hS hV hl
  have hK := hQ.1
  have hown : s.vm.findClass RX7 = some m.cls := hown
  have hl : lv_has ls 3 [(0, .ref (a0 0)), (1, .int x1), (2, .int x2)] := hl
  have hP : va_P D vwCl [((a0 0), .inr (6, [.ref (a0 1), .ref (a0 2), .int (s0.1 0), .ref (a0 3), .ref (a0 5), .ref (a0 4), .long s0.2.1, .int (s0.1 1), .int (s0.1 2), .ref (a0 6), .int (s0.1 3), .int (s0.1 4), .ref (a0 7), .int (s0.1 5), .int (s0.1 6), .int (s0.1 7), .int (s0.1 8), .int (s0.1 9), .int (s0.1 10), .int (s0.1 11), .int (s0.1 12), .int (s0.1 13), .int (s0.1 14)])), ((a0 1), .inl (q 1, 6896, .inr (.inl (s0.2.2.1 0)))), ((a0 2), .inl (q 1, 68960, .inr (.inl (s0.2.2.1 1)))), ((a0 3), .inl (q 1, 13792, .inr (.inl (s0.2.2.1 2)))), ((a0 4), .inl (q 1, 6896, .inr (.inl (s0.2.2.1 3)))), ((a0 5), .inl (q 3, 2, .inl (s0.2.2.2 0))), ((a0 6), .inl (q 0, 40, .inl (s0.2.2.2 1))), ((a0 7), .inl (q 2, 400, .inl (s0.2.2.2 2)))] s.heap := hP
  have hD : va_D _ [((a0 0), .inr (6, [.ref (a0 1), .ref (a0 2), .int (s0.1 0), .ref (a0 3), .ref (a0 5), .ref (a0 4), .long s0.2.1, .int (s0.1 1), .int (s0.1 2), .ref (a0 6), .int (s0.1 3), .int (s0.1 4), .ref (a0 7), .int (s0.1 5), .int (s0.1 6), .int (s0.1 7), .int (s0.1 8), .int (s0.1 9), .int (s0.1 10), .int (s0.1 11), .int (s0.1 12), .int (s0.1 13), .int (s0.1 14)])), ((a0 1), .inl (q 1, 6896, .inr (.inl (s0.2.2.1 0)))), ((a0 2), .inl (q 1, 68960, .inr (.inl (s0.2.2.1 1)))), ((a0 3), .inl (q 1, 13792, .inr (.inl (s0.2.2.1 2)))), ((a0 4), .inl (q 1, 6896, .inr (.inl (s0.2.2.1 3)))), ((a0 5), .inl (q 3, 2, .inl (s0.2.2.2 0))), ((a0 6), .inl (q 0, 40, .inl (s0.2.2.2 1))), ((a0 7), .inl (q 2, 400, .inl (s0.2.2.2 2)))] := hD
  unfold wp_X7_fails at h
  refine lv_aload_n hx hb dX7_fails_0 rfl (lv_at hl 0 rfl) ?_
  refine lv_bipush (v := 8) hx hb dX7_fails_1 (by decide) ?_
  refine lv_iload_n hx hb dX7_fails_3 rfl (lv_at hl 2 rfl) ?_
  refine lv_imul hx hb dX7_fails_4 ?_
  refine lv_iload_n hx hb dX7_fails_5 rfl (lv_at hl 1 rfl) ?_
  refine lv_iadd hx hb dX7_fails_6 ?_
  refine fl_put (C := RX7) (T := TX7) (N := 23) (ci := 6) (v := .int ((8 * x2) + x1)) (ws2 := [((a0 0), .inr (6, [.ref (a0 1), .ref (a0 2), .int (s0.1 0), .ref (a0 3), .ref (a0 5), .ref (a0 4), .long s0.2.1, .int (s0.1 1), .int (s0.1 2), .ref (a0 6), .int (s0.1 3), .int (s0.1 4), .ref (a0 7), .int (s0.1 5), .int (s0.1 6), .int ((8 * x2) + x1), .int (s0.1 8), .int (s0.1 9), .int (s0.1 10), .int (s0.1 11), .int (s0.1 12), .int (s0.1 13), .int (s0.1 14)])), ((a0 1), .inl (q 1, 6896, .inr (.inl (s0.2.2.1 0)))), ((a0 2), .inl (q 1, 68960, .inr (.inl (s0.2.2.1 1)))), ((a0 3), .inl (q 1, 13792, .inr (.inl (s0.2.2.1 2)))), ((a0 4), .inl (q 1, 6896, .inr (.inl (s0.2.2.1 3)))), ((a0 5), .inl (q 3, 2, .inl (s0.2.2.2 0))), ((a0 6), .inl (q 0, 40, .inl (s0.2.2.2 1))), ((a0 7), .inl (q 2, 400, .inl (s0.2.2.2 2)))]) hx hb ht in_X7 tyX7_ok nmX7 hown hK hP hD hS 0 rfl rfl 15 (by decide) mw_1145 rfl rfl rfl (Nat.le_of_ble_eq_true rfl) dX7_fails_7 rfl (fun H locs hP hD hS => ?_)
  refine lv_iconst (v := 0) hx hb dX7_fails_10 (by decide) ?_
  exact mt_zret ((va_up s0.1 7 ((8 * x2) + x1)), s0.2.1, s0.2.2.1, s0.2.2.2) hx hb hr hk rfl h (hP.sub (ws' := md_v a0 q ((va_up s0.1 7 ((8 * x2) + x1)), s0.2.1, s0.2.2.1, s0.2.2.2)) [0, 1, 2, 3, 4, 5, 6, 7] rfl) (hD.sub (ws' := md_v a0 q ((va_up s0.1 7 ((8 * x2) + x1)), s0.2.1, s0.2.2.1, s0.2.2.2)) [0, 1, 2, 3, 4, 5, 6, 7] (by decide) rfl) hS dX7_fails_11

def wp_X7_isWord_L22 (i1 : Nat) (post : Int32 → Md → Prop) (e51 : Md → Int32 → Int32 → Prop) : Nat → Md → Int32 → Int32 → Prop
  | 0, _, _, _ => False
  | n22 + 1, t0, z2, z3 => wp_J0_length_8abf5 (fun r_4 => ((r_4 ≤ z3 → e51 t0 z2 z3) ∧ (¬ r_4 ≤ z3 → wp_X7_byteAt (fun r_7 => wp_J0_charAt_5068e (fun r_9 => ((¬ r_7 = r_9 → e51 t0 z2 z3) ∧ (r_7 = r_9 → wp_X7_isWord_L22 i1 post e51 n22 t0 z2 (z3 + 1)))) i1 z3) t0 (z2 + z3)))) i1
def wp_X7_isWord_L22b (i1 : Nat) (post : Int32 → Md → Prop) (e51 : Md → Int32 → Int32 → Prop) : Nat → Md → Int32 → Int32 → Prop
  | 0, _, _, _ => False
  | n22 + 1, t0, z2, z3 => wp_J0_length_8abf5 (fun r_20 => ((r_20 ≤ z3 → e51 t0 z2 z3) ∧ (¬ r_20 ≤ z3 → wp_X7_byteAt (fun r_23 => wp_J0_charAt_5068e (fun r_25 => ((¬ r_23 = r_25 → e51 t0 z2 z3) ∧ (r_23 = r_25 → wp_X7_isWord_L22b i1 post e51 n22 t0 z2 (z3 + 1)))) i1 z3) t0 (z2 + z3)))) i1
def wp_X7_isWord (post : Int32 → Md → Prop) (s0 : Md) (i1 : Nat) : Prop := wp_X7_nextByte (fun r_1 u_2 => ((¬ r_1 = (-1) → (∃ n22, wp_X7_isWord_L22 i1 post (fun t0 z2 z3 => wp_J0_length_8abf5 (fun r_12 => ((¬ z3 = r_12 → post 0 t0) ∧ (z3 = r_12 → wp_X7_byteAt (fun r_15 => wp_X7_in (fun r_17 => ((¬ r_17 = 0 → post 0 t0) ∧ (r_17 = 0 → post 1 t0))) (Int32.toInt64 r_15) (97 : Int64) (122 : Int64)) t0 (z2 + z3)))) i1) n22 u_2 (u_2.1 6) 0)) ∧ (r_1 = (-1) → (∃ n22, wp_X7_isWord_L22b i1 post (fun t0 z2 z3 => wp_J0_length_8abf5 (fun r_28 => ((¬ z3 = r_28 → post 0 t0) ∧ (z3 = r_28 → wp_X7_byteAt (fun r_31 => wp_X7_in (fun r_33 => ((¬ r_33 = 0 → post 0 t0) ∧ (r_33 = 0 → post 1 t0))) (Int32.toInt64 r_31) (97 : Int64) (122 : Int64)) t0 (z2 + z3)))) i1) n22 u_2 (u_2.1 5) 0)))) s0
set_option maxHeartbeats 4000000 in
set_option maxRecDepth 100000 in
theorem c2_X7_isWord {l : Launch} {D : va_G} {q : Nat → ClassId} {sz : Nat} {a0 : Nat → Nat} {s0 : Md} {i1 : Nat} {post : Int32 → Md → Prop} (hs : i1 < 12) (h : wp_X7_isWord post s0 i1) : Met l yX7_isWord (Cond.code yX7_isWord cX7_isWord 4 (some .boolean) :: w_all) ({ frames := 4, cells := 0, slots := 0, locals := 85 } : Room) (mt_P D q [.ref (a0 0), .ref (q (100 + i1))] (md_v a0 q s0) sz) (va_Qi (fun r (u : Md) => post r u) (mt_B D (md_v a0 q s0) sz (fun u : Md => md_v a0 q u)) (va_A (md_v a0 q s0) sz)) 0 0 (va_A (md_v a0 q s0) sz) := by
  refine mt_start (by decide) (Nat.le_of_ble_eq_true rfl) ?_
  intro p e s m below meth c ls hx hb hr hml hown ht hk hin hP hQ hD hA hS hV hl
  have hK := hQ.1
  have hown : s.vm.findClass RX7 = some m.cls := hown
  have hl : lv_has ls 4 [(0, .ref (a0 0)), (1, .ref (q (100 + i1)))] := hl
  have hP : va_P D vwCl [((a0 0), .inr (6, [.ref (a0 1), .ref (a0 2), .int (s0.1 0), .ref (a0 3), .ref (a0 5), .ref (a0 4), .long s0.2.1, .int (s0.1 1), .int (s0.1 2), .ref (a0 6), .int (s0.1 3), .int (s0.1 4), .ref (a0 7), .int (s0.1 5), .int (s0.1 6), .int (s0.1 7), .int (s0.1 8), .int (s0.1 9), .int (s0.1 10), .int (s0.1 11), .int (s0.1 12), .int (s0.1 13), .int (s0.1 14)])), ((a0 1), .inl (q 1, 6896, .inr (.inl (s0.2.2.1 0)))), ((a0 2), .inl (q 1, 68960, .inr (.inl (s0.2.2.1 1)))), ((a0 3), .inl (q 1, 13792, .inr (.inl (s0.2.2.1 2)))), ((a0 4), .inl (q 1, 6896, .inr (.inl (s0.2.2.1 3)))), ((a0 5), .inl (q 3, 2, .inl (s0.2.2.2 0))), ((a0 6), .inl (q 0, 40, .inl (s0.2.2.2 1))), ((a0 7), .inl (q 2, 400, .inl (s0.2.2.2 2)))] s.heap := hP
  have hD : va_D _ [((a0 0), .inr (6, [.ref (a0 1), .ref (a0 2), .int (s0.1 0), .ref (a0 3), .ref (a0 5), .ref (a0 4), .long s0.2.1, .int (s0.1 1), .int (s0.1 2), .ref (a0 6), .int (s0.1 3), .int (s0.1 4), .ref (a0 7), .int (s0.1 5), .int (s0.1 6), .int (s0.1 7), .int (s0.1 8), .int (s0.1 9), .int (s0.1 10), .int (s0.1 11), .int (s0.1 12), .int (s0.1 13), .int (s0.1 14)])), ((a0 1), .inl (q 1, 6896, .inr (.inl (s0.2.2.1 0)))), ((a0 2), .inl (q 1, 68960, .inr (.inl (s0.2.2.1 1)))), ((a0 3), .inl (q 1, 13792, .inr (.inl (s0.2.2.1 2)))), ((a0 4), .inl (q 1, 6896, .inr (.inl (s0.2.2.1 3)))), ((a0 5), .inl (q 3, 2, .inl (s0.2.2.2 0))), ((a0 6), .inl (q 0, 40, .inl (s0.2.2.2 1))), ((a0 7), .inl (q 2, 400, .inl (s0.2.2.2 2)))] := hD
  unfold wp_X7_isWord at h
  refine lv_aload_n hx hb dX7_isWord_0 rfl (lv_at hl 0 rfl) ?_
  refine mt_goi (mt_wV (wc := md_v a0 q s0) (As := []) (rest := []) hx hb hml hown ht (c2_X7_nextByte h) wd_X7_nextByte mw_1579 hQ hV hS hA (hP.sub [0, 1, 2, 3, 4, 5, 6, 7] rfl) (hD.sub [0, 1, 2, 3, 4, 5, 6, 7] (by decide) rfl) rfl rfl rfl hl.1 rfl (Nat.le_of_ble_eq_true rfl) dX7_isWord_1 ⟨Nat.le_of_ble_eq_true rfl, Nat.le_of_ble_eq_true rfl, rfl, rfl⟩ ⟨Nat.le_of_ble_eq_true rfl, Nat.le_of_ble_eq_true rfl⟩) (wr := []) hP hD hS hA [0, 1, 2, 3, 4, 5, 6, 7] [] rfl rfl (by decide) (by decide) (fun r_1 u_2 H locs h hP hD hS => ?_)
  try dsimp only at h
  have hP : va_P D vwCl [((a0 0), .inr (6, [.ref (a0 1), .ref (a0 2), .int (u_2.1 0), .ref (a0 3), .ref (a0 5), .ref (a0 4), .long u_2.2.1, .int (u_2.1 1), .int (u_2.1 2), .ref (a0 6), .int (u_2.1 3), .int (u_2.1 4), .ref (a0 7), .int (u_2.1 5), .int (u_2.1 6), .int (u_2.1 7), .int (u_2.1 8), .int (u_2.1 9), .int (u_2.1 10), .int (u_2.1 11), .int (u_2.1 12), .int (u_2.1 13), .int (u_2.1 14)])), ((a0 1), .inl (q 1, 6896, .inr (.inl (u_2.2.2.1 0)))), ((a0 2), .inl (q 1, 68960, .inr (.inl (u_2.2.2.1 1)))), ((a0 3), .inl (q 1, 13792, .inr (.inl (u_2.2.2.1 2)))), ((a0 4), .inl (q 1, 6896, .inr (.inl (u_2.2.2.1 3)))), ((a0 5), .inl (q 3, 2, .inl (u_2.2.2.2 0))), ((a0 6), .inl (q 0, 40, .inl (u_2.2.2.2 1))), ((a0 7), .inl (q 2, 400, .inl (u_2.2.2.2 2)))] H := hP
  have hD : va_D _ [((a0 0), .inr (6, [.ref (a0 1), .ref (a0 2), .int (u_2.1 0), .ref (a0 3), .ref (a0 5), .ref (a0 4), .long u_2.2.1, .int (u_2.1 1), .int (u_2.1 2), .ref (a0 6), .int (u_2.1 3), .int (u_2.1 4), .ref (a0 7), .int (u_2.1 5), .int (u_2.1 6), .int (u_2.1 7), .int (u_2.1 8), .int (u_2.1 9), .int (u_2.1 10), .int (u_2.1 11), .int (u_2.1 12), .int (u_2.1 13), .int (u_2.1 14)])), ((a0 1), .inl (q 1, 6896, .inr (.inl (u_2.2.2.1 0)))), ((a0 2), .inl (q 1, 68960, .inr (.inl (u_2.2.2.1 1)))), ((a0 3), .inl (q 1, 13792, .inr (.inl (u_2.2.2.1 2)))), ((a0 4), .inl (q 1, 6896, .inr (.inl (u_2.2.2.1 3)))), ((a0 5), .inl (q 3, 2, .inl (u_2.2.2.2 0))), ((a0 6), .inl (q 0, 40, .inl (u_2.2.2.2 1))), ((a0 7), .inl (q 2, 400, .inl (u_2.2.2.2 2)))] := hD
  refine lv_iconst (v := (-1)) hx hb dX7_isWord_4 (by decide) ?_
  refine lv_icmp_ne (tgt := 15) hx hb dX7_isWord_5 (by decide) (fun c_3 => ?_) (fun c_3 => ?_)
  · replace h := h.1 c_3
    refine lv_aload_n hx hb dX7_isWord_15 rfl (lv_at hl 0 rfl) ?_
    refine fl_get (C := RX7) (T := TX7) (N := 23) (ci := 6) (v := .int (u_2.1 6)) hx hb ht in_X7 hown hK hP 0 rfl rfl 14 (by decide) mw_1144 rfl dX7_isWord_16 ?_
    refine lv_istore_n (lv' := [(2, .int (u_2.1 6)), (0, .ref (a0 0)), (1, .ref (q (100 + i1)))]) hx hb dX7_isWord_19 rfl hl (by decide) rfl (fun ls hl => ?_)
    refine lv_iconst (v := 0) hx hb dX7_isWord_20 (by decide) ?_
    refine lv_istore_n (lv' := [(3, .int 0), (2, .int (u_2.1 6)), (0, .ref (a0 0)), (1, .ref (q (100 + i1)))]) hx hb dX7_isWord_21 rfl hl (by decide) rfl (fun ls hl => ?_)
    have lp22 : ∀ (e51 : Md → Int32 → Int32 → Prop) (k51 : ∀ (t0 : Md) (z2 : Int32) (z3 : Int32) (H : Heap) (locs : List Loc) (ls : Array Slot), e51 t0 z2 z3 → va_P D vwCl (md_v a0 q t0) H → va_D (va_A (md_v a0 q s0) sz) (md_v a0 q t0) → va_S (va_A (md_v a0 q s0) sz) s.heap H locs → lv_has ls 4 [(2, .int z2), (3, .int z3), (0, .ref (a0 0)), (1, .ref (q (100 + i1)))] → W p l e ({ frames := 4, cells := 0, slots := 0, locals := 85 } : Room) s m [.ref (a0 0), .ref (q (100 + i1))].toArray below meth c H locs 0 0 (MQ below (va_Qi (fun r (u : Md) => post r u) (mt_B D (md_v a0 q s0) sz (fun u : Md => md_v a0 q u)) (va_A (md_v a0 q s0) sz)) [.ref (a0 0), .ref (q (100 + i1))].toArray s 0 0 (va_A (md_v a0 q s0) sz)) (F0 m 51 ls [])) (n : Nat) (t0 : Md) (z2 : Int32) (z3 : Int32) (H : Heap) (locs : List Loc) (ls : Array Slot), wp_X7_isWord_L22 i1 post e51 n t0 z2 z3 → va_P D vwCl (md_v a0 q t0) H → va_D (va_A (md_v a0 q s0) sz) (md_v a0 q t0) → va_S (va_A (md_v a0 q s0) sz) s.heap H locs → lv_has ls 4 [(2, .int z2), (3, .int z3), (0, .ref (a0 0)), (1, .ref (q (100 + i1)))] → W p l e ({ frames := 4, cells := 0, slots := 0, locals := 85 } : Room) s m [.ref (a0 0), .ref (q (100 + i1))].toArray below meth c H locs 0 0 (MQ below (va_Qi (fun r (u : Md) => post r u) (mt_B D (md_v a0 q s0) sz (fun u : Md => md_v a0 q u)) (va_A (md_v a0 q s0) sz)) [.ref (a0 0), .ref (q (100 + i1))].toArray s 0 0 (va_A (md_v a0 q s0) sz)) (F0 m 22 ls []) := by
      intro e51 k51 n
      induction n with
      | zero =>
        intro t0 z2 z3 H locs ls h
        exact h.elim
      | succ n ih =>
        intro t0 z2 z3 H locs ls h hP hD hS hl
        have hP : va_P D vwCl [((a0 0), .inr (6, [.ref (a0 1), .ref (a0 2), .int (t0.1 0), .ref (a0 3), .ref (a0 5), .ref (a0 4), .long t0.2.1, .int (t0.1 1), .int (t0.1 2), .ref (a0 6), .int (t0.1 3), .int (t0.1 4), .ref (a0 7), .int (t0.1 5), .int (t0.1 6), .int (t0.1 7), .int (t0.1 8), .int (t0.1 9), .int (t0.1 10), .int (t0.1 11), .int (t0.1 12), .int (t0.1 13), .int (t0.1 14)])), ((a0 1), .inl (q 1, 6896, .inr (.inl (t0.2.2.1 0)))), ((a0 2), .inl (q 1, 68960, .inr (.inl (t0.2.2.1 1)))), ((a0 3), .inl (q 1, 13792, .inr (.inl (t0.2.2.1 2)))), ((a0 4), .inl (q 1, 6896, .inr (.inl (t0.2.2.1 3)))), ((a0 5), .inl (q 3, 2, .inl (t0.2.2.2 0))), ((a0 6), .inl (q 0, 40, .inl (t0.2.2.2 1))), ((a0 7), .inl (q 2, 400, .inl (t0.2.2.2 2)))] H := hP
        have hD : va_D _ [((a0 0), .inr (6, [.ref (a0 1), .ref (a0 2), .int (t0.1 0), .ref (a0 3), .ref (a0 5), .ref (a0 4), .long t0.2.1, .int (t0.1 1), .int (t0.1 2), .ref (a0 6), .int (t0.1 3), .int (t0.1 4), .ref (a0 7), .int (t0.1 5), .int (t0.1 6), .int (t0.1 7), .int (t0.1 8), .int (t0.1 9), .int (t0.1 10), .int (t0.1 11), .int (t0.1 12), .int (t0.1 13), .int (t0.1 14)])), ((a0 1), .inl (q 1, 6896, .inr (.inl (t0.2.2.1 0)))), ((a0 2), .inl (q 1, 68960, .inr (.inl (t0.2.2.1 1)))), ((a0 3), .inl (q 1, 13792, .inr (.inl (t0.2.2.1 2)))), ((a0 4), .inl (q 1, 6896, .inr (.inl (t0.2.2.1 3)))), ((a0 5), .inl (q 3, 2, .inl (t0.2.2.2 0))), ((a0 6), .inl (q 0, 40, .inl (t0.2.2.2 1))), ((a0 7), .inl (q 2, 400, .inl (t0.2.2.2 2)))] := hD
        unfold wp_X7_isWord_L22 at h
        refine lv_iload_n hx hb dX7_isWord_22 rfl (lv_at hl 1 rfl) ?_
        refine lv_aload_n hx hb dX7_isWord_23 rfl (lv_at hl 3 rfl) ?_
        refine vp_callSi (rd_wVs (i := i1) (wc := ([] : va_W)) (As := []) (rest := [.int z3]) hx hb hml hown ht (c2_J0_length_8abf5 hs h) wd_J0_length_8abf5 mw_1587 hQ hV hS (hP.sub [] rfl) hs rfl rfl hl.1 rfl (Nat.le_of_ble_eq_true rfl) dX7_isWord_24 ⟨Nat.le_of_ble_eq_true rfl, Nat.le_of_ble_eq_true rfl, rfl, rfl⟩ ⟨Nat.le_of_ble_eq_true rfl, Nat.le_of_ble_eq_true rfl⟩) (fun r_4 h => ?_)
        try dsimp only at h
        refine lv_icmp_ge (tgt := 51) hx hb dX7_isWord_27 (by decide) (fun c_6 => ?_) (fun c_6 => ?_)
        · replace h := h.1 c_6
          exact k51 _ _ _ _ _ ls h (hP.sub (ws' := md_v a0 q t0) [0, 1, 2, 3, 4, 5, 6, 7] rfl) (hD.sub (ws' := md_v a0 q t0) [0, 1, 2, 3, 4, 5, 6, 7] (by decide) rfl) hS (lv_sub hl [0, 1, 2, 3] rfl)
        · replace h := h.2 c_6
          refine lv_aload_n hx hb dX7_isWord_30 rfl (lv_at hl 2 rfl) ?_
          refine lv_iload_n hx hb dX7_isWord_31 rfl (lv_at hl 0 rfl) ?_
          refine lv_iload_n hx hb dX7_isWord_32 rfl (lv_at hl 1 rfl) ?_
          refine lv_iadd hx hb dX7_isWord_33 ?_
          refine vp_callSi (rd_wV (wc := md_v a0 q t0) (As := [.int (z2 + z3)]) (rest := []) hx hb hml hown ht (c2_X7_byteAt h) wd_X7_byteAt mw_1583 hQ hV hS (hP.sub [0, 1, 2, 3, 4, 5, 6, 7] rfl) rfl rfl rfl hl.1 rfl (Nat.le_of_ble_eq_true rfl) dX7_isWord_34 ⟨Nat.le_of_ble_eq_true rfl, Nat.le_of_ble_eq_true rfl, rfl, rfl⟩ ⟨Nat.le_of_ble_eq_true rfl, Nat.le_of_ble_eq_true rfl⟩) (fun r_7 h => ?_)
          try dsimp only at h
          refine lv_aload_n hx hb dX7_isWord_37 rfl (lv_at hl 3 rfl) ?_
          refine lv_iload_n hx hb dX7_isWord_38 rfl (lv_at hl 1 rfl) ?_
          refine vp_callSi (rd_wVs (i := i1) (wc := ([] : va_W)) (As := [.int z3]) (rest := [.int r_7]) hx hb hml hown ht (c2_J0_charAt_5068e hs h) wd_J0_charAt_5068e mw_1588 hQ hV hS (hP.sub [] rfl) hs rfl rfl hl.1 rfl (Nat.le_of_ble_eq_true rfl) dX7_isWord_39 ⟨Nat.le_of_ble_eq_true rfl, Nat.le_of_ble_eq_true rfl, rfl, rfl⟩ ⟨Nat.le_of_ble_eq_true rfl, Nat.le_of_ble_eq_true rfl⟩) (fun r_9 h => ?_)
          try dsimp only at h
          refine lv_icmp_ne (tgt := 51) hx hb dX7_isWord_42 (by decide) (fun c_11 => ?_) (fun c_11 => ?_)
          · replace h := h.1 c_11
            exact k51 _ _ _ _ _ ls h (hP.sub (ws' := md_v a0 q t0) [0, 1, 2, 3, 4, 5, 6, 7] rfl) (hD.sub (ws' := md_v a0 q t0) [0, 1, 2, 3, 4, 5, 6, 7] (by decide) rfl) hS (lv_sub hl [0, 1, 2, 3] rfl)
          · replace h := h.2 c_11
            refine lv_iinc (v := (z3 + 1)) (lv' := [(3, .int (z3 + 1)), (2, .int z2), (0, .ref (a0 0)), (1, .ref (q (100 + i1)))]) hx hb dX7_isWord_45 hl (k := 1) rfl rfl (by decide) rfl (fun ls hl => ?_)
            refine lv_goto (tgt := 22) hx hb dX7_isWord_48 (by decide) ?_
            exact ih _ _ _ _ _ ls h (hP.sub (ws' := md_v a0 q t0) [0, 1, 2, 3, 4, 5, 6, 7] rfl) (hD.sub (ws' := md_v a0 q t0) [0, 1, 2, 3, 4, 5, 6, 7] (by decide) rfl) hS (lv_sub hl [1, 0, 2, 3] rfl)
    obtain ⟨n22, h⟩ := h
    refine lp22 _ ?_ n22 _ _ _ _ _ ls h (hP.sub (ws' := md_v a0 q u_2) [0, 1, 2, 3, 4, 5, 6, 7] rfl) (hD.sub (ws' := md_v a0 q u_2) [0, 1, 2, 3, 4, 5, 6, 7] (by decide) rfl) hS (lv_sub hl [1, 0, 2, 3] rfl)
    · intro t0 z2 z3 H locs ls h hP hD hS hl
      try dsimp only at h
      have hP : va_P D vwCl [((a0 0), .inr (6, [.ref (a0 1), .ref (a0 2), .int (t0.1 0), .ref (a0 3), .ref (a0 5), .ref (a0 4), .long t0.2.1, .int (t0.1 1), .int (t0.1 2), .ref (a0 6), .int (t0.1 3), .int (t0.1 4), .ref (a0 7), .int (t0.1 5), .int (t0.1 6), .int (t0.1 7), .int (t0.1 8), .int (t0.1 9), .int (t0.1 10), .int (t0.1 11), .int (t0.1 12), .int (t0.1 13), .int (t0.1 14)])), ((a0 1), .inl (q 1, 6896, .inr (.inl (t0.2.2.1 0)))), ((a0 2), .inl (q 1, 68960, .inr (.inl (t0.2.2.1 1)))), ((a0 3), .inl (q 1, 13792, .inr (.inl (t0.2.2.1 2)))), ((a0 4), .inl (q 1, 6896, .inr (.inl (t0.2.2.1 3)))), ((a0 5), .inl (q 3, 2, .inl (t0.2.2.2 0))), ((a0 6), .inl (q 0, 40, .inl (t0.2.2.2 1))), ((a0 7), .inl (q 2, 400, .inl (t0.2.2.2 2)))] H := hP
      have hD : va_D _ [((a0 0), .inr (6, [.ref (a0 1), .ref (a0 2), .int (t0.1 0), .ref (a0 3), .ref (a0 5), .ref (a0 4), .long t0.2.1, .int (t0.1 1), .int (t0.1 2), .ref (a0 6), .int (t0.1 3), .int (t0.1 4), .ref (a0 7), .int (t0.1 5), .int (t0.1 6), .int (t0.1 7), .int (t0.1 8), .int (t0.1 9), .int (t0.1 10), .int (t0.1 11), .int (t0.1 12), .int (t0.1 13), .int (t0.1 14)])), ((a0 1), .inl (q 1, 6896, .inr (.inl (t0.2.2.1 0)))), ((a0 2), .inl (q 1, 68960, .inr (.inl (t0.2.2.1 1)))), ((a0 3), .inl (q 1, 13792, .inr (.inl (t0.2.2.1 2)))), ((a0 4), .inl (q 1, 6896, .inr (.inl (t0.2.2.1 3)))), ((a0 5), .inl (q 3, 2, .inl (t0.2.2.2 0))), ((a0 6), .inl (q 0, 40, .inl (t0.2.2.2 1))), ((a0 7), .inl (q 2, 400, .inl (t0.2.2.2 2)))] := hD
      refine lv_iload_n hx hb dX7_isWord_51 rfl (lv_at hl 1 rfl) ?_
      refine lv_aload_n hx hb dX7_isWord_52 rfl (lv_at hl 3 rfl) ?_
      refine vp_callSi (rd_wVs (i := i1) (wc := ([] : va_W)) (As := []) (rest := [.int z3]) hx hb hml hown ht (c2_J0_length_8abf5 hs h) wd_J0_length_8abf5 mw_1587 hQ hV hS (hP.sub [] rfl) hs rfl rfl hl.1 rfl (Nat.le_of_ble_eq_true rfl) dX7_isWord_53 ⟨Nat.le_of_ble_eq_true rfl, Nat.le_of_ble_eq_true rfl, rfl, rfl⟩ ⟨Nat.le_of_ble_eq_true rfl, Nat.le_of_ble_eq_true rfl⟩) (fun r_12 h => ?_)
      try dsimp only at h
      refine lv_icmp_ne (tgt := 83) hx hb dX7_isWord_56 (by decide) (fun c_14 => ?_) (fun c_14 => ?_)
      · replace h := h.1 c_14
        refine lv_iconst (v := 0) hx hb dX7_isWord_83 (by decide) ?_
        exact mt_zret t0 hx hb hr hk rfl h (hP.sub (ws' := md_v a0 q t0) [0, 1, 2, 3, 4, 5, 6, 7] rfl) (hD.sub (ws' := md_v a0 q t0) [0, 1, 2, 3, 4, 5, 6, 7] (by decide) rfl) hS dX7_isWord_84
      · replace h := h.2 c_14
        refine lv_aload_n hx hb dX7_isWord_59 rfl (lv_at hl 2 rfl) ?_
        refine lv_iload_n hx hb dX7_isWord_60 rfl (lv_at hl 0 rfl) ?_
        refine lv_iload_n hx hb dX7_isWord_61 rfl (lv_at hl 1 rfl) ?_
        refine lv_iadd hx hb dX7_isWord_62 ?_
        refine vp_callSi (rd_wV (wc := md_v a0 q t0) (As := [.int (z2 + z3)]) (rest := []) hx hb hml hown ht (c2_X7_byteAt h) wd_X7_byteAt mw_1583 hQ hV hS (hP.sub [0, 1, 2, 3, 4, 5, 6, 7] rfl) rfl rfl rfl hl.1 rfl (Nat.le_of_ble_eq_true rfl) dX7_isWord_63 ⟨Nat.le_of_ble_eq_true rfl, Nat.le_of_ble_eq_true rfl, rfl, rfl⟩ ⟨Nat.le_of_ble_eq_true rfl, Nat.le_of_ble_eq_true rfl⟩) (fun r_15 h => ?_)
        try dsimp only at h
        refine lv_i2l (v := (Int32.toInt64 r_15)) hx hb dX7_isWord_66 rfl ?_
        refine lv_ldc2 (v := 97) hx hb hown (ht _ mw_1589) dX7_isWord_67 ?_
        refine lv_ldc2 (v := 122) hx hb hown (ht _ mw_1590) dX7_isWord_70 ?_
        refine vp_callSi (rd_wS (wc := ([] : va_W)) (As := [.long (Int32.toInt64 r_15), .long 97, .long 122]) (rest := []) hx hb hml hown ht (c2_X7_in h) wd_X7_in mw_1213 hQ hV hS (hP.sub [] rfl) rfl hl.1 rfl (Nat.le_of_ble_eq_true rfl) dX7_isWord_73 ⟨Nat.le_of_ble_eq_true rfl, Nat.le_of_ble_eq_true rfl, rfl, rfl⟩ ⟨Nat.le_of_ble_eq_true rfl, Nat.le_of_ble_eq_true rfl⟩) (fun r_17 h => ?_)
        try dsimp only at h
        refine lv_if_ne (tgt := 83) hx hb dX7_isWord_76 (by decide) (fun c_19 => ?_) (fun c_19 => ?_)
        · replace h := h.1 c_19
          refine lv_iconst (v := 0) hx hb dX7_isWord_83 (by decide) ?_
          exact mt_zret t0 hx hb hr hk rfl h (hP.sub (ws' := md_v a0 q t0) [0, 1, 2, 3, 4, 5, 6, 7] rfl) (hD.sub (ws' := md_v a0 q t0) [0, 1, 2, 3, 4, 5, 6, 7] (by decide) rfl) hS dX7_isWord_84
        · replace h := h.2 c_19
          refine lv_iconst (v := 1) hx hb dX7_isWord_79 (by decide) ?_
          refine lv_goto (tgt := 84) hx hb dX7_isWord_80 (by decide) ?_
          exact mt_zret t0 hx hb hr hk rfl h (hP.sub (ws' := md_v a0 q t0) [0, 1, 2, 3, 4, 5, 6, 7] rfl) (hD.sub (ws' := md_v a0 q t0) [0, 1, 2, 3, 4, 5, 6, 7] (by decide) rfl) hS dX7_isWord_84
  · replace h := h.2 c_3
    refine lv_aload_n hx hb dX7_isWord_8 rfl (lv_at hl 0 rfl) ?_
    refine fl_get (C := RX7) (T := TX7) (N := 23) (ci := 6) (v := .int (u_2.1 5)) hx hb ht in_X7 hown hK hP 0 rfl rfl 13 (by decide) mw_1143 rfl dX7_isWord_9 ?_
    refine lv_goto (tgt := 19) hx hb dX7_isWord_12 (by decide) ?_
    refine lv_istore_n (lv' := [(2, .int (u_2.1 5)), (0, .ref (a0 0)), (1, .ref (q (100 + i1)))]) hx hb dX7_isWord_19 rfl hl (by decide) rfl (fun ls hl => ?_)
    refine lv_iconst (v := 0) hx hb dX7_isWord_20 (by decide) ?_
    refine lv_istore_n (lv' := [(3, .int 0), (2, .int (u_2.1 5)), (0, .ref (a0 0)), (1, .ref (q (100 + i1)))]) hx hb dX7_isWord_21 rfl hl (by decide) rfl (fun ls hl => ?_)
    have lp22 : ∀ (e51 : Md → Int32 → Int32 → Prop) (k51 : ∀ (t0 : Md) (z2 : Int32) (z3 : Int32) (H : Heap) (locs : List Loc) (ls : Array Slot), e51 t0 z2 z3 → va_P D vwCl (md_v a0 q t0) H → va_D (va_A (md_v a0 q s0) sz) (md_v a0 q t0) → va_S (va_A (md_v a0 q s0) sz) s.heap H locs → lv_has ls 4 [(2, .int z2), (3, .int z3), (0, .ref (a0 0)), (1, .ref (q (100 + i1)))] → W p l e ({ frames := 4, cells := 0, slots := 0, locals := 85 } : Room) s m [.ref (a0 0), .ref (q (100 + i1))].toArray below meth c H locs 0 0 (MQ below (va_Qi (fun r (u : Md) => post r u) (mt_B D (md_v a0 q s0) sz (fun u : Md => md_v a0 q u)) (va_A (md_v a0 q s0) sz)) [.ref (a0 0), .ref (q (100 + i1))].toArray s 0 0 (va_A (md_v a0 q s0) sz)) (F0 m 51 ls [])) (n : Nat) (t0 : Md) (z2 : Int32) (z3 : Int32) (H : Heap) (locs : List Loc) (ls : Array Slot), wp_X7_isWord_L22b i1 post e51 n t0 z2 z3 → va_P D vwCl (md_v a0 q t0) H → va_D (va_A (md_v a0 q s0) sz) (md_v a0 q t0) → va_S (va_A (md_v a0 q s0) sz) s.heap H locs → lv_has ls 4 [(2, .int z2), (3, .int z3), (0, .ref (a0 0)), (1, .ref (q (100 + i1)))] → W p l e ({ frames := 4, cells := 0, slots := 0, locals := 85 } : Room) s m [.ref (a0 0), .ref (q (100 + i1))].toArray below meth c H locs 0 0 (MQ below (va_Qi (fun r (u : Md) => post r u) (mt_B D (md_v a0 q s0) sz (fun u : Md => md_v a0 q u)) (va_A (md_v a0 q s0) sz)) [.ref (a0 0), .ref (q (100 + i1))].toArray s 0 0 (va_A (md_v a0 q s0) sz)) (F0 m 22 ls []) := by
      intro e51 k51 n
      induction n with
      | zero =>
        intro t0 z2 z3 H locs ls h
        exact h.elim
      | succ n ih =>
        intro t0 z2 z3 H locs ls h hP hD hS hl
        have hP : va_P D vwCl [((a0 0), .inr (6, [.ref (a0 1), .ref (a0 2), .int (t0.1 0), .ref (a0 3), .ref (a0 5), .ref (a0 4), .long t0.2.1, .int (t0.1 1), .int (t0.1 2), .ref (a0 6), .int (t0.1 3), .int (t0.1 4), .ref (a0 7), .int (t0.1 5), .int (t0.1 6), .int (t0.1 7), .int (t0.1 8), .int (t0.1 9), .int (t0.1 10), .int (t0.1 11), .int (t0.1 12), .int (t0.1 13), .int (t0.1 14)])), ((a0 1), .inl (q 1, 6896, .inr (.inl (t0.2.2.1 0)))), ((a0 2), .inl (q 1, 68960, .inr (.inl (t0.2.2.1 1)))), ((a0 3), .inl (q 1, 13792, .inr (.inl (t0.2.2.1 2)))), ((a0 4), .inl (q 1, 6896, .inr (.inl (t0.2.2.1 3)))), ((a0 5), .inl (q 3, 2, .inl (t0.2.2.2 0))), ((a0 6), .inl (q 0, 40, .inl (t0.2.2.2 1))), ((a0 7), .inl (q 2, 400, .inl (t0.2.2.2 2)))] H := hP
        have hD : va_D _ [((a0 0), .inr (6, [.ref (a0 1), .ref (a0 2), .int (t0.1 0), .ref (a0 3), .ref (a0 5), .ref (a0 4), .long t0.2.1, .int (t0.1 1), .int (t0.1 2), .ref (a0 6), .int (t0.1 3), .int (t0.1 4), .ref (a0 7), .int (t0.1 5), .int (t0.1 6), .int (t0.1 7), .int (t0.1 8), .int (t0.1 9), .int (t0.1 10), .int (t0.1 11), .int (t0.1 12), .int (t0.1 13), .int (t0.1 14)])), ((a0 1), .inl (q 1, 6896, .inr (.inl (t0.2.2.1 0)))), ((a0 2), .inl (q 1, 68960, .inr (.inl (t0.2.2.1 1)))), ((a0 3), .inl (q 1, 13792, .inr (.inl (t0.2.2.1 2)))), ((a0 4), .inl (q 1, 6896, .inr (.inl (t0.2.2.1 3)))), ((a0 5), .inl (q 3, 2, .inl (t0.2.2.2 0))), ((a0 6), .inl (q 0, 40, .inl (t0.2.2.2 1))), ((a0 7), .inl (q 2, 400, .inl (t0.2.2.2 2)))] := hD
        unfold wp_X7_isWord_L22b at h
        refine lv_iload_n hx hb dX7_isWord_22 rfl (lv_at hl 1 rfl) ?_
        refine lv_aload_n hx hb dX7_isWord_23 rfl (lv_at hl 3 rfl) ?_
        refine vp_callSi (rd_wVs (i := i1) (wc := ([] : va_W)) (As := []) (rest := [.int z3]) hx hb hml hown ht (c2_J0_length_8abf5 hs h) wd_J0_length_8abf5 mw_1587 hQ hV hS (hP.sub [] rfl) hs rfl rfl hl.1 rfl (Nat.le_of_ble_eq_true rfl) dX7_isWord_24 ⟨Nat.le_of_ble_eq_true rfl, Nat.le_of_ble_eq_true rfl, rfl, rfl⟩ ⟨Nat.le_of_ble_eq_true rfl, Nat.le_of_ble_eq_true rfl⟩) (fun r_20 h => ?_)
        try dsimp only at h
        refine lv_icmp_ge (tgt := 51) hx hb dX7_isWord_27 (by decide) (fun c_22 => ?_) (fun c_22 => ?_)
        · replace h := h.1 c_22
          exact k51 _ _ _ _ _ ls h (hP.sub (ws' := md_v a0 q t0) [0, 1, 2, 3, 4, 5, 6, 7] rfl) (hD.sub (ws' := md_v a0 q t0) [0, 1, 2, 3, 4, 5, 6, 7] (by decide) rfl) hS (lv_sub hl [0, 1, 2, 3] rfl)
        · replace h := h.2 c_22
          refine lv_aload_n hx hb dX7_isWord_30 rfl (lv_at hl 2 rfl) ?_
          refine lv_iload_n hx hb dX7_isWord_31 rfl (lv_at hl 0 rfl) ?_
          refine lv_iload_n hx hb dX7_isWord_32 rfl (lv_at hl 1 rfl) ?_
          refine lv_iadd hx hb dX7_isWord_33 ?_
          refine vp_callSi (rd_wV (wc := md_v a0 q t0) (As := [.int (z2 + z3)]) (rest := []) hx hb hml hown ht (c2_X7_byteAt h) wd_X7_byteAt mw_1583 hQ hV hS (hP.sub [0, 1, 2, 3, 4, 5, 6, 7] rfl) rfl rfl rfl hl.1 rfl (Nat.le_of_ble_eq_true rfl) dX7_isWord_34 ⟨Nat.le_of_ble_eq_true rfl, Nat.le_of_ble_eq_true rfl, rfl, rfl⟩ ⟨Nat.le_of_ble_eq_true rfl, Nat.le_of_ble_eq_true rfl⟩) (fun r_23 h => ?_)
          try dsimp only at h
          refine lv_aload_n hx hb dX7_isWord_37 rfl (lv_at hl 3 rfl) ?_
          refine lv_iload_n hx hb dX7_isWord_38 rfl (lv_at hl 1 rfl) ?_
          refine vp_callSi (rd_wVs (i := i1) (wc := ([] : va_W)) (As := [.int z3]) (rest := [.int r_23]) hx hb hml hown ht (c2_J0_charAt_5068e hs h) wd_J0_charAt_5068e mw_1588 hQ hV hS (hP.sub [] rfl) hs rfl rfl hl.1 rfl (Nat.le_of_ble_eq_true rfl) dX7_isWord_39 ⟨Nat.le_of_ble_eq_true rfl, Nat.le_of_ble_eq_true rfl, rfl, rfl⟩ ⟨Nat.le_of_ble_eq_true rfl, Nat.le_of_ble_eq_true rfl⟩) (fun r_25 h => ?_)
          try dsimp only at h
          refine lv_icmp_ne (tgt := 51) hx hb dX7_isWord_42 (by decide) (fun c_27 => ?_) (fun c_27 => ?_)
          · replace h := h.1 c_27
            exact k51 _ _ _ _ _ ls h (hP.sub (ws' := md_v a0 q t0) [0, 1, 2, 3, 4, 5, 6, 7] rfl) (hD.sub (ws' := md_v a0 q t0) [0, 1, 2, 3, 4, 5, 6, 7] (by decide) rfl) hS (lv_sub hl [0, 1, 2, 3] rfl)
          · replace h := h.2 c_27
            refine lv_iinc (v := (z3 + 1)) (lv' := [(3, .int (z3 + 1)), (2, .int z2), (0, .ref (a0 0)), (1, .ref (q (100 + i1)))]) hx hb dX7_isWord_45 hl (k := 1) rfl rfl (by decide) rfl (fun ls hl => ?_)
            refine lv_goto (tgt := 22) hx hb dX7_isWord_48 (by decide) ?_
            exact ih _ _ _ _ _ ls h (hP.sub (ws' := md_v a0 q t0) [0, 1, 2, 3, 4, 5, 6, 7] rfl) (hD.sub (ws' := md_v a0 q t0) [0, 1, 2, 3, 4, 5, 6, 7] (by decide) rfl) hS (lv_sub hl [1, 0, 2, 3] rfl)
    obtain ⟨n22, h⟩ := h
    refine lp22 _ ?_ n22 _ _ _ _ _ ls h (hP.sub (ws' := md_v a0 q u_2) [0, 1, 2, 3, 4, 5, 6, 7] rfl) (hD.sub (ws' := md_v a0 q u_2) [0, 1, 2, 3, 4, 5, 6, 7] (by decide) rfl) hS (lv_sub hl [1, 0, 2, 3] rfl)
    · intro t0 z2 z3 H locs ls h hP hD hS hl
      try dsimp only at h
      have hP : va_P D vwCl [((a0 0), .inr (6, [.ref (a0 1), .ref (a0 2), .int (t0.1 0), .ref (a0 3), .ref (a0 5), .ref (a0 4), .long t0.2.1, .int (t0.1 1), .int (t0.1 2), .ref (a0 6), .int (t0.1 3), .int (t0.1 4), .ref (a0 7), .int (t0.1 5), .int (t0.1 6), .int (t0.1 7), .int (t0.1 8), .int (t0.1 9), .int (t0.1 10), .int (t0.1 11), .int (t0.1 12), .int (t0.1 13), .int (t0.1 14)])), ((a0 1), .inl (q 1, 6896, .inr (.inl (t0.2.2.1 0)))), ((a0 2), .inl (q 1, 68960, .inr (.inl (t0.2.2.1 1)))), ((a0 3), .inl (q 1, 13792, .inr (.inl (t0.2.2.1 2)))), ((a0 4), .inl (q 1, 6896, .inr (.inl (t0.2.2.1 3)))), ((a0 5), .inl (q 3, 2, .inl (t0.2.2.2 0))), ((a0 6), .inl (q 0, 40, .inl (t0.2.2.2 1))), ((a0 7), .inl (q 2, 400, .inl (t0.2.2.2 2)))] H := hP
      have hD : va_D _ [((a0 0), .inr (6, [.ref (a0 1), .ref (a0 2), .int (t0.1 0), .ref (a0 3), .ref (a0 5), .ref (a0 4), .long t0.2.1, .int (t0.1 1), .int (t0.1 2), .ref (a0 6), .int (t0.1 3), .int (t0.1 4), .ref (a0 7), .int (t0.1 5), .int (t0.1 6), .int (t0.1 7), .int (t0.1 8), .int (t0.1 9), .int (t0.1 10), .int (t0.1 11), .int (t0.1 12), .int (t0.1 13), .int (t0.1 14)])), ((a0 1), .inl (q 1, 6896, .inr (.inl (t0.2.2.1 0)))), ((a0 2), .inl (q 1, 68960, .inr (.inl (t0.2.2.1 1)))), ((a0 3), .inl (q 1, 13792, .inr (.inl (t0.2.2.1 2)))), ((a0 4), .inl (q 1, 6896, .inr (.inl (t0.2.2.1 3)))), ((a0 5), .inl (q 3, 2, .inl (t0.2.2.2 0))), ((a0 6), .inl (q 0, 40, .inl (t0.2.2.2 1))), ((a0 7), .inl (q 2, 400, .inl (t0.2.2.2 2)))] := hD
      refine lv_iload_n hx hb dX7_isWord_51 rfl (lv_at hl 1 rfl) ?_
      refine lv_aload_n hx hb dX7_isWord_52 rfl (lv_at hl 3 rfl) ?_
      refine vp_callSi (rd_wVs (i := i1) (wc := ([] : va_W)) (As := []) (rest := [.int z3]) hx hb hml hown ht (c2_J0_length_8abf5 hs h) wd_J0_length_8abf5 mw_1587 hQ hV hS (hP.sub [] rfl) hs rfl rfl hl.1 rfl (Nat.le_of_ble_eq_true rfl) dX7_isWord_53 ⟨Nat.le_of_ble_eq_true rfl, Nat.le_of_ble_eq_true rfl, rfl, rfl⟩ ⟨Nat.le_of_ble_eq_true rfl, Nat.le_of_ble_eq_true rfl⟩) (fun r_28 h => ?_)
      try dsimp only at h
      refine lv_icmp_ne (tgt := 83) hx hb dX7_isWord_56 (by decide) (fun c_30 => ?_) (fun c_30 => ?_)
      · replace h := h.1 c_30
        refine lv_iconst (v := 0) hx hb dX7_isWord_83 (by decide) ?_
        exact mt_zret t0 hx hb hr hk rfl h (hP.sub (ws' := md_v a0 q t0) [0, 1, 2, 3, 4, 5, 6, 7] rfl) (hD.sub (ws' := md_v a0 q t0) [0, 1, 2, 3, 4, 5, 6, 7] (by decide) rfl) hS dX7_isWord_84
      · replace h := h.2 c_30
        refine lv_aload_n hx hb dX7_isWord_59 rfl (lv_at hl 2 rfl) ?_
        refine lv_iload_n hx hb dX7_isWord_60 rfl (lv_at hl 0 rfl) ?_
        refine lv_iload_n hx hb dX7_isWord_61 rfl (lv_at hl 1 rfl) ?_
        refine lv_iadd hx hb dX7_isWord_62 ?_
        refine vp_callSi (rd_wV (wc := md_v a0 q t0) (As := [.int (z2 + z3)]) (rest := []) hx hb hml hown ht (c2_X7_byteAt h) wd_X7_byteAt mw_1583 hQ hV hS (hP.sub [0, 1, 2, 3, 4, 5, 6, 7] rfl) rfl rfl rfl hl.1 rfl (Nat.le_of_ble_eq_true rfl) dX7_isWord_63 ⟨Nat.le_of_ble_eq_true rfl, Nat.le_of_ble_eq_true rfl, rfl, rfl⟩ ⟨Nat.le_of_ble_eq_true rfl, Nat.le_of_ble_eq_true rfl⟩) (fun r_31 h => ?_)
        try dsimp only at h
        refine lv_i2l (v := (Int32.toInt64 r_31)) hx hb dX7_isWord_66 rfl ?_
        refine lv_ldc2 (v := 97) hx hb hown (ht _ mw_1589) dX7_isWord_67 ?_
        refine lv_ldc2 (v := 122) hx hb hown (ht _ mw_1590) dX7_isWord_70 ?_
        refine vp_callSi (rd_wS (wc := ([] : va_W)) (As := [.long (Int32.toInt64 r_31), .long 97, .long 122]) (rest := []) hx hb hml hown ht (c2_X7_in h) wd_X7_in mw_1213 hQ hV hS (hP.sub [] rfl) rfl hl.1 rfl (Nat.le_of_ble_eq_true rfl) dX7_isWord_73 ⟨Nat.le_of_ble_eq_true rfl, Nat.le_of_ble_eq_true rfl, rfl, rfl⟩ ⟨Nat.le_of_ble_eq_true rfl, Nat.le_of_ble_eq_true rfl⟩) (fun r_33 h => ?_)
        try dsimp only at h
        refine lv_if_ne (tgt := 83) hx hb dX7_isWord_76 (by decide) (fun c_35 => ?_) (fun c_35 => ?_)
        · replace h := h.1 c_35
          refine lv_iconst (v := 0) hx hb dX7_isWord_83 (by decide) ?_
          exact mt_zret t0 hx hb hr hk rfl h (hP.sub (ws' := md_v a0 q t0) [0, 1, 2, 3, 4, 5, 6, 7] rfl) (hD.sub (ws' := md_v a0 q t0) [0, 1, 2, 3, 4, 5, 6, 7] (by decide) rfl) hS dX7_isWord_84
        · replace h := h.2 c_35
          refine lv_iconst (v := 1) hx hb dX7_isWord_79 (by decide) ?_
          refine lv_goto (tgt := 84) hx hb dX7_isWord_80 (by decide) ?_
          exact mt_zret t0 hx hb hr hk rfl h (hP.sub (ws' := md_v a0 q t0) [0, 1, 2, 3, 4, 5, 6, 7] rfl) (hD.sub (ws' := md_v a0 q t0) [0, 1, 2, 3, 4, 5, 6, 7] (by decide) rfl) hS dX7_isWord_84

def wp_X7_takesWord (post : Int32 → Md → Prop) (s0 : Md) (i1 : Nat) : Prop := wp_X7_isWord (fun r_1 u_2 => ((r_1 = 0 → narrow .boolean (.int r_1) = .int r_1 ∧ post r_1 u_2) ∧ (¬ r_1 = 0 → wp_J0_length_8abf5 (fun r_5 => narrow .boolean (.int r_1) = .int r_1 ∧ post r_1 ((va_up u_2.1 6 ((u_2.1 6) + r_5)), u_2.2.1, u_2.2.2.1, u_2.2.2.2)) i1))) s0 i1
set_option maxHeartbeats 4000000 in
set_option maxRecDepth 100000 in
theorem c2_X7_takesWord {l : Launch} {D : va_G} {q : Nat → ClassId} {sz : Nat} {a0 : Nat → Nat} {s0 : Md} {i1 : Nat} {post : Int32 → Md → Prop} (hs : i1 < 12) (h : wp_X7_takesWord post s0 i1) : Met l yX7_takesWord (Cond.code yX7_takesWord cX7_takesWord 3 (some .boolean) :: w_all) ({ frames := 5, cells := 0, slots := 0, locals := 108 } : Room) (mt_P D q [.ref (a0 0), .ref (q (100 + i1))] (md_v a0 q s0) sz) (va_Qi (fun r (u : Md) => post r u) (mt_B D (md_v a0 q s0) sz (fun u : Md => md_v a0 q u)) (va_A (md_v a0 q s0) sz)) 0 0 (va_A (md_v a0 q s0) sz) := by
  refine mt_start (by decide) (Nat.le_of_ble_eq_true rfl) ?_
  intro p e s m below meth c ls hx hb hr hml hown ht hk hin hP hQ hD hA hS hV hl
  have hK := hQ.1
  have hown : s.vm.findClass RX7 = some m.cls := hown
  have hl : lv_has ls 3 [(0, .ref (a0 0)), (1, .ref (q (100 + i1)))] := hl
  have hP : va_P D vwCl [((a0 0), .inr (6, [.ref (a0 1), .ref (a0 2), .int (s0.1 0), .ref (a0 3), .ref (a0 5), .ref (a0 4), .long s0.2.1, .int (s0.1 1), .int (s0.1 2), .ref (a0 6), .int (s0.1 3), .int (s0.1 4), .ref (a0 7), .int (s0.1 5), .int (s0.1 6), .int (s0.1 7), .int (s0.1 8), .int (s0.1 9), .int (s0.1 10), .int (s0.1 11), .int (s0.1 12), .int (s0.1 13), .int (s0.1 14)])), ((a0 1), .inl (q 1, 6896, .inr (.inl (s0.2.2.1 0)))), ((a0 2), .inl (q 1, 68960, .inr (.inl (s0.2.2.1 1)))), ((a0 3), .inl (q 1, 13792, .inr (.inl (s0.2.2.1 2)))), ((a0 4), .inl (q 1, 6896, .inr (.inl (s0.2.2.1 3)))), ((a0 5), .inl (q 3, 2, .inl (s0.2.2.2 0))), ((a0 6), .inl (q 0, 40, .inl (s0.2.2.2 1))), ((a0 7), .inl (q 2, 400, .inl (s0.2.2.2 2)))] s.heap := hP
  have hD : va_D _ [((a0 0), .inr (6, [.ref (a0 1), .ref (a0 2), .int (s0.1 0), .ref (a0 3), .ref (a0 5), .ref (a0 4), .long s0.2.1, .int (s0.1 1), .int (s0.1 2), .ref (a0 6), .int (s0.1 3), .int (s0.1 4), .ref (a0 7), .int (s0.1 5), .int (s0.1 6), .int (s0.1 7), .int (s0.1 8), .int (s0.1 9), .int (s0.1 10), .int (s0.1 11), .int (s0.1 12), .int (s0.1 13), .int (s0.1 14)])), ((a0 1), .inl (q 1, 6896, .inr (.inl (s0.2.2.1 0)))), ((a0 2), .inl (q 1, 68960, .inr (.inl (s0.2.2.1 1)))), ((a0 3), .inl (q 1, 13792, .inr (.inl (s0.2.2.1 2)))), ((a0 4), .inl (q 1, 6896, .inr (.inl (s0.2.2.1 3)))), ((a0 5), .inl (q 3, 2, .inl (s0.2.2.2 0))), ((a0 6), .inl (q 0, 40, .inl (s0.2.2.2 1))), ((a0 7), .inl (q 2, 400, .inl (s0.2.2.2 2)))] := hD
  unfold wp_X7_takesWord at h
  refine lv_aload_n hx hb dX7_takesWord_0 rfl (lv_at hl 0 rfl) ?_
  refine lv_aload_n hx hb dX7_takesWord_1 rfl (lv_at hl 1 rfl) ?_
  refine mt_goi (mt_wV (wc := md_v a0 q s0) (As := [.ref (q (100 + i1))]) (rest := []) hx hb hml hown ht (c2_X7_isWord hs h) wd_X7_isWord mw_1575 hQ hV hS hA (hP.sub [0, 1, 2, 3, 4, 5, 6, 7] rfl) (hD.sub [0, 1, 2, 3, 4, 5, 6, 7] (by decide) rfl) rfl rfl rfl hl.1 rfl (Nat.le_of_ble_eq_true rfl) dX7_takesWord_2 ⟨Nat.le_of_ble_eq_true rfl, Nat.le_of_ble_eq_true rfl, rfl, rfl⟩ ⟨Nat.le_of_ble_eq_true rfl, Nat.le_of_ble_eq_true rfl⟩) (wr := []) hP hD hS hA [0, 1, 2, 3, 4, 5, 6, 7] [] rfl rfl (by decide) (by decide) (fun r_1 u_2 H locs h hP hD hS => ?_)
  try dsimp only at h
  have hP : va_P D vwCl [((a0 0), .inr (6, [.ref (a0 1), .ref (a0 2), .int (u_2.1 0), .ref (a0 3), .ref (a0 5), .ref (a0 4), .long u_2.2.1, .int (u_2.1 1), .int (u_2.1 2), .ref (a0 6), .int (u_2.1 3), .int (u_2.1 4), .ref (a0 7), .int (u_2.1 5), .int (u_2.1 6), .int (u_2.1 7), .int (u_2.1 8), .int (u_2.1 9), .int (u_2.1 10), .int (u_2.1 11), .int (u_2.1 12), .int (u_2.1 13), .int (u_2.1 14)])), ((a0 1), .inl (q 1, 6896, .inr (.inl (u_2.2.2.1 0)))), ((a0 2), .inl (q 1, 68960, .inr (.inl (u_2.2.2.1 1)))), ((a0 3), .inl (q 1, 13792, .inr (.inl (u_2.2.2.1 2)))), ((a0 4), .inl (q 1, 6896, .inr (.inl (u_2.2.2.1 3)))), ((a0 5), .inl (q 3, 2, .inl (u_2.2.2.2 0))), ((a0 6), .inl (q 0, 40, .inl (u_2.2.2.2 1))), ((a0 7), .inl (q 2, 400, .inl (u_2.2.2.2 2)))] H := hP
  have hD : va_D _ [((a0 0), .inr (6, [.ref (a0 1), .ref (a0 2), .int (u_2.1 0), .ref (a0 3), .ref (a0 5), .ref (a0 4), .long u_2.2.1, .int (u_2.1 1), .int (u_2.1 2), .ref (a0 6), .int (u_2.1 3), .int (u_2.1 4), .ref (a0 7), .int (u_2.1 5), .int (u_2.1 6), .int (u_2.1 7), .int (u_2.1 8), .int (u_2.1 9), .int (u_2.1 10), .int (u_2.1 11), .int (u_2.1 12), .int (u_2.1 13), .int (u_2.1 14)])), ((a0 1), .inl (q 1, 6896, .inr (.inl (u_2.2.2.1 0)))), ((a0 2), .inl (q 1, 68960, .inr (.inl (u_2.2.2.1 1)))), ((a0 3), .inl (q 1, 13792, .inr (.inl (u_2.2.2.1 2)))), ((a0 4), .inl (q 1, 6896, .inr (.inl (u_2.2.2.1 3)))), ((a0 5), .inl (q 3, 2, .inl (u_2.2.2.2 0))), ((a0 6), .inl (q 0, 40, .inl (u_2.2.2.2 1))), ((a0 7), .inl (q 2, 400, .inl (u_2.2.2.2 2)))] := hD
  refine lv_istore_n (lv' := [(2, .int r_1), (0, .ref (a0 0)), (1, .ref (q (100 + i1)))]) hx hb dX7_takesWord_5 rfl hl (by decide) rfl (fun ls hl => ?_)
  refine lv_iload_n hx hb dX7_takesWord_6 rfl (lv_at hl 0 rfl) ?_
  refine lv_if_eq (tgt := 23) hx hb dX7_takesWord_7 (by decide) (fun c_3 => ?_) (fun c_3 => ?_)
  · replace h := h.1 c_3
    refine lv_iload_n hx hb dX7_takesWord_23 rfl (lv_at hl 0 rfl) ?_
    obtain ⟨g_4, h⟩ := h
    exact mt_zret u_2 hx hb hr hk g_4 h (hP.sub (ws' := md_v a0 q u_2) [0, 1, 2, 3, 4, 5, 6, 7] rfl) (hD.sub (ws' := md_v a0 q u_2) [0, 1, 2, 3, 4, 5, 6, 7] (by decide) rfl) hS dX7_takesWord_24
  · replace h := h.2 c_3
    refine lv_aload_n hx hb dX7_takesWord_10 rfl (lv_at hl 1 rfl) ?_
    refine lv_dup hx hb dX7_takesWord_11 rfl ?_
    refine fl_get (C := RX7) (T := TX7) (N := 23) (ci := 6) (v := .int (u_2.1 6)) hx hb ht in_X7 hown hK hP 0 rfl rfl 14 (by decide) mw_1144 rfl dX7_takesWord_12 ?_
    refine lv_aload_n hx hb dX7_takesWord_15 rfl (lv_at hl 2 rfl) ?_
    refine vp_callSi (rd_wVs (i := i1) (wc := ([] : va_W)) (As := []) (rest := [.int (u_2.1 6), .ref (a0 0)]) hx hb hml hown ht (c2_J0_length_8abf5 hs h) wd_J0_length_8abf5 mw_1587 hQ hV hS (hP.sub [] rfl) hs rfl rfl hl.1 rfl (Nat.le_of_ble_eq_true rfl) dX7_takesWord_16 ⟨Nat.le_of_ble_eq_true rfl, Nat.le_of_ble_eq_true rfl, rfl, rfl⟩ ⟨Nat.le_of_ble_eq_true rfl, Nat.le_of_ble_eq_true rfl⟩) (fun r_5 h => ?_)
    try dsimp only at h
    refine lv_iadd hx hb dX7_takesWord_19 ?_
    refine fl_put (C := RX7) (T := TX7) (N := 23) (ci := 6) (v := .int ((u_2.1 6) + r_5)) (ws2 := [((a0 0), .inr (6, [.ref (a0 1), .ref (a0 2), .int (u_2.1 0), .ref (a0 3), .ref (a0 5), .ref (a0 4), .long u_2.2.1, .int (u_2.1 1), .int (u_2.1 2), .ref (a0 6), .int (u_2.1 3), .int (u_2.1 4), .ref (a0 7), .int (u_2.1 5), .int ((u_2.1 6) + r_5), .int (u_2.1 7), .int (u_2.1 8), .int (u_2.1 9), .int (u_2.1 10), .int (u_2.1 11), .int (u_2.1 12), .int (u_2.1 13), .int (u_2.1 14)])), ((a0 1), .inl (q 1, 6896, .inr (.inl (u_2.2.2.1 0)))), ((a0 2), .inl (q 1, 68960, .inr (.inl (u_2.2.2.1 1)))), ((a0 3), .inl (q 1, 13792, .inr (.inl (u_2.2.2.1 2)))), ((a0 4), .inl (q 1, 6896, .inr (.inl (u_2.2.2.1 3)))), ((a0 5), .inl (q 3, 2, .inl (u_2.2.2.2 0))), ((a0 6), .inl (q 0, 40, .inl (u_2.2.2.2 1))), ((a0 7), .inl (q 2, 400, .inl (u_2.2.2.2 2)))]) hx hb ht in_X7 tyX7_ok nmX7 hown hK hP hD hS 0 rfl rfl 14 (by decide) mw_1144 rfl rfl rfl (Nat.le_of_ble_eq_true rfl) dX7_takesWord_20 rfl (fun H locs hP hD hS => ?_)
    refine lv_iload_n hx hb dX7_takesWord_23 rfl (lv_at hl 0 rfl) ?_
    obtain ⟨g_7, h⟩ := h
    exact mt_zret ((va_up u_2.1 6 ((u_2.1 6) + r_5)), u_2.2.1, u_2.2.2.1, u_2.2.2.2) hx hb hr hk g_7 h (hP.sub (ws' := md_v a0 q ((va_up u_2.1 6 ((u_2.1 6) + r_5)), u_2.2.1, u_2.2.2.1, u_2.2.2.2)) [0, 1, 2, 3, 4, 5, 6, 7] rfl) (hD.sub (ws' := md_v a0 q ((va_up u_2.1 6 ((u_2.1 6) + r_5)), u_2.2.1, u_2.2.2.1, u_2.2.2.2)) [0, 1, 2, 3, 4, 5, 6, 7] (by decide) rfl) hS dX7_takesWord_24

def wp_X7_mustWord (post : Int32 → Md → Prop) (s0 : Md) (i1 : Nat) : Prop := wp_X7_takesWord (fun r_1 u_2 => ((¬ r_1 = 0 → post 1 u_2) ∧ (r_1 = 0 → wp_X7_fails (fun r_4 u_5 => ((r_4 = 0 → post 0 u_5) ∧ (¬ r_4 = 0 → post 1 u_5))) u_2 (1 : Int32) (u_2.1 6)))) s0 i1
set_option maxHeartbeats 4000000 in
set_option maxRecDepth 100000 in
theorem c2_X7_mustWord {l : Launch} {D : va_G} {q : Nat → ClassId} {sz : Nat} {a0 : Nat → Nat} {s0 : Md} {i1 : Nat} {post : Int32 → Md → Prop} (hs : i1 < 12) (h : wp_X7_mustWord post s0 i1) : Met l yX7_mustWord (Cond.code yX7_mustWord cX7_mustWord 2 (some .boolean) :: w_all) ({ frames := 6, cells := 0, slots := 0, locals := 130 } : Room) (mt_P D q [.ref (a0 0), .ref (q (100 + i1))] (md_v a0 q s0) sz) (va_Qi (fun r (u : Md) => post r u) (mt_B D (md_v a0 q s0) sz (fun u : Md => md_v a0 q u)) (va_A (md_v a0 q s0) sz)) 0 0 (va_A (md_v a0 q s0) sz) := by
  refine mt_start (by decide) (Nat.le_of_ble_eq_true rfl) ?_
  intro p e s m below meth c ls hx hb hr hml hown ht hk hin hP hQ hD hA hS hV hl
  have hK := hQ.1
  have hown : s.vm.findClass RX7 = some m.cls := hown
  have hl : lv_has ls 2 [(0, .ref (a0 0)), (1, .ref (q (100 + i1)))] := hl
  have hP : va_P D vwCl [((a0 0), .inr (6, [.ref (a0 1), .ref (a0 2), .int (s0.1 0), .ref (a0 3), .ref (a0 5), .ref (a0 4), .long s0.2.1, .int (s0.1 1), .int (s0.1 2), .ref (a0 6), .int (s0.1 3), .int (s0.1 4), .ref (a0 7), .int (s0.1 5), .int (s0.1 6), .int (s0.1 7), .int (s0.1 8), .int (s0.1 9), .int (s0.1 10), .int (s0.1 11), .int (s0.1 12), .int (s0.1 13), .int (s0.1 14)])), ((a0 1), .inl (q 1, 6896, .inr (.inl (s0.2.2.1 0)))), ((a0 2), .inl (q 1, 68960, .inr (.inl (s0.2.2.1 1)))), ((a0 3), .inl (q 1, 13792, .inr (.inl (s0.2.2.1 2)))), ((a0 4), .inl (q 1, 6896, .inr (.inl (s0.2.2.1 3)))), ((a0 5), .inl (q 3, 2, .inl (s0.2.2.2 0))), ((a0 6), .inl (q 0, 40, .inl (s0.2.2.2 1))), ((a0 7), .inl (q 2, 400, .inl (s0.2.2.2 2)))] s.heap := hP
  have hD : va_D _ [((a0 0), .inr (6, [.ref (a0 1), .ref (a0 2), .int (s0.1 0), .ref (a0 3), .ref (a0 5), .ref (a0 4), .long s0.2.1, .int (s0.1 1), .int (s0.1 2), .ref (a0 6), .int (s0.1 3), .int (s0.1 4), .ref (a0 7), .int (s0.1 5), .int (s0.1 6), .int (s0.1 7), .int (s0.1 8), .int (s0.1 9), .int (s0.1 10), .int (s0.1 11), .int (s0.1 12), .int (s0.1 13), .int (s0.1 14)])), ((a0 1), .inl (q 1, 6896, .inr (.inl (s0.2.2.1 0)))), ((a0 2), .inl (q 1, 68960, .inr (.inl (s0.2.2.1 1)))), ((a0 3), .inl (q 1, 13792, .inr (.inl (s0.2.2.1 2)))), ((a0 4), .inl (q 1, 6896, .inr (.inl (s0.2.2.1 3)))), ((a0 5), .inl (q 3, 2, .inl (s0.2.2.2 0))), ((a0 6), .inl (q 0, 40, .inl (s0.2.2.2 1))), ((a0 7), .inl (q 2, 400, .inl (s0.2.2.2 2)))] := hD
  unfold wp_X7_mustWord at h
  refine lv_aload_n hx hb dX7_mustWord_0 rfl (lv_at hl 0 rfl) ?_
  refine lv_aload_n hx hb dX7_mustWord_1 rfl (lv_at hl 1 rfl) ?_
  refine mt_goi (mt_wV (wc := md_v a0 q s0) (As := [.ref (q (100 + i1))]) (rest := []) hx hb hml hown ht (c2_X7_takesWord hs h) wd_X7_takesWord mw_1571 hQ hV hS hA (hP.sub [0, 1, 2, 3, 4, 5, 6, 7] rfl) (hD.sub [0, 1, 2, 3, 4, 5, 6, 7] (by decide) rfl) rfl rfl rfl hl.1 rfl (Nat.le_of_ble_eq_true rfl) dX7_mustWord_2 ⟨Nat.le_of_ble_eq_true rfl, Nat.le_of_ble_eq_true rfl, rfl, rfl⟩ ⟨Nat.le_of_ble_eq_true rfl, Nat.le_of_ble_eq_true rfl⟩) (wr := []) hP hD hS hA [0, 1, 2, 3, 4, 5, 6, 7] [] rfl rfl (by decide) (by decide) (fun r_1 u_2 H locs h hP hD hS => ?_)
  try dsimp only at h
  have hP : va_P D vwCl [((a0 0), .inr (6, [.ref (a0 1), .ref (a0 2), .int (u_2.1 0), .ref (a0 3), .ref (a0 5), .ref (a0 4), .long u_2.2.1, .int (u_2.1 1), .int (u_2.1 2), .ref (a0 6), .int (u_2.1 3), .int (u_2.1 4), .ref (a0 7), .int (u_2.1 5), .int (u_2.1 6), .int (u_2.1 7), .int (u_2.1 8), .int (u_2.1 9), .int (u_2.1 10), .int (u_2.1 11), .int (u_2.1 12), .int (u_2.1 13), .int (u_2.1 14)])), ((a0 1), .inl (q 1, 6896, .inr (.inl (u_2.2.2.1 0)))), ((a0 2), .inl (q 1, 68960, .inr (.inl (u_2.2.2.1 1)))), ((a0 3), .inl (q 1, 13792, .inr (.inl (u_2.2.2.1 2)))), ((a0 4), .inl (q 1, 6896, .inr (.inl (u_2.2.2.1 3)))), ((a0 5), .inl (q 3, 2, .inl (u_2.2.2.2 0))), ((a0 6), .inl (q 0, 40, .inl (u_2.2.2.2 1))), ((a0 7), .inl (q 2, 400, .inl (u_2.2.2.2 2)))] H := hP
  have hD : va_D _ [((a0 0), .inr (6, [.ref (a0 1), .ref (a0 2), .int (u_2.1 0), .ref (a0 3), .ref (a0 5), .ref (a0 4), .long u_2.2.1, .int (u_2.1 1), .int (u_2.1 2), .ref (a0 6), .int (u_2.1 3), .int (u_2.1 4), .ref (a0 7), .int (u_2.1 5), .int (u_2.1 6), .int (u_2.1 7), .int (u_2.1 8), .int (u_2.1 9), .int (u_2.1 10), .int (u_2.1 11), .int (u_2.1 12), .int (u_2.1 13), .int (u_2.1 14)])), ((a0 1), .inl (q 1, 6896, .inr (.inl (u_2.2.2.1 0)))), ((a0 2), .inl (q 1, 68960, .inr (.inl (u_2.2.2.1 1)))), ((a0 3), .inl (q 1, 13792, .inr (.inl (u_2.2.2.1 2)))), ((a0 4), .inl (q 1, 6896, .inr (.inl (u_2.2.2.1 3)))), ((a0 5), .inl (q 3, 2, .inl (u_2.2.2.2 0))), ((a0 6), .inl (q 0, 40, .inl (u_2.2.2.2 1))), ((a0 7), .inl (q 2, 400, .inl (u_2.2.2.2 2)))] := hD
  refine lv_if_ne (tgt := 20) hx hb dX7_mustWord_5 (by decide) (fun c_3 => ?_) (fun c_3 => ?_)
  · replace h := h.1 c_3
    refine lv_iconst (v := 1) hx hb dX7_mustWord_20 (by decide) ?_
    refine lv_goto (tgt := 25) hx hb dX7_mustWord_21 (by decide) ?_
    exact mt_zret u_2 hx hb hr hk rfl h (hP.sub (ws' := md_v a0 q u_2) [0, 1, 2, 3, 4, 5, 6, 7] rfl) (hD.sub (ws' := md_v a0 q u_2) [0, 1, 2, 3, 4, 5, 6, 7] (by decide) rfl) hS dX7_mustWord_25
  · replace h := h.2 c_3
    refine lv_aload_n hx hb dX7_mustWord_8 rfl (lv_at hl 0 rfl) ?_
    refine lv_iconst (v := 1) hx hb dX7_mustWord_9 (by decide) ?_
    refine lv_aload_n hx hb dX7_mustWord_10 rfl (lv_at hl 0 rfl) ?_
    refine fl_get (C := RX7) (T := TX7) (N := 23) (ci := 6) (v := .int (u_2.1 6)) hx hb ht in_X7 hown hK hP 0 rfl rfl 14 (by decide) mw_1144 rfl dX7_mustWord_11 ?_
    refine mt_goi (mt_wV (wc := md_v a0 q u_2) (As := [.int 1, .int (u_2.1 6)]) (rest := []) hx hb hml hown ht (c2_X7_fails h) wd_X7_fails mw_1591 hQ hV hS hA (hP.sub [0, 1, 2, 3, 4, 5, 6, 7] rfl) (hD.sub [0, 1, 2, 3, 4, 5, 6, 7] (by decide) rfl) rfl rfl rfl hl.1 rfl (Nat.le_of_ble_eq_true rfl) dX7_mustWord_14 ⟨Nat.le_of_ble_eq_true rfl, Nat.le_of_ble_eq_true rfl, rfl, rfl⟩ ⟨Nat.le_of_ble_eq_true rfl, Nat.le_of_ble_eq_true rfl⟩) (wr := []) hP hD hS hA [0, 1, 2, 3, 4, 5, 6, 7] [] rfl rfl (by decide) (by decide) (fun r_4 u_5 H locs h hP hD hS => ?_)
    try dsimp only at h
    have hP : va_P D vwCl [((a0 0), .inr (6, [.ref (a0 1), .ref (a0 2), .int (u_5.1 0), .ref (a0 3), .ref (a0 5), .ref (a0 4), .long u_5.2.1, .int (u_5.1 1), .int (u_5.1 2), .ref (a0 6), .int (u_5.1 3), .int (u_5.1 4), .ref (a0 7), .int (u_5.1 5), .int (u_5.1 6), .int (u_5.1 7), .int (u_5.1 8), .int (u_5.1 9), .int (u_5.1 10), .int (u_5.1 11), .int (u_5.1 12), .int (u_5.1 13), .int (u_5.1 14)])), ((a0 1), .inl (q 1, 6896, .inr (.inl (u_5.2.2.1 0)))), ((a0 2), .inl (q 1, 68960, .inr (.inl (u_5.2.2.1 1)))), ((a0 3), .inl (q 1, 13792, .inr (.inl (u_5.2.2.1 2)))), ((a0 4), .inl (q 1, 6896, .inr (.inl (u_5.2.2.1 3)))), ((a0 5), .inl (q 3, 2, .inl (u_5.2.2.2 0))), ((a0 6), .inl (q 0, 40, .inl (u_5.2.2.2 1))), ((a0 7), .inl (q 2, 400, .inl (u_5.2.2.2 2)))] H := hP
    have hD : va_D _ [((a0 0), .inr (6, [.ref (a0 1), .ref (a0 2), .int (u_5.1 0), .ref (a0 3), .ref (a0 5), .ref (a0 4), .long u_5.2.1, .int (u_5.1 1), .int (u_5.1 2), .ref (a0 6), .int (u_5.1 3), .int (u_5.1 4), .ref (a0 7), .int (u_5.1 5), .int (u_5.1 6), .int (u_5.1 7), .int (u_5.1 8), .int (u_5.1 9), .int (u_5.1 10), .int (u_5.1 11), .int (u_5.1 12), .int (u_5.1 13), .int (u_5.1 14)])), ((a0 1), .inl (q 1, 6896, .inr (.inl (u_5.2.2.1 0)))), ((a0 2), .inl (q 1, 68960, .inr (.inl (u_5.2.2.1 1)))), ((a0 3), .inl (q 1, 13792, .inr (.inl (u_5.2.2.1 2)))), ((a0 4), .inl (q 1, 6896, .inr (.inl (u_5.2.2.1 3)))), ((a0 5), .inl (q 3, 2, .inl (u_5.2.2.2 0))), ((a0 6), .inl (q 0, 40, .inl (u_5.2.2.2 1))), ((a0 7), .inl (q 2, 400, .inl (u_5.2.2.2 2)))] := hD
    refine lv_if_eq (tgt := 24) hx hb dX7_mustWord_17 (by decide) (fun c_6 => ?_) (fun c_6 => ?_)
    · replace h := h.1 c_6
      refine lv_iconst (v := 0) hx hb dX7_mustWord_24 (by decide) ?_
      exact mt_zret u_5 hx hb hr hk rfl h (hP.sub (ws' := md_v a0 q u_5) [0, 1, 2, 3, 4, 5, 6, 7] rfl) (hD.sub (ws' := md_v a0 q u_5) [0, 1, 2, 3, 4, 5, 6, 7] (by decide) rfl) hS dX7_mustWord_25
    · replace h := h.2 c_6
      refine lv_iconst (v := 1) hx hb dX7_mustWord_20 (by decide) ?_
      refine lv_goto (tgt := 25) hx hb dX7_mustWord_21 (by decide) ?_
      exact mt_zret u_5 hx hb hr hk rfl h (hP.sub (ws' := md_v a0 q u_5) [0, 1, 2, 3, 4, 5, 6, 7] rfl) (hD.sub (ws' := md_v a0 q u_5) [0, 1, 2, 3, 4, 5, 6, 7] (by decide) rfl) hS dX7_mustWord_25

def wp_X7_takesByte (post : Int32 → Md → Prop) (s0 : Md) (x1 : Int32) : Prop := wp_X7_nextByte (fun r_1 u_2 => ((¬ r_1 = x1 → post 0 u_2) ∧ (r_1 = x1 → post 1 ((va_up u_2.1 6 ((u_2.1 6) + 1)), u_2.2.1, u_2.2.2.1, u_2.2.2.2)))) s0
set_option maxHeartbeats 4000000 in
set_option maxRecDepth 100000 in
theorem c2_X7_takesByte {l : Launch} {D : va_G} {q : Nat → ClassId} {sz : Nat} {a0 : Nat → Nat} {s0 : Md} {x1 : Int32} {post : Int32 → Md → Prop} (h : wp_X7_takesByte post s0 x1) : Met l yX7_takesByte (Cond.code yX7_takesByte cX7_takesByte 3 (some .boolean) :: w_all) ({ frames := 2, cells := 0, slots := 0, locals := 41 } : Room) (mt_P D q [.ref (a0 0), .int x1] (md_v a0 q s0) sz) (va_Qi (fun r (u : Md) => post r u) (mt_B D (md_v a0 q s0) sz (fun u : Md => md_v a0 q u)) (va_A (md_v a0 q s0) sz)) 0 0 (va_A (md_v a0 q s0) sz) := by
  refine mt_start (by decide) (Nat.le_of_ble_eq_true rfl) ?_
  intro p e s m below meth c ls hx hb hr hml hown ht hk hin hP hQ hD hA hS hV hl
  have hK := hQ.1
  have hown : s.vm.findClass RX7 = some m.cls := hown
  have hl : lv_has ls 3 [(0, .ref (a0 0)), (1, .int x1)] := hl
  have hP : va_P D vwCl [((a0 0), .inr (6, [.ref (a0 1), .ref (a0 2), .int (s0.1 0), .ref (a0 3), .ref (a0 5), .ref (a0 4), .long s0.2.1, .int (s0.1 1), .int (s0.1 2), .ref (a0 6), .int (s0.1 3), .int (s0.1 4), .ref (a0 7), .int (s0.1 5), .int (s0.1 6), .int (s0.1 7), .int (s0.1 8), .int (s0.1 9), .int (s0.1 10), .int (s0.1 11), .int (s0.1 12), .int (s0.1 13), .int (s0.1 14)])), ((a0 1), .inl (q 1, 6896, .inr (.inl (s0.2.2.1 0)))), ((a0 2), .inl (q 1, 68960, .inr (.inl (s0.2.2.1 1)))), ((a0 3), .inl (q 1, 13792, .inr (.inl (s0.2.2.1 2)))), ((a0 4), .inl (q 1, 6896, .inr (.inl (s0.2.2.1 3)))), ((a0 5), .inl (q 3, 2, .inl (s0.2.2.2 0))), ((a0 6), .inl (q 0, 40, .inl (s0.2.2.2 1))), ((a0 7), .inl (q 2, 400, .inl (s0.2.2.2 2)))] s.heap := hP
  have hD : va_D _ [((a0 0), .inr (6, [.ref (a0 1), .ref (a0 2), .int (s0.1 0), .ref (a0 3), .ref (a0 5), .ref (a0 4), .long s0.2.1, .int (s0.1 1), .int (s0.1 2), .ref (a0 6), .int (s0.1 3), .int (s0.1 4), .ref (a0 7), .int (s0.1 5), .int (s0.1 6), .int (s0.1 7), .int (s0.1 8), .int (s0.1 9), .int (s0.1 10), .int (s0.1 11), .int (s0.1 12), .int (s0.1 13), .int (s0.1 14)])), ((a0 1), .inl (q 1, 6896, .inr (.inl (s0.2.2.1 0)))), ((a0 2), .inl (q 1, 68960, .inr (.inl (s0.2.2.1 1)))), ((a0 3), .inl (q 1, 13792, .inr (.inl (s0.2.2.1 2)))), ((a0 4), .inl (q 1, 6896, .inr (.inl (s0.2.2.1 3)))), ((a0 5), .inl (q 3, 2, .inl (s0.2.2.2 0))), ((a0 6), .inl (q 0, 40, .inl (s0.2.2.2 1))), ((a0 7), .inl (q 2, 400, .inl (s0.2.2.2 2)))] := hD
  unfold wp_X7_takesByte at h
  refine lv_aload_n hx hb dX7_takesByte_0 rfl (lv_at hl 0 rfl) ?_
  refine mt_goi (mt_wV (wc := md_v a0 q s0) (As := []) (rest := []) hx hb hml hown ht (c2_X7_nextByte h) wd_X7_nextByte mw_1579 hQ hV hS hA (hP.sub [0, 1, 2, 3, 4, 5, 6, 7] rfl) (hD.sub [0, 1, 2, 3, 4, 5, 6, 7] (by decide) rfl) rfl rfl rfl hl.1 rfl (Nat.le_of_ble_eq_true rfl) dX7_takesByte_1 ⟨Nat.le_of_ble_eq_true rfl, Nat.le_of_ble_eq_true rfl, rfl, rfl⟩ ⟨Nat.le_of_ble_eq_true rfl, Nat.le_of_ble_eq_true rfl⟩) (wr := []) hP hD hS hA [0, 1, 2, 3, 4, 5, 6, 7] [] rfl rfl (by decide) (by decide) (fun r_1 u_2 H locs h hP hD hS => ?_)
  try dsimp only at h
  have hP : va_P D vwCl [((a0 0), .inr (6, [.ref (a0 1), .ref (a0 2), .int (u_2.1 0), .ref (a0 3), .ref (a0 5), .ref (a0 4), .long u_2.2.1, .int (u_2.1 1), .int (u_2.1 2), .ref (a0 6), .int (u_2.1 3), .int (u_2.1 4), .ref (a0 7), .int (u_2.1 5), .int (u_2.1 6), .int (u_2.1 7), .int (u_2.1 8), .int (u_2.1 9), .int (u_2.1 10), .int (u_2.1 11), .int (u_2.1 12), .int (u_2.1 13), .int (u_2.1 14)])), ((a0 1), .inl (q 1, 6896, .inr (.inl (u_2.2.2.1 0)))), ((a0 2), .inl (q 1, 68960, .inr (.inl (u_2.2.2.1 1)))), ((a0 3), .inl (q 1, 13792, .inr (.inl (u_2.2.2.1 2)))), ((a0 4), .inl (q 1, 6896, .inr (.inl (u_2.2.2.1 3)))), ((a0 5), .inl (q 3, 2, .inl (u_2.2.2.2 0))), ((a0 6), .inl (q 0, 40, .inl (u_2.2.2.2 1))), ((a0 7), .inl (q 2, 400, .inl (u_2.2.2.2 2)))] H := hP
  have hD : va_D _ [((a0 0), .inr (6, [.ref (a0 1), .ref (a0 2), .int (u_2.1 0), .ref (a0 3), .ref (a0 5), .ref (a0 4), .long u_2.2.1, .int (u_2.1 1), .int (u_2.1 2), .ref (a0 6), .int (u_2.1 3), .int (u_2.1 4), .ref (a0 7), .int (u_2.1 5), .int (u_2.1 6), .int (u_2.1 7), .int (u_2.1 8), .int (u_2.1 9), .int (u_2.1 10), .int (u_2.1 11), .int (u_2.1 12), .int (u_2.1 13), .int (u_2.1 14)])), ((a0 1), .inl (q 1, 6896, .inr (.inl (u_2.2.2.1 0)))), ((a0 2), .inl (q 1, 68960, .inr (.inl (u_2.2.2.1 1)))), ((a0 3), .inl (q 1, 13792, .inr (.inl (u_2.2.2.1 2)))), ((a0 4), .inl (q 1, 6896, .inr (.inl (u_2.2.2.1 3)))), ((a0 5), .inl (q 3, 2, .inl (u_2.2.2.2 0))), ((a0 6), .inl (q 0, 40, .inl (u_2.2.2.2 1))), ((a0 7), .inl (q 2, 400, .inl (u_2.2.2.2 2)))] := hD
  refine lv_iload_n hx hb dX7_takesByte_4 rfl (lv_at hl 1 rfl) ?_
  refine lv_icmp_ne (tgt := 12) hx hb dX7_takesByte_5 (by decide) (fun c_3 => ?_) (fun c_3 => ?_)
  · replace h := h.1 c_3
    refine lv_iconst (v := 0) hx hb dX7_takesByte_12 (by decide) ?_
    refine lv_istore_n (lv' := [(2, .int 0), (0, .ref (a0 0)), (1, .int x1)]) hx hb dX7_takesByte_13 rfl hl (by decide) rfl (fun ls hl => ?_)
    refine lv_iload_n hx hb dX7_takesByte_14 rfl (lv_at hl 0 rfl) ?_
    refine lv_if_eq (tgt := 28) hx hb dX7_takesByte_15 (by decide) (fun _ => ?_) (fun c9 => absurd (by decide) c9)
    refine lv_iload_n hx hb dX7_takesByte_28 rfl (lv_at hl 0 rfl) ?_
    exact mt_zret u_2 hx hb hr hk rfl h (hP.sub (ws' := md_v a0 q u_2) [0, 1, 2, 3, 4, 5, 6, 7] rfl) (hD.sub (ws' := md_v a0 q u_2) [0, 1, 2, 3, 4, 5, 6, 7] (by decide) rfl) hS dX7_takesByte_29
  · replace h := h.2 c_3
    refine lv_iconst (v := 1) hx hb dX7_takesByte_8 (by decide) ?_
    refine lv_goto (tgt := 13) hx hb dX7_takesByte_9 (by decide) ?_
    refine lv_istore_n (lv' := [(2, .int 1), (0, .ref (a0 0)), (1, .int x1)]) hx hb dX7_takesByte_13 rfl hl (by decide) rfl (fun ls hl => ?_)
    refine lv_iload_n hx hb dX7_takesByte_14 rfl (lv_at hl 0 rfl) ?_
    refine lv_if_eq (tgt := 28) hx hb dX7_takesByte_15 (by decide) (fun c9 => absurd c9 (by decide)) (fun _ => ?_)
    refine lv_aload_n hx hb dX7_takesByte_18 rfl (lv_at hl 1 rfl) ?_
    refine lv_dup hx hb dX7_takesByte_19 rfl ?_
    refine fl_get (C := RX7) (T := TX7) (N := 23) (ci := 6) (v := .int (u_2.1 6)) hx hb ht in_X7 hown hK hP 0 rfl rfl 14 (by decide) mw_1144 rfl dX7_takesByte_20 ?_
    refine lv_iconst (v := 1) hx hb dX7_takesByte_23 (by decide) ?_
    refine lv_iadd hx hb dX7_takesByte_24 ?_
    refine fl_put (C := RX7) (T := TX7) (N := 23) (ci := 6) (v := .int ((u_2.1 6) + 1)) (ws2 := [((a0 0), .inr (6, [.ref (a0 1), .ref (a0 2), .int (u_2.1 0), .ref (a0 3), .ref (a0 5), .ref (a0 4), .long u_2.2.1, .int (u_2.1 1), .int (u_2.1 2), .ref (a0 6), .int (u_2.1 3), .int (u_2.1 4), .ref (a0 7), .int (u_2.1 5), .int ((u_2.1 6) + 1), .int (u_2.1 7), .int (u_2.1 8), .int (u_2.1 9), .int (u_2.1 10), .int (u_2.1 11), .int (u_2.1 12), .int (u_2.1 13), .int (u_2.1 14)])), ((a0 1), .inl (q 1, 6896, .inr (.inl (u_2.2.2.1 0)))), ((a0 2), .inl (q 1, 68960, .inr (.inl (u_2.2.2.1 1)))), ((a0 3), .inl (q 1, 13792, .inr (.inl (u_2.2.2.1 2)))), ((a0 4), .inl (q 1, 6896, .inr (.inl (u_2.2.2.1 3)))), ((a0 5), .inl (q 3, 2, .inl (u_2.2.2.2 0))), ((a0 6), .inl (q 0, 40, .inl (u_2.2.2.2 1))), ((a0 7), .inl (q 2, 400, .inl (u_2.2.2.2 2)))]) hx hb ht in_X7 tyX7_ok nmX7 hown hK hP hD hS 0 rfl rfl 14 (by decide) mw_1144 rfl rfl rfl (Nat.le_of_ble_eq_true rfl) dX7_takesByte_25 rfl (fun H locs hP hD hS => ?_)
    refine lv_iload_n hx hb dX7_takesByte_28 rfl (lv_at hl 0 rfl) ?_
    exact mt_zret ((va_up u_2.1 6 ((u_2.1 6) + 1)), u_2.2.1, u_2.2.2.1, u_2.2.2.2) hx hb hr hk rfl h (hP.sub (ws' := md_v a0 q ((va_up u_2.1 6 ((u_2.1 6) + 1)), u_2.2.1, u_2.2.2.1, u_2.2.2.2)) [0, 1, 2, 3, 4, 5, 6, 7] rfl) (hD.sub (ws' := md_v a0 q ((va_up u_2.1 6 ((u_2.1 6) + 1)), u_2.2.1, u_2.2.2.1, u_2.2.2.2)) [0, 1, 2, 3, 4, 5, 6, 7] (by decide) rfl) hS dX7_takesByte_29
