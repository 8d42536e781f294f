def wp_X6_cost (post : Int32 → Prop) (s1 : Tp) (s2 : Bd) (x1 : Int32) : Prop := wp_X6_whyNotRow (fun r_1 => ((¬ r_1 = 0 → post r_1) ∧ (r_1 = 0 → wp_X0_costOf (fun r_4 => post r_4) s2 s1 x1 (0 : Int32) (0 : Int32) (s1.1 0)))) s1 s2 x1
set_option maxHeartbeats 4000000 in
set_option maxRecDepth 100000 in
theorem c2_X6_cost {l : Launch} {D : va_G} {q : Nat → ClassId} {a0 a1 a2 a3 a4 a5 : Nat → Nat} {p8 s8 : Nat} {s1 : Tp} {s2 : Bd} {x1 : Int32} {post : Int32 → Prop} (h : wp_X6_cost post s1 s2 x1) : Met l yX6_cost (Cond.code yX6_cost cX6_cost 3 (some .int) :: w_all) ({ frames := 3, cells := 0, slots := 0, locals := 83 } : Room) (rd_P D q [.ref (a0 0), .int x1] (fo_w (a0 0) (a1 0) (a2 0) (a3 0) (a4 0) (a5 0) p8 s8 ++ tp_w a1 q s1 ++ bd_w a2 q s2)) (vp_Si post) 0 0 (fun _ => False) := by
  refine rd_start (by decide) (Nat.le_of_ble_eq_true rfl) ?_
  intro p e s m below meth c ls hx hb hr hml hown ht hk hP hQ hV hl
  have hK := hQ.1
  have hown : s.vm.findClass RX6 = some m.cls := hown
  have hl : lv_has ls 3 [(0, .ref (a0 0)), (1, .int x1)] := hl
  have hP : va_P D vwCl [((a0 0), .inr (5, [.ref (a1 0), .ref (a2 0), .ref (a3 0), .ref (a4 0), .ref (a5 0), .ref p8, .ref s8])), ((a1 0), .inr (4, [.ref (a1 1), .int (s1.1 0), .int (s1.1 1), .int (s1.1 2), .int (s1.1 3), .int (s1.1 4), .int (s1.1 5)])), ((a1 1), .inl (q 0, 400, .inl s1.2)), ((a2 0), .inr (0, [.int (s2.1 0), .int (s2.1 1), .int (s2.1 2), .int (s2.1 3), .int (s2.1 4), .int (s2.1 5), .ref (a2 1), .ref (a2 2), .ref (a2 3), .ref (a2 4), .ref (a2 5), .ref (a2 6), .ref (a2 7), .ref (a2 8), .ref (a2 9), .ref (a2 10), .ref (a2 11), .ref (a2 12)])), ((a2 1), .inl (q 0, 4, .inl (s2.2.1 0))), ((a2 2), .inl (q 0, 4, .inl (s2.2.1 1))), ((a2 3), .inl (q 0, 160, .inl (s2.2.1 2))), ((a2 4), .inl (q 0, 40, .inl (s2.2.1 3))), ((a2 5), .inl (q 0, 40, .inl (s2.2.1 4))), ((a2 6), .inl (q 0, 40, .inl (s2.2.1 5))), ((a2 7), .inl (q 0, 40, .inl (s2.2.1 6))), ((a2 8), .inl (q 0, 40, .inl (s2.2.1 7))), ((a2 9), .inl (q 0, 40, .inl (s2.2.1 8))), ((a2 10), .inl (q 0, 40, .inl (s2.2.1 9))), ((a2 11), .inl (q 1, 40, .inr (.inl s2.2.2.1))), ((a2 12), .inl (q 0, s2.2.2.2.1, .inl s2.2.2.2.2))] s.heap := hP
  unfold wp_X6_cost at h
  refine lv_aload_n hx hb dX6_cost_0 rfl (lv_at hl 0 rfl) ?_
  refine lv_iload_n hx hb dX6_cost_1 rfl (lv_at hl 1 rfl) ?_
  refine vp_callSi (rd_wV (wc := fo_w (a0 0) (a1 0) (a2 0) (a3 0) (a4 0) (a5 0) p8 s8 ++ tp_w a1 q s1 ++ bd_w a2 q s2) (As := [.int x1]) (rest := []) hx hb hml hown ht (c2_X6_whyNotRow h) wd_X6_whyNotRow mw_617 hQ hV va_S.rf (hP.sub [0, 1, 2, 3, 4, 5, 6, 7, 8, 9, 10, 11, 12, 13, 14, 15] rfl) rfl rfl rfl hl.1 rfl (Nat.le_of_ble_eq_true rfl) dX6_cost_2 ⟨Nat.le_of_ble_eq_true rfl, Nat.le_of_ble_eq_true rfl, rfl, rfl⟩ ⟨Nat.le_of_ble_eq_true rfl, Nat.le_of_ble_eq_true rfl⟩) (fun r_1 h => ?_)
  try dsimp only at h
  refine lv_istore_n (lv' := [(2, .int r_1), (0, .ref (a0 0)), (1, .int x1)]) hx hb dX6_cost_5 rfl hl (by decide) rfl (fun ls hl => ?_)
  refine lv_iload_n hx hb dX6_cost_6 rfl (lv_at hl 0 rfl) ?_
  refine lv_if_ne (tgt := 34) hx hb dX6_cost_7 (by decide) (fun c_3 => ?_) (fun c_3 => ?_)
  · replace h := h.1 c_3
    refine lv_iload_n hx hb dX6_cost_34 rfl (lv_at hl 0 rfl) ?_
    exact rd_iret hx hb hr hk h dX6_cost_35
  · replace h := h.2 c_3
    refine lv_aload_n hx hb dX6_cost_10 rfl (lv_at hl 1 rfl) ?_
    refine fl_get (C := RX6) (T := TX6) (N := 7) (ci := 5) (v := .ref (a2 0)) hx hb ht in_X6 hown hK hP 0 rfl rfl 1 (by decide) mw_356 rfl dX6_cost_11 ?_
    refine lv_iload_n hx hb dX6_cost_14 rfl (lv_at hl 2 rfl) ?_
    refine lv_iconst (v := 0) hx hb dX6_cost_15 (by decide) ?_
    refine lv_aload_n hx hb dX6_cost_16 rfl (lv_at hl 1 rfl) ?_
    refine fl_get (C := RX6) (T := TX6) (N := 7) (ci := 5) (v := .ref (a1 0)) hx hb ht in_X6 hown hK hP 0 rfl rfl 0 (by decide) mw_355 rfl dX6_cost_17 ?_
    refine lv_iconst (v := 0) hx hb dX6_cost_20 (by decide) ?_
    refine lv_aload_n hx hb dX6_cost_21 rfl (lv_at hl 1 rfl) ?_
    refine fl_get (C := RX6) (T := TX6) (N := 7) (ci := 5) (v := .ref (a1 0)) hx hb ht in_X6 hown hK hP 0 rfl rfl 0 (by decide) mw_355 rfl dX6_cost_22 ?_
    refine fl_get (C := RX5) (T := TX5) (N := 7) (ci := 4) (v := .int (s1.1 0)) hx hb ht in_X5 hown hK hP 1 rfl rfl 1 (by decide) mw_129 rfl dX6_cost_25 ?_
    refine vp_callSi (rd_wV (wc := bd_w a2 q s2 ++ tp_w a1 q s1) (As := [.int x1, .int 0, .ref (a1 0), .int 0, .int (s1.1 0)]) (rest := []) hx hb hml hown ht (c2_X0_costOf h) wd_X0_costOf mw_1009 hQ hV va_S.rf (hP.sub [3, 4, 5, 6, 7, 8, 9, 10, 11, 12, 13, 14, 15, 1, 2] rfl) rfl rfl rfl hl.1 rfl (Nat.le_of_ble_eq_true rfl) dX6_cost_28 ⟨Nat.le_of_ble_eq_true rfl, Nat.le_of_ble_eq_true rfl, rfl, rfl⟩ ⟨Nat.le_of_ble_eq_true rfl, Nat.le_of_ble_eq_true rfl⟩) (fun r_4 h => ?_)
    try dsimp only at h
    refine lv_goto (tgt := 35) hx hb dX6_cost_31 (by decide) ?_
    exact rd_iret hx hb hr hk h dX6_cost_35

def wp_X6_best_L39 (s1 : Tp) (s2 : Bd) (post : Int32 → Prop) (e187 : Int32 → Int32 → Int32 → Int32 → Int32 → Int32 → Int32 → Int32 → Prop) : Nat → Int32 → Int32 → Int32 → Int32 → Int32 → Int32 → Int32 → Int32 → Prop
  | 0, _, _, _, _, _, _, _, _ => False
  | n39 + 1, z1, z2, z3, z4, z5, z6, z7, z8 => (((s1.1 0) < z8 → e187 z1 z2 z3 z4 z5 z6 z7 z8) ∧ (¬ (s1.1 0) < z8 → ((z8 = (s1.1 0) → wp_X6_isRowText (fun r_8 => ((¬ r_8 = 0 → wp_X0_costOf (fun r_11 => wp_X0_missesOf (fun r_13 => ((z3 = 0 → wp_X6_best_L39 s1 s2 post e187 n39 z1 z2 (z3 + 1) (z8 + 1) z3 r_11 r_13 (z8 + 1)) ∧ (¬ z3 = 0 → ((r_11 < z6 → wp_X6_best_L39 s1 s2 post e187 n39 z1 z2 (z3 + 1) (z8 + 1) z3 r_11 r_13 (z8 + 1)) ∧ (¬ r_11 < z6 → ((¬ r_11 = z6 → wp_X6_best_L39 s1 s2 post e187 n39 z1 z2 (z3 + 1) (z8 + 1) z5 z6 z7 (z8 + 1)) ∧ (r_11 = z6 → ((z7 ≤ r_13 → wp_X6_best_L39 s1 s2 post e187 n39 z1 z2 (z3 + 1) (z8 + 1) z5 z6 z7 (z8 + 1)) ∧ (¬ z7 ≤ r_13 → wp_X6_best_L39 s1 s2 post e187 n39 z1 z2 (z3 + 1) (z8 + 1) z3 r_11 r_13 (z8 + 1)))))))))) s2 s1 z1 (0 : Int32) z4 (z8 - z4)) s2 s1 z1 (0 : Int32) z4 (z8 - z4)) ∧ (r_8 = 0 → post (-2)))) s1 s2 z4 (z8 - z4)) ∧ (¬ z8 = (s1.1 0) → wp_X5_byteAt (fun r_19 => ((¬ r_19 = 47 → wp_X6_best_L39 s1 s2 post e187 n39 z1 z2 z3 z4 z5 z6 z7 (z8 + 1)) ∧ (r_19 = 47 → wp_X6_isRowText (fun r_22 => ((¬ r_22 = 0 → wp_X0_costOf (fun r_25 => wp_X0_missesOf (fun r_27 => ((z3 = 0 → wp_X6_best_L39 s1 s2 post e187 n39 z1 z2 (z3 + 1) (z8 + 1) z3 r_25 r_27 (z8 + 1)) ∧ (¬ z3 = 0 → ((r_25 < z6 → wp_X6_best_L39 s1 s2 post e187 n39 z1 z2 (z3 + 1) (z8 + 1) z3 r_25 r_27 (z8 + 1)) ∧ (¬ r_25 < z6 → ((¬ r_25 = z6 → wp_X6_best_L39 s1 s2 post e187 n39 z1 z2 (z3 + 1) (z8 + 1) z5 z6 z7 (z8 + 1)) ∧ (r_25 = z6 → ((z7 ≤ r_27 → wp_X6_best_L39 s1 s2 post e187 n39 z1 z2 (z3 + 1) (z8 + 1) z5 z6 z7 (z8 + 1)) ∧ (¬ z7 ≤ r_27 → wp_X6_best_L39 s1 s2 post e187 n39 z1 z2 (z3 + 1) (z8 + 1) z3 r_25 r_27 (z8 + 1)))))))))) s2 s1 z1 (0 : Int32) z4 (z8 - z4)) s2 s1 z1 (0 : Int32) z4 (z8 - z4)) ∧ (r_22 = 0 → post (-2)))) s1 s2 z4 (z8 - z4)))) s1 z8))))
def wp_X6_best (post : Int32 → Prop) (s1 : Tp) (s2 : Bd) (x1 : Int32) (x2 : Int32) : Prop := wp_X0_hasRow (fun r_1 => ((r_1 = 0 → post (-1)) ∧ (¬ r_1 = 0 → ((x2 < 0 → post (-1)) ∧ (¬ x2 < 0 → ((x2 ≤ 2 → (∃ n39, wp_X6_best_L39 s1 s2 post (fun z1 z2 z3 z4 z5 z6 z7 z8 => ((¬ z2 = 0 → ((¬ z2 = 1 → post z7) ∧ (z2 = 1 → post z6))) ∧ (z2 = 0 → post z5))) n39 x1 x2 0 0 0 0 0 0)) ∧ (¬ x2 ≤ 2 → post (-1)))))))) s2 x1
set_option maxHeartbeats 4000000 in
set_option maxRecDepth 100000 in
theorem c2_X6_best {l : Launch} {D : va_G} {q : Nat → ClassId} {a0 a1 a2 a3 a4 a5 : Nat → Nat} {p8 s8 : Nat} {s1 : Tp} {s2 : Bd} {x1 : Int32} {x2 : Int32} {post : Int32 → Prop} (h : wp_X6_best post s1 s2 x1 x2) : Met l yX6_best (Cond.code yX6_best cX6_best 12 (some .int) :: w_all) ({ frames := 3, cells := 0, slots := 0, locals := 83 } : Room) (rd_P D q [.ref (a0 0), .int x1, .int x2] (fo_w (a0 0) (a1 0) (a2 0) (a3 0) (a4 0) (a5 0) p8 s8 ++ tp_w a1 q s1 ++ bd_w a2 q s2)) (vp_Si post) 0 0 (fun _ => False) := by
  refine rd_start (by decide) (Nat.le_of_ble_eq_true rfl) ?_
  intro p e s m below meth c ls hx hb hr hml hown ht hk hP hQ hV hl
  have hK := hQ.1
  have hown : s.vm.findClass RX6 = some m.cls := hown
  have hl : lv_has ls 12 [(0, .ref (a0 0)), (1, .int x1), (2, .int x2)] := hl
  have hP : va_P D vwCl [((a0 0), .inr (5, [.ref (a1 0), .ref (a2 0), .ref (a3 0), .ref (a4 0), .ref (a5 0), .ref p8, .ref s8])), ((a1 0), .inr (4, [.ref (a1 1), .int (s1.1 0), .int (s1.1 1), .int (s1.1 2), .int (s1.1 3), .int (s1.1 4), .int (s1.1 5)])), ((a1 1), .inl (q 0, 400, .inl s1.2)), ((a2 0), .inr (0, [.int (s2.1 0), .int (s2.1 1), .int (s2.1 2), .int (s2.1 3), .int (s2.1 4), .int (s2.1 5), .ref (a2 1), .ref (a2 2), .ref (a2 3), .ref (a2 4), .ref (a2 5), .ref (a2 6), .ref (a2 7), .ref (a2 8), .ref (a2 9), .ref (a2 10), .ref (a2 11), .ref (a2 12)])), ((a2 1), .inl (q 0, 4, .inl (s2.2.1 0))), ((a2 2), .inl (q 0, 4, .inl (s2.2.1 1))), ((a2 3), .inl (q 0, 160, .inl (s2.2.1 2))), ((a2 4), .inl (q 0, 40, .inl (s2.2.1 3))), ((a2 5), .inl (q 0, 40, .inl (s2.2.1 4))), ((a2 6), .inl (q 0, 40, .inl (s2.2.1 5))), ((a2 7), .inl (q 0, 40, .inl (s2.2.1 6))), ((a2 8), .inl (q 0, 40, .inl (s2.2.1 7))), ((a2 9), .inl (q 0, 40, .inl (s2.2.1 8))), ((a2 10), .inl (q 0, 40, .inl (s2.2.1 9))), ((a2 11), .inl (q 1, 40, .inr (.inl s2.2.2.1))), ((a2 12), .inl (q 0, s2.2.2.2.1, .inl s2.2.2.2.2))] s.heap := hP
  unfold wp_X6_best at h
  refine lv_aload_n hx hb dX6_best_0 rfl (lv_at hl 0 rfl) ?_
  refine fl_get (C := RX6) (T := TX6) (N := 7) (ci := 5) (v := .ref (a2 0)) hx hb ht in_X6 hown hK hP 0 rfl rfl 1 (by decide) mw_356 rfl dX6_best_1 ?_
  refine lv_iload_n hx hb dX6_best_4 rfl (lv_at hl 1 rfl) ?_
  refine vp_callSi (rd_wV (wc := bd_w a2 q s2) (As := [.int x1]) (rest := []) hx hb hml hown ht (c2_X0_hasRow h) wd_X0_hasRow mw_621 hQ hV va_S.rf (hP.sub [3, 4, 5, 6, 7, 8, 9, 10, 11, 12, 13, 14, 15] rfl) rfl rfl rfl hl.1 rfl (Nat.le_of_ble_eq_true rfl) dX6_best_5 ⟨Nat.le_of_ble_eq_true rfl, Nat.le_of_ble_eq_true rfl, rfl, rfl⟩ ⟨Nat.le_of_ble_eq_true rfl, Nat.le_of_ble_eq_true rfl⟩) (fun r_1 h => ?_)
  try dsimp only at h
  refine lv_if_eq (tgt := 20) hx hb dX6_best_8 (by decide) (fun c_3 => ?_) (fun c_3 => ?_)
  · replace h := h.1 c_3
    refine lv_iconst (v := (-1)) hx hb dX6_best_20 (by decide) ?_
    exact rd_iret hx hb hr hk h dX6_best_21
  · replace h := h.2 c_3
    refine lv_iload_n hx hb dX6_best_11 rfl (lv_at hl 2 rfl) ?_
    refine lv_if_lt (tgt := 20) hx hb dX6_best_12 (by decide) (fun c_4 => ?_) (fun c_4 => ?_)
    · replace h := h.1 c_4
      refine lv_iconst (v := (-1)) hx hb dX6_best_20 (by decide) ?_
      exact rd_iret hx hb hr hk h dX6_best_21
    · replace h := h.2 c_4
      refine lv_iload_n hx hb dX6_best_15 rfl (lv_at hl 2 rfl) ?_
      refine lv_iconst (v := 2) hx hb dX6_best_16 (by decide) ?_
      refine lv_icmp_le (tgt := 22) hx hb dX6_best_17 (by decide) (fun c_5 => ?_) (fun c_5 => ?_)
      · replace h := h.1 c_5
        refine lv_iconst (v := 0) hx hb dX6_best_22 (by decide) ?_
        refine lv_istore_n (lv' := [(3, .int 0), (0, .ref (a0 0)), (1, .int x1), (2, .int x2)]) hx hb dX6_best_23 rfl hl (by decide) rfl (fun ls hl => ?_)
        refine lv_iconst (v := 0) hx hb dX6_best_24 (by decide) ?_
        refine lv_istore (lv' := [(4, .int 0), (3, .int 0), (0, .ref (a0 0)), (1, .int x1), (2, .int x2)]) hx hb dX6_best_25 hl (by decide) rfl (fun ls hl => ?_)
        refine lv_iconst (v := 0) hx hb dX6_best_27 (by decide) ?_
        refine lv_istore (lv' := [(5, .int 0), (4, .int 0), (3, .int 0), (0, .ref (a0 0)), (1, .int x1), (2, .int x2)]) hx hb dX6_best_28 hl (by decide) rfl (fun ls hl => ?_)
        refine lv_iconst (v := 0) hx hb dX6_best_30 (by decide) ?_
        refine lv_istore (lv' := [(6, .int 0), (5, .int 0), (4, .int 0), (3, .int 0), (0, .ref (a0 0)), (1, .int x1), (2, .int x2)]) hx hb dX6_best_31 hl (by decide) rfl (fun ls hl => ?_)
        refine lv_iconst (v := 0) hx hb dX6_best_33 (by decide) ?_
        refine lv_istore (lv' := [(7, .int 0), (6, .int 0), (5, .int 0), (4, .int 0), (3, .int 0), (0, .ref (a0 0)), (1, .int x1), (2, .int x2)]) hx hb dX6_best_34 hl (by decide) rfl (fun ls hl => ?_)
        refine lv_iconst (v := 0) hx hb dX6_best_36 (by decide) ?_
        refine lv_istore (lv' := [(8, .int 0), (7, .int 0), (6, .int 0), (5, .int 0), (4, .int 0), (3, .int 0), (0, .ref (a0 0)), (1, .int x1), (2, .int x2)]) hx hb dX6_best_37 hl (by decide) rfl (fun ls hl => ?_)
        have lp39 : ∀ (e187 : Int32 → Int32 → Int32 → Int32 → Int32 → Int32 → Int32 → Int32 → Prop) (k187 : ∀ (z1 : Int32) (z2 : Int32) (z3 : Int32) (z4 : Int32) (z5 : Int32) (z6 : Int32) (z7 : Int32) (z8 : Int32) (ls : Array Slot), e187 z1 z2 z3 z4 z5 z6 z7 z8 → lv_has ls 12 [(1, .int z1), (2, .int z2), (3, .int z3), (4, .int z4), (5, .int z5), (6, .int z6), (7, .int z7), (8, .int z8), (0, .ref (a0 0))] → W p l e ({ frames := 3, cells := 0, slots := 0, locals := 83 } : Room) s m [.ref (a0 0), .int x1, .int x2].toArray below meth c s.heap [] 0 0 (MQ below (vp_Si post) [.ref (a0 0), .int x1, .int x2].toArray s 0 0 (fun _ => False)) (F0 m 187 ls [])) (n : Nat) (z1 : Int32) (z2 : Int32) (z3 : Int32) (z4 : Int32) (z5 : Int32) (z6 : Int32) (z7 : Int32) (z8 : Int32) (ls : Array Slot), wp_X6_best_L39 s1 s2 post e187 n z1 z2 z3 z4 z5 z6 z7 z8 → lv_has ls 12 [(1, .int z1), (2, .int z2), (3, .int z3), (4, .int z4), (5, .int z5), (6, .int z6), (7, .int z7), (8, .int z8), (0, .ref (a0 0))] → W p l e ({ frames := 3, cells := 0, slots := 0, locals := 83 } : Room) s m [.ref (a0 0), .int x1, .int x2].toArray below meth c s.heap [] 0 0 (MQ below (vp_Si post) [.ref (a0 0), .int x1, .int x2].toArray s 0 0 (fun _ => False)) (F0 m 39 ls []) := by
          intro e187 k187 n
          induction n with
          | zero =>
            intro z1 z2 z3 z4 z5 z6 z7 z8 ls h
            exact h.elim
          | succ n ih =>
            intro z1 z2 z3 z4 z5 z6 z7 z8 ls h hl
            unfold wp_X6_best_L39 at h
            refine lv_iload hx hb dX6_best_39 (lv_at hl 7 rfl) ?_
            refine lv_aload_n hx hb dX6_best_41 rfl (lv_at hl 8 rfl) ?_
            refine fl_get (C := RX6) (T := TX6) (N := 7) (ci := 5) (v := .ref (a1 0)) hx hb ht in_X6 hown hK hP 0 rfl rfl 0 (by decide) mw_355 rfl dX6_best_42 ?_
            refine fl_get (C := RX5) (T := TX5) (N := 7) (ci := 4) (v := .int (s1.1 0)) hx hb ht in_X5 hown hK hP 1 rfl rfl 1 (by decide) mw_129 rfl dX6_best_45 ?_
            refine lv_icmp_gt (tgt := 187) hx hb dX6_best_48 (by decide) (fun c_6 => ?_) (fun c_6 => ?_)
            · replace h := h.1 c_6
              exact k187 _ _ _ _ _ _ _ _ ls h (lv_sub hl [0, 1, 2, 3, 4, 5, 6, 7, 8] rfl)
            · replace h := h.2 c_6
              refine lv_iload hx hb dX6_best_51 (lv_at hl 7 rfl) ?_
              refine lv_aload_n hx hb dX6_best_53 rfl (lv_at hl 8 rfl) ?_
              refine fl_get (C := RX6) (T := TX6) (N := 7) (ci := 5) (v := .ref (a1 0)) hx hb ht in_X6 hown hK hP 0 rfl rfl 0 (by decide) mw_355 rfl dX6_best_54 ?_
              refine fl_get (C := RX5) (T := TX5) (N := 7) (ci := 4) (v := .int (s1.1 0)) hx hb ht in_X5 hown hK hP 1 rfl rfl 1 (by decide) mw_129 rfl dX6_best_57 ?_
              refine lv_icmp_eq (tgt := 77) hx hb dX6_best_60 (by decide) (fun c_7 => ?_) (fun c_7 => ?_)
              · replace h := h.1 c_7
                refine lv_iload hx hb dX6_best_77 (lv_at hl 7 rfl) ?_
                refine lv_iload hx hb dX6_best_79 (lv_at hl 3 rfl) ?_
                refine lv_isub hx hb dX6_best_81 ?_
                refine lv_istore (lv' := [(9, .int (z8 - z4)), (1, .int z1), (2, .int z2), (3, .int z3), (4, .int z4), (5, .int z5), (6, .int z6), (7, .int z7), (8, .int z8), (0, .ref (a0 0))]) hx hb dX6_best_82 hl (by decide) rfl (fun ls hl => ?_)
                refine lv_aload_n hx hb dX6_best_84 rfl (lv_at hl 9 rfl) ?_
                refine lv_iload hx hb dX6_best_85 (lv_at hl 4 rfl) ?_
                refine lv_iload hx hb dX6_best_87 (lv_at hl 0 rfl) ?_
                refine vp_callSi (rd_wV (wc := fo_w (a0 0) (a1 0) (a2 0) (a3 0) (a4 0) (a5 0) p8 s8 ++ tp_w a1 q s1 ++ bd_w a2 q s2) (As := [.int z4, .int (z8 - z4)]) (rest := []) hx hb hml hown ht (c2_X6_isRowText h) wd_X6_isRowText mw_625 hQ hV va_S.rf (hP.sub [0, 1, 2, 3, 4, 5, 6, 7, 8, 9, 10, 11, 12, 13, 14, 15] rfl) rfl rfl rfl hl.1 rfl (Nat.le_of_ble_eq_true rfl) dX6_best_89 ⟨Nat.le_of_ble_eq_true rfl, Nat.le_of_ble_eq_true rfl, rfl, rfl⟩ ⟨Nat.le_of_ble_eq_true rfl, Nat.le_of_ble_eq_true rfl⟩) (fun r_8 h => ?_)
                try dsimp only at h
                refine lv_if_ne (tgt := 98) hx hb dX6_best_92 (by decide) (fun c_10 => ?_) (fun c_10 => ?_)
                · replace h := h.1 c_10
                  refine lv_aload_n hx hb dX6_best_98 rfl (lv_at hl 9 rfl) ?_
                  refine fl_get (C := RX6) (T := TX6) (N := 7) (ci := 5) (v := .ref (a2 0)) hx hb ht in_X6 hown hK hP 0 rfl rfl 1 (by decide) mw_356 rfl dX6_best_99 ?_
                  refine lv_iload_n hx hb dX6_best_102 rfl (lv_at hl 1 rfl) ?_
                  refine lv_iconst (v := 0) hx hb dX6_best_103 (by decide) ?_
                  refine lv_aload_n hx hb dX6_best_104 rfl (lv_at hl 9 rfl) ?_
                  refine fl_get (C := RX6) (T := TX6) (N := 7) (ci := 5) (v := .ref (a1 0)) hx hb ht in_X6 hown hK hP 0 rfl rfl 0 (by decide) mw_355 rfl dX6_best_105 ?_
                  refine lv_iload hx hb dX6_best_108 (lv_at hl 4 rfl) ?_
                  refine lv_iload hx hb dX6_best_110 (lv_at hl 0 rfl) ?_
                  refine vp_callSi (rd_wV (wc := bd_w a2 q s2 ++ tp_w a1 q s1) (As := [.int z1, .int 0, .ref (a1 0), .int z4, .int (z8 - z4)]) (rest := []) hx hb hml hown ht (c2_X0_costOf h) wd_X0_costOf mw_1009 hQ hV va_S.rf (hP.sub [3, 4, 5, 6, 7, 8, 9, 10, 11, 12, 13, 14, 15, 1, 2] rfl) rfl rfl rfl hl.1 rfl (Nat.le_of_ble_eq_true rfl) dX6_best_112 ⟨Nat.le_of_ble_eq_true rfl, Nat.le_of_ble_eq_true rfl, rfl, rfl⟩ ⟨Nat.le_of_ble_eq_true rfl, Nat.le_of_ble_eq_true rfl⟩) (fun r_11 h => ?_)
                  try dsimp only at h
                  refine lv_istore (lv' := [(10, .int r_11), (9, .int (z8 - z4)), (1, .int z1), (2, .int z2), (3, .int z3), (4, .int z4), (5, .int z5), (6, .int z6), (7, .int z7), (8, .int z8), (0, .ref (a0 0))]) hx hb dX6_best_115 hl (by decide) rfl (fun ls hl => ?_)
                  refine lv_aload_n hx hb dX6_best_117 rfl (lv_at hl 10 rfl) ?_
                  refine fl_get (C := RX6) (T := TX6) (N := 7) (ci := 5) (v := .ref (a2 0)) hx hb ht in_X6 hown hK hP 0 rfl rfl 1 (by decide) mw_356 rfl dX6_best_118 ?_
                  refine lv_iload_n hx hb dX6_best_121 rfl (lv_at hl 2 rfl) ?_
                  refine lv_iconst (v := 0) hx hb dX6_best_122 (by decide) ?_
                  refine lv_aload_n hx hb dX6_best_123 rfl (lv_at hl 10 rfl) ?_
                  refine fl_get (C := RX6) (T := TX6) (N := 7) (ci := 5) (v := .ref (a1 0)) hx hb ht in_X6 hown hK hP 0 rfl rfl 0 (by decide) mw_355 rfl dX6_best_124 ?_
                  refine lv_iload hx hb dX6_best_127 (lv_at hl 5 rfl) ?_
                  refine lv_iload hx hb dX6_best_129 (lv_at hl 1 rfl) ?_
                  refine vp_callSi (rd_wV (wc := bd_w a2 q s2 ++ tp_w a1 q s1) (As := [.int z1, .int 0, .ref (a1 0), .int z4, .int (z8 - z4)]) (rest := []) hx hb hml hown ht (c2_X0_missesOf h) wd_X0_missesOf mw_1024 hQ hV va_S.rf (hP.sub [3, 4, 5, 6, 7, 8, 9, 10, 11, 12, 13, 14, 15, 1, 2] rfl) rfl rfl rfl hl.1 rfl (Nat.le_of_ble_eq_true rfl) dX6_best_131 ⟨Nat.le_of_ble_eq_true rfl, Nat.le_of_ble_eq_true rfl, rfl, rfl⟩ ⟨Nat.le_of_ble_eq_true rfl, Nat.le_of_ble_eq_true rfl⟩) (fun r_13 h => ?_)
                  try dsimp only at h
                  refine lv_istore (lv' := [(11, .int r_13), (10, .int r_11), (9, .int (z8 - z4)), (1, .int z1), (2, .int z2), (3, .int z3), (4, .int z4), (5, .int z5), (6, .int z6), (7, .int z7), (8, .int z8), (0, .ref (a0 0))]) hx hb dX6_best_134 hl (by decide) rfl (fun ls hl => ?_)
                  refine lv_iload_n hx hb dX6_best_136 rfl (lv_at hl 5 rfl) ?_
                  refine lv_if_eq (tgt := 161) hx hb dX6_best_137 (by decide) (fun c_15 => ?_) (fun c_15 => ?_)
                  · replace h := h.1 c_15
                    refine lv_iload_n hx hb dX6_best_161 rfl (lv_at hl 5 rfl) ?_
                    refine lv_istore (lv' := [(5, .int z3), (11, .int r_13), (10, .int r_11), (9, .int (z8 - z4)), (1, .int z1), (2, .int z2), (3, .int z3), (4, .int z4), (6, .int z6), (7, .int z7), (8, .int z8), (0, .ref (a0 0))]) hx hb dX6_best_162 hl (by decide) rfl (fun ls hl => ?_)
                    refine lv_iload hx hb dX6_best_164 (lv_at hl 2 rfl) ?_
                    refine lv_istore (lv' := [(6, .int r_11), (5, .int z3), (11, .int r_13), (10, .int r_11), (9, .int (z8 - z4)), (1, .int z1), (2, .int z2), (3, .int z3), (4, .int z4), (7, .int z7), (8, .int z8), (0, .ref (a0 0))]) hx hb dX6_best_166 hl (by decide) rfl (fun ls hl => ?_)
                    refine lv_iload hx hb dX6_best_168 (lv_at hl 2 rfl) ?_
                    refine lv_istore (lv' := [(7, .int r_13), (6, .int r_11), (5, .int z3), (11, .int r_13), (10, .int r_11), (9, .int (z8 - z4)), (1, .int z1), (2, .int z2), (3, .int z3), (4, .int z4), (8, .int z8), (0, .ref (a0 0))]) hx hb dX6_best_170 hl (by decide) rfl (fun ls hl => ?_)
                    refine lv_iinc (v := (z3 + 1)) (lv' := [(3, .int (z3 + 1)), (7, .int r_13), (6, .int r_11), (5, .int z3), (11, .int r_13), (10, .int r_11), (9, .int (z8 - z4)), (1, .int z1), (2, .int z2), (4, .int z4), (8, .int z8), (0, .ref (a0 0))]) hx hb dX6_best_172 hl (k := 8) rfl rfl (by decide) rfl (fun ls hl => ?_)
                    refine lv_iload hx hb dX6_best_175 (lv_at hl 10 rfl) ?_
                    refine lv_iconst (v := 1) hx hb dX6_best_177 (by decide) ?_
                    refine lv_iadd hx hb dX6_best_178 ?_
                    refine lv_istore (lv' := [(4, .int (z8 + 1)), (3, .int (z3 + 1)), (7, .int r_13), (6, .int r_11), (5, .int z3), (11, .int r_13), (10, .int r_11), (9, .int (z8 - z4)), (1, .int z1), (2, .int z2), (8, .int z8), (0, .ref (a0 0))]) hx hb dX6_best_179 hl (by decide) rfl (fun ls hl => ?_)
                    refine lv_iinc (v := (z8 + 1)) (lv' := [(8, .int (z8 + 1)), (4, .int (z8 + 1)), (3, .int (z3 + 1)), (7, .int r_13), (6, .int r_11), (5, .int z3), (11, .int r_13), (10, .int r_11), (9, .int (z8 - z4)), (1, .int z1), (2, .int z2), (0, .ref (a0 0))]) hx hb dX6_best_181 hl (k := 10) rfl rfl (by decide) rfl (fun ls hl => ?_)
                    refine lv_goto (tgt := 39) hx hb dX6_best_184 (by decide) ?_
                    exact ih _ _ _ _ _ _ _ _ ls h (lv_sub hl [9, 10, 2, 1, 5, 4, 3, 0, 11] rfl)
                  · replace h := h.2 c_15
                    refine lv_iload hx hb dX6_best_140 (lv_at hl 1 rfl) ?_
                    refine lv_iload hx hb dX6_best_142 (lv_at hl 8 rfl) ?_
                    refine lv_icmp_lt (tgt := 161) hx hb dX6_best_144 (by decide) (fun c_16 => ?_) (fun c_16 => ?_)
                    · replace h := h.1 c_16
                      refine lv_iload_n hx hb dX6_best_161 rfl (lv_at hl 5 rfl) ?_
                      refine lv_istore (lv' := [(5, .int z3), (11, .int r_13), (10, .int r_11), (9, .int (z8 - z4)), (1, .int z1), (2, .int z2), (3, .int z3), (4, .int z4), (6, .int z6), (7, .int z7), (8, .int z8), (0, .ref (a0 0))]) hx hb dX6_best_162 hl (by decide) rfl (fun ls hl => ?_)
                      refine lv_iload hx hb dX6_best_164 (lv_at hl 2 rfl) ?_
                      refine lv_istore (lv' := [(6, .int r_11), (5, .int z3), (11, .int r_13), (10, .int r_11), (9, .int (z8 - z4)), (1, .int z1), (2, .int z2), (3, .int z3), (4, .int z4), (7, .int z7), (8, .int z8), (0, .ref (a0 0))]) hx hb dX6_best_166 hl (by decide) rfl (fun ls hl => ?_)
                      refine lv_iload hx hb dX6_best_168 (lv_at hl 2 rfl) ?_
                      refine lv_istore (lv' := [(7, .int r_13), (6, .int r_11), (5, .int z3), (11, .int r_13), (10, .int r_11), (9, .int (z8 - z4)), (1, .int z1), (2, .int z2), (3, .int z3), (4, .int z4), (8, .int z8), (0, .ref (a0 0))]) hx hb dX6_best_170 hl (by decide) rfl (fun ls hl => ?_)
                      refine lv_iinc (v := (z3 + 1)) (lv' := [(3, .int (z3 + 1)), (7, .int r_13), (6, .int r_11), (5, .int z3), (11, .int r_13), (10, .int r_11), (9, .int (z8 - z4)), (1, .int z1), (2, .int z2), (4, .int z4), (8, .int z8), (0, .ref (a0 0))]) hx hb dX6_best_172 hl (k := 8) rfl rfl (by decide) rfl (fun ls hl => ?_)
                      refine lv_iload hx hb dX6_best_175 (lv_at hl 10 rfl) ?_
                      refine lv_iconst (v := 1) hx hb dX6_best_177 (by decide) ?_
                      refine lv_iadd hx hb dX6_best_178 ?_
                      refine lv_istore (lv' := [(4, .int (z8 + 1)), (3, .int (z3 + 1)), (7, .int r_13), (6, .int r_11), (5, .int z3), (11, .int r_13), (10, .int r_11), (9, .int (z8 - z4)), (1, .int z1), (2, .int z2), (8, .int z8), (0, .ref (a0 0))]) hx hb dX6_best_179 hl (by decide) rfl (fun ls hl => ?_)
                      refine lv_iinc (v := (z8 + 1)) (lv' := [(8, .int (z8 + 1)), (4, .int (z8 + 1)), (3, .int (z3 + 1)), (7, .int r_13), (6, .int r_11), (5, .int z3), (11, .int r_13), (10, .int r_11), (9, .int (z8 - z4)), (1, .int z1), (2, .int z2), (0, .ref (a0 0))]) hx hb dX6_best_181 hl (k := 10) rfl rfl (by decide) rfl (fun ls hl => ?_)
                      refine lv_goto (tgt := 39) hx hb dX6_best_184 (by decide) ?_
                      exact ih _ _ _ _ _ _ _ _ ls h (lv_sub hl [9, 10, 2, 1, 5, 4, 3, 0, 11] rfl)
                    · replace h := h.2 c_16
                      refine lv_iload hx hb dX6_best_147 (lv_at hl 1 rfl) ?_
                      refine lv_iload hx hb dX6_best_149 (lv_at hl 8 rfl) ?_
                      refine lv_icmp_ne (tgt := 172) hx hb dX6_best_151 (by decide) (fun c_17 => ?_) (fun c_17 => ?_)
                      · replace h := h.1 c_17
                        refine lv_iinc (v := (z3 + 1)) (lv' := [(3, .int (z3 + 1)), (11, .int r_13), (10, .int r_11), (9, .int (z8 - z4)), (1, .int z1), (2, .int z2), (4, .int z4), (5, .int z5), (6, .int z6), (7, .int z7), (8, .int z8), (0, .ref (a0 0))]) hx hb dX6_best_172 hl (k := 5) rfl rfl (by decide) rfl (fun ls hl => ?_)
                        refine lv_iload hx hb dX6_best_175 (lv_at hl 10 rfl) ?_
                        refine lv_iconst (v := 1) hx hb dX6_best_177 (by decide) ?_
                        refine lv_iadd hx hb dX6_best_178 ?_
                        refine lv_istore (lv' := [(4, .int (z8 + 1)), (3, .int (z3 + 1)), (11, .int r_13), (10, .int r_11), (9, .int (z8 - z4)), (1, .int z1), (2, .int z2), (5, .int z5), (6, .int z6), (7, .int z7), (8, .int z8), (0, .ref (a0 0))]) hx hb dX6_best_179 hl (by decide) rfl (fun ls hl => ?_)
                        refine lv_iinc (v := (z8 + 1)) (lv' := [(8, .int (z8 + 1)), (4, .int (z8 + 1)), (3, .int (z3 + 1)), (11, .int r_13), (10, .int r_11), (9, .int (z8 - z4)), (1, .int z1), (2, .int z2), (5, .int z5), (6, .int z6), (7, .int z7), (0, .ref (a0 0))]) hx hb dX6_best_181 hl (k := 10) rfl rfl (by decide) rfl (fun ls hl => ?_)
                        refine lv_goto (tgt := 39) hx hb dX6_best_184 (by decide) ?_
                        exact ih _ _ _ _ _ _ _ _ ls h (lv_sub hl [6, 7, 2, 1, 8, 9, 10, 0, 11] rfl)
                      · replace h := h.2 c_17
                        refine lv_iload hx hb dX6_best_154 (lv_at hl 0 rfl) ?_
                        refine lv_iload hx hb dX6_best_156 (lv_at hl 9 rfl) ?_
                        refine lv_icmp_ge (tgt := 172) hx hb dX6_best_158 (by decide) (fun c_18 => ?_) (fun c_18 => ?_)
                        · replace h := h.1 c_18
                          refine lv_iinc (v := (z3 + 1)) (lv' := [(3, .int (z3 + 1)), (11, .int r_13), (10, .int r_11), (9, .int (z8 - z4)), (1, .int z1), (2, .int z2), (4, .int z4), (5, .int z5), (6, .int z6), (7, .int z7), (8, .int z8), (0, .ref (a0 0))]) hx hb dX6_best_172 hl (k := 5) rfl rfl (by decide) rfl (fun ls hl => ?_)
                          refine lv_iload hx hb dX6_best_175 (lv_at hl 10 rfl) ?_
                          refine lv_iconst (v := 1) hx hb dX6_best_177 (by decide) ?_
                          refine lv_iadd hx hb dX6_best_178 ?_
                          refine lv_istore (lv' := [(4, .int (z8 + 1)), (3, .int (z3 + 1)), (11, .int r_13), (10, .int r_11), (9, .int (z8 - z4)), (1, .int z1), (2, .int z2), (5, .int z5), (6, .int z6), (7, .int z7), (8, .int z8), (0, .ref (a0 0))]) hx hb dX6_best_179 hl (by decide) rfl (fun ls hl => ?_)
                          refine lv_iinc (v := (z8 + 1)) (lv' := [(8, .int (z8 + 1)), (4, .int (z8 + 1)), (3, .int (z3 + 1)), (11, .int r_13), (10, .int r_11), (9, .int (z8 - z4)), (1, .int z1), (2, .int z2), (5, .int z5), (6, .int z6), (7, .int z7), (0, .ref (a0 0))]) hx hb dX6_best_181 hl (k := 10) rfl rfl (by decide) rfl (fun ls hl => ?_)
                          refine lv_goto (tgt := 39) hx hb dX6_best_184 (by decide) ?_
                          exact ih _ _ _ _ _ _ _ _ ls h (lv_sub hl [6, 7, 2, 1, 8, 9, 10, 0, 11] rfl)
                        · replace h := h.2 c_18
                          refine lv_iload_n hx hb dX6_best_161 rfl (lv_at hl 5 rfl) ?_
                          refine lv_istore (lv' := [(5, .int z3), (11, .int r_13), (10, .int r_11), (9, .int (z8 - z4)), (1, .int z1), (2, .int z2), (3, .int z3), (4, .int z4), (6, .int z6), (7, .int z7), (8, .int z8), (0, .ref (a0 0))]) hx hb dX6_best_162 hl (by decide) rfl (fun ls hl => ?_)
                          refine lv_iload hx hb dX6_best_164 (lv_at hl 2 rfl) ?_
                          refine lv_istore (lv' := [(6, .int r_11), (5, .int z3), (11, .int r_13), (10, .int r_11), (9, .int (z8 - z4)), (1, .int z1), (2, .int z2), (3, .int z3), (4, .int z4), (7, .int z7), (8, .int z8), (0, .ref (a0 0))]) hx hb dX6_best_166 hl (by decide) rfl (fun ls hl => ?_)
                          refine lv_iload hx hb dX6_best_168 (lv_at hl 2 rfl) ?_
                          refine lv_istore (lv' := [(7, .int r_13), (6, .int r_11), (5, .int z3), (11, .int r_13), (10, .int r_11), (9, .int (z8 - z4)), (1, .int z1), (2, .int z2), (3, .int z3), (4, .int z4), (8, .int z8), (0, .ref (a0 0))]) hx hb dX6_best_170 hl (by decide) rfl (fun ls hl => ?_)
                          refine lv_iinc (v := (z3 + 1)) (lv' := [(3, .int (z3 + 1)), (7, .int r_13), (6, .int r_11), (5, .int z3), (11, .int r_13), (10, .int r_11), (9, .int (z8 - z4)), (1, .int z1), (2, .int z2), (4, .int z4), (8, .int z8), (0, .ref (a0 0))]) hx hb dX6_best_172 hl (k := 8) rfl rfl (by decide) rfl (fun ls hl => ?_)
                          refine lv_iload hx hb dX6_best_175 (lv_at hl 10 rfl) ?_
                          refine lv_iconst (v := 1) hx hb dX6_best_177 (by decide) ?_
                          refine lv_iadd hx hb dX6_best_178 ?_
                          refine lv_istore (lv' := [(4, .int (z8 + 1)), (3, .int (z3 + 1)), (7, .int r_13), (6, .int r_11), (5, .int z3), (11, .int r_13), (10, .int r_11), (9, .int (z8 - z4)), (1, .int z1), (2, .int z2), (8, .int z8), (0, .ref (a0 0))]) hx hb dX6_best_179 hl (by decide) rfl (fun ls hl => ?_)
                          refine lv_iinc (v := (z8 + 1)) (lv' := [(8, .int (z8 + 1)), (4, .int (z8 + 1)), (3, .int (z3 + 1)), (7, .int r_13), (6, .int r_11), (5, .int z3), (11, .int r_13), (10, .int r_11), (9, .int (z8 - z4)), (1, .int z1), (2, .int z2), (0, .ref (a0 0))]) hx hb dX6_best_181 hl (k := 10) rfl rfl (by decide) rfl (fun ls hl => ?_)
                          refine lv_goto (tgt := 39) hx hb dX6_best_184 (by decide) ?_
                          exact ih _ _ _ _ _ _ _ _ ls h (lv_sub hl [9, 10, 2, 1, 5, 4, 3, 0, 11] rfl)
                · replace h := h.2 c_10
                  refine lv_bipush (v := (-2)) hx hb dX6_best_95 (by decide) ?_
                  exact rd_iret hx hb hr hk h dX6_best_97
              · replace h := h.2 c_7
                refine lv_aload_n hx hb dX6_best_63 rfl (lv_at hl 8 rfl) ?_
                refine fl_get (C := RX6) (T := TX6) (N := 7) (ci := 5) (v := .ref (a1 0)) hx hb ht in_X6 hown hK hP 0 rfl rfl 0 (by decide) mw_355 rfl dX6_best_64 ?_
                refine lv_iload hx hb dX6_best_67 (lv_at hl 7 rfl) ?_
                refine vp_callSi (rd_wV (wc := tp_w a1 q s1) (As := [.int z8]) (rest := []) hx hb hml hown ht (c2_X5_byteAt h) wd_X5_byteAt mw_629 hQ hV va_S.rf (hP.sub [1, 2] rfl) rfl rfl rfl hl.1 rfl (Nat.le_of_ble_eq_true rfl) dX6_best_69 ⟨Nat.le_of_ble_eq_true rfl, Nat.le_of_ble_eq_true rfl, rfl, rfl⟩ ⟨Nat.le_of_ble_eq_true rfl, Nat.le_of_ble_eq_true rfl⟩) (fun r_19 h => ?_)
                try dsimp only at h
                refine lv_bipush (v := 47) hx hb dX6_best_72 (by decide) ?_
                refine lv_icmp_ne (tgt := 181) hx hb dX6_best_74 (by decide) (fun c_21 => ?_) (fun c_21 => ?_)
                · replace h := h.1 c_21
                  refine lv_iinc (v := (z8 + 1)) (lv' := [(8, .int (z8 + 1)), (1, .int z1), (2, .int z2), (3, .int z3), (4, .int z4), (5, .int z5), (6, .int z6), (7, .int z7), (0, .ref (a0 0))]) hx hb dX6_best_181 hl (k := 7) rfl rfl (by decide) rfl (fun ls hl => ?_)
                  refine lv_goto (tgt := 39) hx hb dX6_best_184 (by decide) ?_
                  exact ih _ _ _ _ _ _ _ _ ls h (lv_sub hl [1, 2, 3, 4, 5, 6, 7, 0, 8] rfl)
                · replace h := h.2 c_21
                  refine lv_iload hx hb dX6_best_77 (lv_at hl 7 rfl) ?_
                  refine lv_iload hx hb dX6_best_79 (lv_at hl 3 rfl) ?_
                  refine lv_isub hx hb dX6_best_81 ?_
                  refine lv_istore (lv' := [(9, .int (z8 - z4)), (1, .int z1), (2, .int z2), (3, .int z3), (4, .int z4), (5, .int z5), (6, .int z6), (7, .int z7), (8, .int z8), (0, .ref (a0 0))]) hx hb dX6_best_82 hl (by decide) rfl (fun ls hl => ?_)
                  refine lv_aload_n hx hb dX6_best_84 rfl (lv_at hl 9 rfl) ?_
                  refine lv_iload hx hb dX6_best_85 (lv_at hl 4 rfl) ?_
                  refine lv_iload hx hb dX6_best_87 (lv_at hl 0 rfl) ?_
                  refine vp_callSi (rd_wV (wc := fo_w (a0 0) (a1 0) (a2 0) (a3 0) (a4 0) (a5 0) p8 s8 ++ tp_w a1 q s1 ++ bd_w a2 q s2) (As := [.int z4, .int (z8 - z4)]) (rest := []) hx hb hml hown ht (c2_X6_isRowText h) wd_X6_isRowText mw_625 hQ hV va_S.rf (hP.sub [0, 1, 2, 3, 4, 5, 6, 7, 8, 9, 10, 11, 12, 13, 14, 15] rfl) rfl rfl rfl hl.1 rfl (Nat.le_of_ble_eq_true rfl) dX6_best_89 ⟨Nat.le_of_ble_eq_true rfl, Nat.le_of_ble_eq_true rfl, rfl, rfl⟩ ⟨Nat.le_of_ble_eq_true rfl, Nat.le_of_ble_eq_true rfl⟩) (fun r_22 h => ?_)
                  try dsimp only at h
                  refine lv_if_ne (tgt := 98) hx hb dX6_best_92 (by decide) (fun c_24 => ?_) (fun c_24 => ?_)
                  · replace h := h.1 c_24
                    refine lv_aload_n hx hb dX6_best_98 rfl (lv_at hl 9 rfl) ?_
                    refine fl_get (C := RX6) (T := TX6) (N := 7) (ci := 5) (v := .ref (a2 0)) hx hb ht in_X6 hown hK hP 0 rfl rfl 1 (by decide) mw_356 rfl dX6_best_99 ?_
                    refine lv_iload_n hx hb dX6_best_102 rfl (lv_at hl 1 rfl) ?_
                    refine lv_iconst (v := 0) hx hb dX6_best_103 (by decide) ?_
                    refine lv_aload_n hx hb dX6_best_104 rfl (lv_at hl 9 rfl) ?_
                    refine fl_get (C := RX6) (T := TX6) (N := 7) (ci := 5) (v := .ref (a1 0)) hx hb ht in_X6 hown hK hP 0 rfl rfl 0 (by decide) mw_355 rfl dX6_best_105 ?_
                    refine lv_iload hx hb dX6_best_108 (lv_at hl 4 rfl) ?_
                    refine lv_iload hx hb dX6_best_110 (lv_at hl 0 rfl) ?_
                    refine vp_callSi (rd_wV (wc := bd_w a2 q s2 ++ tp_w a1 q s1) (As := [.int z1, .int 0, .ref (a1 0), .int z4, .int (z8 - z4)]) (rest := []) hx hb hml hown ht (c2_X0_costOf h) wd_X0_costOf mw_1009 hQ hV va_S.rf (hP.sub [3, 4, 5, 6, 7, 8, 9, 10, 11, 12, 13, 14, 15, 1, 2] rfl) rfl rfl rfl hl.1 rfl (Nat.le_of_ble_eq_true rfl) dX6_best_112 ⟨Nat.le_of_ble_eq_true rfl, Nat.le_of_ble_eq_true rfl, rfl, rfl⟩ ⟨Nat.le_of_ble_eq_true rfl, Nat.le_of_ble_eq_true rfl⟩) (fun r_25 h => ?_)
                    try dsimp only at h
                    refine lv_istore (lv' := [(10, .int r_25), (9, .int (z8 - z4)), (1, .int z1), (2, .int z2), (3, .int z3), (4, .int z4), (5, .int z5), (6, .int z6), (7, .int z7), (8, .int z8), (0, .ref (a0 0))]) hx hb dX6_best_115 hl (by decide) rfl (fun ls hl => ?_)
                    refine lv_aload_n hx hb dX6_best_117 rfl (lv_at hl 10 rfl) ?_
                    refine fl_get (C := RX6) (T := TX6) (N := 7) (ci := 5) (v := .ref (a2 0)) hx hb ht in_X6 hown hK hP 0 rfl rfl 1 (by decide) mw_356 rfl dX6_best_118 ?_
                    refine lv_iload_n hx hb dX6_best_121 rfl (lv_at hl 2 rfl) ?_
                    refine lv_iconst (v := 0) hx hb dX6_best_122 (by decide) ?_
                    refine lv_aload_n hx hb dX6_best_123 rfl (lv_at hl 10 rfl) ?_
                    refine fl_get (C := RX6) (T := TX6) (N := 7) (ci := 5) (v := .ref (a1 0)) hx hb ht in_X6 hown hK hP 0 rfl rfl 0 (by decide) mw_355 rfl dX6_best_124 ?_
                    refine lv_iload hx hb dX6_best_127 (lv_at hl 5 rfl) ?_
                    refine lv_iload hx hb dX6_best_129 (lv_at hl 1 rfl) ?_
                    refine vp_callSi (rd_wV (wc := bd_w a2 q s2 ++ tp_w a1 q s1) (As := [.int z1, .int 0, .ref (a1 0), .int z4, .int (z8 - z4)]) (rest := []) hx hb hml hown ht (c2_X0_missesOf h) wd_X0_missesOf mw_1024 hQ hV va_S.rf (hP.sub [3, 4, 5, 6, 7, 8, 9, 10, 11, 12, 13, 14, 15, 1, 2] rfl) rfl rfl rfl hl.1 rfl (Nat.le_of_ble_eq_true rfl) dX6_best_131 ⟨Nat.le_of_ble_eq_true rfl, Nat.le_of_ble_eq_true rfl, rfl, rfl⟩ ⟨Nat.le_of_ble_eq_true rfl, Nat.le_of_ble_eq_true rfl⟩) (fun r_27 h => ?_)
                    try dsimp only at h
                    refine lv_istore (lv' := [(11, .int r_27), (10, .int r_25), (9, .int (z8 - z4)), (1, .int z1), (2, .int z2), (3, .int z3), (4, .int z4), (5, .int z5), (6, .int z6), (7, .int z7), (8, .int z8), (0, .ref (a0 0))]) hx hb dX6_best_134 hl (by decide) rfl (fun ls hl => ?_)
                    refine lv_iload_n hx hb dX6_best_136 rfl (lv_at hl 5 rfl) ?_
                    refine lv_if_eq (tgt := 161) hx hb dX6_best_137 (by decide) (fun c_29 => ?_) (fun c_29 => ?_)
                    · replace h := h.1 c_29
                      refine lv_iload_n hx hb dX6_best_161 rfl (lv_at hl 5 rfl) ?_
                      refine lv_istore (lv' := [(5, .int z3), (11, .int r_27), (10, .int r_25), (9, .int (z8 - z4)), (1, .int z1), (2, .int z2), (3, .int z3), (4, .int z4), (6, .int z6), (7, .int z7), (8, .int z8), (0, .ref (a0 0))]) hx hb dX6_best_162 hl (by decide) rfl (fun ls hl => ?_)
                      refine lv_iload hx hb dX6_best_164 (lv_at hl 2 rfl) ?_
                      refine lv_istore (lv' := [(6, .int r_25), (5, .int z3), (11, .int r_27), (10, .int r_25), (9, .int (z8 - z4)), (1, .int z1), (2, .int z2), (3, .int z3), (4, .int z4), (7, .int z7), (8, .int z8), (0, .ref (a0 0))]) hx hb dX6_best_166 hl (by decide) rfl (fun ls hl => ?_)
                      refine lv_iload hx hb dX6_best_168 (lv_at hl 2 rfl) ?_
                      refine lv_istore (lv' := [(7, .int r_27), (6, .int r_25), (5, .int z3), (11, .int r_27), (10, .int r_25), (9, .int (z8 - z4)), (1, .int z1), (2, .int z2), (3, .int z3), (4, .int z4), (8, .int z8), (0, .ref (a0 0))]) hx hb dX6_best_170 hl (by decide) rfl (fun ls hl => ?_)
                      refine lv_iinc (v := (z3 + 1)) (lv' := [(3, .int (z3 + 1)), (7, .int r_27), (6, .int r_25), (5, .int z3), (11, .int r_27), (10, .int r_25), (9, .int (z8 - z4)), (1, .int z1), (2, .int z2), (4, .int z4), (8, .int z8), (0, .ref (a0 0))]) hx hb dX6_best_172 hl (k := 8) rfl rfl (by decide) rfl (fun ls hl => ?_)
                      refine lv_iload hx hb dX6_best_175 (lv_at hl 10 rfl) ?_
                      refine lv_iconst (v := 1) hx hb dX6_best_177 (by decide) ?_
                      refine lv_iadd hx hb dX6_best_178 ?_
                      refine lv_istore (lv' := [(4, .int (z8 + 1)), (3, .int (z3 + 1)), (7, .int r_27), (6, .int r_25), (5, .int z3), (11, .int r_27), (10, .int r_25), (9, .int (z8 - z4)), (1, .int z1), (2, .int z2), (8, .int z8), (0, .ref (a0 0))]) hx hb dX6_best_179 hl (by decide) rfl (fun ls hl => ?_)
                      refine lv_iinc (v := (z8 + 1)) (lv' := [(8, .int (z8 + 1)), (4, .int (z8 + 1)), (3, .int (z3 + 1)), (7, .int r_27), (6, .int r_25), (5, .int z3), (11, .int r_27), (10, .int r_25), (9, .int (z8 - z4)), (1, .int z1), (2, .int z2), (0, .ref (a0 0))]) hx hb dX6_best_181 hl (k := 10) rfl rfl (by decide) rfl (fun ls hl => ?_)
                      refine lv_goto (tgt := 39) hx hb dX6_best_184 (by decide) ?_
                      exact ih _ _ _ _ _ _ _ _ ls h (lv_sub hl [9, 10, 2, 1, 5, 4, 3, 0, 11] rfl)
                    · replace h := h.2 c_29
                      refine lv_iload hx hb dX6_best_140 (lv_at hl 1 rfl) ?_
                      refine lv_iload hx hb dX6_best_142 (lv_at hl 8 rfl) ?_
                      refine lv_icmp_lt (tgt := 161) hx hb dX6_best_144 (by decide) (fun c_30 => ?_) (fun c_30 => ?_)
                      · replace h := h.1 c_30
                        refine lv_iload_n hx hb dX6_best_161 rfl (lv_at hl 5 rfl) ?_
                        refine lv_istore (lv' := [(5, .int z3), (11, .int r_27), (10, .int r_25), (9, .int (z8 - z4)), (1, .int z1), (2, .int z2), (3, .int z3), (4, .int z4), (6, .int z6), (7, .int z7), (8, .int z8), (0, .ref (a0 0))]) hx hb dX6_best_162 hl (by decide) rfl (fun ls hl => ?_)
                        refine lv_iload hx hb dX6_best_164 (lv_at hl 2 rfl) ?_
                        refine lv_istore (lv' := [(6, .int r_25), (5, .int z3), (11, .int r_27), (10, .int r_25), (9, .int (z8 - z4)), (1, .int z1), (2, .int z2), (3, .int z3), (4, .int z4), (7, .int z7), (8, .int z8), (0, .ref (a0 0))]) hx hb dX6_best_166 hl (by decide) rfl (fun ls hl => ?_)
                        refine lv_iload hx hb dX6_best_168 (lv_at hl 2 rfl) ?_
                        refine lv_istore (lv' := [(7, .int r_27), (6, .int r_25), (5, .int z3), (11, .int r_27), (10, .int r_25), (9, .int (z8 - z4)), (1, .int z1), (2, .int z2), (3, .int z3), (4, .int z4), (8, .int z8), (0, .ref (a0 0))]) hx hb dX6_best_170 hl (by decide) rfl (fun ls hl => ?_)
                        refine lv_iinc (v := (z3 + 1)) (lv' := [(3, .int (z3 + 1)), (7, .int r_27), (6, .int r_25), (5, .int z3), (11, .int r_27), (10, .int r_25), (9, .int (z8 - z4)), (1, .int z1), (2, .int z2), (4, .int z4), (8, .int z8), (0, .ref (a0 0))]) hx hb dX6_best_172 hl (k := 8) rfl rfl (by decide) rfl (fun ls hl => ?_)
                        refine lv_iload hx hb dX6_best_175 (lv_at hl 10 rfl) ?_
                        refine lv_iconst (v := 1) hx hb dX6_best_177 (by decide) ?_
                        refine lv_iadd hx hb dX6_best_178 ?_
                        refine lv_istore (lv' := [(4, .int (z8 + 1)), (3, .int (z3 + 1)), (7, .int r_27), (6, .int r_25), (5, .int z3), (11, .int r_27), (10, .int r_25), (9, .int (z8 - z4)), (1, .int z1), (2, .int z2), (8, .int z8), (0, .ref (a0 0))]) hx hb dX6_best_179 hl (by decide) rfl (fun ls hl => ?_)
                        refine lv_iinc (v := (z8 + 1)) (lv' := [(8, .int (z8 + 1)), (4, .int (z8 + 1)), (3, .int (z3 + 1)), (7, .int r_27), (6, .int r_25), (5, .int z3), (11, .int r_27), (10, .int r_25), (9, .int (z8 - z4)), (1, .int z1), (2, .int z2), (0, .ref (a0 0))]) hx hb dX6_best_181 hl (k := 10) rfl rfl (by decide) rfl (fun ls hl => ?_)
                        refine lv_goto (tgt := 39) hx hb dX6_best_184 (by decide) ?_
                        exact ih _ _ _ _ _ _ _ _ ls h (lv_sub hl [9, 10, 2, 1, 5, 4, 3, 0, 11] rfl)
                      · replace h := h.2 c_30
                        refine lv_iload hx hb dX6_best_147 (lv_at hl 1 rfl) ?_
                        refine lv_iload hx hb dX6_best_149 (lv_at hl 8 rfl) ?_
                        refine lv_icmp_ne (tgt := 172) hx hb dX6_best_151 (by decide) (fun c_31 => ?_) (fun c_31 => ?_)
                        · replace h := h.1 c_31
                          refine lv_iinc (v := (z3 + 1)) (lv' := [(3, .int (z3 + 1)), (11, .int r_27), (10, .int r_25), (9, .int (z8 - z4)), (1, .int z1), (2, .int z2), (4, .int z4), (5, .int z5), (6, .int z6), (7, .int z7), (8, .int z8), (0, .ref (a0 0))]) hx hb dX6_best_172 hl (k := 5) rfl rfl (by decide) rfl (fun ls hl => ?_)
                          refine lv_iload hx hb dX6_best_175 (lv_at hl 10 rfl) ?_
                          refine lv_iconst (v := 1) hx hb dX6_best_177 (by decide) ?_
                          refine lv_iadd hx hb dX6_best_178 ?_
                          refine lv_istore (lv' := [(4, .int (z8 + 1)), (3, .int (z3 + 1)), (11, .int r_27), (10, .int r_25), (9, .int (z8 - z4)), (1, .int z1), (2, .int z2), (5, .int z5), (6, .int z6), (7, .int z7), (8, .int z8), (0, .ref (a0 0))]) hx hb dX6_best_179 hl (by decide) rfl (fun ls hl => ?_)
                          refine lv_iinc (v := (z8 + 1)) (lv' := [(8, .int (z8 + 1)), (4, .int (z8 + 1)), (3, .int (z3 + 1)), (11, .int r_27), (10, .int r_25), (9, .int (z8 - z4)), (1, .int z1), (2, .int z2), (5, .int z5), (6, .int z6), (7, .int z7), (0, .ref (a0 0))]) hx hb dX6_best_181 hl (k := 10) rfl rfl (by decide) rfl (fun ls hl => ?_)
                          refine lv_goto (tgt := 39) hx hb dX6_best_184 (by decide) ?_
                          exact ih _ _ _ _ _ _ _ _ ls h (lv_sub hl [6, 7, 2, 1, 8, 9, 10, 0, 11] rfl)
                        · replace h := h.2 c_31
                          refine lv_iload hx hb dX6_best_154 (lv_at hl 0 rfl) ?_
                          refine lv_iload hx hb dX6_best_156 (lv_at hl 9 rfl) ?_
                          refine lv_icmp_ge (tgt := 172) hx hb dX6_best_158 (by decide) (fun c_32 => ?_) (fun c_32 => ?_)
                          · replace h := h.1 c_32
                            refine lv_iinc (v := (z3 + 1)) (lv' := [(3, .int (z3 + 1)), (11, .int r_27), (10, .int r_25), (9, .int (z8 - z4)), (1, .int z1), (2, .int z2), (4, .int z4), (5, .int z5), (6, .int z6), (7, .int z7), (8, .int z8), (0, .ref (a0 0))]) hx hb dX6_best_172 hl (k := 5) rfl rfl (by decide) rfl (fun ls hl => ?_)
                            refine lv_iload hx hb dX6_best_175 (lv_at hl 10 rfl) ?_
                            refine lv_iconst (v := 1) hx hb dX6_best_177 (by decide) ?_
                            refine lv_iadd hx hb dX6_best_178 ?_
                            refine lv_istore (lv' := [(4, .int (z8 + 1)), (3, .int (z3 + 1)), (11, .int r_27), (10, .int r_25), (9, .int (z8 - z4)), (1, .int z1), (2, .int z2), (5, .int z5), (6, .int z6), (7, .int z7), (8, .int z8), (0, .ref (a0 0))]) hx hb dX6_best_179 hl (by decide) rfl (fun ls hl => ?_)
                            refine lv_iinc (v := (z8 + 1)) (lv' := [(8, .int (z8 + 1)), (4, .int (z8 + 1)), (3, .int (z3 + 1)), (11, .int r_27), (10, .int r_25), (9, .int (z8 - z4)), (1, .int z1), (2, .int z2), (5, .int z5), (6, .int z6), (7, .int z7), (0, .ref (a0 0))]) hx hb dX6_best_181 hl (k := 10) rfl rfl (by decide) rfl (fun ls hl => ?_)
                            refine lv_goto (tgt := 39) hx hb dX6_best_184 (by decide) ?_
                            exact ih _ _ _ _ _ _ _ _ ls h (lv_sub hl [6, 7, 2, 1, 8, 9, 10, 0, 11] rfl)
                          · replace h := h.2 c_32
                            refine lv_iload_n hx hb dX6_best_161 rfl (lv_at hl 5 rfl) ?_
                            refine lv_istore (lv' := [(5, .int z3), (11, .int r_27), (10, .int r_25), (9, .int (z8 - z4)), (1, .int z1), (2, .int z2), (3, .int z3), (4, .int z4), (6, .int z6), (7, .int z7), (8, .int z8), (0, .ref (a0 0))]) hx hb dX6_best_162 hl (by decide) rfl (fun ls hl => ?_)
                            refine lv_iload hx hb dX6_best_164 (lv_at hl 2 rfl) ?_
                            refine lv_istore (lv' := [(6, .int r_25), (5, .int z3), (11, .int r_27), (10, .int r_25), (9, .int (z8 - z4)), (1, .int z1), (2, .int z2), (3, .int z3), (4, .int z4), (7, .int z7), (8, .int z8), (0, .ref (a0 0))]) hx hb dX6_best_166 hl (by decide) rfl (fun ls hl => ?_)
                            refine lv_iload hx hb dX6_best_168 (lv_at hl 2 rfl) ?_
                            refine lv_istore (lv' := [(7, .int r_27), (6, .int r_25), (5, .int z3), (11, .int r_27), (10, .int r_25), (9, .int (z8 - z4)), (1, .int z1), (2, .int z2), (3, .int z3), (4, .int z4), (8, .int z8), (0, .ref (a0 0))]) hx hb dX6_best_170 hl (by decide) rfl (fun ls hl => ?_)
                            refine lv_iinc (v := (z3 + 1)) (lv' := [(3, .int (z3 + 1)), (7, .int r_27), (6, .int r_25), (5, .int z3), (11, .int r_27), (10, .int r_25), (9, .int (z8 - z4)), (1, .int z1), (2, .int z2), (4, .int z4), (8, .int z8), (0, .ref (a0 0))]) hx hb dX6_best_172 hl (k := 8) rfl rfl (by decide) rfl (fun ls hl => ?_)
                            refine lv_iload hx hb dX6_best_175 (lv_at hl 10 rfl) ?_
                            refine lv_iconst (v := 1) hx hb dX6_best_177 (by decide) ?_
                            refine lv_iadd hx hb dX6_best_178 ?_
                            refine lv_istore (lv' := [(4, .int (z8 + 1)), (3, .int (z3 + 1)), (7, .int r_27), (6, .int r_25), (5, .int z3), (11, .int r_27), (10, .int r_25), (9, .int (z8 - z4)), (1, .int z1), (2, .int z2), (8, .int z8), (0, .ref (a0 0))]) hx hb dX6_best_179 hl (by decide) rfl (fun ls hl => ?_)
                            refine lv_iinc (v := (z8 + 1)) (lv' := [(8, .int (z8 + 1)), (4, .int (z8 + 1)), (3, .int (z3 + 1)), (7, .int r_27), (6, .int r_25), (5, .int z3), (11, .int r_27), (10, .int r_25), (9, .int (z8 - z4)), (1, .int z1), (2, .int z2), (0, .ref (a0 0))]) hx hb dX6_best_181 hl (k := 10) rfl rfl (by decide) rfl (fun ls hl => ?_)
                            refine lv_goto (tgt := 39) hx hb dX6_best_184 (by decide) ?_
                            exact ih _ _ _ _ _ _ _ _ ls h (lv_sub hl [9, 10, 2, 1, 5, 4, 3, 0, 11] rfl)
                  · replace h := h.2 c_24
                    refine lv_bipush (v := (-2)) hx hb dX6_best_95 (by decide) ?_
                    exact rd_iret hx hb hr hk h dX6_best_97
        obtain ⟨n39, h⟩ := h
        refine lp39 _ ?_ n39 _ _ _ _ _ _ _ _ ls h (lv_sub hl [7, 8, 5, 4, 3, 2, 1, 0, 6] rfl)
        · intro z1 z2 z3 z4 z5 z6 z7 z8 ls h hl
          try dsimp only at h
          refine lv_iload_n hx hb dX6_best_187 rfl (lv_at hl 1 rfl) ?_
          refine lv_if_ne (tgt := 196) hx hb dX6_best_188 (by decide) (fun c_33 => ?_) (fun c_33 => ?_)
          · replace h := h.1 c_33
            refine lv_iload_n hx hb dX6_best_196 rfl (lv_at hl 1 rfl) ?_
            refine lv_iconst (v := 1) hx hb dX6_best_197 (by decide) ?_
            refine lv_icmp_ne (tgt := 206) hx hb dX6_best_198 (by decide) (fun c_34 => ?_) (fun c_34 => ?_)
            · replace h := h.1 c_34
              refine lv_iload hx hb dX6_best_206 (lv_at hl 6 rfl) ?_
              exact rd_iret hx hb hr hk h dX6_best_208
            · replace h := h.2 c_34
              refine lv_iload hx hb dX6_best_201 (lv_at hl 5 rfl) ?_
              refine lv_goto (tgt := 208) hx hb dX6_best_203 (by decide) ?_
              exact rd_iret hx hb hr hk h dX6_best_208
          · replace h := h.2 c_33
            refine lv_iload hx hb dX6_best_191 (lv_at hl 4 rfl) ?_
            refine lv_goto (tgt := 208) hx hb dX6_best_193 (by decide) ?_
            exact rd_iret hx hb hr hk h dX6_best_208
      · replace h := h.2 c_5
        refine lv_iconst (v := (-1)) hx hb dX6_best_20 (by decide) ?_
        exact rd_iret hx hb hr hk h dX6_best_21

def wp_X6_place_L58 (s1 : Tp) (s2 : Bd) (post : Int32 → Prop) (e153 : Int32 → Int32 → Int32 → Int32 → Int32 → Int32 → Int32 → Prop) : Nat → Int32 → Int32 → Int32 → Int32 → Int32 → Int32 → Int32 → Prop
  | 0, _, _, _, _, _, _, _ => False
  | n58 + 1, z1, z2, z3, z4, z5, z6, z7 => (((s2.1 1) < (z7 + z3) → e153 z1 z2 z3 z4 z5 z6 z7) ∧ (¬ (s2.1 1) < (z7 + z3) → wp_X0_costOf (fun r_11 => wp_X0_missesOf (fun r_13 => ((z4 = (-1) → wp_X6_place_L58 s1 s2 post e153 n58 z1 z2 z3 z7 r_11 r_13 (z7 + 1)) ∧ (¬ z4 = (-1) → ((r_13 < z6 → wp_X6_place_L58 s1 s2 post e153 n58 z1 z2 z3 z7 r_11 r_13 (z7 + 1)) ∧ (¬ r_13 < z6 → ((¬ r_13 = z6 → wp_X6_place_L58 s1 s2 post e153 n58 z1 z2 z3 z4 z5 z6 (z7 + 1)) ∧ (r_13 = z6 → ((z5 ≤ r_11 → wp_X6_place_L58 s1 s2 post e153 n58 z1 z2 z3 z4 z5 z6 (z7 + 1)) ∧ (¬ z5 ≤ r_11 → wp_X6_place_L58 s1 s2 post e153 n58 z1 z2 z3 z7 r_11 r_13 (z7 + 1)))))))))) s2 s1 z1 z7 (0 : Int32) z3) s2 s1 z1 z7 (0 : Int32) z3))
def wp_X6_place (post : Int32 → Prop) (s1 : Tp) (s2 : Bd) (x1 : Int32) (x2 : Int32) : Prop := wp_X0_hasRow (fun r_1 => ((r_1 = 0 → post (-1)) ∧ (¬ r_1 = 0 → ((x2 < 0 → post (-1)) ∧ (¬ x2 < 0 → ((x2 ≤ 1 → (((s1.1 0) = 0 → post (-2)) ∧ (¬ (s1.1 0) = 0 → wp_X6_isRowText (fun r_7 => ((¬ r_7 = 0 → (∃ n58, wp_X6_place_L58 s1 s2 post (fun z1 z2 z3 z4 z5 z6 z7 => ((¬ z2 = 0 → post z5) ∧ (z2 = 0 → post z4))) n58 x1 x2 (s1.1 0) (-1) 0 0 0)) ∧ (r_7 = 0 → post (-2)))) s1 s2 (0 : Int32) (s1.1 0)))) ∧ (¬ x2 ≤ 1 → post (-1)))))))) s2 x1
set_option maxHeartbeats 4000000 in
set_option maxRecDepth 100000 in
theorem c2_X6_place {l : Launch} {D : va_G} {q : Nat → ClassId} {a0 a1 a2 a3 a4 a5 : Nat → Nat} {p8 s8 : Nat} {s1 : Tp} {s2 : Bd} {x1 : Int32} {x2 : Int32} {post : Int32 → Prop} (h : wp_X6_place post s1 s2 x1 x2) : Met l yX6_place (Cond.code yX6_place cX6_place 10 (some .int) :: w_all) ({ frames := 3, cells := 0, slots := 0, locals := 83 } : Room) (rd_P D q [.ref (a0 0), .int x1, .int x2] (fo_w (a0 0) (a1 0) (a2 0) (a3 0) (a4 0) (a5 0) p8 s8 ++ tp_w a1 q s1 ++ bd_w a2 q s2)) (vp_Si post) 0 0 (fun _ => False) := by
  refine rd_start (by decide) (Nat.le_of_ble_eq_true rfl) ?_
  intro p e s m below meth c ls hx hb hr hml hown ht hk hP hQ hV hl
  have hK := hQ.1
  have hown : s.vm.findClass RX6 = some m.cls := hown
  have hl : lv_has ls 10 [(0, .ref (a0 0)), (1, .int x1), (2, .int x2)] := hl
  have hP : va_P D vwCl [((a0 0), .inr (5, [.ref (a1 0), .ref (a2 0), .ref (a3 0), .ref (a4 0), .ref (a5 0), .ref p8, .ref s8])), ((a1 0), .inr (4, [.ref (a1 1), .int (s1.1 0), .int (s1.1 1), .int (s1.1 2), .int (s1.1 3), .int (s1.1 4), .int (s1.1 5)])), ((a1 1), .inl (q 0, 400, .inl s1.2)), ((a2 0), .inr (0, [.int (s2.1 0), .int (s2.1 1), .int (s2.1 2), .int (s2.1 3), .int (s2.1 4), .int (s2.1 5), .ref (a2 1), .ref (a2 2), .ref (a2 3), .ref (a2 4), .ref (a2 5), .ref (a2 6), .ref (a2 7), .ref (a2 8), .ref (a2 9), .ref (a2 10), .ref (a2 11), .ref (a2 12)])), ((a2 1), .inl (q 0, 4, .inl (s2.2.1 0))), ((a2 2), .inl (q 0, 4, .inl (s2.2.1 1))), ((a2 3), .inl (q 0, 160, .inl (s2.2.1 2))), ((a2 4), .inl (q 0, 40, .inl (s2.2.1 3))), ((a2 5), .inl (q 0, 40, .inl (s2.2.1 4))), ((a2 6), .inl (q 0, 40, .inl (s2.2.1 5))), ((a2 7), .inl (q 0, 40, .inl (s2.2.1 6))), ((a2 8), .inl (q 0, 40, .inl (s2.2.1 7))), ((a2 9), .inl (q 0, 40, .inl (s2.2.1 8))), ((a2 10), .inl (q 0, 40, .inl (s2.2.1 9))), ((a2 11), .inl (q 1, 40, .inr (.inl s2.2.2.1))), ((a2 12), .inl (q 0, s2.2.2.2.1, .inl s2.2.2.2.2))] s.heap := hP
  unfold wp_X6_place at h
  refine lv_aload_n hx hb dX6_place_0 rfl (lv_at hl 0 rfl) ?_
  refine fl_get (C := RX6) (T := TX6) (N := 7) (ci := 5) (v := .ref (a2 0)) hx hb ht in_X6 hown hK hP 0 rfl rfl 1 (by decide) mw_356 rfl dX6_place_1 ?_
  refine lv_iload_n hx hb dX6_place_4 rfl (lv_at hl 1 rfl) ?_
  refine vp_callSi (rd_wV (wc := bd_w a2 q s2) (As := [.int x1]) (rest := []) hx hb hml hown ht (c2_X0_hasRow h) wd_X0_hasRow mw_621 hQ hV va_S.rf (hP.sub [3, 4, 5, 6, 7, 8, 9, 10, 11, 12, 13, 14, 15] rfl) rfl rfl rfl hl.1 rfl (Nat.le_of_ble_eq_true rfl) dX6_place_5 ⟨Nat.le_of_ble_eq_true rfl, Nat.le_of_ble_eq_true rfl, rfl, rfl⟩ ⟨Nat.le_of_ble_eq_true rfl, Nat.le_of_ble_eq_true rfl⟩) (fun r_1 h => ?_)
  try dsimp only at h
  refine lv_if_eq (tgt := 20) hx hb dX6_place_8 (by decide) (fun c_3 => ?_) (fun c_3 => ?_)
  · replace h := h.1 c_3
    refine lv_iconst (v := (-1)) hx hb dX6_place_20 (by decide) ?_
    exact rd_iret hx hb hr hk h dX6_place_21
  · replace h := h.2 c_3
    refine lv_iload_n hx hb dX6_place_11 rfl (lv_at hl 2 rfl) ?_
    refine lv_if_lt (tgt := 20) hx hb dX6_place_12 (by decide) (fun c_4 => ?_) (fun c_4 => ?_)
    · replace h := h.1 c_4
      refine lv_iconst (v := (-1)) hx hb dX6_place_20 (by decide) ?_
      exact rd_iret hx hb hr hk h dX6_place_21
    · replace h := h.2 c_4
      refine lv_iload_n hx hb dX6_place_15 rfl (lv_at hl 2 rfl) ?_
      refine lv_iconst (v := 1) hx hb dX6_place_16 (by decide) ?_
      refine lv_icmp_le (tgt := 22) hx hb dX6_place_17 (by decide) (fun c_5 => ?_) (fun c_5 => ?_)
      · replace h := h.1 c_5
        refine lv_aload_n hx hb dX6_place_22 rfl (lv_at hl 0 rfl) ?_
        refine fl_get (C := RX6) (T := TX6) (N := 7) (ci := 5) (v := .ref (a1 0)) hx hb ht in_X6 hown hK hP 0 rfl rfl 0 (by decide) mw_355 rfl dX6_place_23 ?_
        refine fl_get (C := RX5) (T := TX5) (N := 7) (ci := 4) (v := .int (s1.1 0)) hx hb ht in_X5 hown hK hP 1 rfl rfl 1 (by decide) mw_129 rfl dX6_place_26 ?_
        refine lv_istore_n (lv' := [(3, .int (s1.1 0)), (0, .ref (a0 0)), (1, .int x1), (2, .int x2)]) hx hb dX6_place_29 rfl hl (by decide) rfl (fun ls hl => ?_)
        refine lv_iload_n hx hb dX6_place_30 rfl (lv_at hl 0 rfl) ?_
        refine lv_if_eq (tgt := 43) hx hb dX6_place_31 (by decide) (fun c_6 => ?_) (fun c_6 => ?_)
        · replace h := h.1 c_6
          refine lv_bipush (v := (-2)) hx hb dX6_place_43 (by decide) ?_
          exact rd_iret hx hb hr hk h dX6_place_45
        · replace h := h.2 c_6
          refine lv_aload_n hx hb dX6_place_34 rfl (lv_at hl 1 rfl) ?_
          refine lv_iconst (v := 0) hx hb dX6_place_35 (by decide) ?_
          refine lv_iload_n hx hb dX6_place_36 rfl (lv_at hl 0 rfl) ?_
          refine vp_callSi (rd_wV (wc := fo_w (a0 0) (a1 0) (a2 0) (a3 0) (a4 0) (a5 0) p8 s8 ++ tp_w a1 q s1 ++ bd_w a2 q s2) (As := [.int 0, .int (s1.1 0)]) (rest := []) hx hb hml hown ht (c2_X6_isRowText h) wd_X6_isRowText mw_625 hQ hV va_S.rf (hP.sub [0, 1, 2, 3, 4, 5, 6, 7, 8, 9, 10, 11, 12, 13, 14, 15] rfl) rfl rfl rfl hl.1 rfl (Nat.le_of_ble_eq_true rfl) dX6_place_37 ⟨Nat.le_of_ble_eq_true rfl, Nat.le_of_ble_eq_true rfl, rfl, rfl⟩ ⟨Nat.le_of_ble_eq_true rfl, Nat.le_of_ble_eq_true rfl⟩) (fun r_7 h => ?_)
          try dsimp only at h
          refine lv_if_ne (tgt := 46) hx hb dX6_place_40 (by decide) (fun c_9 => ?_) (fun c_9 => ?_)
          · replace h := h.1 c_9
            refine lv_iconst (v := (-1)) hx hb dX6_place_46 (by decide) ?_
            refine lv_istore (lv' := [(4, .int (-1)), (3, .int (s1.1 0)), (0, .ref (a0 0)), (1, .int x1), (2, .int x2)]) hx hb dX6_place_47 hl (by decide) rfl (fun ls hl => ?_)
            refine lv_iconst (v := 0) hx hb dX6_place_49 (by decide) ?_
            refine lv_istore (lv' := [(5, .int 0), (4, .int (-1)), (3, .int (s1.1 0)), (0, .ref (a0 0)), (1, .int x1), (2, .int x2)]) hx hb dX6_place_50 hl (by decide) rfl (fun ls hl => ?_)
            refine lv_iconst (v := 0) hx hb dX6_place_52 (by decide) ?_
            refine lv_istore (lv' := [(6, .int 0), (5, .int 0), (4, .int (-1)), (3, .int (s1.1 0)), (0, .ref (a0 0)), (1, .int x1), (2, .int x2)]) hx hb dX6_place_53 hl (by decide) rfl (fun ls hl => ?_)
            refine lv_iconst (v := 0) hx hb dX6_place_55 (by decide) ?_
            refine lv_istore (lv' := [(7, .int 0), (6, .int 0), (5, .int 0), (4, .int (-1)), (3, .int (s1.1 0)), (0, .ref (a0 0)), (1, .int x1), (2, .int x2)]) hx hb dX6_place_56 hl (by decide) rfl (fun ls hl => ?_)
            have lp58 : ∀ (e153 : Int32 → Int32 → Int32 → Int32 → Int32 → Int32 → Int32 → Prop) (k153 : ∀ (z1 : Int32) (z2 : Int32) (z3 : Int32) (z4 : Int32) (z5 : Int32) (z6 : Int32) (z7 : Int32) (ls : Array Slot), e153 z1 z2 z3 z4 z5 z6 z7 → lv_has ls 10 [(1, .int z1), (2, .int z2), (3, .int z3), (4, .int z4), (5, .int z5), (6, .int z6), (7, .int z7), (0, .ref (a0 0))] → W p l e ({ frames := 3, cells := 0, slots := 0, locals := 83 } : Room) s m [.ref (a0 0), .int x1, .int x2].toArray below meth c s.heap [] 0 0 (MQ below (vp_Si post) [.ref (a0 0), .int x1, .int x2].toArray s 0 0 (fun _ => False)) (F0 m 153 ls [])) (n : Nat) (z1 : Int32) (z2 : Int32) (z3 : Int32) (z4 : Int32) (z5 : Int32) (z6 : Int32) (z7 : Int32) (ls : Array Slot), wp_X6_place_L58 s1 s2 post e153 n z1 z2 z3 z4 z5 z6 z7 → lv_has ls 10 [(1, .int z1), (2, .int z2), (3, .int z3), (4, .int z4), (5, .int z5), (6, .int z6), (7, .int z7), (0, .ref (a0 0))] → W p l e ({ frames := 3, cells := 0, slots := 0, locals := 83 } : Room) s m [.ref (a0 0), .int x1, .int x2].toArray below meth c s.heap [] 0 0 (MQ below (vp_Si post) [.ref (a0 0), .int x1, .int x2].toArray s 0 0 (fun _ => False)) (F0 m 58 ls []) := by
              intro e153 k153 n
              induction n with
              | zero =>
                intro z1 z2 z3 z4 z5 z6 z7 ls h
                exact h.elim
              | succ n ih =>
                intro z1 z2 z3 z4 z5 z6 z7 ls h hl
                unfold wp_X6_place_L58 at h
                refine lv_iload hx hb dX6_place_58 (lv_at hl 6 rfl) ?_
                refine lv_iload_n hx hb dX6_place_60 rfl (lv_at hl 2 rfl) ?_
                refine lv_iadd hx hb dX6_place_61 ?_
                refine lv_aload_n hx hb dX6_place_62 rfl (lv_at hl 7 rfl) ?_
                refine fl_get (C := RX6) (T := TX6) (N := 7) (ci := 5) (v := .ref (a2 0)) hx hb ht in_X6 hown hK hP 0 rfl rfl 1 (by decide) mw_356 rfl dX6_place_63 ?_
                refine fl_get (C := RX0) (T := TX0) (N := 18) (ci := 0) (v := .int (s2.1 1)) hx hb ht in_X0 hown hK hP 3 rfl rfl 1 (by decide) mw_174 rfl dX6_place_66 ?_
                refine lv_icmp_gt (tgt := 153) hx hb dX6_place_69 (by decide) (fun c_10 => ?_) (fun c_10 => ?_)
                · replace h := h.1 c_10
                  exact k153 _ _ _ _ _ _ _ ls h (lv_sub hl [0, 1, 2, 3, 4, 5, 6, 7] rfl)
                · replace h := h.2 c_10
                  refine lv_aload_n hx hb dX6_place_72 rfl (lv_at hl 7 rfl) ?_
                  refine fl_get (C := RX6) (T := TX6) (N := 7) (ci := 5) (v := .ref (a2 0)) hx hb ht in_X6 hown hK hP 0 rfl rfl 1 (by decide) mw_356 rfl dX6_place_73 ?_
                  refine lv_iload_n hx hb dX6_place_76 rfl (lv_at hl 0 rfl) ?_
                  refine lv_iload hx hb dX6_place_77 (lv_at hl 6 rfl) ?_
                  refine lv_aload_n hx hb dX6_place_79 rfl (lv_at hl 7 rfl) ?_
                  refine fl_get (C := RX6) (T := TX6) (N := 7) (ci := 5) (v := .ref (a1 0)) hx hb ht in_X6 hown hK hP 0 rfl rfl 0 (by decide) mw_355 rfl dX6_place_80 ?_
                  refine lv_iconst (v := 0) hx hb dX6_place_83 (by decide) ?_
                  refine lv_iload_n hx hb dX6_place_84 rfl (lv_at hl 2 rfl) ?_
                  refine vp_callSi (rd_wV (wc := bd_w a2 q s2 ++ tp_w a1 q s1) (As := [.int z1, .int z7, .ref (a1 0), .int 0, .int z3]) (rest := []) hx hb hml hown ht (c2_X0_costOf h) wd_X0_costOf mw_1009 hQ hV va_S.rf (hP.sub [3, 4, 5, 6, 7, 8, 9, 10, 11, 12, 13, 14, 15, 1, 2] rfl) rfl rfl rfl hl.1 rfl (Nat.le_of_ble_eq_true rfl) dX6_place_85 ⟨Nat.le_of_ble_eq_true rfl, Nat.le_of_ble_eq_true rfl, rfl, rfl⟩ ⟨Nat.le_of_ble_eq_true rfl, Nat.le_of_ble_eq_true rfl⟩) (fun r_11 h => ?_)
                  try dsimp only at h
                  refine lv_istore (lv' := [(8, .int r_11), (1, .int z1), (2, .int z2), (3, .int z3), (4, .int z4), (5, .int z5), (6, .int z6), (7, .int z7), (0, .ref (a0 0))]) hx hb dX6_place_88 hl (by decide) rfl (fun ls hl => ?_)
                  refine lv_aload_n hx hb dX6_place_90 rfl (lv_at hl 8 rfl) ?_
                  refine fl_get (C := RX6) (T := TX6) (N := 7) (ci := 5) (v := .ref (a2 0)) hx hb ht in_X6 hown hK hP 0 rfl rfl 1 (by decide) mw_356 rfl dX6_place_91 ?_
                  refine lv_iload_n hx hb dX6_place_94 rfl (lv_at hl 1 rfl) ?_
                  refine lv_iload hx hb dX6_place_95 (lv_at hl 7 rfl) ?_
                  refine lv_aload_n hx hb dX6_place_97 rfl (lv_at hl 8 rfl) ?_
                  refine fl_get (C := RX6) (T := TX6) (N := 7) (ci := 5) (v := .ref (a1 0)) hx hb ht in_X6 hown hK hP 0 rfl rfl 0 (by decide) mw_355 rfl dX6_place_98 ?_
                  refine lv_iconst (v := 0) hx hb dX6_place_101 (by decide) ?_
                  refine lv_iload_n hx hb dX6_place_102 rfl (lv_at hl 3 rfl) ?_
                  refine vp_callSi (rd_wV (wc := bd_w a2 q s2 ++ tp_w a1 q s1) (As := [.int z1, .int z7, .ref (a1 0), .int 0, .int z3]) (rest := []) hx hb hml hown ht (c2_X0_missesOf h) wd_X0_missesOf mw_1024 hQ hV va_S.rf (hP.sub [3, 4, 5, 6, 7, 8, 9, 10, 11, 12, 13, 14, 15, 1, 2] rfl) rfl rfl rfl hl.1 rfl (Nat.le_of_ble_eq_true rfl) dX6_place_103 ⟨Nat.le_of_ble_eq_true rfl, Nat.le_of_ble_eq_true rfl, rfl, rfl⟩ ⟨Nat.le_of_ble_eq_true rfl, Nat.le_of_ble_eq_true rfl⟩) (fun r_13 h => ?_)
                  try dsimp only at h
                  refine lv_istore (lv' := [(9, .int r_13), (8, .int r_11), (1, .int z1), (2, .int z2), (3, .int z3), (4, .int z4), (5, .int z5), (6, .int z6), (7, .int z7), (0, .ref (a0 0))]) hx hb dX6_place_106 hl (by decide) rfl (fun ls hl => ?_)
                  refine lv_iload hx hb dX6_place_108 (lv_at hl 5 rfl) ?_
                  refine lv_iconst (v := (-1)) hx hb dX6_place_110 (by decide) ?_
                  refine lv_icmp_eq (tgt := 135) hx hb dX6_place_111 (by decide) (fun c_15 => ?_) (fun c_15 => ?_)
                  · replace h := h.1 c_15
                    refine lv_iload hx hb dX6_place_135 (lv_at hl 8 rfl) ?_
                    refine lv_istore (lv' := [(4, .int z7), (9, .int r_13), (8, .int r_11), (1, .int z1), (2, .int z2), (3, .int z3), (5, .int z5), (6, .int z6), (7, .int z7), (0, .ref (a0 0))]) hx hb dX6_place_137 hl (by decide) rfl (fun ls hl => ?_)
                    refine lv_iload hx hb dX6_place_139 (lv_at hl 2 rfl) ?_
                    refine lv_istore (lv' := [(5, .int r_11), (4, .int z7), (9, .int r_13), (8, .int r_11), (1, .int z1), (2, .int z2), (3, .int z3), (6, .int z6), (7, .int z7), (0, .ref (a0 0))]) hx hb dX6_place_141 hl (by decide) rfl (fun ls hl => ?_)
                    refine lv_iload hx hb dX6_place_143 (lv_at hl 2 rfl) ?_
                    refine lv_istore (lv' := [(6, .int r_13), (5, .int r_11), (4, .int z7), (9, .int r_13), (8, .int r_11), (1, .int z1), (2, .int z2), (3, .int z3), (7, .int z7), (0, .ref (a0 0))]) hx hb dX6_place_145 hl (by decide) rfl (fun ls hl => ?_)
                    refine lv_iinc (v := (z7 + 1)) (lv' := [(7, .int (z7 + 1)), (6, .int r_13), (5, .int r_11), (4, .int z7), (9, .int r_13), (8, .int r_11), (1, .int z1), (2, .int z2), (3, .int z3), (0, .ref (a0 0))]) hx hb dX6_place_147 hl (k := 8) rfl rfl (by decide) rfl (fun ls hl => ?_)
                    refine lv_goto (tgt := 58) hx hb dX6_place_150 (by decide) ?_
                    exact ih _ _ _ _ _ _ _ ls h (lv_sub hl [6, 7, 8, 3, 2, 1, 0, 9] rfl)
                  · replace h := h.2 c_15
                    refine lv_iload hx hb dX6_place_114 (lv_at hl 0 rfl) ?_
                    refine lv_iload hx hb dX6_place_116 (lv_at hl 7 rfl) ?_
                    refine lv_icmp_lt (tgt := 135) hx hb dX6_place_118 (by decide) (fun c_16 => ?_) (fun c_16 => ?_)
                    · replace h := h.1 c_16
                      refine lv_iload hx hb dX6_place_135 (lv_at hl 8 rfl) ?_
                      refine lv_istore (lv' := [(4, .int z7), (9, .int r_13), (8, .int r_11), (1, .int z1), (2, .int z2), (3, .int z3), (5, .int z5), (6, .int z6), (7, .int z7), (0, .ref (a0 0))]) hx hb dX6_place_137 hl (by decide) rfl (fun ls hl => ?_)
                      refine lv_iload hx hb dX6_place_139 (lv_at hl 2 rfl) ?_
                      refine lv_istore (lv' := [(5, .int r_11), (4, .int z7), (9, .int r_13), (8, .int r_11), (1, .int z1), (2, .int z2), (3, .int z3), (6, .int z6), (7, .int z7), (0, .ref (a0 0))]) hx hb dX6_place_141 hl (by decide) rfl (fun ls hl => ?_)
                      refine lv_iload hx hb dX6_place_143 (lv_at hl 2 rfl) ?_
                      refine lv_istore (lv' := [(6, .int r_13), (5, .int r_11), (4, .int z7), (9, .int r_13), (8, .int r_11), (1, .int z1), (2, .int z2), (3, .int z3), (7, .int z7), (0, .ref (a0 0))]) hx hb dX6_place_145 hl (by decide) rfl (fun ls hl => ?_)
                      refine lv_iinc (v := (z7 + 1)) (lv' := [(7, .int (z7 + 1)), (6, .int r_13), (5, .int r_11), (4, .int z7), (9, .int r_13), (8, .int r_11), (1, .int z1), (2, .int z2), (3, .int z3), (0, .ref (a0 0))]) hx hb dX6_place_147 hl (k := 8) rfl rfl (by decide) rfl (fun ls hl => ?_)
                      refine lv_goto (tgt := 58) hx hb dX6_place_150 (by decide) ?_
                      exact ih _ _ _ _ _ _ _ ls h (lv_sub hl [6, 7, 8, 3, 2, 1, 0, 9] rfl)
                    · replace h := h.2 c_16
                      refine lv_iload hx hb dX6_place_121 (lv_at hl 0 rfl) ?_
                      refine lv_iload hx hb dX6_place_123 (lv_at hl 7 rfl) ?_
                      refine lv_icmp_ne (tgt := 147) hx hb dX6_place_125 (by decide) (fun c_17 => ?_) (fun c_17 => ?_)
                      · replace h := h.1 c_17
                        refine lv_iinc (v := (z7 + 1)) (lv' := [(7, .int (z7 + 1)), (9, .int r_13), (8, .int r_11), (1, .int z1), (2, .int z2), (3, .int z3), (4, .int z4), (5, .int z5), (6, .int z6), (0, .ref (a0 0))]) hx hb dX6_place_147 hl (k := 8) rfl rfl (by decide) rfl (fun ls hl => ?_)
                        refine lv_goto (tgt := 58) hx hb dX6_place_150 (by decide) ?_
                        exact ih _ _ _ _ _ _ _ ls h (lv_sub hl [3, 4, 5, 6, 7, 8, 0, 9] rfl)
                      · replace h := h.2 c_17
                        refine lv_iload hx hb dX6_place_128 (lv_at hl 1 rfl) ?_
                        refine lv_iload hx hb dX6_place_130 (lv_at hl 6 rfl) ?_
                        refine lv_icmp_ge (tgt := 147) hx hb dX6_place_132 (by decide) (fun c_18 => ?_) (fun c_18 => ?_)
                        · replace h := h.1 c_18
                          refine lv_iinc (v := (z7 + 1)) (lv' := [(7, .int (z7 + 1)), (9, .int r_13), (8, .int r_11), (1, .int z1), (2, .int z2), (3, .int z3), (4, .int z4), (5, .int z5), (6, .int z6), (0, .ref (a0 0))]) hx hb dX6_place_147 hl (k := 8) rfl rfl (by decide) rfl (fun ls hl => ?_)
                          refine lv_goto (tgt := 58) hx hb dX6_place_150 (by decide) ?_
                          exact ih _ _ _ _ _ _ _ ls h (lv_sub hl [3, 4, 5, 6, 7, 8, 0, 9] rfl)
                        · replace h := h.2 c_18
                          refine lv_iload hx hb dX6_place_135 (lv_at hl 8 rfl) ?_
                          refine lv_istore (lv' := [(4, .int z7), (9, .int r_13), (8, .int r_11), (1, .int z1), (2, .int z2), (3, .int z3), (5, .int z5), (6, .int z6), (7, .int z7), (0, .ref (a0 0))]) hx hb dX6_place_137 hl (by decide) rfl (fun ls hl => ?_)
                          refine lv_iload hx hb dX6_place_139 (lv_at hl 2 rfl) ?_
                          refine lv_istore (lv' := [(5, .int r_11), (4, .int z7), (9, .int r_13), (8, .int r_11), (1, .int z1), (2, .int z2), (3, .int z3), (6, .int z6), (7, .int z7), (0, .ref (a0 0))]) hx hb dX6_place_141 hl (by decide) rfl (fun ls hl => ?_)
                          refine lv_iload hx hb dX6_place_143 (lv_at hl 2 rfl) ?_
                          refine lv_istore (lv' := [(6, .int r_13), (5, .int r_11), (4, .int z7), (9, .int r_13), (8, .int r_11), (1, .int z1), (2, .int z2), (3, .int z3), (7, .int z7), (0, .ref (a0 0))]) hx hb dX6_place_145 hl (by decide) rfl (fun ls hl => ?_)
                          refine lv_iinc (v := (z7 + 1)) (lv' := [(7, .int (z7 + 1)), (6, .int r_13), (5, .int r_11), (4, .int z7), (9, .int r_13), (8, .int r_11), (1, .int z1), (2, .int z2), (3, .int z3), (0, .ref (a0 0))]) hx hb dX6_place_147 hl (k := 8) rfl rfl (by decide) rfl (fun ls hl => ?_)
                          refine lv_goto (tgt := 58) hx hb dX6_place_150 (by decide) ?_
                          exact ih _ _ _ _ _ _ _ ls h (lv_sub hl [6, 7, 8, 3, 2, 1, 0, 9] rfl)
            obtain ⟨n58, h⟩ := h
            refine lp58 _ ?_ n58 _ _ _ _ _ _ _ ls h (lv_sub hl [6, 7, 4, 3, 2, 1, 0, 5] rfl)
            · intro z1 z2 z3 z4 z5 z6 z7 ls h hl
              try dsimp only at h
              refine lv_iload_n hx hb dX6_place_153 rfl (lv_at hl 1 rfl) ?_
              refine lv_if_ne (tgt := 162) hx hb dX6_place_154 (by decide) (fun c_19 => ?_) (fun c_19 => ?_)
              · replace h := h.1 c_19
                refine lv_iload hx hb dX6_place_162 (lv_at hl 4 rfl) ?_
                exact rd_iret hx hb hr hk h dX6_place_164
              · replace h := h.2 c_19
                refine lv_iload hx hb dX6_place_157 (lv_at hl 3 rfl) ?_
                refine lv_goto (tgt := 164) hx hb dX6_place_159 (by decide) ?_
                exact rd_iret hx hb hr hk h dX6_place_164
          · replace h := h.2 c_9
            refine lv_bipush (v := (-2)) hx hb dX6_place_43 (by decide) ?_
            exact rd_iret hx hb hr hk h dX6_place_45
      · replace h := h.2 c_5
        refine lv_iconst (v := (-1)) hx hb dX6_place_20 (by decide) ?_
        exact rd_iret hx hb hr hk h dX6_place_21

def wp_X6_log (post : Int32 → Prop) (s2 : Bd) (x1 : Int32) (x2 : Int32) : Prop := wp_X0_hasDrum (fun r_1 => ((¬ r_1 = 0 → ((x2 = 0 → wp_X0_journey (fun r_5 => post r_5) s2 x1) ∧ (¬ x2 = 0 → ((x2 = 1 → wp_X0_logSize (fun r_8 => post r_8) s2 x1) ∧ (¬ x2 = 1 → ((x2 = 2 → wp_X0_unlikeEntries (fun r_11 => post r_11) s2 x1) ∧ (¬ x2 = 2 → post (-1)))))))) ∧ (r_1 = 0 → post (-1)))) s2 x1
set_option maxHeartbeats 4000000 in
set_option maxRecDepth 100000 in
theorem c2_X6_log {l : Launch} {D : va_G} {q : Nat → ClassId} {a0 a1 a2 a3 a4 a5 : Nat → Nat} {p8 s8 : Nat} {s2 : Bd} {x1 : Int32} {x2 : Int32} {post : Int32 → Prop} (h : wp_X6_log post s2 x1 x2) : Met l yX6_log (Cond.code yX6_log cX6_log 3 (some .int) :: w_all) ({ frames := 3, cells := 0, slots := 0, locals := 75 } : Room) (rd_P D q [.ref (a0 0), .int x1, .int x2] (fo_w (a0 0) (a1 0) (a2 0) (a3 0) (a4 0) (a5 0) p8 s8 ++ bd_w a2 q s2)) (vp_Si post) 0 0 (fun _ => False) := by
  refine rd_start (by decide) (Nat.le_of_ble_eq_true rfl) ?_
  intro p e s m below meth c ls hx hb hr hml hown ht hk hP hQ hV hl
  have hK := hQ.1
  have hown : s.vm.findClass RX6 = some m.cls := hown
  have hl : lv_has ls 3 [(0, .ref (a0 0)), (1, .int x1), (2, .int x2)] := hl
  have hP : va_P D vwCl [((a0 0), .inr (5, [.ref (a1 0), .ref (a2 0), .ref (a3 0), .ref (a4 0), .ref (a5 0), .ref p8, .ref s8])), ((a2 0), .inr (0, [.int (s2.1 0), .int (s2.1 1), .int (s2.1 2), .int (s2.1 3), .int (s2.1 4), .int (s2.1 5), .ref (a2 1), .ref (a2 2), .ref (a2 3), .ref (a2 4), .ref (a2 5), .ref (a2 6), .ref (a2 7), .ref (a2 8), .ref (a2 9), .ref (a2 10), .ref (a2 11), .ref (a2 12)])), ((a2 1), .inl (q 0, 4, .inl (s2.2.1 0))), ((a2 2), .inl (q 0, 4, .inl (s2.2.1 1))), ((a2 3), .inl (q 0, 160, .inl (s2.2.1 2))), ((a2 4), .inl (q 0, 40, .inl (s2.2.1 3))), ((a2 5), .inl (q 0, 40, .inl (s2.2.1 4))), ((a2 6), .inl (q 0, 40, .inl (s2.2.1 5))), ((a2 7), .inl (q 0, 40, .inl (s2.2.1 6))), ((a2 8), .inl (q 0, 40, .inl (s2.2.1 7))), ((a2 9), .inl (q 0, 40, .inl (s2.2.1 8))), ((a2 10), .inl (q 0, 40, .inl (s2.2.1 9))), ((a2 11), .inl (q 1, 40, .inr (.inl s2.2.2.1))), ((a2 12), .inl (q 0, s2.2.2.2.1, .inl s2.2.2.2.2))] s.heap := hP
  unfold wp_X6_log at h
  refine lv_aload_n hx hb dX6_log_0 rfl (lv_at hl 0 rfl) ?_
  refine fl_get (C := RX6) (T := TX6) (N := 7) (ci := 5) (v := .ref (a2 0)) hx hb ht in_X6 hown hK hP 0 rfl rfl 1 (by decide) mw_356 rfl dX6_log_1 ?_
  refine lv_iload_n hx hb dX6_log_4 rfl (lv_at hl 1 rfl) ?_
  refine vp_callSi (rd_wV (wc := bd_w a2 q s2) (As := [.int x1]) (rest := []) hx hb hml hown ht (c2_X0_hasDrum h) wd_X0_hasDrum mw_904 hQ hV va_S.rf (hP.sub [1, 2, 3, 4, 5, 6, 7, 8, 9, 10, 11, 12, 13] rfl) rfl rfl rfl hl.1 rfl (Nat.le_of_ble_eq_true rfl) dX6_log_5 ⟨Nat.le_of_ble_eq_true rfl, Nat.le_of_ble_eq_true rfl, rfl, rfl⟩ ⟨Nat.le_of_ble_eq_true rfl, Nat.le_of_ble_eq_true rfl⟩) (fun r_1 h => ?_)
  try dsimp only at h
  refine lv_if_ne (tgt := 13) hx hb dX6_log_8 (by decide) (fun c_3 => ?_) (fun c_3 => ?_)
  · replace h := h.1 c_3
    refine lv_iload_n hx hb dX6_log_13 rfl (lv_at hl 2 rfl) ?_
    by_cases k_4 : x2 = 0
    · replace h := h.1 k_4
      refine lv_tableIn (tgt := 40) hx hb dX6_log_14 (by rw [k_4]; decide) (by rw [k_4]; decide) (by rw [k_4]; rfl) (by decide) ?_
      refine lv_aload_n hx hb dX6_log_40 rfl (lv_at hl 0 rfl) ?_
      refine fl_get (C := RX6) (T := TX6) (N := 7) (ci := 5) (v := .ref (a2 0)) hx hb ht in_X6 hown hK hP 0 rfl rfl 1 (by decide) mw_356 rfl dX6_log_41 ?_
      refine lv_iload_n hx hb dX6_log_44 rfl (lv_at hl 1 rfl) ?_
      refine vp_callSi (rd_wV (wc := bd_w a2 q s2) (As := [.int x1]) (rest := []) hx hb hml hown ht (c2_X0_journey h) wd_X0_journey mw_1036 hQ hV va_S.rf (hP.sub [1, 2, 3, 4, 5, 6, 7, 8, 9, 10, 11, 12, 13] rfl) rfl rfl rfl hl.1 rfl (Nat.le_of_ble_eq_true rfl) dX6_log_45 ⟨Nat.le_of_ble_eq_true rfl, Nat.le_of_ble_eq_true rfl, rfl, rfl⟩ ⟨Nat.le_of_ble_eq_true rfl, Nat.le_of_ble_eq_true rfl⟩) (fun r_5 h => ?_)
      try dsimp only at h
      exact rd_iret hx hb hr hk h dX6_log_48
    replace h := h.2 k_4
    by_cases k_7 : x2 = 1
    · replace h := h.1 k_7
      refine lv_tableIn (tgt := 49) hx hb dX6_log_14 (by rw [k_7]; decide) (by rw [k_7]; decide) (by rw [k_7]; rfl) (by decide) ?_
      refine lv_aload_n hx hb dX6_log_49 rfl (lv_at hl 0 rfl) ?_
      refine fl_get (C := RX6) (T := TX6) (N := 7) (ci := 5) (v := .ref (a2 0)) hx hb ht in_X6 hown hK hP 0 rfl rfl 1 (by decide) mw_356 rfl dX6_log_50 ?_
      refine lv_iload_n hx hb dX6_log_53 rfl (lv_at hl 1 rfl) ?_
      refine vp_callSi (rd_wV (wc := bd_w a2 q s2) (As := [.int x1]) (rest := []) hx hb hml hown ht (c2_X0_logSize h) wd_X0_logSize mw_1044 hQ hV va_S.rf (hP.sub [1, 2, 3, 4, 5, 6, 7, 8, 9, 10, 11, 12, 13] rfl) rfl rfl rfl hl.1 rfl (Nat.le_of_ble_eq_true rfl) dX6_log_54 ⟨Nat.le_of_ble_eq_true rfl, Nat.le_of_ble_eq_true rfl, rfl, rfl⟩ ⟨Nat.le_of_ble_eq_true rfl, Nat.le_of_ble_eq_true rfl⟩) (fun r_8 h => ?_)
      try dsimp only at h
      exact rd_iret hx hb hr hk h dX6_log_57
    replace h := h.2 k_7
    by_cases k_10 : x2 = 2
    · replace h := h.1 k_10
      refine lv_tableIn (tgt := 58) hx hb dX6_log_14 (by rw [k_10]; decide) (by rw [k_10]; decide) (by rw [k_10]; rfl) (by decide) ?_
      refine lv_aload_n hx hb dX6_log_58 rfl (lv_at hl 0 rfl) ?_
      refine fl_get (C := RX6) (T := TX6) (N := 7) (ci := 5) (v := .ref (a2 0)) hx hb ht in_X6 hown hK hP 0 rfl rfl 1 (by decide) mw_356 rfl dX6_log_59 ?_
      refine lv_iload_n hx hb dX6_log_62 rfl (lv_at hl 1 rfl) ?_
      refine vp_callSi (rd_wV (wc := bd_w a2 q s2) (As := [.int x1]) (rest := []) hx hb hml hown ht (c2_X0_unlikeEntries h) wd_X0_unlikeEntries mw_1052 hQ hV va_S.rf (hP.sub [1, 2, 3, 4, 5, 6, 7, 8, 9, 10, 11, 12, 13] rfl) rfl rfl rfl hl.1 rfl (Nat.le_of_ble_eq_true rfl) dX6_log_63 ⟨Nat.le_of_ble_eq_true rfl, Nat.le_of_ble_eq_true rfl, rfl, rfl⟩ ⟨Nat.le_of_ble_eq_true rfl, Nat.le_of_ble_eq_true rfl⟩) (fun r_11 h => ?_)
      try dsimp only at h
      exact rd_iret hx hb hr hk h dX6_log_66
    replace h := h.2 k_10
    refine lv_tableOut (tgt := 67) hx hb dX6_log_14 (by have g0 := k_4; have g1 := k_7; have g2 := k_10; (try simp only [lg_cmp_ge, lg_cmp_le, lg_cmp_gt, lg_cmp_lt, lg_cmp_eq] at g0 g1 g2); (try simp only [Int32.lt_iff_toInt_lt, Int32.le_iff_toInt_le, ← Int32.toInt_inj, Int32.reduceToInt, Int64.lt_iff_toInt_lt, Int64.le_iff_toInt_le, ← Int64.toInt_inj, Int64.reduceToInt, Int32.toInt_toInt64] at g0 g1 g2); omega) (by decide) ?_
    refine lv_iconst (v := (-1)) hx hb dX6_log_67 (by decide) ?_
    exact rd_iret hx hb hr hk h dX6_log_68
  · replace h := h.2 c_3
    refine lv_iconst (v := (-1)) hx hb dX6_log_11 (by decide) ?_
    exact rd_iret hx hb hr hk h dX6_log_12

def wp_X6_often (post : Int32 → Prop) (s2 : Bd) (x1 : Int32) (x2 : Int32) (x3 : Int32) : Prop := wp_X0_hasDrum (fun r_1 => ((r_1 = 0 → post (-1)) ∧ (¬ r_1 = 0 → ((x2 < 0 → post (-1)) ∧ (¬ x2 < 0 → wp_X0_flapsOn (fun r_5 => ((x2 < r_5 → wp_X0_entriesOf (fun r_8 => post r_8) s2 x1 x2 x3) ∧ (¬ x2 < r_5 → post (-1)))) s2 x1))))) s2 x1
set_option maxHeartbeats 4000000 in
set_option maxRecDepth 100000 in
theorem c2_X6_often {l : Launch} {D : va_G} {q : Nat → ClassId} {a0 a1 a2 a3 a4 a5 : Nat → Nat} {p8 s8 : Nat} {s2 : Bd} {x1 : Int32} {x2 : Int32} {x3 : Int32} {post : Int32 → Prop} (h : wp_X6_often post s2 x1 x2 x3) : Met l yX6_often (Cond.code yX6_often cX6_often 4 (some .int) :: w_all) ({ frames := 2, cells := 0, slots := 0, locals := 52 } : Room) (rd_P D q [.ref (a0 0), .int x1, .int x2, .int x3] (fo_w (a0 0) (a1 0) (a2 0) (a3 0) (a4 0) (a5 0) p8 s8 ++ bd_w a2 q s2)) (vp_Si post) 0 0 (fun _ => False) := by
  refine rd_start (by decide) (Nat.le_of_ble_eq_true rfl) ?_
  intro p e s m below meth c ls hx hb hr hml hown ht hk hP hQ hV hl
  have hK := hQ.1
  have hown : s.vm.findClass RX6 = some m.cls := hown
  have hl : lv_has ls 4 [(0, .ref (a0 0)), (1, .int x1), (2, .int x2), (3, .int x3)] := hl
  have hP : va_P D vwCl [((a0 0), .inr (5, [.ref (a1 0), .ref (a2 0), .ref (a3 0), .ref (a4 0), .ref (a5 0), .ref p8, .ref s8])), ((a2 0), .inr (0, [.int (s2.1 0), .int (s2.1 1), .int (s2.1 2), .int (s2.1 3), .int (s2.1 4), .int (s2.1 5), .ref (a2 1), .ref (a2 2), .ref (a2 3), .ref (a2 4), .ref (a2 5), .ref (a2 6), .ref (a2 7), .ref (a2 8), .ref (a2 9), .ref (a2 10), .ref (a2 11), .ref (a2 12)])), ((a2 1), .inl (q 0, 4, .inl (s2.2.1 0))), ((a2 2), .inl (q 0, 4, .inl (s2.2.1 1))), ((a2 3), .inl (q 0, 160, .inl (s2.2.1 2))), ((a2 4), .inl (q 0, 40, .inl (s2.2.1 3))), ((a2 5), .inl (q 0, 40, .inl (s2.2.1 4))), ((a2 6), .inl (q 0, 40, .inl (s2.2.1 5))), ((a2 7), .inl (q 0, 40, .inl (s2.2.1 6))), ((a2 8), .inl (q 0, 40, .inl (s2.2.1 7))), ((a2 9), .inl (q 0, 40, .inl (s2.2.1 8))), ((a2 10), .inl (q 0, 40, .inl (s2.2.1 9))), ((a2 11), .inl (q 1, 40, .inr (.inl s2.2.2.1))), ((a2 12), .inl (q 0, s2.2.2.2.1, .inl s2.2.2.2.2))] s.heap := hP
  unfold wp_X6_often at h
  refine lv_aload_n hx hb dX6_often_0 rfl (lv_at hl 0 rfl) ?_
  refine fl_get (C := RX6) (T := TX6) (N := 7) (ci := 5) (v := .ref (a2 0)) hx hb ht in_X6 hown hK hP 0 rfl rfl 1 (by decide) mw_356 rfl dX6_often_1 ?_
  refine lv_iload_n hx hb dX6_often_4 rfl (lv_at hl 1 rfl) ?_
  refine vp_callSi (rd_wV (wc := bd_w a2 q s2) (As := [.int x1]) (rest := []) hx hb hml hown ht (c2_X0_hasDrum h) wd_X0_hasDrum mw_904 hQ hV va_S.rf (hP.sub [1, 2, 3, 4, 5, 6, 7, 8, 9, 10, 11, 12, 13] rfl) rfl rfl rfl hl.1 rfl (Nat.le_of_ble_eq_true rfl) dX6_often_5 ⟨Nat.le_of_ble_eq_true rfl, Nat.le_of_ble_eq_true rfl, rfl, rfl⟩ ⟨Nat.le_of_ble_eq_true rfl, Nat.le_of_ble_eq_true rfl⟩) (fun r_1 h => ?_)
  try dsimp only at h
  refine lv_if_eq (tgt := 27) hx hb dX6_often_8 (by decide) (fun c_3 => ?_) (fun c_3 => ?_)
  · replace h := h.1 c_3
    refine lv_iconst (v := (-1)) hx hb dX6_often_27 (by decide) ?_
    exact rd_iret hx hb hr hk h dX6_often_28
  · replace h := h.2 c_3
    refine lv_iload_n hx hb dX6_often_11 rfl (lv_at hl 2 rfl) ?_
    refine lv_if_lt (tgt := 27) hx hb dX6_often_12 (by decide) (fun c_4 => ?_) (fun c_4 => ?_)
    · replace h := h.1 c_4
      refine lv_iconst (v := (-1)) hx hb dX6_often_27 (by decide) ?_
      exact rd_iret hx hb hr hk h dX6_often_28
    · replace h := h.2 c_4
      refine lv_iload_n hx hb dX6_often_15 rfl (lv_at hl 2 rfl) ?_
      refine lv_aload_n hx hb dX6_often_16 rfl (lv_at hl 0 rfl) ?_
      refine fl_get (C := RX6) (T := TX6) (N := 7) (ci := 5) (v := .ref (a2 0)) hx hb ht in_X6 hown hK hP 0 rfl rfl 1 (by decide) mw_356 rfl dX6_often_17 ?_
      refine lv_iload_n hx hb dX6_often_20 rfl (lv_at hl 1 rfl) ?_
      refine vp_callSi (rd_wV (wc := bd_w a2 q s2) (As := [.int x1]) (rest := [.int x2]) hx hb hml hown ht (c2_X0_flapsOn h) wd_X0_flapsOn mw_908 hQ hV va_S.rf (hP.sub [1, 2, 3, 4, 5, 6, 7, 8, 9, 10, 11, 12, 13] rfl) rfl rfl rfl hl.1 rfl (Nat.le_of_ble_eq_true rfl) dX6_often_21 ⟨Nat.le_of_ble_eq_true rfl, Nat.le_of_ble_eq_true rfl, rfl, rfl⟩ ⟨Nat.le_of_ble_eq_true rfl, Nat.le_of_ble_eq_true rfl⟩) (fun r_5 h => ?_)
      try dsimp only at h
      refine lv_icmp_lt (tgt := 29) hx hb dX6_often_24 (by decide) (fun c_7 => ?_) (fun c_7 => ?_)
      · replace h := h.1 c_7
        refine lv_aload_n hx hb dX6_often_29 rfl (lv_at hl 0 rfl) ?_
        refine fl_get (C := RX6) (T := TX6) (N := 7) (ci := 5) (v := .ref (a2 0)) hx hb ht in_X6 hown hK hP 0 rfl rfl 1 (by decide) mw_356 rfl dX6_often_30 ?_
        refine lv_iload_n hx hb dX6_often_33 rfl (lv_at hl 1 rfl) ?_
        refine lv_iload_n hx hb dX6_often_34 rfl (lv_at hl 2 rfl) ?_
        refine lv_iload_n hx hb dX6_often_35 rfl (lv_at hl 3 rfl) ?_
        refine vp_callSi (rd_wV (wc := bd_w a2 q s2) (As := [.int x1, .int x2, .int x3]) (rest := []) hx hb hml hown ht (c2_X0_entriesOf h) wd_X0_entriesOf mw_1060 hQ hV va_S.rf (hP.sub [1, 2, 3, 4, 5, 6, 7, 8, 9, 10, 11, 12, 13] rfl) rfl rfl rfl hl.1 rfl (Nat.le_of_ble_eq_true rfl) dX6_often_36 ⟨Nat.le_of_ble_eq_true rfl, Nat.le_of_ble_eq_true rfl, rfl, rfl⟩ ⟨Nat.le_of_ble_eq_true rfl, Nat.le_of_ble_eq_true rfl⟩) (fun r_8 h => ?_)
        try dsimp only at h
        exact rd_iret hx hb hr hk h dX6_often_39
      · replace h := h.2 c_7
        refine lv_iconst (v := (-1)) hx hb dX6_often_27 (by decide) ?_
        exact rd_iret hx hb hr hk h dX6_often_28

def wp_X6_usual_L30 (s2 : Bd) (post : Int32 → Prop) (e76 : Int32 → Int32 → Int32 → Int32 → Int32 → Prop) : Nat → Int32 → Int32 → Int32 → Int32 → Int32 → Prop
  | 0, _, _, _, _, _ => False
  | n30 + 1, z1, z2, z3, z4, z5 => wp_X0_flapsOn (fun r_6 => ((r_6 ≤ z5 → e76 z1 z2 z3 z4 z5) ∧ (¬ r_6 ≤ z5 → wp_X0_entriesOf (fun r_9 => ((r_9 ≤ z4 → wp_X6_usual_L30 s2 post e76 n30 z1 z2 z3 z4 (z5 + 1)) ∧ (¬ r_9 ≤ z4 → wp_X6_usual_L30 s2 post e76 n30 z1 z2 z5 r_9 (z5 + 1)))) s2 z1 z5 (1 : Int32)))) s2 z1
def wp_X6_usual (post : Int32 → Prop) (s2 : Bd) (x1 : Int32) (x2 : Int32) : Prop := wp_X0_hasDrum (fun r_1 => ((r_1 = 0 → post (-1)) ∧ (¬ r_1 = 0 → ((x2 < 0 → post (-1)) ∧ (¬ x2 < 0 → ((x2 ≤ 1 → (∃ n30, wp_X6_usual_L30 s2 post (fun z1 z2 z3 z4 z5 => ((¬ z3 = (-1) → ((¬ z2 = 0 → post z4) ∧ (z2 = 0 → post z3))) ∧ (z3 = (-1) → post (-2)))) n30 x1 x2 (-1) 0 0)) ∧ (¬ x2 ≤ 1 → post (-1)))))))) s2 x1
set_option maxHeartbeats 4000000 in
set_option maxRecDepth 100000 in
theorem c2_X6_usual {l : Launch} {D : va_G} {q : Nat → ClassId} {a0 a1 a2 a3 a4 a5 : Nat → Nat} {p8 s8 : Nat} {s2 : Bd} {x1 : Int32} {x2 : Int32} {post : Int32 → Prop} (h : wp_X6_usual post s2 x1 x2) : Met l yX6_usual (Cond.code yX6_usual cX6_usual 7 (some .int) :: w_all) ({ frames := 2, cells := 0, slots := 0, locals := 52 } : Room) (rd_P D q [.ref (a0 0), .int x1, .int x2] (fo_w (a0 0) (a1 0) (a2 0) (a3 0) (a4 0) (a5 0) p8 s8 ++ bd_w a2 q s2)) (vp_Si post) 0 0 (fun _ => False) := by
  refine rd_start (by decide) (Nat.le_of_ble_eq_true rfl) ?_
  intro p e s m below meth c ls hx hb hr hml hown ht hk hP hQ hV hl
  have hK := hQ.1
  have hown : s.vm.findClass RX6 = some m.cls := hown
  have hl : lv_has ls 7 [(0, .ref (a0 0)), (1, .int x1), (2, .int x2)] := hl
  have hP : va_P D vwCl [((a0 0), .inr (5, [.ref (a1 0), .ref (a2 0), .ref (a3 0), .ref (a4 0), .ref (a5 0), .ref p8, .ref s8])), ((a2 0), .inr (0, [.int (s2.1 0), .int (s2.1 1), .int (s2.1 2), .int (s2.1 3), .int (s2.1 4), .int (s2.1 5), .ref (a2 1), .ref (a2 2), .ref (a2 3), .ref (a2 4), .ref (a2 5), .ref (a2 6), .ref (a2 7), .ref (a2 8), .ref (a2 9), .ref (a2 10), .ref (a2 11), .ref (a2 12)])), ((a2 1), .inl (q 0, 4, .inl (s2.2.1 0))), ((a2 2), .inl (q 0, 4, .inl (s2.2.1 1))), ((a2 3), .inl (q 0, 160, .inl (s2.2.1 2))), ((a2 4), .inl (q 0, 40, .inl (s2.2.1 3))), ((a2 5), .inl (q 0, 40, .inl (s2.2.1 4))), ((a2 6), .inl (q 0, 40, .inl (s2.2.1 5))), ((a2 7), .inl (q 0, 40, .inl (s2.2.1 6))), ((a2 8), .inl (q 0, 40, .inl (s2.2.1 7))), ((a2 9), .inl (q 0, 40, .inl (s2.2.1 8))), ((a2 10), .inl (q 0, 40, .inl (s2.2.1 9))), ((a2 11), .inl (q 1, 40, .inr (.inl s2.2.2.1))), ((a2 12), .inl (q 0, s2.2.2.2.1, .inl s2.2.2.2.2))] s.heap := hP
  unfold wp_X6_usual at h
  refine lv_aload_n hx hb dX6_usual_0 rfl (lv_at hl 0 rfl) ?_
  refine fl_get (C := RX6) (T := TX6) (N := 7) (ci := 5) (v := .ref (a2 0)) hx hb ht in_X6 hown hK hP 0 rfl rfl 1 (by decide) mw_356 rfl dX6_usual_1 ?_
  refine lv_iload_n hx hb dX6_usual_4 rfl (lv_at hl 1 rfl) ?_
  refine vp_callSi (rd_wV (wc := bd_w a2 q s2) (As := [.int x1]) (rest := []) hx hb hml hown ht (c2_X0_hasDrum h) wd_X0_hasDrum mw_904 hQ hV va_S.rf (hP.sub [1, 2, 3, 4, 5, 6, 7, 8, 9, 10, 11, 12, 13] rfl) rfl rfl rfl hl.1 rfl (Nat.le_of_ble_eq_true rfl) dX6_usual_5 ⟨Nat.le_of_ble_eq_true rfl, Nat.le_of_ble_eq_true rfl, rfl, rfl⟩ ⟨Nat.le_of_ble_eq_true rfl, Nat.le_of_ble_eq_true rfl⟩) (fun r_1 h => ?_)
  try dsimp only at h
  refine lv_if_eq (tgt := 20) hx hb dX6_usual_8 (by decide) (fun c_3 => ?_) (fun c_3 => ?_)
  · replace h := h.1 c_3
    refine lv_iconst (v := (-1)) hx hb dX6_usual_20 (by decide) ?_
    exact rd_iret hx hb hr hk h dX6_usual_21
  · replace h := h.2 c_3
    refine lv_iload_n hx hb dX6_usual_11 rfl (lv_at hl 2 rfl) ?_
    refine lv_if_lt (tgt := 20) hx hb dX6_usual_12 (by decide) (fun c_4 => ?_) (fun c_4 => ?_)
    · replace h := h.1 c_4
      refine lv_iconst (v := (-1)) hx hb dX6_usual_20 (by decide) ?_
      exact rd_iret hx hb hr hk h dX6_usual_21
    · replace h := h.2 c_4
      refine lv_iload_n hx hb dX6_usual_15 rfl (lv_at hl 2 rfl) ?_
      refine lv_iconst (v := 1) hx hb dX6_usual_16 (by decide) ?_
      refine lv_icmp_le (tgt := 22) hx hb dX6_usual_17 (by decide) (fun c_5 => ?_) (fun c_5 => ?_)
      · replace h := h.1 c_5
        refine lv_iconst (v := (-1)) hx hb dX6_usual_22 (by decide) ?_
        refine lv_istore_n (lv' := [(3, .int (-1)), (0, .ref (a0 0)), (1, .int x1), (2, .int x2)]) hx hb dX6_usual_23 rfl hl (by decide) rfl (fun ls hl => ?_)
        refine lv_iconst (v := 0) hx hb dX6_usual_24 (by decide) ?_
        refine lv_istore (lv' := [(4, .int 0), (3, .int (-1)), (0, .ref (a0 0)), (1, .int x1), (2, .int x2)]) hx hb dX6_usual_25 hl (by decide) rfl (fun ls hl => ?_)
        refine lv_iconst (v := 0) hx hb dX6_usual_27 (by decide) ?_
        refine lv_istore (lv' := [(5, .int 0), (4, .int 0), (3, .int (-1)), (0, .ref (a0 0)), (1, .int x1), (2, .int x2)]) hx hb dX6_usual_28 hl (by decide) rfl (fun ls hl => ?_)
        have lp30 : ∀ (e76 : Int32 → Int32 → Int32 → Int32 → Int32 → Prop) (k76 : ∀ (z1 : Int32) (z2 : Int32) (z3 : Int32) (z4 : Int32) (z5 : Int32) (ls : Array Slot), e76 z1 z2 z3 z4 z5 → lv_has ls 7 [(1, .int z1), (2, .int z2), (3, .int z3), (4, .int z4), (5, .int z5), (0, .ref (a0 0))] → W p l e ({ frames := 2, cells := 0, slots := 0, locals := 52 } : Room) s m [.ref (a0 0), .int x1, .int x2].toArray below meth c s.heap [] 0 0 (MQ below (vp_Si post) [.ref (a0 0), .int x1, .int x2].toArray s 0 0 (fun _ => False)) (F0 m 76 ls [])) (n : Nat) (z1 : Int32) (z2 : Int32) (z3 : Int32) (z4 : Int32) (z5 : Int32) (ls : Array Slot), wp_X6_usual_L30 s2 post e76 n z1 z2 z3 z4 z5 → lv_has ls 7 [(1, .int z1), (2, .int z2), (3, .int z3), (4, .int z4), (5, .int z5), (0, .ref (a0 0))] → W p l e ({ frames := 2, cells := 0, slots := 0, locals := 52 } : Room) s m [.ref (a0 0), .int x1, .int x2].toArray below meth c s.heap [] 0 0 (MQ below (vp_Si post) [.ref (a0 0), .int x1, .int x2].toArray s 0 0 (fun _ => False)) (F0 m 30 ls []) := by
          intro e76 k76 n
          induction n with
          | zero =>
            intro z1 z2 z3 z4 z5 ls h
            exact h.elim
          | succ n ih =>
            intro z1 z2 z3 z4 z5 ls h hl
            unfold wp_X6_usual_L30 at h
            refine lv_iload hx hb dX6_usual_30 (lv_at hl 4 rfl) ?_
            refine lv_aload_n hx hb dX6_usual_32 rfl (lv_at hl 5 rfl) ?_
            refine fl_get (C := RX6) (T := TX6) (N := 7) (ci := 5) (v := .ref (a2 0)) hx hb ht in_X6 hown hK hP 0 rfl rfl 1 (by decide) mw_356 rfl dX6_usual_33 ?_
            refine lv_iload_n hx hb dX6_usual_36 rfl (lv_at hl 0 rfl) ?_
            refine vp_callSi (rd_wV (wc := bd_w a2 q s2) (As := [.int z1]) (rest := [.int z5]) hx hb hml hown ht (c2_X0_flapsOn h) wd_X0_flapsOn mw_908 hQ hV va_S.rf (hP.sub [1, 2, 3, 4, 5, 6, 7, 8, 9, 10, 11, 12, 13] rfl) rfl rfl rfl hl.1 rfl (Nat.le_of_ble_eq_true rfl) dX6_usual_37 ⟨Nat.le_of_ble_eq_true rfl, Nat.le_of_ble_eq_true rfl, rfl, rfl⟩ ⟨Nat.le_of_ble_eq_true rfl, Nat.le_of_ble_eq_true rfl⟩) (fun r_6 h => ?_)
            try dsimp only at h
            refine lv_icmp_ge (tgt := 76) hx hb dX6_usual_40 (by decide) (fun c_8 => ?_) (fun c_8 => ?_)
            · replace h := h.1 c_8
              exact k76 _ _ _ _ _ ls h (lv_sub hl [0, 1, 2, 3, 4, 5] rfl)
            · replace h := h.2 c_8
              refine lv_aload_n hx hb dX6_usual_43 rfl (lv_at hl 5 rfl) ?_
              refine fl_get (C := RX6) (T := TX6) (N := 7) (ci := 5) (v := .ref (a2 0)) hx hb ht in_X6 hown hK hP 0 rfl rfl 1 (by decide) mw_356 rfl dX6_usual_44 ?_
              refine lv_iload_n hx hb dX6_usual_47 rfl (lv_at hl 0 rfl) ?_
              refine lv_iload hx hb dX6_usual_48 (lv_at hl 4 rfl) ?_
              refine lv_iconst (v := 1) hx hb dX6_usual_50 (by decide) ?_
              refine vp_callSi (rd_wV (wc := bd_w a2 q s2) (As := [.int z1, .int z5, .int 1]) (rest := []) hx hb hml hown ht (c2_X0_entriesOf h) wd_X0_entriesOf mw_1060 hQ hV va_S.rf (hP.sub [1, 2, 3, 4, 5, 6, 7, 8, 9, 10, 11, 12, 13] rfl) rfl rfl rfl hl.1 rfl (Nat.le_of_ble_eq_true rfl) dX6_usual_51 ⟨Nat.le_of_ble_eq_true rfl, Nat.le_of_ble_eq_true rfl, rfl, rfl⟩ ⟨Nat.le_of_ble_eq_true rfl, Nat.le_of_ble_eq_true rfl⟩) (fun r_9 h => ?_)
              try dsimp only at h
              refine lv_istore (lv' := [(6, .int r_9), (1, .int z1), (2, .int z2), (3, .int z3), (4, .int z4), (5, .int z5), (0, .ref (a0 0))]) hx hb dX6_usual_54 hl (by decide) rfl (fun ls hl => ?_)
              refine lv_iload hx hb dX6_usual_56 (lv_at hl 0 rfl) ?_
              refine lv_iload hx hb dX6_usual_58 (lv_at hl 4 rfl) ?_
              refine lv_icmp_le (tgt := 70) hx hb dX6_usual_60 (by decide) (fun c_11 => ?_) (fun c_11 => ?_)
              · replace h := h.1 c_11
                refine lv_iinc (v := (z5 + 1)) (lv' := [(5, .int (z5 + 1)), (6, .int r_9), (1, .int z1), (2, .int z2), (3, .int z3), (4, .int z4), (0, .ref (a0 0))]) hx hb dX6_usual_70 hl (k := 5) rfl rfl (by decide) rfl (fun ls hl => ?_)
                refine lv_goto (tgt := 30) hx hb dX6_usual_73 (by decide) ?_
                exact ih _ _ _ _ _ ls h (lv_sub hl [2, 3, 4, 5, 0, 6] rfl)
              · replace h := h.2 c_11
                refine lv_iload hx hb dX6_usual_63 (lv_at hl 5 rfl) ?_
                refine lv_istore_n (lv' := [(3, .int z5), (6, .int r_9), (1, .int z1), (2, .int z2), (4, .int z4), (5, .int z5), (0, .ref (a0 0))]) hx hb dX6_usual_65 rfl hl (by decide) rfl (fun ls hl => ?_)
                refine lv_iload hx hb dX6_usual_66 (lv_at hl 1 rfl) ?_
                refine lv_istore (lv' := [(4, .int r_9), (3, .int z5), (6, .int r_9), (1, .int z1), (2, .int z2), (5, .int z5), (0, .ref (a0 0))]) hx hb dX6_usual_68 hl (by decide) rfl (fun ls hl => ?_)
                refine lv_iinc (v := (z5 + 1)) (lv' := [(5, .int (z5 + 1)), (4, .int r_9), (3, .int z5), (6, .int r_9), (1, .int z1), (2, .int z2), (0, .ref (a0 0))]) hx hb dX6_usual_70 hl (k := 5) rfl rfl (by decide) rfl (fun ls hl => ?_)
                refine lv_goto (tgt := 30) hx hb dX6_usual_73 (by decide) ?_
                exact ih _ _ _ _ _ ls h (lv_sub hl [4, 5, 2, 1, 0, 6] rfl)
        obtain ⟨n30, h⟩ := h
        refine lp30 _ ?_ n30 _ _ _ _ _ ls h (lv_sub hl [4, 5, 2, 1, 0, 3] rfl)
        · intro z1 z2 z3 z4 z5 ls h hl
          try dsimp only at h
          refine lv_iload_n hx hb dX6_usual_76 rfl (lv_at hl 2 rfl) ?_
          refine lv_iconst (v := (-1)) hx hb dX6_usual_77 (by decide) ?_
          refine lv_icmp_ne (tgt := 84) hx hb dX6_usual_78 (by decide) (fun c_12 => ?_) (fun c_12 => ?_)
          · replace h := h.1 c_12
            refine lv_iload_n hx hb dX6_usual_84 rfl (lv_at hl 1 rfl) ?_
            refine lv_if_ne (tgt := 92) hx hb dX6_usual_85 (by decide) (fun c_13 => ?_) (fun c_13 => ?_)
            · replace h := h.1 c_13
              refine lv_iload hx hb dX6_usual_92 (lv_at hl 3 rfl) ?_
              exact rd_iret hx hb hr hk h dX6_usual_94
            · replace h := h.2 c_13
              refine lv_iload_n hx hb dX6_usual_88 rfl (lv_at hl 2 rfl) ?_
              refine lv_goto (tgt := 94) hx hb dX6_usual_89 (by decide) ?_
              exact rd_iret hx hb hr hk h dX6_usual_94
          · replace h := h.2 c_12
            refine lv_bipush (v := (-2)) hx hb dX6_usual_81 (by decide) ?_
            exact rd_iret hx hb hr hk h dX6_usual_83
      · replace h := h.2 c_5
        refine lv_iconst (v := (-1)) hx hb dX6_usual_20 (by decide) ?_
        exact rd_iret hx hb hr hk h dX6_usual_21
