def wp_X0_flapFor (post : Int32 → Prop) (s0 : Bd) (s1 : Tp) (x1 : Int32) (x2 : Int32) (x4 : Int32) (x5 : Int32) : Prop := ((x2 < 0 → post 0) ∧ (¬ x2 < 0 → ((x5 ≤ x2 → post 0) ∧ (¬ x5 ≤ x2 → wp_X5_byteAt (fun r_3 => wp_X0_nearest (fun r_5 => post r_5) s0 x1 r_3) s1 (x4 + x2)))))
set_option maxHeartbeats 4000000 in
set_option maxRecDepth 100000 in
theorem c2_X0_flapFor {l : Launch} {D : va_G} {q : Nat → ClassId} {a0 : Nat → Nat} {a1 : Nat → Nat} {s0 : Bd} {s1 : Tp} {x1 : Int32} {x2 : Int32} {x4 : Int32} {x5 : Int32} {post : Int32 → Prop} (h : wp_X0_flapFor post s0 s1 x1 x2 x4 x5) : Met l yX0_flapFor (Cond.code yX0_flapFor cX0_flapFor 6 (some .int) :: w_all) ({ frames := 1, cells := 0, slots := 0, locals := 29 } : Room) (rd_P D q [.ref (a0 0), .int x1, .int x2, .ref (a1 0), .int x4, .int x5] (bd_w a0 q s0 ++ tp_w a1 q s1)) (vp_Si post) 0 0 (fun _ => False) := by
  refine rd_start (by decide) (Nat.le_of_ble_eq_true rfl) ?_
  intro p e s m below meth c ls hx hb hr hml hown ht hk hP hQ hV hl
  have hK := hQ.1
  have hown : s.vm.findClass RX0 = some m.cls := hown
  have hl : lv_has ls 6 [(0, .ref (a0 0)), (1, .int x1), (2, .int x2), (3, .ref (a1 0)), (4, .int x4), (5, .int x5)] := hl
  have hP : va_P D vwCl [((a0 0), .inr (0, [.int (s0.1 0), .int (s0.1 1), .int (s0.1 2), .int (s0.1 3), .int (s0.1 4), .int (s0.1 5), .ref (a0 1), .ref (a0 2), .ref (a0 3), .ref (a0 4), .ref (a0 5), .ref (a0 6), .ref (a0 7), .ref (a0 8), .ref (a0 9), .ref (a0 10), .ref (a0 11), .ref (a0 12)])), ((a0 1), .inl (q 0, 4, .inl (s0.2.1 0))), ((a0 2), .inl (q 0, 4, .inl (s0.2.1 1))), ((a0 3), .inl (q 0, 160, .inl (s0.2.1 2))), ((a0 4), .inl (q 0, 40, .inl (s0.2.1 3))), ((a0 5), .inl (q 0, 40, .inl (s0.2.1 4))), ((a0 6), .inl (q 0, 40, .inl (s0.2.1 5))), ((a0 7), .inl (q 0, 40, .inl (s0.2.1 6))), ((a0 8), .inl (q 0, 40, .inl (s0.2.1 7))), ((a0 9), .inl (q 0, 40, .inl (s0.2.1 8))), ((a0 10), .inl (q 0, 40, .inl (s0.2.1 9))), ((a0 11), .inl (q 1, 40, .inr (.inl s0.2.2.1))), ((a0 12), .inl (q 0, s0.2.2.2.1, .inl s0.2.2.2.2)), ((a1 0), .inr (4, [.ref (a1 1), .int (s1.1 0), .int (s1.1 1), .int (s1.1 2), .int (s1.1 3), .int (s1.1 4), .int (s1.1 5)])), ((a1 1), .inl (q 0, 400, .inl s1.2))] s.heap := hP
  unfold wp_X0_flapFor at h
  refine lv_iload_n hx hb dX0_flapFor_0 rfl (lv_at hl 2 rfl) ?_
  refine lv_if_lt (tgt := 26) hx hb dX0_flapFor_1 (by decide) (fun c_1 => ?_) (fun c_1 => ?_)
  · replace h := h.1 c_1
    refine lv_iconst (v := 0) hx hb dX0_flapFor_26 (by decide) ?_
    exact rd_iret hx hb hr hk h dX0_flapFor_27
  · replace h := h.2 c_1
    refine lv_iload_n hx hb dX0_flapFor_4 rfl (lv_at hl 2 rfl) ?_
    refine lv_iload hx hb dX0_flapFor_5 (lv_at hl 5 rfl) ?_
    refine lv_icmp_ge (tgt := 26) hx hb dX0_flapFor_7 (by decide) (fun c_2 => ?_) (fun c_2 => ?_)
    · replace h := h.1 c_2
      refine lv_iconst (v := 0) hx hb dX0_flapFor_26 (by decide) ?_
      exact rd_iret hx hb hr hk h dX0_flapFor_27
    · replace h := h.2 c_2
      refine lv_aload_n hx hb dX0_flapFor_10 rfl (lv_at hl 0 rfl) ?_
      refine lv_iload_n hx hb dX0_flapFor_11 rfl (lv_at hl 1 rfl) ?_
      refine lv_aload_n hx hb dX0_flapFor_12 rfl (lv_at hl 3 rfl) ?_
      refine lv_iload hx hb dX0_flapFor_13 (lv_at hl 4 rfl) ?_
      refine lv_iload_n hx hb dX0_flapFor_15 rfl (lv_at hl 2 rfl) ?_
      refine lv_iadd hx hb dX0_flapFor_16 ?_
      refine vp_callSi (rd_wV (wc := tp_w a1 q s1) (As := [.int (x4 + x2)]) (rest := [.int x1, .ref (a0 0)]) hx hb hml hown ht (c2_X5_byteAt h) wd_X5_byteAt mw_537 hQ hV va_S.rf (hP.sub [13, 14] rfl) rfl rfl rfl hl.1 rfl (Nat.le_of_ble_eq_true rfl) dX0_flapFor_17 ⟨Nat.le_of_ble_eq_true rfl, Nat.le_of_ble_eq_true rfl, rfl, rfl⟩ ⟨Nat.le_of_ble_eq_true rfl, Nat.le_of_ble_eq_true rfl⟩) (fun r_3 h => ?_)
      try dsimp only at h
      refine vp_callSi (rd_wV (wc := bd_w a0 q s0) (As := [.int x1, .int r_3]) (rest := []) hx hb hml hown ht (c2_X0_nearest h) wd_X0_nearest mw_572 hQ hV va_S.rf (hP.sub [0, 1, 2, 3, 4, 5, 6, 7, 8, 9, 10, 11, 12] rfl) rfl rfl rfl hl.1 rfl (Nat.le_of_ble_eq_true rfl) dX0_flapFor_20 ⟨Nat.le_of_ble_eq_true rfl, Nat.le_of_ble_eq_true rfl, rfl, rfl⟩ ⟨Nat.le_of_ble_eq_true rfl, Nat.le_of_ble_eq_true rfl⟩) (fun r_5 h => ?_)
      try dsimp only at h
      refine lv_goto (tgt := 27) hx hb dX0_flapFor_23 (by decide) ?_
      exact rd_iret hx hb hr hk h dX0_flapFor_27

def wp_X0_costOf_L6 (s0 : Bd) (s1 : Tp) (post : Int32 → Prop) (e72 : Int32 → Int32 → Int32 → Int32 → Int32 → Int32 → Prop) : Nat → Int32 → Int32 → Int32 → Int32 → Int32 → Int32 → Prop
  | 0, _, _, _, _, _, _ => False
  | n6 + 1, z1, z2, z4, z5, z6, z7 => (((s0.1 1) ≤ z7 → e72 z1 z2 z4 z5 z6 z7) ∧ (¬ (s0.1 1) ≤ z7 → wp_X0_flapFor (fun r_2 => ((¬ r_2 = (-1) → wp_X0_flapsOnTo (fun r_5 => wp_X0_costOf_L6 s0 s1 post e72 n6 z1 z2 z4 z5 (z6 + r_5) (z7 + 1)) s0 ((z1 * (s0.1 1)) + z7) r_2) ∧ (r_2 = (-1) → wp_X0_costOf_L6 s0 s1 post e72 n6 z1 z2 z4 z5 (z6 + 0) (z7 + 1)))) s0 s1 ((z1 * (s0.1 1)) + z7) (z7 - z2) z4 z5))
def wp_X0_costOf (post : Int32 → Prop) (s0 : Bd) (s1 : Tp) (x1 : Int32) (x2 : Int32) (x4 : Int32) (x5 : Int32) : Prop := (∃ n6, wp_X0_costOf_L6 s0 s1 post (fun z1 z2 z4 z5 z6 z7 => post z6) n6 x1 x2 x4 x5 0 0)
set_option maxHeartbeats 4000000 in
set_option maxRecDepth 100000 in
theorem c2_X0_costOf {l : Launch} {D : va_G} {q : Nat → ClassId} {a0 : Nat → Nat} {a1 : Nat → Nat} {s0 : Bd} {s1 : Tp} {x1 : Int32} {x2 : Int32} {x4 : Int32} {x5 : Int32} {post : Int32 → Prop} (h : wp_X0_costOf post s0 s1 x1 x2 x4 x5) : Met l yX0_costOf (Cond.code yX0_costOf cX0_costOf 10 (some .int) :: w_all) ({ frames := 2, cells := 0, slots := 0, locals := 54 } : Room) (rd_P D q [.ref (a0 0), .int x1, .int x2, .ref (a1 0), .int x4, .int x5] (bd_w a0 q s0 ++ tp_w a1 q s1)) (vp_Si post) 0 0 (fun _ => False) := by
  refine rd_start (by decide) (Nat.le_of_ble_eq_true rfl) ?_
  intro p e s m below meth c ls hx hb hr hml hown ht hk hP hQ hV hl
  have hK := hQ.1
  have hown : s.vm.findClass RX0 = some m.cls := hown
  have hl : lv_has ls 10 [(0, .ref (a0 0)), (1, .int x1), (2, .int x2), (3, .ref (a1 0)), (4, .int x4), (5, .int x5)] := hl
  have hP : va_P D vwCl [((a0 0), .inr (0, [.int (s0.1 0), .int (s0.1 1), .int (s0.1 2), .int (s0.1 3), .int (s0.1 4), .int (s0.1 5), .ref (a0 1), .ref (a0 2), .ref (a0 3), .ref (a0 4), .ref (a0 5), .ref (a0 6), .ref (a0 7), .ref (a0 8), .ref (a0 9), .ref (a0 10), .ref (a0 11), .ref (a0 12)])), ((a0 1), .inl (q 0, 4, .inl (s0.2.1 0))), ((a0 2), .inl (q 0, 4, .inl (s0.2.1 1))), ((a0 3), .inl (q 0, 160, .inl (s0.2.1 2))), ((a0 4), .inl (q 0, 40, .inl (s0.2.1 3))), ((a0 5), .inl (q 0, 40, .inl (s0.2.1 4))), ((a0 6), .inl (q 0, 40, .inl (s0.2.1 5))), ((a0 7), .inl (q 0, 40, .inl (s0.2.1 6))), ((a0 8), .inl (q 0, 40, .inl (s0.2.1 7))), ((a0 9), .inl (q 0, 40, .inl (s0.2.1 8))), ((a0 10), .inl (q 0, 40, .inl (s0.2.1 9))), ((a0 11), .inl (q 1, 40, .inr (.inl s0.2.2.1))), ((a0 12), .inl (q 0, s0.2.2.2.1, .inl s0.2.2.2.2)), ((a1 0), .inr (4, [.ref (a1 1), .int (s1.1 0), .int (s1.1 1), .int (s1.1 2), .int (s1.1 3), .int (s1.1 4), .int (s1.1 5)])), ((a1 1), .inl (q 0, 400, .inl s1.2))] s.heap := hP
  unfold wp_X0_costOf at h
  refine lv_iconst (v := 0) hx hb dX0_costOf_0 (by decide) ?_
  refine lv_istore (lv' := [(6, .int 0), (0, .ref (a0 0)), (1, .int x1), (2, .int x2), (3, .ref (a1 0)), (4, .int x4), (5, .int x5)]) hx hb dX0_costOf_1 hl (by decide) rfl (fun ls hl => ?_)
  refine lv_iconst (v := 0) hx hb dX0_costOf_3 (by decide) ?_
  refine lv_istore (lv' := [(7, .int 0), (6, .int 0), (0, .ref (a0 0)), (1, .int x1), (2, .int x2), (3, .ref (a1 0)), (4, .int x4), (5, .int x5)]) hx hb dX0_costOf_4 hl (by decide) rfl (fun ls hl => ?_)
  have lp6 : ∀ (e72 : Int32 → Int32 → Int32 → Int32 → Int32 → Int32 → Prop) (k72 : ∀ (z1 : Int32) (z2 : Int32) (z4 : Int32) (z5 : Int32) (z6 : Int32) (z7 : Int32) (ls : Array Slot), e72 z1 z2 z4 z5 z6 z7 → lv_has ls 10 [(1, .int z1), (2, .int z2), (4, .int z4), (5, .int z5), (6, .int z6), (7, .int z7), (0, .ref (a0 0)), (3, .ref (a1 0))] → W p l e ({ frames := 2, cells := 0, slots := 0, locals := 54 } : Room) s m [.ref (a0 0), .int x1, .int x2, .ref (a1 0), .int x4, .int x5].toArray below meth c s.heap [] 0 0 (MQ below (vp_Si post) [.ref (a0 0), .int x1, .int x2, .ref (a1 0), .int x4, .int x5].toArray s 0 0 (fun _ => False)) (F0 m 72 ls [])) (n : Nat) (z1 : Int32) (z2 : Int32) (z4 : Int32) (z5 : Int32) (z6 : Int32) (z7 : Int32) (ls : Array Slot), wp_X0_costOf_L6 s0 s1 post e72 n z1 z2 z4 z5 z6 z7 → lv_has ls 10 [(1, .int z1), (2, .int z2), (4, .int z4), (5, .int z5), (6, .int z6), (7, .int z7), (0, .ref (a0 0)), (3, .ref (a1 0))] → W p l e ({ frames := 2, cells := 0, slots := 0, locals := 54 } : Room) s m [.ref (a0 0), .int x1, .int x2, .ref (a1 0), .int x4, .int x5].toArray below meth c s.heap [] 0 0 (MQ below (vp_Si post) [.ref (a0 0), .int x1, .int x2, .ref (a1 0), .int x4, .int x5].toArray s 0 0 (fun _ => False)) (F0 m 6 ls []) := by
    intro e72 k72 n
    induction n with
    | zero =>
      intro z1 z2 z4 z5 z6 z7 ls h
      exact h.elim
    | succ n ih =>
      intro z1 z2 z4 z5 z6 z7 ls h hl
      unfold wp_X0_costOf_L6 at h
      refine lv_iload hx hb dX0_costOf_6 (lv_at hl 5 rfl) ?_
      refine lv_aload_n hx hb dX0_costOf_8 rfl (lv_at hl 6 rfl) ?_
      refine fl_get (C := RX0) (T := TX0) (N := 18) (ci := 0) (v := .int (s0.1 1)) hx hb ht in_X0 hown hK hP 0 rfl rfl 1 (by decide) mw_171 rfl dX0_costOf_9 ?_
      refine lv_icmp_ge (tgt := 72) hx hb dX0_costOf_12 (by decide) (fun c_1 => ?_) (fun c_1 => ?_)
      · replace h := h.1 c_1
        exact k72 _ _ _ _ _ _ ls h (lv_sub hl [0, 1, 2, 3, 4, 5, 6, 7] rfl)
      · replace h := h.2 c_1
        refine lv_iload_n hx hb dX0_costOf_15 rfl (lv_at hl 0 rfl) ?_
        refine lv_aload_n hx hb dX0_costOf_16 rfl (lv_at hl 6 rfl) ?_
        refine fl_get (C := RX0) (T := TX0) (N := 18) (ci := 0) (v := .int (s0.1 1)) hx hb ht in_X0 hown hK hP 0 rfl rfl 1 (by decide) mw_171 rfl dX0_costOf_17 ?_
        refine lv_imul hx hb dX0_costOf_20 ?_
        refine lv_iload hx hb dX0_costOf_21 (lv_at hl 5 rfl) ?_
        refine lv_iadd hx hb dX0_costOf_23 ?_
        refine lv_istore (lv' := [(8, .int ((z1 * (s0.1 1)) + z7)), (1, .int z1), (2, .int z2), (4, .int z4), (5, .int z5), (6, .int z6), (7, .int z7), (0, .ref (a0 0)), (3, .ref (a1 0))]) hx hb dX0_costOf_24 hl (by decide) rfl (fun ls hl => ?_)
        refine lv_aload_n hx hb dX0_costOf_26 rfl (lv_at hl 7 rfl) ?_
        refine lv_iload hx hb dX0_costOf_27 (lv_at hl 0 rfl) ?_
        refine lv_iload hx hb dX0_costOf_29 (lv_at hl 6 rfl) ?_
        refine lv_iload_n hx hb dX0_costOf_31 rfl (lv_at hl 2 rfl) ?_
        refine lv_isub hx hb dX0_costOf_32 ?_
        refine lv_aload_n hx hb dX0_costOf_33 rfl (lv_at hl 8 rfl) ?_
        refine lv_iload hx hb dX0_costOf_34 (lv_at hl 3 rfl) ?_
        refine lv_iload hx hb dX0_costOf_36 (lv_at hl 4 rfl) ?_
        refine vp_callSi (rd_wV (wc := bd_w a0 q s0 ++ tp_w a1 q s1) (As := [.int ((z1 * (s0.1 1)) + z7), .int (z7 - z2), .ref (a1 0), .int z4, .int z5]) (rest := []) hx hb hml hown ht (c2_X0_flapFor h) wd_X0_flapFor mw_568 hQ hV va_S.rf (hP.sub [0, 1, 2, 3, 4, 5, 6, 7, 8, 9, 10, 11, 12, 13, 14] rfl) rfl rfl rfl hl.1 rfl (Nat.le_of_ble_eq_true rfl) dX0_costOf_38 ⟨Nat.le_of_ble_eq_true rfl, Nat.le_of_ble_eq_true rfl, rfl, rfl⟩ ⟨Nat.le_of_ble_eq_true rfl, Nat.le_of_ble_eq_true rfl⟩) (fun r_2 h => ?_)
        try dsimp only at h
        refine lv_istore (lv' := [(9, .int r_2), (8, .int ((z1 * (s0.1 1)) + z7)), (1, .int z1), (2, .int z2), (4, .int z4), (5, .int z5), (6, .int z6), (7, .int z7), (0, .ref (a0 0)), (3, .ref (a1 0))]) hx hb dX0_costOf_41 hl (by decide) rfl (fun ls hl => ?_)
        refine lv_iload hx hb dX0_costOf_43 (lv_at hl 6 rfl) ?_
        refine lv_iload hx hb dX0_costOf_45 (lv_at hl 0 rfl) ?_
        refine lv_iconst (v := (-1)) hx hb dX0_costOf_47 (by decide) ?_
        refine lv_icmp_ne (tgt := 55) hx hb dX0_costOf_48 (by decide) (fun c_4 => ?_) (fun c_4 => ?_)
        · replace h := h.1 c_4
          refine lv_aload_n hx hb dX0_costOf_55 rfl (lv_at hl 8 rfl) ?_
          refine lv_iload hx hb dX0_costOf_56 (lv_at hl 1 rfl) ?_
          refine lv_iload hx hb dX0_costOf_58 (lv_at hl 0 rfl) ?_
          refine vp_callSi (rd_wV (wc := bd_w a0 q s0) (As := [.int ((z1 * (s0.1 1)) + z7), .int r_2]) (rest := [.int z6]) hx hb hml hown ht (c2_X0_flapsOnTo h) wd_X0_flapsOnTo mw_1013 hQ hV va_S.rf (hP.sub [0, 1, 2, 3, 4, 5, 6, 7, 8, 9, 10, 11, 12] rfl) rfl rfl rfl hl.1 rfl (Nat.le_of_ble_eq_true rfl) dX0_costOf_60 ⟨Nat.le_of_ble_eq_true rfl, Nat.le_of_ble_eq_true rfl, rfl, rfl⟩ ⟨Nat.le_of_ble_eq_true rfl, Nat.le_of_ble_eq_true rfl⟩) (fun r_5 h => ?_)
          try dsimp only at h
          refine lv_iadd hx hb dX0_costOf_63 ?_
          refine lv_istore (lv' := [(6, .int (z6 + r_5)), (9, .int r_2), (8, .int ((z1 * (s0.1 1)) + z7)), (1, .int z1), (2, .int z2), (4, .int z4), (5, .int z5), (7, .int z7), (0, .ref (a0 0)), (3, .ref (a1 0))]) hx hb dX0_costOf_64 hl (by decide) rfl (fun ls hl => ?_)
          refine lv_iinc (v := (z7 + 1)) (lv' := [(7, .int (z7 + 1)), (6, .int (z6 + r_5)), (9, .int r_2), (8, .int ((z1 * (s0.1 1)) + z7)), (1, .int z1), (2, .int z2), (4, .int z4), (5, .int z5), (0, .ref (a0 0)), (3, .ref (a1 0))]) hx hb dX0_costOf_66 hl (k := 7) rfl rfl (by decide) rfl (fun ls hl => ?_)
          refine lv_goto (tgt := 6) hx hb dX0_costOf_69 (by decide) ?_
          exact ih _ _ _ _ _ _ ls h (lv_sub hl [4, 5, 6, 7, 1, 0, 8, 9] rfl)
        · replace h := h.2 c_4
          refine lv_iconst (v := 0) hx hb dX0_costOf_51 (by decide) ?_
          refine lv_goto (tgt := 63) hx hb dX0_costOf_52 (by decide) ?_
          refine lv_iadd hx hb dX0_costOf_63 ?_
          refine lv_istore (lv' := [(6, .int (z6 + 0)), (9, .int r_2), (8, .int ((z1 * (s0.1 1)) + z7)), (1, .int z1), (2, .int z2), (4, .int z4), (5, .int z5), (7, .int z7), (0, .ref (a0 0)), (3, .ref (a1 0))]) hx hb dX0_costOf_64 hl (by decide) rfl (fun ls hl => ?_)
          refine lv_iinc (v := (z7 + 1)) (lv' := [(7, .int (z7 + 1)), (6, .int (z6 + 0)), (9, .int r_2), (8, .int ((z1 * (s0.1 1)) + z7)), (1, .int z1), (2, .int z2), (4, .int z4), (5, .int z5), (0, .ref (a0 0)), (3, .ref (a1 0))]) hx hb dX0_costOf_66 hl (k := 7) rfl rfl (by decide) rfl (fun ls hl => ?_)
          refine lv_goto (tgt := 6) hx hb dX0_costOf_69 (by decide) ?_
          exact ih _ _ _ _ _ _ ls h (lv_sub hl [4, 5, 6, 7, 1, 0, 8, 9] rfl)
  obtain ⟨n6, h⟩ := h
  refine lp6 _ ?_ n6 _ _ _ _ _ _ ls h (lv_sub hl [3, 4, 6, 7, 1, 0, 2, 5] rfl)
  · intro z1 z2 z4 z5 z6 z7 ls h hl
    try dsimp only at h
    refine lv_iload hx hb dX0_costOf_72 (lv_at hl 4 rfl) ?_
    exact rd_iret hx hb hr hk h dX0_costOf_74

def wp_X0_missesOf_L6 (s0 : Bd) (s1 : Tp) (post : Int32 → Prop) (e50 : Int32 → Int32 → Int32 → Int32 → Int32 → Int32 → Prop) : Nat → Int32 → Int32 → Int32 → Int32 → Int32 → Int32 → Prop
  | 0, _, _, _, _, _, _ => False
  | n6 + 1, z1, z2, z4, z5, z6, z7 => (((s0.1 1) ≤ z7 → e50 z1 z2 z4 z5 z6 z7) ∧ (¬ (s0.1 1) ≤ z7 → wp_X0_flapFor (fun r_2 => ((¬ r_2 = (-1) → wp_X0_missesOf_L6 s0 s1 post e50 n6 z1 z2 z4 z5 z6 (z7 + 1)) ∧ (r_2 = (-1) → wp_X0_missesOf_L6 s0 s1 post e50 n6 z1 z2 z4 z5 (z6 + 1) (z7 + 1)))) s0 s1 ((z1 * (s0.1 1)) + z7) (z7 - z2) z4 z5))
def wp_X0_missesOf (post : Int32 → Prop) (s0 : Bd) (s1 : Tp) (x1 : Int32) (x2 : Int32) (x4 : Int32) (x5 : Int32) : Prop := (∃ n6, wp_X0_missesOf_L6 s0 s1 post (fun z1 z2 z4 z5 z6 z7 => post z6) n6 x1 x2 x4 x5 0 0)
set_option maxHeartbeats 4000000 in
set_option maxRecDepth 100000 in
theorem c2_X0_missesOf {l : Launch} {D : va_G} {q : Nat → ClassId} {a0 : Nat → Nat} {a1 : Nat → Nat} {s0 : Bd} {s1 : Tp} {x1 : Int32} {x2 : Int32} {x4 : Int32} {x5 : Int32} {post : Int32 → Prop} (h : wp_X0_missesOf post s0 s1 x1 x2 x4 x5) : Met l yX0_missesOf (Cond.code yX0_missesOf cX0_missesOf 8 (some .int) :: w_all) ({ frames := 2, cells := 0, slots := 0, locals := 54 } : Room) (rd_P D q [.ref (a0 0), .int x1, .int x2, .ref (a1 0), .int x4, .int x5] (bd_w a0 q s0 ++ tp_w a1 q s1)) (vp_Si post) 0 0 (fun _ => False) := by
  refine rd_start (by decide) (Nat.le_of_ble_eq_true rfl) ?_
  intro p e s m below meth c ls hx hb hr hml hown ht hk hP hQ hV hl
  have hK := hQ.1
  have hown : s.vm.findClass RX0 = some m.cls := hown
  have hl : lv_has ls 8 [(0, .ref (a0 0)), (1, .int x1), (2, .int x2), (3, .ref (a1 0)), (4, .int x4), (5, .int x5)] := hl
  have hP : va_P D vwCl [((a0 0), .inr (0, [.int (s0.1 0), .int (s0.1 1), .int (s0.1 2), .int (s0.1 3), .int (s0.1 4), .int (s0.1 5), .ref (a0 1), .ref (a0 2), .ref (a0 3), .ref (a0 4), .ref (a0 5), .ref (a0 6), .ref (a0 7), .ref (a0 8), .ref (a0 9), .ref (a0 10), .ref (a0 11), .ref (a0 12)])), ((a0 1), .inl (q 0, 4, .inl (s0.2.1 0))), ((a0 2), .inl (q 0, 4, .inl (s0.2.1 1))), ((a0 3), .inl (q 0, 160, .inl (s0.2.1 2))), ((a0 4), .inl (q 0, 40, .inl (s0.2.1 3))), ((a0 5), .inl (q 0, 40, .inl (s0.2.1 4))), ((a0 6), .inl (q 0, 40, .inl (s0.2.1 5))), ((a0 7), .inl (q 0, 40, .inl (s0.2.1 6))), ((a0 8), .inl (q 0, 40, .inl (s0.2.1 7))), ((a0 9), .inl (q 0, 40, .inl (s0.2.1 8))), ((a0 10), .inl (q 0, 40, .inl (s0.2.1 9))), ((a0 11), .inl (q 1, 40, .inr (.inl s0.2.2.1))), ((a0 12), .inl (q 0, s0.2.2.2.1, .inl s0.2.2.2.2)), ((a1 0), .inr (4, [.ref (a1 1), .int (s1.1 0), .int (s1.1 1), .int (s1.1 2), .int (s1.1 3), .int (s1.1 4), .int (s1.1 5)])), ((a1 1), .inl (q 0, 400, .inl s1.2))] s.heap := hP
  unfold wp_X0_missesOf at h
  refine lv_iconst (v := 0) hx hb dX0_missesOf_0 (by decide) ?_
  refine lv_istore (lv' := [(6, .int 0), (0, .ref (a0 0)), (1, .int x1), (2, .int x2), (3, .ref (a1 0)), (4, .int x4), (5, .int x5)]) hx hb dX0_missesOf_1 hl (by decide) rfl (fun ls hl => ?_)
  refine lv_iconst (v := 0) hx hb dX0_missesOf_3 (by decide) ?_
  refine lv_istore (lv' := [(7, .int 0), (6, .int 0), (0, .ref (a0 0)), (1, .int x1), (2, .int x2), (3, .ref (a1 0)), (4, .int x4), (5, .int x5)]) hx hb dX0_missesOf_4 hl (by decide) rfl (fun ls hl => ?_)
  have lp6 : ∀ (e50 : Int32 → Int32 → Int32 → Int32 → Int32 → Int32 → Prop) (k50 : ∀ (z1 : Int32) (z2 : Int32) (z4 : Int32) (z5 : Int32) (z6 : Int32) (z7 : Int32) (ls : Array Slot), e50 z1 z2 z4 z5 z6 z7 → lv_has ls 8 [(1, .int z1), (2, .int z2), (4, .int z4), (5, .int z5), (6, .int z6), (7, .int z7), (0, .ref (a0 0)), (3, .ref (a1 0))] → W p l e ({ frames := 2, cells := 0, slots := 0, locals := 54 } : Room) s m [.ref (a0 0), .int x1, .int x2, .ref (a1 0), .int x4, .int x5].toArray below meth c s.heap [] 0 0 (MQ below (vp_Si post) [.ref (a0 0), .int x1, .int x2, .ref (a1 0), .int x4, .int x5].toArray s 0 0 (fun _ => False)) (F0 m 50 ls [])) (n : Nat) (z1 : Int32) (z2 : Int32) (z4 : Int32) (z5 : Int32) (z6 : Int32) (z7 : Int32) (ls : Array Slot), wp_X0_missesOf_L6 s0 s1 post e50 n z1 z2 z4 z5 z6 z7 → lv_has ls 8 [(1, .int z1), (2, .int z2), (4, .int z4), (5, .int z5), (6, .int z6), (7, .int z7), (0, .ref (a0 0)), (3, .ref (a1 0))] → W p l e ({ frames := 2, cells := 0, slots := 0, locals := 54 } : Room) s m [.ref (a0 0), .int x1, .int x2, .ref (a1 0), .int x4, .int x5].toArray below meth c s.heap [] 0 0 (MQ below (vp_Si post) [.ref (a0 0), .int x1, .int x2, .ref (a1 0), .int x4, .int x5].toArray s 0 0 (fun _ => False)) (F0 m 6 ls []) := by
    intro e50 k50 n
    induction n with
    | zero =>
      intro z1 z2 z4 z5 z6 z7 ls h
      exact h.elim
    | succ n ih =>
      intro z1 z2 z4 z5 z6 z7 ls h hl
      unfold wp_X0_missesOf_L6 at h
      refine lv_iload hx hb dX0_missesOf_6 (lv_at hl 5 rfl) ?_
      refine lv_aload_n hx hb dX0_missesOf_8 rfl (lv_at hl 6 rfl) ?_
      refine fl_get (C := RX0) (T := TX0) (N := 18) (ci := 0) (v := .int (s0.1 1)) hx hb ht in_X0 hown hK hP 0 rfl rfl 1 (by decide) mw_171 rfl dX0_missesOf_9 ?_
      refine lv_icmp_ge (tgt := 50) hx hb dX0_missesOf_12 (by decide) (fun c_1 => ?_) (fun c_1 => ?_)
      · replace h := h.1 c_1
        exact k50 _ _ _ _ _ _ ls h (lv_sub hl [0, 1, 2, 3, 4, 5, 6, 7] rfl)
      · replace h := h.2 c_1
        refine lv_aload_n hx hb dX0_missesOf_15 rfl (lv_at hl 6 rfl) ?_
        refine lv_iload_n hx hb dX0_missesOf_16 rfl (lv_at hl 0 rfl) ?_
        refine lv_aload_n hx hb dX0_missesOf_17 rfl (lv_at hl 6 rfl) ?_
        refine fl_get (C := RX0) (T := TX0) (N := 18) (ci := 0) (v := .int (s0.1 1)) hx hb ht in_X0 hown hK hP 0 rfl rfl 1 (by decide) mw_171 rfl dX0_missesOf_18 ?_
        refine lv_imul hx hb dX0_missesOf_21 ?_
        refine lv_iload hx hb dX0_missesOf_22 (lv_at hl 5 rfl) ?_
        refine lv_iadd hx hb dX0_missesOf_24 ?_
        refine lv_iload hx hb dX0_missesOf_25 (lv_at hl 5 rfl) ?_
        refine lv_iload_n hx hb dX0_missesOf_27 rfl (lv_at hl 1 rfl) ?_
        refine lv_isub hx hb dX0_missesOf_28 ?_
        refine lv_aload_n hx hb dX0_missesOf_29 rfl (lv_at hl 7 rfl) ?_
        refine lv_iload hx hb dX0_missesOf_30 (lv_at hl 2 rfl) ?_
        refine lv_iload hx hb dX0_missesOf_32 (lv_at hl 3 rfl) ?_
        refine vp_callSi (rd_wV (wc := bd_w a0 q s0 ++ tp_w a1 q s1) (As := [.int ((z1 * (s0.1 1)) + z7), .int (z7 - z2), .ref (a1 0), .int z4, .int z5]) (rest := []) hx hb hml hown ht (c2_X0_flapFor h) wd_X0_flapFor mw_568 hQ hV va_S.rf (hP.sub [0, 1, 2, 3, 4, 5, 6, 7, 8, 9, 10, 11, 12, 13, 14] rfl) rfl rfl rfl hl.1 rfl (Nat.le_of_ble_eq_true rfl) dX0_missesOf_34 ⟨Nat.le_of_ble_eq_true rfl, Nat.le_of_ble_eq_true rfl, rfl, rfl⟩ ⟨Nat.le_of_ble_eq_true rfl, Nat.le_of_ble_eq_true rfl⟩) (fun r_2 h => ?_)
        try dsimp only at h
        refine lv_iconst (v := (-1)) hx hb dX0_missesOf_37 (by decide) ?_
        refine lv_icmp_ne (tgt := 44) hx hb dX0_missesOf_38 (by decide) (fun c_4 => ?_) (fun c_4 => ?_)
        · replace h := h.1 c_4
          refine lv_iinc (v := (z7 + 1)) (lv' := [(7, .int (z7 + 1)), (1, .int z1), (2, .int z2), (4, .int z4), (5, .int z5), (6, .int z6), (0, .ref (a0 0)), (3, .ref (a1 0))]) hx hb dX0_missesOf_44 hl (k := 5) rfl rfl (by decide) rfl (fun ls hl => ?_)
          refine lv_goto (tgt := 6) hx hb dX0_missesOf_47 (by decide) ?_
          exact ih _ _ _ _ _ _ ls h (lv_sub hl [1, 2, 3, 4, 5, 0, 6, 7] rfl)
        · replace h := h.2 c_4
          refine lv_iinc (v := (z6 + 1)) (lv' := [(6, .int (z6 + 1)), (1, .int z1), (2, .int z2), (4, .int z4), (5, .int z5), (7, .int z7), (0, .ref (a0 0)), (3, .ref (a1 0))]) hx hb dX0_missesOf_41 hl (k := 4) rfl rfl (by decide) rfl (fun ls hl => ?_)
          refine lv_iinc (v := (z7 + 1)) (lv' := [(7, .int (z7 + 1)), (6, .int (z6 + 1)), (1, .int z1), (2, .int z2), (4, .int z4), (5, .int z5), (0, .ref (a0 0)), (3, .ref (a1 0))]) hx hb dX0_missesOf_44 hl (k := 5) rfl rfl (by decide) rfl (fun ls hl => ?_)
          refine lv_goto (tgt := 6) hx hb dX0_missesOf_47 (by decide) ?_
          exact ih _ _ _ _ _ _ ls h (lv_sub hl [2, 3, 4, 5, 1, 0, 6, 7] rfl)
  obtain ⟨n6, h⟩ := h
  refine lp6 _ ?_ n6 _ _ _ _ _ _ ls h (lv_sub hl [3, 4, 6, 7, 1, 0, 2, 5] rfl)
  · intro z1 z2 z4 z5 z6 z7 ls h hl
    try dsimp only at h
    refine lv_iload hx hb dX0_missesOf_50 (lv_at hl 4 rfl) ?_
    exact rd_iret hx hb hr hk h dX0_missesOf_52

def wp_X0_wantFlap (post : Int32 → Bd → Prop) (s0 : Bd) (x1 : Int32) (x2 : Int32) : Prop := ((¬ x2 = (-1) → vp_in x1 40 ∧ vp_in x1 40 ∧ vp_in x1 40 ∧ wp_X0_entryStart (fun r_5 => wp_X0_flapsOf (fun r_7 => ((x2 = ((s0.2.1 5) (Int32.toNatClampNeg x1)) → post 0 (s0.1, (va_up s0.2.1 6 (upd (s0.2.1 6) (Int32.toNatClampNeg x1) x2)), s0.2.2.1, s0.2.2.2.1, s0.2.2.2.2)) ∧ (¬ x2 = ((s0.2.1 5) (Int32.toNatClampNeg x1)) → ((((r_5 + (((s0.2.1 5) (Int32.toNatClampNeg x1)) * r_7)) + x2) < 0 → post 0 (s0.1, (va_up s0.2.1 6 (upd (s0.2.1 6) (Int32.toNatClampNeg x1) x2)), s0.2.2.1, s0.2.2.2.1, s0.2.2.2.2)) ∧ (¬ ((r_5 + (((s0.2.1 5) (Int32.toNatClampNeg x1)) * r_7)) + x2) < 0 → (((Int32.ofNat s0.2.2.2.1) ≤ ((r_5 + (((s0.2.1 5) (Int32.toNatClampNeg x1)) * r_7)) + x2) → post 0 (s0.1, (va_up s0.2.1 6 (upd (s0.2.1 6) (Int32.toNatClampNeg x1) x2)), s0.2.2.1, s0.2.2.2.1, s0.2.2.2.2)) ∧ (¬ (Int32.ofNat s0.2.2.2.1) ≤ ((r_5 + (((s0.2.1 5) (Int32.toNatClampNeg x1)) * r_7)) + x2) → vp_in ((r_5 + (((s0.2.1 5) (Int32.toNatClampNeg x1)) * r_7)) + x2) s0.2.2.2.1 ∧ vp_in ((r_5 + (((s0.2.1 5) (Int32.toNatClampNeg x1)) * r_7)) + x2) s0.2.2.2.1 ∧ post 0 (s0.1, (va_up s0.2.1 6 (upd (s0.2.1 6) (Int32.toNatClampNeg x1) x2)), s0.2.2.1, s0.2.2.2.1, (upd s0.2.2.2.2 (Int32.toNatClampNeg ((r_5 + (((s0.2.1 5) (Int32.toNatClampNeg x1)) * r_7)) + x2)) ((s0.2.2.2.2 (Int32.toNatClampNeg ((r_5 + (((s0.2.1 5) (Int32.toNatClampNeg x1)) * r_7)) + x2))) + 1)))))))))) (s0.1, (va_up s0.2.1 6 (upd (s0.2.1 6) (Int32.toNatClampNeg x1) x2)), s0.2.2.1, s0.2.2.2.1, s0.2.2.2.2) x1) (s0.1, (va_up s0.2.1 6 (upd (s0.2.1 6) (Int32.toNatClampNeg x1) x2)), s0.2.2.1, s0.2.2.2.1, s0.2.2.2.2) ((s0.2.1 3) (Int32.toNatClampNeg x1))) ∧ (x2 = (-1) → post 1 s0))
set_option maxHeartbeats 4000000 in
set_option maxRecDepth 100000 in
theorem c2_X0_wantFlap {l : Launch} {D : va_G} {q : Nat → ClassId} {sz : Nat} {a0 : Nat → Nat} {s0 : Bd} {x1 : Int32} {x2 : Int32} {post : Int32 → Bd → Prop} (h : wp_X0_wantFlap post s0 x1 x2) : Met l yX0_wantFlap (Cond.code yX0_wantFlap cX0_wantFlap 5 (some .int) :: w_all) ({ frames := 1, cells := 0, slots := 0, locals := 23 } : Room) (mt_P D q [.ref (a0 0), .int x1, .int x2] (bd_w a0 q s0) sz) (va_Qi (fun r (u : Bd) => post r u) (mt_B D (bd_w a0 q s0) sz (fun u : Bd => bd_w a0 q u)) (va_A (bd_w a0 q s0) sz)) 0 0 (va_A (bd_w a0 q s0) sz) := by
  refine mt_start (by decide) (Nat.le_of_ble_eq_true rfl) ?_
  intro p e s m below meth c ls hx hb hr hml hown ht hk hin hP hQ hD hA hS hV hl
  have hK := hQ.1
  have hown : s.vm.findClass RX0 = some m.cls := hown
  have hl : lv_has ls 5 [(0, .ref (a0 0)), (1, .int x1), (2, .int x2)] := hl
  have hP : va_P D vwCl [((a0 0), .inr (0, [.int (s0.1 0), .int (s0.1 1), .int (s0.1 2), .int (s0.1 3), .int (s0.1 4), .int (s0.1 5), .ref (a0 1), .ref (a0 2), .ref (a0 3), .ref (a0 4), .ref (a0 5), .ref (a0 6), .ref (a0 7), .ref (a0 8), .ref (a0 9), .ref (a0 10), .ref (a0 11), .ref (a0 12)])), ((a0 1), .inl (q 0, 4, .inl (s0.2.1 0))), ((a0 2), .inl (q 0, 4, .inl (s0.2.1 1))), ((a0 3), .inl (q 0, 160, .inl (s0.2.1 2))), ((a0 4), .inl (q 0, 40, .inl (s0.2.1 3))), ((a0 5), .inl (q 0, 40, .inl (s0.2.1 4))), ((a0 6), .inl (q 0, 40, .inl (s0.2.1 5))), ((a0 7), .inl (q 0, 40, .inl (s0.2.1 6))), ((a0 8), .inl (q 0, 40, .inl (s0.2.1 7))), ((a0 9), .inl (q 0, 40, .inl (s0.2.1 8))), ((a0 10), .inl (q 0, 40, .inl (s0.2.1 9))), ((a0 11), .inl (q 1, 40, .inr (.inl s0.2.2.1))), ((a0 12), .inl (q 0, s0.2.2.2.1, .inl s0.2.2.2.2))] s.heap := hP
  have hD : va_D _ [((a0 0), .inr (0, [.int (s0.1 0), .int (s0.1 1), .int (s0.1 2), .int (s0.1 3), .int (s0.1 4), .int (s0.1 5), .ref (a0 1), .ref (a0 2), .ref (a0 3), .ref (a0 4), .ref (a0 5), .ref (a0 6), .ref (a0 7), .ref (a0 8), .ref (a0 9), .ref (a0 10), .ref (a0 11), .ref (a0 12)])), ((a0 1), .inl (q 0, 4, .inl (s0.2.1 0))), ((a0 2), .inl (q 0, 4, .inl (s0.2.1 1))), ((a0 3), .inl (q 0, 160, .inl (s0.2.1 2))), ((a0 4), .inl (q 0, 40, .inl (s0.2.1 3))), ((a0 5), .inl (q 0, 40, .inl (s0.2.1 4))), ((a0 6), .inl (q 0, 40, .inl (s0.2.1 5))), ((a0 7), .inl (q 0, 40, .inl (s0.2.1 6))), ((a0 8), .inl (q 0, 40, .inl (s0.2.1 7))), ((a0 9), .inl (q 0, 40, .inl (s0.2.1 8))), ((a0 10), .inl (q 0, 40, .inl (s0.2.1 9))), ((a0 11), .inl (q 1, 40, .inr (.inl s0.2.2.1))), ((a0 12), .inl (q 0, s0.2.2.2.1, .inl s0.2.2.2.2))] := hD
  unfold wp_X0_wantFlap at h
  refine lv_iload_n hx hb dX0_wantFlap_0 rfl (lv_at hl 2 rfl) ?_
  refine lv_iconst (v := (-1)) hx hb dX0_wantFlap_1 (by decide) ?_
  refine lv_icmp_ne (tgt := 7) hx hb dX0_wantFlap_2 (by decide) (fun c_1 => ?_) (fun c_1 => ?_)
  · replace h := h.1 c_1
    refine lv_aload_n hx hb dX0_wantFlap_7 rfl (lv_at hl 0 rfl) ?_
    refine fl_get (C := RX0) (T := TX0) (N := 18) (ci := 0) (v := .ref (a0 7)) hx hb ht in_X0 hown hK hP 0 rfl rfl 12 (by decide) mw_198 rfl dX0_wantFlap_8 ?_
    refine lv_iload_n hx hb dX0_wantFlap_11 rfl (lv_at hl 1 rfl) ?_
    refine lv_iload_n hx hb dX0_wantFlap_12 rfl (lv_at hl 2 rfl) ?_
    obtain ⟨g_2, h⟩ := h
    refine va_iast hx hb hK hP hD hS 7 0 rfl rfl g_2 dX0_wantFlap_13 (fun H locs hP hD hS => ?_)
    have hP : va_P D vwCl [((a0 0), .inr (0, [.int (s0.1 0), .int (s0.1 1), .int (s0.1 2), .int (s0.1 3), .int (s0.1 4), .int (s0.1 5), .ref (a0 1), .ref (a0 2), .ref (a0 3), .ref (a0 4), .ref (a0 5), .ref (a0 6), .ref (a0 7), .ref (a0 8), .ref (a0 9), .ref (a0 10), .ref (a0 11), .ref (a0 12)])), ((a0 1), .inl (q 0, 4, .inl (s0.2.1 0))), ((a0 2), .inl (q 0, 4, .inl (s0.2.1 1))), ((a0 3), .inl (q 0, 160, .inl (s0.2.1 2))), ((a0 4), .inl (q 0, 40, .inl (s0.2.1 3))), ((a0 5), .inl (q 0, 40, .inl (s0.2.1 4))), ((a0 6), .inl (q 0, 40, .inl (s0.2.1 5))), ((a0 7), .inl (q 0, 40, .inl (upd (s0.2.1 6) (Int32.toNatClampNeg x1) x2))), ((a0 8), .inl (q 0, 40, .inl (s0.2.1 7))), ((a0 9), .inl (q 0, 40, .inl (s0.2.1 8))), ((a0 10), .inl (q 0, 40, .inl (s0.2.1 9))), ((a0 11), .inl (q 1, 40, .inr (.inl s0.2.2.1))), ((a0 12), .inl (q 0, s0.2.2.2.1, .inl s0.2.2.2.2))] H := hP
    have hD : va_D _ [((a0 0), .inr (0, [.int (s0.1 0), .int (s0.1 1), .int (s0.1 2), .int (s0.1 3), .int (s0.1 4), .int (s0.1 5), .ref (a0 1), .ref (a0 2), .ref (a0 3), .ref (a0 4), .ref (a0 5), .ref (a0 6), .ref (a0 7), .ref (a0 8), .ref (a0 9), .ref (a0 10), .ref (a0 11), .ref (a0 12)])), ((a0 1), .inl (q 0, 4, .inl (s0.2.1 0))), ((a0 2), .inl (q 0, 4, .inl (s0.2.1 1))), ((a0 3), .inl (q 0, 160, .inl (s0.2.1 2))), ((a0 4), .inl (q 0, 40, .inl (s0.2.1 3))), ((a0 5), .inl (q 0, 40, .inl (s0.2.1 4))), ((a0 6), .inl (q 0, 40, .inl (s0.2.1 5))), ((a0 7), .inl (q 0, 40, .inl (upd (s0.2.1 6) (Int32.toNatClampNeg x1) x2))), ((a0 8), .inl (q 0, 40, .inl (s0.2.1 7))), ((a0 9), .inl (q 0, 40, .inl (s0.2.1 8))), ((a0 10), .inl (q 0, 40, .inl (s0.2.1 9))), ((a0 11), .inl (q 1, 40, .inr (.inl s0.2.2.1))), ((a0 12), .inl (q 0, s0.2.2.2.1, .inl s0.2.2.2.2))] := hD
    refine lv_aload_n hx hb dX0_wantFlap_14 rfl (lv_at hl 0 rfl) ?_
    refine fl_get (C := RX0) (T := TX0) (N := 18) (ci := 0) (v := .ref (a0 6)) hx hb ht in_X0 hown hK hP 0 rfl rfl 11 (by decide) mw_196 rfl dX0_wantFlap_15 ?_
    refine lv_iload_n hx hb dX0_wantFlap_18 rfl (lv_at hl 1 rfl) ?_
    obtain ⟨g_3, h⟩ := h
    refine va_iald hx hb hK hP 6 0 rfl rfl g_3 dX0_wantFlap_19 ?_
    refine lv_istore_n (lv' := [(3, .int ((s0.2.1 5) (Int32.toNatClampNeg x1))), (0, .ref (a0 0)), (1, .int x1), (2, .int x2)]) hx hb dX0_wantFlap_20 rfl hl (by decide) rfl (fun ls hl => ?_)
    refine lv_aload_n hx hb dX0_wantFlap_21 rfl (lv_at hl 1 rfl) ?_
    refine lv_aload_n hx hb dX0_wantFlap_22 rfl (lv_at hl 1 rfl) ?_
    refine fl_get (C := RX0) (T := TX0) (N := 18) (ci := 0) (v := .ref (a0 4)) hx hb ht in_X0 hown hK hP 0 rfl rfl 9 (by decide) mw_192 rfl dX0_wantFlap_23 ?_
    refine lv_iload_n hx hb dX0_wantFlap_26 rfl (lv_at hl 2 rfl) ?_
    obtain ⟨g_4, h⟩ := h
    refine va_iald hx hb hK hP 4 0 rfl rfl g_4 dX0_wantFlap_27 ?_
    refine vp_callSi (rd_wV (wc := bd_w a0 q (s0.1, (va_up s0.2.1 6 (upd (s0.2.1 6) (Int32.toNatClampNeg x1) x2)), s0.2.2.1, s0.2.2.2.1, s0.2.2.2.2)) (As := [.int ((s0.2.1 3) (Int32.toNatClampNeg x1))]) (rest := []) hx hb hml hown ht (c2_X0_entryStart h) wd_X0_entryStart mw_605 hQ hV hS (hP.sub [0, 1, 2, 3, 4, 5, 6, 7, 8, 9, 10, 11, 12] rfl) rfl rfl rfl hl.1 rfl (Nat.le_of_ble_eq_true rfl) dX0_wantFlap_28 ⟨Nat.le_of_ble_eq_true rfl, Nat.le_of_ble_eq_true rfl, rfl, rfl⟩ ⟨Nat.le_of_ble_eq_true rfl, Nat.le_of_ble_eq_true rfl⟩) (fun r_5 h => ?_)
    try dsimp only at h
    refine lv_iload_n hx hb dX0_wantFlap_31 rfl (lv_at hl 0 rfl) ?_
    refine lv_aload_n hx hb dX0_wantFlap_32 rfl (lv_at hl 1 rfl) ?_
    refine lv_iload_n hx hb dX0_wantFlap_33 rfl (lv_at hl 2 rfl) ?_
    refine vp_callSi (rd_wV (wc := bd_w a0 q (s0.1, (va_up s0.2.1 6 (upd (s0.2.1 6) (Int32.toNatClampNeg x1) x2)), s0.2.2.1, s0.2.2.2.1, s0.2.2.2.2)) (As := [.int x1]) (rest := [.int ((s0.2.1 5) (Int32.toNatClampNeg x1)), .int r_5]) hx hb hml hown ht (c2_X0_flapsOf h) wd_X0_flapsOf mw_651 hQ hV hS (hP.sub [0, 1, 2, 3, 4, 5, 6, 7, 8, 9, 10, 11, 12] rfl) rfl rfl rfl hl.1 rfl (Nat.le_of_ble_eq_true rfl) dX0_wantFlap_34 ⟨Nat.le_of_ble_eq_true rfl, Nat.le_of_ble_eq_true rfl, rfl, rfl⟩ ⟨Nat.le_of_ble_eq_true rfl, Nat.le_of_ble_eq_true rfl⟩) (fun r_7 h => ?_)
    try dsimp only at h
    refine lv_imul hx hb dX0_wantFlap_37 ?_
    refine lv_iadd hx hb dX0_wantFlap_38 ?_
    refine lv_iload_n hx hb dX0_wantFlap_39 rfl (lv_at hl 3 rfl) ?_
    refine lv_iadd hx hb dX0_wantFlap_40 ?_
    refine lv_istore (lv' := [(4, .int ((r_5 + (((s0.2.1 5) (Int32.toNatClampNeg x1)) * r_7)) + x2)), (3, .int ((s0.2.1 5) (Int32.toNatClampNeg x1))), (0, .ref (a0 0)), (1, .int x1), (2, .int x2)]) hx hb dX0_wantFlap_41 hl (by decide) rfl (fun ls hl => ?_)
    refine lv_iload_n hx hb dX0_wantFlap_43 rfl (lv_at hl 4 rfl) ?_
    refine lv_iload_n hx hb dX0_wantFlap_44 rfl (lv_at hl 1 rfl) ?_
    refine lv_icmp_eq (tgt := 74) hx hb dX0_wantFlap_45 (by decide) (fun c_9 => ?_) (fun c_9 => ?_)
    · replace h := h.1 c_9
      refine lv_iconst (v := 0) hx hb dX0_wantFlap_74 (by decide) ?_
      exact mt_iret (s0.1, (va_up s0.2.1 6 (upd (s0.2.1 6) (Int32.toNatClampNeg x1) x2)), s0.2.2.1, s0.2.2.2.1, s0.2.2.2.2) hx hb hr hk h (hP.sub (ws' := bd_w a0 q (s0.1, (va_up s0.2.1 6 (upd (s0.2.1 6) (Int32.toNatClampNeg x1) x2)), s0.2.2.1, s0.2.2.2.1, s0.2.2.2.2)) [0, 1, 2, 3, 4, 5, 6, 7, 8, 9, 10, 11, 12] rfl) (hD.sub (ws' := bd_w a0 q (s0.1, (va_up s0.2.1 6 (upd (s0.2.1 6) (Int32.toNatClampNeg x1) x2)), s0.2.2.1, s0.2.2.2.1, s0.2.2.2.2)) [0, 1, 2, 3, 4, 5, 6, 7, 8, 9, 10, 11, 12] (by decide) rfl) hS dX0_wantFlap_75
    · replace h := h.2 c_9
      refine lv_iload hx hb dX0_wantFlap_48 (lv_at hl 0 rfl) ?_
      refine lv_if_lt (tgt := 74) hx hb dX0_wantFlap_50 (by decide) (fun c_10 => ?_) (fun c_10 => ?_)
      · replace h := h.1 c_10
        refine lv_iconst (v := 0) hx hb dX0_wantFlap_74 (by decide) ?_
        exact mt_iret (s0.1, (va_up s0.2.1 6 (upd (s0.2.1 6) (Int32.toNatClampNeg x1) x2)), s0.2.2.1, s0.2.2.2.1, s0.2.2.2.2) hx hb hr hk h (hP.sub (ws' := bd_w a0 q (s0.1, (va_up s0.2.1 6 (upd (s0.2.1 6) (Int32.toNatClampNeg x1) x2)), s0.2.2.1, s0.2.2.2.1, s0.2.2.2.2)) [0, 1, 2, 3, 4, 5, 6, 7, 8, 9, 10, 11, 12] rfl) (hD.sub (ws' := bd_w a0 q (s0.1, (va_up s0.2.1 6 (upd (s0.2.1 6) (Int32.toNatClampNeg x1) x2)), s0.2.2.1, s0.2.2.2.1, s0.2.2.2.2)) [0, 1, 2, 3, 4, 5, 6, 7, 8, 9, 10, 11, 12] (by decide) rfl) hS dX0_wantFlap_75
      · replace h := h.2 c_10
        refine lv_iload hx hb dX0_wantFlap_53 (lv_at hl 0 rfl) ?_
        refine lv_aload_n hx hb dX0_wantFlap_55 rfl (lv_at hl 2 rfl) ?_
        refine fl_get (C := RX0) (T := TX0) (N := 18) (ci := 0) (v := .ref (a0 12)) hx hb ht in_X0 hown hK hP 0 rfl rfl 17 (by decide) mw_208 rfl dX0_wantFlap_56 ?_
        refine va_alen (v := (Int32.ofNat s0.2.2.2.1)) hx hb hK hP 12 0 rfl rfl rfl dX0_wantFlap_59 ?_
        refine lv_icmp_ge (tgt := 74) hx hb dX0_wantFlap_60 (by decide) (fun c_11 => ?_) (fun c_11 => ?_)
        · replace h := h.1 c_11
          refine lv_iconst (v := 0) hx hb dX0_wantFlap_74 (by decide) ?_
          exact mt_iret (s0.1, (va_up s0.2.1 6 (upd (s0.2.1 6) (Int32.toNatClampNeg x1) x2)), s0.2.2.1, s0.2.2.2.1, s0.2.2.2.2) hx hb hr hk h (hP.sub (ws' := bd_w a0 q (s0.1, (va_up s0.2.1 6 (upd (s0.2.1 6) (Int32.toNatClampNeg x1) x2)), s0.2.2.1, s0.2.2.2.1, s0.2.2.2.2)) [0, 1, 2, 3, 4, 5, 6, 7, 8, 9, 10, 11, 12] rfl) (hD.sub (ws' := bd_w a0 q (s0.1, (va_up s0.2.1 6 (upd (s0.2.1 6) (Int32.toNatClampNeg x1) x2)), s0.2.2.1, s0.2.2.2.1, s0.2.2.2.2)) [0, 1, 2, 3, 4, 5, 6, 7, 8, 9, 10, 11, 12] (by decide) rfl) hS dX0_wantFlap_75
        · replace h := h.2 c_11
          refine lv_aload_n hx hb dX0_wantFlap_63 rfl (lv_at hl 2 rfl) ?_
          refine fl_get (C := RX0) (T := TX0) (N := 18) (ci := 0) (v := .ref (a0 12)) hx hb ht in_X0 hown hK hP 0 rfl rfl 17 (by decide) mw_208 rfl dX0_wantFlap_64 ?_
          refine lv_iload hx hb dX0_wantFlap_67 (lv_at hl 0 rfl) ?_
          refine lv_dup2_11 hx hb dX0_wantFlap_69 rfl rfl ?_
          obtain ⟨g_12, h⟩ := h
          refine va_iald hx hb hK hP 12 0 rfl rfl g_12 dX0_wantFlap_70 ?_
          refine lv_iconst (v := 1) hx hb dX0_wantFlap_71 (by decide) ?_
          refine lv_iadd hx hb dX0_wantFlap_72 ?_
          obtain ⟨g_13, h⟩ := h
          refine va_iast hx hb hK hP hD hS 12 0 rfl rfl g_13 dX0_wantFlap_73 (fun H locs hP hD hS => ?_)
          have hP : va_P D vwCl [((a0 0), .inr (0, [.int (s0.1 0), .int (s0.1 1), .int (s0.1 2), .int (s0.1 3), .int (s0.1 4), .int (s0.1 5), .ref (a0 1), .ref (a0 2), .ref (a0 3), .ref (a0 4), .ref (a0 5), .ref (a0 6), .ref (a0 7), .ref (a0 8), .ref (a0 9), .ref (a0 10), .ref (a0 11), .ref (a0 12)])), ((a0 1), .inl (q 0, 4, .inl (s0.2.1 0))), ((a0 2), .inl (q 0, 4, .inl (s0.2.1 1))), ((a0 3), .inl (q 0, 160, .inl (s0.2.1 2))), ((a0 4), .inl (q 0, 40, .inl (s0.2.1 3))), ((a0 5), .inl (q 0, 40, .inl (s0.2.1 4))), ((a0 6), .inl (q 0, 40, .inl (s0.2.1 5))), ((a0 7), .inl (q 0, 40, .inl (upd (s0.2.1 6) (Int32.toNatClampNeg x1) x2))), ((a0 8), .inl (q 0, 40, .inl (s0.2.1 7))), ((a0 9), .inl (q 0, 40, .inl (s0.2.1 8))), ((a0 10), .inl (q 0, 40, .inl (s0.2.1 9))), ((a0 11), .inl (q 1, 40, .inr (.inl s0.2.2.1))), ((a0 12), .inl (q 0, s0.2.2.2.1, .inl (upd s0.2.2.2.2 (Int32.toNatClampNeg ((r_5 + (((s0.2.1 5) (Int32.toNatClampNeg x1)) * r_7)) + x2)) ((s0.2.2.2.2 (Int32.toNatClampNeg ((r_5 + (((s0.2.1 5) (Int32.toNatClampNeg x1)) * r_7)) + x2))) + 1))))] H := hP
          have hD : va_D _ [((a0 0), .inr (0, [.int (s0.1 0), .int (s0.1 1), .int (s0.1 2), .int (s0.1 3), .int (s0.1 4), .int (s0.1 5), .ref (a0 1), .ref (a0 2), .ref (a0 3), .ref (a0 4), .ref (a0 5), .ref (a0 6), .ref (a0 7), .ref (a0 8), .ref (a0 9), .ref (a0 10), .ref (a0 11), .ref (a0 12)])), ((a0 1), .inl (q 0, 4, .inl (s0.2.1 0))), ((a0 2), .inl (q 0, 4, .inl (s0.2.1 1))), ((a0 3), .inl (q 0, 160, .inl (s0.2.1 2))), ((a0 4), .inl (q 0, 40, .inl (s0.2.1 3))), ((a0 5), .inl (q 0, 40, .inl (s0.2.1 4))), ((a0 6), .inl (q 0, 40, .inl (s0.2.1 5))), ((a0 7), .inl (q 0, 40, .inl (upd (s0.2.1 6) (Int32.toNatClampNeg x1) x2))), ((a0 8), .inl (q 0, 40, .inl (s0.2.1 7))), ((a0 9), .inl (q 0, 40, .inl (s0.2.1 8))), ((a0 10), .inl (q 0, 40, .inl (s0.2.1 9))), ((a0 11), .inl (q 1, 40, .inr (.inl s0.2.2.1))), ((a0 12), .inl (q 0, s0.2.2.2.1, .inl (upd s0.2.2.2.2 (Int32.toNatClampNeg ((r_5 + (((s0.2.1 5) (Int32.toNatClampNeg x1)) * r_7)) + x2)) ((s0.2.2.2.2 (Int32.toNatClampNeg ((r_5 + (((s0.2.1 5) (Int32.toNatClampNeg x1)) * r_7)) + x2))) + 1))))] := hD
          refine lv_iconst (v := 0) hx hb dX0_wantFlap_74 (by decide) ?_
          exact mt_iret (s0.1, (va_up s0.2.1 6 (upd (s0.2.1 6) (Int32.toNatClampNeg x1) x2)), s0.2.2.1, s0.2.2.2.1, (upd s0.2.2.2.2 (Int32.toNatClampNeg ((r_5 + (((s0.2.1 5) (Int32.toNatClampNeg x1)) * r_7)) + x2)) ((s0.2.2.2.2 (Int32.toNatClampNeg ((r_5 + (((s0.2.1 5) (Int32.toNatClampNeg x1)) * r_7)) + x2))) + 1))) hx hb hr hk h (hP.sub (ws' := bd_w a0 q (s0.1, (va_up s0.2.1 6 (upd (s0.2.1 6) (Int32.toNatClampNeg x1) x2)), s0.2.2.1, s0.2.2.2.1, (upd s0.2.2.2.2 (Int32.toNatClampNeg ((r_5 + (((s0.2.1 5) (Int32.toNatClampNeg x1)) * r_7)) + x2)) ((s0.2.2.2.2 (Int32.toNatClampNeg ((r_5 + (((s0.2.1 5) (Int32.toNatClampNeg x1)) * r_7)) + x2))) + 1)))) [0, 1, 2, 3, 4, 5, 6, 7, 8, 9, 10, 11, 12] rfl) (hD.sub (ws' := bd_w a0 q (s0.1, (va_up s0.2.1 6 (upd (s0.2.1 6) (Int32.toNatClampNeg x1) x2)), s0.2.2.1, s0.2.2.2.1, (upd s0.2.2.2.2 (Int32.toNatClampNeg ((r_5 + (((s0.2.1 5) (Int32.toNatClampNeg x1)) * r_7)) + x2)) ((s0.2.2.2.2 (Int32.toNatClampNeg ((r_5 + (((s0.2.1 5) (Int32.toNatClampNeg x1)) * r_7)) + x2))) + 1)))) [0, 1, 2, 3, 4, 5, 6, 7, 8, 9, 10, 11, 12] (by decide) rfl) hS dX0_wantFlap_75
  · replace h := h.2 c_1
    refine lv_iconst (v := 1) hx hb dX0_wantFlap_5 (by decide) ?_
    exact mt_iret s0 hx hb hr hk h (hP.sub (ws' := bd_w a0 q s0) [0, 1, 2, 3, 4, 5, 6, 7, 8, 9, 10, 11, 12] rfl) (hD.sub (ws' := bd_w a0 q s0) [0, 1, 2, 3, 4, 5, 6, 7, 8, 9, 10, 11, 12] (by decide) rfl) hS dX0_wantFlap_6

def wp_X0_wantSigns_L6 (s1 : Tp) (post : Int32 → Bd → Prop) (e55 : Bd → Int32 → Int32 → Int32 → Int32 → Int32 → Prop) : Nat → Bd → Int32 → Int32 → Int32 → Int32 → Int32 → Prop
  | 0, _, _, _, _, _, _ => False
  | n6 + 1, t0, z1, z3, z4, z5, z6 => (((t0.1 1) ≤ z6 → e55 t0 z1 z3 z4 z5 z6) ∧ (¬ (t0.1 1) ≤ z6 → wp_X0_flapFor (fun r_2 => wp_X0_wantFlap (fun r_4 u_5 => wp_X0_wantSigns_L6 s1 post e55 n6 u_5 z1 z3 z4 (z5 + r_4) (z6 + 1)) t0 ((z1 * (t0.1 1)) + z6) r_2) t0 s1 ((z1 * (t0.1 1)) + z6) z6 z3 z4))
def wp_X0_wantSigns (post : Int32 → Bd → Prop) (s0 : Bd) (s1 : Tp) (x1 : Int32) (x3 : Int32) (x4 : Int32) : Prop := (∃ n6, wp_X0_wantSigns_L6 s1 post (fun t0 z1 z3 z4 z5 z6 => post z5 t0) n6 s0 x1 x3 x4 0 0)
set_option maxHeartbeats 4000000 in
set_option maxRecDepth 100000 in
theorem c2_X0_wantSigns {l : Launch} {D : va_G} {q : Nat → ClassId} {sz : Nat} {a0 : Nat → Nat} {a1 : Nat → Nat} {s0 : Bd} {s1 : Tp} {x1 : Int32} {x3 : Int32} {x4 : Int32} {post : Int32 → Bd → Prop} (h : wp_X0_wantSigns post s0 s1 x1 x3 x4) : Met l yX0_wantSigns (Cond.code yX0_wantSigns cX0_wantSigns 8 (some .int) :: w_all) ({ frames := 2, cells := 0, slots := 0, locals := 54 } : Room) (mt_P D q [.ref (a0 0), .int x1, .ref (a1 0), .int x3, .int x4] (bd_w a0 q s0 ++ tp_w a1 q s1) sz) (va_Qi (fun r (u : Bd) => post r u) (mt_B D (bd_w a0 q s0 ++ tp_w a1 q s1) sz (fun u : Bd => bd_w a0 q u ++ tp_w a1 q s1)) (va_A (bd_w a0 q s0 ++ tp_w a1 q s1) sz)) 0 0 (va_A (bd_w a0 q s0 ++ tp_w a1 q s1) sz) := by
  refine mt_start (by decide) (Nat.le_of_ble_eq_true rfl) ?_
  intro p e s m below meth c ls hx hb hr hml hown ht hk hin hP hQ hD hA hS hV hl
  have hK := hQ.1
  have hown : s.vm.findClass RX0 = some m.cls := hown
  have hl : lv_has ls 8 [(0, .ref (a0 0)), (1, .int x1), (2, .ref (a1 0)), (3, .int x3), (4, .int x4)] := hl
  have hP : va_P D vwCl [((a0 0), .inr (0, [.int (s0.1 0), .int (s0.1 1), .int (s0.1 2), .int (s0.1 3), .int (s0.1 4), .int (s0.1 5), .ref (a0 1), .ref (a0 2), .ref (a0 3), .ref (a0 4), .ref (a0 5), .ref (a0 6), .ref (a0 7), .ref (a0 8), .ref (a0 9), .ref (a0 10), .ref (a0 11), .ref (a0 12)])), ((a0 1), .inl (q 0, 4, .inl (s0.2.1 0))), ((a0 2), .inl (q 0, 4, .inl (s0.2.1 1))), ((a0 3), .inl (q 0, 160, .inl (s0.2.1 2))), ((a0 4), .inl (q 0, 40, .inl (s0.2.1 3))), ((a0 5), .inl (q 0, 40, .inl (s0.2.1 4))), ((a0 6), .inl (q 0, 40, .inl (s0.2.1 5))), ((a0 7), .inl (q 0, 40, .inl (s0.2.1 6))), ((a0 8), .inl (q 0, 40, .inl (s0.2.1 7))), ((a0 9), .inl (q 0, 40, .inl (s0.2.1 8))), ((a0 10), .inl (q 0, 40, .inl (s0.2.1 9))), ((a0 11), .inl (q 1, 40, .inr (.inl s0.2.2.1))), ((a0 12), .inl (q 0, s0.2.2.2.1, .inl s0.2.2.2.2)), ((a1 0), .inr (4, [.ref (a1 1), .int (s1.1 0), .int (s1.1 1), .int (s1.1 2), .int (s1.1 3), .int (s1.1 4), .int (s1.1 5)])), ((a1 1), .inl (q 0, 400, .inl s1.2))] s.heap := hP
  have hD : va_D _ [((a0 0), .inr (0, [.int (s0.1 0), .int (s0.1 1), .int (s0.1 2), .int (s0.1 3), .int (s0.1 4), .int (s0.1 5), .ref (a0 1), .ref (a0 2), .ref (a0 3), .ref (a0 4), .ref (a0 5), .ref (a0 6), .ref (a0 7), .ref (a0 8), .ref (a0 9), .ref (a0 10), .ref (a0 11), .ref (a0 12)])), ((a0 1), .inl (q 0, 4, .inl (s0.2.1 0))), ((a0 2), .inl (q 0, 4, .inl (s0.2.1 1))), ((a0 3), .inl (q 0, 160, .inl (s0.2.1 2))), ((a0 4), .inl (q 0, 40, .inl (s0.2.1 3))), ((a0 5), .inl (q 0, 40, .inl (s0.2.1 4))), ((a0 6), .inl (q 0, 40, .inl (s0.2.1 5))), ((a0 7), .inl (q 0, 40, .inl (s0.2.1 6))), ((a0 8), .inl (q 0, 40, .inl (s0.2.1 7))), ((a0 9), .inl (q 0, 40, .inl (s0.2.1 8))), ((a0 10), .inl (q 0, 40, .inl (s0.2.1 9))), ((a0 11), .inl (q 1, 40, .inr (.inl s0.2.2.1))), ((a0 12), .inl (q 0, s0.2.2.2.1, .inl s0.2.2.2.2)), ((a1 0), .inr (4, [.ref (a1 1), .int (s1.1 0), .int (s1.1 1), .int (s1.1 2), .int (s1.1 3), .int (s1.1 4), .int (s1.1 5)])), ((a1 1), .inl (q 0, 400, .inl s1.2))] := hD
  unfold wp_X0_wantSigns at h
  refine lv_iconst (v := 0) hx hb dX0_wantSigns_0 (by decide) ?_
  refine lv_istore (lv' := [(5, .int 0), (0, .ref (a0 0)), (1, .int x1), (2, .ref (a1 0)), (3, .int x3), (4, .int x4)]) hx hb dX0_wantSigns_1 hl (by decide) rfl (fun ls hl => ?_)
  refine lv_iconst (v := 0) hx hb dX0_wantSigns_3 (by decide) ?_
  refine lv_istore (lv' := [(6, .int 0), (5, .int 0), (0, .ref (a0 0)), (1, .int x1), (2, .ref (a1 0)), (3, .int x3), (4, .int x4)]) hx hb dX0_wantSigns_4 hl (by decide) rfl (fun ls hl => ?_)
  have lp6 : ∀ (e55 : Bd → Int32 → Int32 → Int32 → Int32 → Int32 → Prop) (k55 : ∀ (t0 : Bd) (z1 : Int32) (z3 : Int32) (z4 : Int32) (z5 : Int32) (z6 : Int32) (H : Heap) (locs : List Loc) (ls : Array Slot), e55 t0 z1 z3 z4 z5 z6 → va_P D vwCl (bd_w a0 q t0 ++ tp_w a1 q s1) H → va_D (va_A (bd_w a0 q s0 ++ tp_w a1 q s1) sz) (bd_w a0 q t0 ++ tp_w a1 q s1) → va_S (va_A (bd_w a0 q s0 ++ tp_w a1 q s1) sz) s.heap H locs → lv_has ls 8 [(1, .int z1), (3, .int z3), (4, .int z4), (5, .int z5), (6, .int z6), (0, .ref (a0 0)), (2, .ref (a1 0))] → W p l e ({ frames := 2, cells := 0, slots := 0, locals := 54 } : Room) s m [.ref (a0 0), .int x1, .ref (a1 0), .int x3, .int x4].toArray below meth c H locs 0 0 (MQ below (va_Qi (fun r (u : Bd) => post r u) (mt_B D (bd_w a0 q s0 ++ tp_w a1 q s1) sz (fun u : Bd => bd_w a0 q u ++ tp_w a1 q s1)) (va_A (bd_w a0 q s0 ++ tp_w a1 q s1) sz)) [.ref (a0 0), .int x1, .ref (a1 0), .int x3, .int x4].toArray s 0 0 (va_A (bd_w a0 q s0 ++ tp_w a1 q s1) sz)) (F0 m 55 ls [])) (n : Nat) (t0 : Bd) (z1 : Int32) (z3 : Int32) (z4 : Int32) (z5 : Int32) (z6 : Int32) (H : Heap) (locs : List Loc) (ls : Array Slot), wp_X0_wantSigns_L6 s1 post e55 n t0 z1 z3 z4 z5 z6 → va_P D vwCl (bd_w a0 q t0 ++ tp_w a1 q s1) H → va_D (va_A (bd_w a0 q s0 ++ tp_w a1 q s1) sz) (bd_w a0 q t0 ++ tp_w a1 q s1) → va_S (va_A (bd_w a0 q s0 ++ tp_w a1 q s1) sz) s.heap H locs → lv_has ls 8 [(1, .int z1), (3, .int z3), (4, .int z4), (5, .int z5), (6, .int z6), (0, .ref (a0 0)), (2, .ref (a1 0))] → W p l e ({ frames := 2, cells := 0, slots := 0, locals := 54 } : Room) s m [.ref (a0 0), .int x1, .ref (a1 0), .int x3, .int x4].toArray below meth c H locs 0 0 (MQ below (va_Qi (fun r (u : Bd) => post r u) (mt_B D (bd_w a0 q s0 ++ tp_w a1 q s1) sz (fun u : Bd => bd_w a0 q u ++ tp_w a1 q s1)) (va_A (bd_w a0 q s0 ++ tp_w a1 q s1) sz)) [.ref (a0 0), .int x1, .ref (a1 0), .int x3, .int x4].toArray s 0 0 (va_A (bd_w a0 q s0 ++ tp_w a1 q s1) sz)) (F0 m 6 ls []) := by
    intro e55 k55 n
    induction n with
    | zero =>
      intro t0 z1 z3 z4 z5 z6 H locs ls h
      exact h.elim
    | succ n ih =>
      intro t0 z1 z3 z4 z5 z6 H locs ls h hP hD hS hl
      have hP : va_P D vwCl [((a0 0), .inr (0, [.int (t0.1 0), .int (t0.1 1), .int (t0.1 2), .int (t0.1 3), .int (t0.1 4), .int (t0.1 5), .ref (a0 1), .ref (a0 2), .ref (a0 3), .ref (a0 4), .ref (a0 5), .ref (a0 6), .ref (a0 7), .ref (a0 8), .ref (a0 9), .ref (a0 10), .ref (a0 11), .ref (a0 12)])), ((a0 1), .inl (q 0, 4, .inl (t0.2.1 0))), ((a0 2), .inl (q 0, 4, .inl (t0.2.1 1))), ((a0 3), .inl (q 0, 160, .inl (t0.2.1 2))), ((a0 4), .inl (q 0, 40, .inl (t0.2.1 3))), ((a0 5), .inl (q 0, 40, .inl (t0.2.1 4))), ((a0 6), .inl (q 0, 40, .inl (t0.2.1 5))), ((a0 7), .inl (q 0, 40, .inl (t0.2.1 6))), ((a0 8), .inl (q 0, 40, .inl (t0.2.1 7))), ((a0 9), .inl (q 0, 40, .inl (t0.2.1 8))), ((a0 10), .inl (q 0, 40, .inl (t0.2.1 9))), ((a0 11), .inl (q 1, 40, .inr (.inl t0.2.2.1))), ((a0 12), .inl (q 0, t0.2.2.2.1, .inl t0.2.2.2.2)), ((a1 0), .inr (4, [.ref (a1 1), .int (s1.1 0), .int (s1.1 1), .int (s1.1 2), .int (s1.1 3), .int (s1.1 4), .int (s1.1 5)])), ((a1 1), .inl (q 0, 400, .inl s1.2))] H := hP
      have hD : va_D _ [((a0 0), .inr (0, [.int (t0.1 0), .int (t0.1 1), .int (t0.1 2), .int (t0.1 3), .int (t0.1 4), .int (t0.1 5), .ref (a0 1), .ref (a0 2), .ref (a0 3), .ref (a0 4), .ref (a0 5), .ref (a0 6), .ref (a0 7), .ref (a0 8), .ref (a0 9), .ref (a0 10), .ref (a0 11), .ref (a0 12)])), ((a0 1), .inl (q 0, 4, .inl (t0.2.1 0))), ((a0 2), .inl (q 0, 4, .inl (t0.2.1 1))), ((a0 3), .inl (q 0, 160, .inl (t0.2.1 2))), ((a0 4), .inl (q 0, 40, .inl (t0.2.1 3))), ((a0 5), .inl (q 0, 40, .inl (t0.2.1 4))), ((a0 6), .inl (q 0, 40, .inl (t0.2.1 5))), ((a0 7), .inl (q 0, 40, .inl (t0.2.1 6))), ((a0 8), .inl (q 0, 40, .inl (t0.2.1 7))), ((a0 9), .inl (q 0, 40, .inl (t0.2.1 8))), ((a0 10), .inl (q 0, 40, .inl (t0.2.1 9))), ((a0 11), .inl (q 1, 40, .inr (.inl t0.2.2.1))), ((a0 12), .inl (q 0, t0.2.2.2.1, .inl t0.2.2.2.2)), ((a1 0), .inr (4, [.ref (a1 1), .int (s1.1 0), .int (s1.1 1), .int (s1.1 2), .int (s1.1 3), .int (s1.1 4), .int (s1.1 5)])), ((a1 1), .inl (q 0, 400, .inl s1.2))] := hD
      unfold wp_X0_wantSigns_L6 at h
      refine lv_iload hx hb dX0_wantSigns_6 (lv_at hl 4 rfl) ?_
      refine lv_aload_n hx hb dX0_wantSigns_8 rfl (lv_at hl 5 rfl) ?_
      refine fl_get (C := RX0) (T := TX0) (N := 18) (ci := 0) (v := .int (t0.1 1)) hx hb ht in_X0 hown hK hP 0 rfl rfl 1 (by decide) mw_171 rfl dX0_wantSigns_9 ?_
      refine lv_icmp_ge (tgt := 55) hx hb dX0_wantSigns_12 (by decide) (fun c_1 => ?_) (fun c_1 => ?_)
      · replace h := h.1 c_1
        exact k55 _ _ _ _ _ _ _ _ ls h (hP.sub (ws' := bd_w a0 q t0 ++ tp_w a1 q s1) [0, 1, 2, 3, 4, 5, 6, 7, 8, 9, 10, 11, 12, 13, 14] rfl) (hD.sub (ws' := bd_w a0 q t0 ++ tp_w a1 q s1) [0, 1, 2, 3, 4, 5, 6, 7, 8, 9, 10, 11, 12, 13, 14] (by decide) rfl) hS (lv_sub hl [0, 1, 2, 3, 4, 5, 6] rfl)
      · replace h := h.2 c_1
        refine lv_iload_n hx hb dX0_wantSigns_15 rfl (lv_at hl 0 rfl) ?_
        refine lv_aload_n hx hb dX0_wantSigns_16 rfl (lv_at hl 5 rfl) ?_
        refine fl_get (C := RX0) (T := TX0) (N := 18) (ci := 0) (v := .int (t0.1 1)) hx hb ht in_X0 hown hK hP 0 rfl rfl 1 (by decide) mw_171 rfl dX0_wantSigns_17 ?_
        refine lv_imul hx hb dX0_wantSigns_20 ?_
        refine lv_iload hx hb dX0_wantSigns_21 (lv_at hl 4 rfl) ?_
        refine lv_iadd hx hb dX0_wantSigns_23 ?_
        refine lv_istore (lv' := [(7, .int ((z1 * (t0.1 1)) + z6)), (1, .int z1), (3, .int z3), (4, .int z4), (5, .int z5), (6, .int z6), (0, .ref (a0 0)), (2, .ref (a1 0))]) hx hb dX0_wantSigns_24 hl (by decide) rfl (fun ls hl => ?_)
        refine lv_iload hx hb dX0_wantSigns_26 (lv_at hl 4 rfl) ?_
        refine lv_aload_n hx hb dX0_wantSigns_28 rfl (lv_at hl 6 rfl) ?_
        refine lv_iload hx hb dX0_wantSigns_29 (lv_at hl 0 rfl) ?_
        refine lv_aload_n hx hb dX0_wantSigns_31 rfl (lv_at hl 6 rfl) ?_
        refine lv_iload hx hb dX0_wantSigns_32 (lv_at hl 0 rfl) ?_
        refine lv_iload hx hb dX0_wantSigns_34 (lv_at hl 5 rfl) ?_
        refine lv_aload_n hx hb dX0_wantSigns_36 rfl (lv_at hl 7 rfl) ?_
        refine lv_iload_n hx hb dX0_wantSigns_37 rfl (lv_at hl 2 rfl) ?_
        refine lv_iload hx hb dX0_wantSigns_38 (lv_at hl 3 rfl) ?_
        refine vp_callSi (rd_wV (wc := bd_w a0 q t0 ++ tp_w a1 q s1) (As := [.int ((z1 * (t0.1 1)) + z6), .int z6, .ref (a1 0), .int z3, .int z4]) (rest := [.int ((z1 * (t0.1 1)) + z6), .ref (a0 0), .int z5]) hx hb hml hown ht (c2_X0_flapFor h) wd_X0_flapFor mw_568 hQ hV hS (hP.sub [0, 1, 2, 3, 4, 5, 6, 7, 8, 9, 10, 11, 12, 13, 14] rfl) rfl rfl rfl hl.1 rfl (Nat.le_of_ble_eq_true rfl) dX0_wantSigns_40 ⟨Nat.le_of_ble_eq_true rfl, Nat.le_of_ble_eq_true rfl, rfl, rfl⟩ ⟨Nat.le_of_ble_eq_true rfl, Nat.le_of_ble_eq_true rfl⟩) (fun r_2 h => ?_)
        try dsimp only at h
        refine mt_goi (mt_wV (wc := bd_w a0 q t0) (As := [.int ((z1 * (t0.1 1)) + z6), .int r_2]) (rest := [.int z5]) hx hb hml hown ht (c2_X0_wantFlap h) wd_X0_wantFlap mw_647 hQ hV hS hA (hP.sub [0, 1, 2, 3, 4, 5, 6, 7, 8, 9, 10, 11, 12] rfl) (hD.sub [0, 1, 2, 3, 4, 5, 6, 7, 8, 9, 10, 11, 12] (by decide) rfl) rfl rfl rfl hl.1 rfl (Nat.le_of_ble_eq_true rfl) dX0_wantSigns_43 ⟨Nat.le_of_ble_eq_true rfl, Nat.le_of_ble_eq_true rfl, rfl, rfl⟩ ⟨Nat.le_of_ble_eq_true rfl, Nat.le_of_ble_eq_true rfl⟩) (wr := [((a1 0), .inr (4, [.ref (a1 1), .int (s1.1 0), .int (s1.1 1), .int (s1.1 2), .int (s1.1 3), .int (s1.1 4), .int (s1.1 5)])), ((a1 1), .inl (q 0, 400, .inl s1.2))]) hP hD hS hA [0, 1, 2, 3, 4, 5, 6, 7, 8, 9, 10, 11, 12] [13, 14] rfl rfl (by decide) (by decide) (fun r_4 u_5 H locs h hP hD hS => ?_)
        try dsimp only at h
        have hP : va_P D vwCl [((a1 0), .inr (4, [.ref (a1 1), .int (s1.1 0), .int (s1.1 1), .int (s1.1 2), .int (s1.1 3), .int (s1.1 4), .int (s1.1 5)])), ((a1 1), .inl (q 0, 400, .inl s1.2)), ((a0 0), .inr (0, [.int (u_5.1 0), .int (u_5.1 1), .int (u_5.1 2), .int (u_5.1 3), .int (u_5.1 4), .int (u_5.1 5), .ref (a0 1), .ref (a0 2), .ref (a0 3), .ref (a0 4), .ref (a0 5), .ref (a0 6), .ref (a0 7), .ref (a0 8), .ref (a0 9), .ref (a0 10), .ref (a0 11), .ref (a0 12)])), ((a0 1), .inl (q 0, 4, .inl (u_5.2.1 0))), ((a0 2), .inl (q 0, 4, .inl (u_5.2.1 1))), ((a0 3), .inl (q 0, 160, .inl (u_5.2.1 2))), ((a0 4), .inl (q 0, 40, .inl (u_5.2.1 3))), ((a0 5), .inl (q 0, 40, .inl (u_5.2.1 4))), ((a0 6), .inl (q 0, 40, .inl (u_5.2.1 5))), ((a0 7), .inl (q 0, 40, .inl (u_5.2.1 6))), ((a0 8), .inl (q 0, 40, .inl (u_5.2.1 7))), ((a0 9), .inl (q 0, 40, .inl (u_5.2.1 8))), ((a0 10), .inl (q 0, 40, .inl (u_5.2.1 9))), ((a0 11), .inl (q 1, 40, .inr (.inl u_5.2.2.1))), ((a0 12), .inl (q 0, u_5.2.2.2.1, .inl u_5.2.2.2.2))] H := hP
        have hD : va_D _ [((a1 0), .inr (4, [.ref (a1 1), .int (s1.1 0), .int (s1.1 1), .int (s1.1 2), .int (s1.1 3), .int (s1.1 4), .int (s1.1 5)])), ((a1 1), .inl (q 0, 400, .inl s1.2)), ((a0 0), .inr (0, [.int (u_5.1 0), .int (u_5.1 1), .int (u_5.1 2), .int (u_5.1 3), .int (u_5.1 4), .int (u_5.1 5), .ref (a0 1), .ref (a0 2), .ref (a0 3), .ref (a0 4), .ref (a0 5), .ref (a0 6), .ref (a0 7), .ref (a0 8), .ref (a0 9), .ref (a0 10), .ref (a0 11), .ref (a0 12)])), ((a0 1), .inl (q 0, 4, .inl (u_5.2.1 0))), ((a0 2), .inl (q 0, 4, .inl (u_5.2.1 1))), ((a0 3), .inl (q 0, 160, .inl (u_5.2.1 2))), ((a0 4), .inl (q 0, 40, .inl (u_5.2.1 3))), ((a0 5), .inl (q 0, 40, .inl (u_5.2.1 4))), ((a0 6), .inl (q 0, 40, .inl (u_5.2.1 5))), ((a0 7), .inl (q 0, 40, .inl (u_5.2.1 6))), ((a0 8), .inl (q 0, 40, .inl (u_5.2.1 7))), ((a0 9), .inl (q 0, 40, .inl (u_5.2.1 8))), ((a0 10), .inl (q 0, 40, .inl (u_5.2.1 9))), ((a0 11), .inl (q 1, 40, .inr (.inl u_5.2.2.1))), ((a0 12), .inl (q 0, u_5.2.2.2.1, .inl u_5.2.2.2.2))] := hD
        refine lv_iadd hx hb dX0_wantSigns_46 ?_
        refine lv_istore (lv' := [(5, .int (z5 + r_4)), (7, .int ((z1 * (t0.1 1)) + z6)), (1, .int z1), (3, .int z3), (4, .int z4), (6, .int z6), (0, .ref (a0 0)), (2, .ref (a1 0))]) hx hb dX0_wantSigns_47 hl (by decide) rfl (fun ls hl => ?_)
        refine lv_iinc (v := (z6 + 1)) (lv' := [(6, .int (z6 + 1)), (5, .int (z5 + r_4)), (7, .int ((z1 * (t0.1 1)) + z6)), (1, .int z1), (3, .int z3), (4, .int z4), (0, .ref (a0 0)), (2, .ref (a1 0))]) hx hb dX0_wantSigns_49 hl (k := 5) rfl rfl (by decide) rfl (fun ls hl => ?_)
        refine lv_goto (tgt := 6) hx hb dX0_wantSigns_52 (by decide) ?_
        exact ih _ _ _ _ _ _ _ _ ls h (hP.sub (ws' := bd_w a0 q u_5 ++ tp_w a1 q s1) [2, 3, 4, 5, 6, 7, 8, 9, 10, 11, 12, 13, 14, 0, 1] rfl) (hD.sub (ws' := bd_w a0 q u_5 ++ tp_w a1 q s1) [2, 3, 4, 5, 6, 7, 8, 9, 10, 11, 12, 13, 14, 0, 1] (by decide) rfl) hS (lv_sub hl [3, 4, 5, 1, 0, 6, 7] rfl)
  obtain ⟨n6, h⟩ := h
  refine lp6 _ ?_ n6 _ _ _ _ _ _ _ _ ls h (hP.sub (ws' := bd_w a0 q s0 ++ tp_w a1 q s1) [0, 1, 2, 3, 4, 5, 6, 7, 8, 9, 10, 11, 12, 13, 14] rfl) (hD.sub (ws' := bd_w a0 q s0 ++ tp_w a1 q s1) [0, 1, 2, 3, 4, 5, 6, 7, 8, 9, 10, 11, 12, 13, 14] (by decide) rfl) hS (lv_sub hl [3, 5, 6, 1, 0, 2, 4] rfl)
  · intro t0 z1 z3 z4 z5 z6 H locs ls h hP hD hS hl
    try dsimp only at h
    have hP : va_P D vwCl [((a0 0), .inr (0, [.int (t0.1 0), .int (t0.1 1), .int (t0.1 2), .int (t0.1 3), .int (t0.1 4), .int (t0.1 5), .ref (a0 1), .ref (a0 2), .ref (a0 3), .ref (a0 4), .ref (a0 5), .ref (a0 6), .ref (a0 7), .ref (a0 8), .ref (a0 9), .ref (a0 10), .ref (a0 11), .ref (a0 12)])), ((a0 1), .inl (q 0, 4, .inl (t0.2.1 0))), ((a0 2), .inl (q 0, 4, .inl (t0.2.1 1))), ((a0 3), .inl (q 0, 160, .inl (t0.2.1 2))), ((a0 4), .inl (q 0, 40, .inl (t0.2.1 3))), ((a0 5), .inl (q 0, 40, .inl (t0.2.1 4))), ((a0 6), .inl (q 0, 40, .inl (t0.2.1 5))), ((a0 7), .inl (q 0, 40, .inl (t0.2.1 6))), ((a0 8), .inl (q 0, 40, .inl (t0.2.1 7))), ((a0 9), .inl (q 0, 40, .inl (t0.2.1 8))), ((a0 10), .inl (q 0, 40, .inl (t0.2.1 9))), ((a0 11), .inl (q 1, 40, .inr (.inl t0.2.2.1))), ((a0 12), .inl (q 0, t0.2.2.2.1, .inl t0.2.2.2.2)), ((a1 0), .inr (4, [.ref (a1 1), .int (s1.1 0), .int (s1.1 1), .int (s1.1 2), .int (s1.1 3), .int (s1.1 4), .int (s1.1 5)])), ((a1 1), .inl (q 0, 400, .inl s1.2))] H := hP
    have hD : va_D _ [((a0 0), .inr (0, [.int (t0.1 0), .int (t0.1 1), .int (t0.1 2), .int (t0.1 3), .int (t0.1 4), .int (t0.1 5), .ref (a0 1), .ref (a0 2), .ref (a0 3), .ref (a0 4), .ref (a0 5), .ref (a0 6), .ref (a0 7), .ref (a0 8), .ref (a0 9), .ref (a0 10), .ref (a0 11), .ref (a0 12)])), ((a0 1), .inl (q 0, 4, .inl (t0.2.1 0))), ((a0 2), .inl (q 0, 4, .inl (t0.2.1 1))), ((a0 3), .inl (q 0, 160, .inl (t0.2.1 2))), ((a0 4), .inl (q 0, 40, .inl (t0.2.1 3))), ((a0 5), .inl (q 0, 40, .inl (t0.2.1 4))), ((a0 6), .inl (q 0, 40, .inl (t0.2.1 5))), ((a0 7), .inl (q 0, 40, .inl (t0.2.1 6))), ((a0 8), .inl (q 0, 40, .inl (t0.2.1 7))), ((a0 9), .inl (q 0, 40, .inl (t0.2.1 8))), ((a0 10), .inl (q 0, 40, .inl (t0.2.1 9))), ((a0 11), .inl (q 1, 40, .inr (.inl t0.2.2.1))), ((a0 12), .inl (q 0, t0.2.2.2.1, .inl t0.2.2.2.2)), ((a1 0), .inr (4, [.ref (a1 1), .int (s1.1 0), .int (s1.1 1), .int (s1.1 2), .int (s1.1 3), .int (s1.1 4), .int (s1.1 5)])), ((a1 1), .inl (q 0, 400, .inl s1.2))] := hD
    refine lv_iload hx hb dX0_wantSigns_55 (lv_at hl 3 rfl) ?_
    exact mt_iret t0 hx hb hr hk h (hP.sub (ws' := bd_w a0 q t0 ++ tp_w a1 q s1) [0, 1, 2, 3, 4, 5, 6, 7, 8, 9, 10, 11, 12, 13, 14] rfl) (hD.sub (ws' := bd_w a0 q t0 ++ tp_w a1 q s1) [0, 1, 2, 3, 4, 5, 6, 7, 8, 9, 10, 11, 12, 13, 14] (by decide) rfl) hS dX0_wantSigns_57

def wp_X0_scrollUp_L6 (s1 : Tp) (post : Int32 → Bd → Prop) (e54 : Bd → Int32 → Int32 → Int32 → Int32 → Prop) : Nat → Bd → Int32 → Int32 → Int32 → Int32 → Prop
  | 0, _, _, _, _, _ => False
  | n6 + 1, t0, z2, z3, z4, z5 => wp_X0_cells (fun r_1 => (((r_1 - (t0.1 1)) ≤ z5 → e54 t0 z2 z3 z4 z5) ∧ (¬ (r_1 - (t0.1 1)) ≤ z5 → wp_X0_wantedSign (fun r_4 => wp_X0_nearest (fun r_6 => wp_X0_wantFlap (fun r_8 u_9 => wp_X0_scrollUp_L6 s1 post e54 n6 u_9 z2 z3 (z4 + r_8) (z5 + 1)) t0 z5 r_6) t0 z5 r_4) t0 (z5 + (t0.1 1))))) t0
def wp_X0_scrollUp (post : Int32 → Bd → Prop) (s0 : Bd) (s1 : Tp) (x2 : Int32) (x3 : Int32) : Prop := (∃ n6, wp_X0_scrollUp_L6 s1 post (fun t0 z2 z3 z4 z5 => wp_X0_wantSigns (fun r_10 u_11 => post (z4 + r_10) u_11) t0 s1 ((t0.1 0) - 1) z2 z3) n6 s0 x2 x3 0 0)
set_option maxHeartbeats 4000000 in
set_option maxRecDepth 100000 in
theorem c2_X0_scrollUp {l : Launch} {D : va_G} {q : Nat → ClassId} {sz : Nat} {a0 : Nat → Nat} {a1 : Nat → Nat} {s0 : Bd} {s1 : Tp} {x2 : Int32} {x3 : Int32} {post : Int32 → Bd → Prop} (h : wp_X0_scrollUp post s0 s1 x2 x3) : Met l yX0_scrollUp (Cond.code yX0_scrollUp cX0_scrollUp 6 (some .int) :: w_all) ({ frames := 3, cells := 0, slots := 0, locals := 81 } : Room) (mt_P D q [.ref (a0 0), .ref (a1 0), .int x2, .int x3] (bd_w a0 q s0 ++ tp_w a1 q s1) sz) (va_Qi (fun r (u : Bd) => post r u) (mt_B D (bd_w a0 q s0 ++ tp_w a1 q s1) sz (fun u : Bd => bd_w a0 q u ++ tp_w a1 q s1)) (va_A (bd_w a0 q s0 ++ tp_w a1 q s1) sz)) 0 0 (va_A (bd_w a0 q s0 ++ tp_w a1 q s1) sz) := by
  refine mt_start (by decide) (Nat.le_of_ble_eq_true rfl) ?_
  intro p e s m below meth c ls hx hb hr hml hown ht hk hin hP hQ hD hA hS hV hl
  have hK := hQ.1
  have hown : s.vm.findClass RX0 = some m.cls := hown
  have hl : lv_has ls 6 [(0, .ref (a0 0)), (1, .ref (a1 0)), (2, .int x2), (3, .int x3)] := hl
  have hP : va_P D vwCl [((a0 0), .inr (0, [.int (s0.1 0), .int (s0.1 1), .int (s0.1 2), .int (s0.1 3), .int (s0.1 4), .int (s0.1 5), .ref (a0 1), .ref (a0 2), .ref (a0 3), .ref (a0 4), .ref (a0 5), .ref (a0 6), .ref (a0 7), .ref (a0 8), .ref (a0 9), .ref (a0 10), .ref (a0 11), .ref (a0 12)])), ((a0 1), .inl (q 0, 4, .inl (s0.2.1 0))), ((a0 2), .inl (q 0, 4, .inl (s0.2.1 1))), ((a0 3), .inl (q 0, 160, .inl (s0.2.1 2))), ((a0 4), .inl (q 0, 40, .inl (s0.2.1 3))), ((a0 5), .inl (q 0, 40, .inl (s0.2.1 4))), ((a0 6), .inl (q 0, 40, .inl (s0.2.1 5))), ((a0 7), .inl (q 0, 40, .inl (s0.2.1 6))), ((a0 8), .inl (q 0, 40, .inl (s0.2.1 7))), ((a0 9), .inl (q 0, 40, .inl (s0.2.1 8))), ((a0 10), .inl (q 0, 40, .inl (s0.2.1 9))), ((a0 11), .inl (q 1, 40, .inr (.inl s0.2.2.1))), ((a0 12), .inl (q 0, s0.2.2.2.1, .inl s0.2.2.2.2)), ((a1 0), .inr (4, [.ref (a1 1), .int (s1.1 0), .int (s1.1 1), .int (s1.1 2), .int (s1.1 3), .int (s1.1 4), .int (s1.1 5)])), ((a1 1), .inl (q 0, 400, .inl s1.2))] s.heap := hP
  have hD : va_D _ [((a0 0), .inr (0, [.int (s0.1 0), .int (s0.1 1), .int (s0.1 2), .int (s0.1 3), .int (s0.1 4), .int (s0.1 5), .ref (a0 1), .ref (a0 2), .ref (a0 3), .ref (a0 4), .ref (a0 5), .ref (a0 6), .ref (a0 7), .ref (a0 8), .ref (a0 9), .ref (a0 10), .ref (a0 11), .ref (a0 12)])), ((a0 1), .inl (q 0, 4, .inl (s0.2.1 0))), ((a0 2), .inl (q 0, 4, .inl (s0.2.1 1))), ((a0 3), .inl (q 0, 160, .inl (s0.2.1 2))), ((a0 4), .inl (q 0, 40, .inl (s0.2.1 3))), ((a0 5), .inl (q 0, 40, .inl (s0.2.1 4))), ((a0 6), .inl (q 0, 40, .inl (s0.2.1 5))), ((a0 7), .inl (q 0, 40, .inl (s0.2.1 6))), ((a0 8), .inl (q 0, 40, .inl (s0.2.1 7))), ((a0 9), .inl (q 0, 40, .inl (s0.2.1 8))), ((a0 10), .inl (q 0, 40, .inl (s0.2.1 9))), ((a0 11), .inl (q 1, 40, .inr (.inl s0.2.2.1))), ((a0 12), .inl (q 0, s0.2.2.2.1, .inl s0.2.2.2.2)), ((a1 0), .inr (4, [.ref (a1 1), .int (s1.1 0), .int (s1.1 1), .int (s1.1 2), .int (s1.1 3), .int (s1.1 4), .int (s1.1 5)])), ((a1 1), .inl (q 0, 400, .inl s1.2))] := hD
  unfold wp_X0_scrollUp at h
  refine lv_iconst (v := 0) hx hb dX0_scrollUp_0 (by decide) ?_
  refine lv_istore (lv' := [(4, .int 0), (0, .ref (a0 0)), (1, .ref (a1 0)), (2, .int x2), (3, .int x3)]) hx hb dX0_scrollUp_1 hl (by decide) rfl (fun ls hl => ?_)
  refine lv_iconst (v := 0) hx hb dX0_scrollUp_3 (by decide) ?_
  refine lv_istore (lv' := [(5, .int 0), (4, .int 0), (0, .ref (a0 0)), (1, .ref (a1 0)), (2, .int x2), (3, .int x3)]) hx hb dX0_scrollUp_4 hl (by decide) rfl (fun ls hl => ?_)
  have lp6 : ∀ (e54 : Bd → Int32 → Int32 → Int32 → Int32 → Prop) (k54 : ∀ (t0 : Bd) (z2 : Int32) (z3 : Int32) (z4 : Int32) (z5 : Int32) (H : Heap) (locs : List Loc) (ls : Array Slot), e54 t0 z2 z3 z4 z5 → va_P D vwCl (bd_w a0 q t0 ++ tp_w a1 q s1) H → va_D (va_A (bd_w a0 q s0 ++ tp_w a1 q s1) sz) (bd_w a0 q t0 ++ tp_w a1 q s1) → va_S (va_A (bd_w a0 q s0 ++ tp_w a1 q s1) sz) s.heap H locs → lv_has ls 6 [(2, .int z2), (3, .int z3), (4, .int z4), (5, .int z5), (0, .ref (a0 0)), (1, .ref (a1 0))] → W p l e ({ frames := 3, cells := 0, slots := 0, locals := 81 } : Room) s m [.ref (a0 0), .ref (a1 0), .int x2, .int x3].toArray below meth c H locs 0 0 (MQ below (va_Qi (fun r (u : Bd) => post r u) (mt_B D (bd_w a0 q s0 ++ tp_w a1 q s1) sz (fun u : Bd => bd_w a0 q u ++ tp_w a1 q s1)) (va_A (bd_w a0 q s0 ++ tp_w a1 q s1) sz)) [.ref (a0 0), .ref (a1 0), .int x2, .int x3].toArray s 0 0 (va_A (bd_w a0 q s0 ++ tp_w a1 q s1) sz)) (F0 m 54 ls [])) (n : Nat) (t0 : Bd) (z2 : Int32) (z3 : Int32) (z4 : Int32) (z5 : Int32) (H : Heap) (locs : List Loc) (ls : Array Slot), wp_X0_scrollUp_L6 s1 post e54 n t0 z2 z3 z4 z5 → va_P D vwCl (bd_w a0 q t0 ++ tp_w a1 q s1) H → va_D (va_A (bd_w a0 q s0 ++ tp_w a1 q s1) sz) (bd_w a0 q t0 ++ tp_w a1 q s1) → va_S (va_A (bd_w a0 q s0 ++ tp_w a1 q s1) sz) s.heap H locs → lv_has ls 6 [(2, .int z2), (3, .int z3), (4, .int z4), (5, .int z5), (0, .ref (a0 0)), (1, .ref (a1 0))] → W p l e ({ frames := 3, cells := 0, slots := 0, locals := 81 } : Room) s m [.ref (a0 0), .ref (a1 0), .int x2, .int x3].toArray below meth c H locs 0 0 (MQ below (va_Qi (fun r (u : Bd) => post r u) (mt_B D (bd_w a0 q s0 ++ tp_w a1 q s1) sz (fun u : Bd => bd_w a0 q u ++ tp_w a1 q s1)) (va_A (bd_w a0 q s0 ++ tp_w a1 q s1) sz)) [.ref (a0 0), .ref (a1 0), .int x2, .int x3].toArray s 0 0 (va_A (bd_w a0 q s0 ++ tp_w a1 q s1) sz)) (F0 m 6 ls []) := by
    intro e54 k54 n
    induction n with
    | zero =>
      intro t0 z2 z3 z4 z5 H locs ls h
      exact h.elim
    | succ n ih =>
      intro t0 z2 z3 z4 z5 H locs ls h hP hD hS hl
      have hP : va_P D vwCl [((a0 0), .inr (0, [.int (t0.1 0), .int (t0.1 1), .int (t0.1 2), .int (t0.1 3), .int (t0.1 4), .int (t0.1 5), .ref (a0 1), .ref (a0 2), .ref (a0 3), .ref (a0 4), .ref (a0 5), .ref (a0 6), .ref (a0 7), .ref (a0 8), .ref (a0 9), .ref (a0 10), .ref (a0 11), .ref (a0 12)])), ((a0 1), .inl (q 0, 4, .inl (t0.2.1 0))), ((a0 2), .inl (q 0, 4, .inl (t0.2.1 1))), ((a0 3), .inl (q 0, 160, .inl (t0.2.1 2))), ((a0 4), .inl (q 0, 40, .inl (t0.2.1 3))), ((a0 5), .inl (q 0, 40, .inl (t0.2.1 4))), ((a0 6), .inl (q 0, 40, .inl (t0.2.1 5))), ((a0 7), .inl (q 0, 40, .inl (t0.2.1 6))), ((a0 8), .inl (q 0, 40, .inl (t0.2.1 7))), ((a0 9), .inl (q 0, 40, .inl (t0.2.1 8))), ((a0 10), .inl (q 0, 40, .inl (t0.2.1 9))), ((a0 11), .inl (q 1, 40, .inr (.inl t0.2.2.1))), ((a0 12), .inl (q 0, t0.2.2.2.1, .inl t0.2.2.2.2)), ((a1 0), .inr (4, [.ref (a1 1), .int (s1.1 0), .int (s1.1 1), .int (s1.1 2), .int (s1.1 3), .int (s1.1 4), .int (s1.1 5)])), ((a1 1), .inl (q 0, 400, .inl s1.2))] H := hP
      have hD : va_D _ [((a0 0), .inr (0, [.int (t0.1 0), .int (t0.1 1), .int (t0.1 2), .int (t0.1 3), .int (t0.1 4), .int (t0.1 5), .ref (a0 1), .ref (a0 2), .ref (a0 3), .ref (a0 4), .ref (a0 5), .ref (a0 6), .ref (a0 7), .ref (a0 8), .ref (a0 9), .ref (a0 10), .ref (a0 11), .ref (a0 12)])), ((a0 1), .inl (q 0, 4, .inl (t0.2.1 0))), ((a0 2), .inl (q 0, 4, .inl (t0.2.1 1))), ((a0 3), .inl (q 0, 160, .inl (t0.2.1 2))), ((a0 4), .inl (q 0, 40, .inl (t0.2.1 3))), ((a0 5), .inl (q 0, 40, .inl (t0.2.1 4))), ((a0 6), .inl (q 0, 40, .inl (t0.2.1 5))), ((a0 7), .inl (q 0, 40, .inl (t0.2.1 6))), ((a0 8), .inl (q 0, 40, .inl (t0.2.1 7))), ((a0 9), .inl (q 0, 40, .inl (t0.2.1 8))), ((a0 10), .inl (q 0, 40, .inl (t0.2.1 9))), ((a0 11), .inl (q 1, 40, .inr (.inl t0.2.2.1))), ((a0 12), .inl (q 0, t0.2.2.2.1, .inl t0.2.2.2.2)), ((a1 0), .inr (4, [.ref (a1 1), .int (s1.1 0), .int (s1.1 1), .int (s1.1 2), .int (s1.1 3), .int (s1.1 4), .int (s1.1 5)])), ((a1 1), .inl (q 0, 400, .inl s1.2))] := hD
      unfold wp_X0_scrollUp_L6 at h
      refine lv_iload hx hb dX0_scrollUp_6 (lv_at hl 3 rfl) ?_
      refine lv_aload_n hx hb dX0_scrollUp_8 rfl (lv_at hl 4 rfl) ?_
      refine vp_callSi (rd_wV (wc := bd_w a0 q t0) (As := []) (rest := [.int z5]) hx hb hml hown ht (c2_X0_cells h) wd_X0_cells mw_588 hQ hV hS (hP.sub [0, 1, 2, 3, 4, 5, 6, 7, 8, 9, 10, 11, 12] rfl) rfl rfl rfl hl.1 rfl (Nat.le_of_ble_eq_true rfl) dX0_scrollUp_9 ⟨Nat.le_of_ble_eq_true rfl, Nat.le_of_ble_eq_true rfl, rfl, rfl⟩ ⟨Nat.le_of_ble_eq_true rfl, Nat.le_of_ble_eq_true rfl⟩) (fun r_1 h => ?_)
      try dsimp only at h
      refine lv_aload_n hx hb dX0_scrollUp_12 rfl (lv_at hl 4 rfl) ?_
      refine fl_get (C := RX0) (T := TX0) (N := 18) (ci := 0) (v := .int (t0.1 1)) hx hb ht in_X0 hown hK hP 0 rfl rfl 1 (by decide) mw_171 rfl dX0_scrollUp_13 ?_
      refine lv_isub hx hb dX0_scrollUp_16 ?_
      refine lv_icmp_ge (tgt := 54) hx hb dX0_scrollUp_17 (by decide) (fun c_3 => ?_) (fun c_3 => ?_)
      · replace h := h.1 c_3
        exact k54 _ _ _ _ _ _ _ ls h (hP.sub (ws' := bd_w a0 q t0 ++ tp_w a1 q s1) [0, 1, 2, 3, 4, 5, 6, 7, 8, 9, 10, 11, 12, 13, 14] rfl) (hD.sub (ws' := bd_w a0 q t0 ++ tp_w a1 q s1) [0, 1, 2, 3, 4, 5, 6, 7, 8, 9, 10, 11, 12, 13, 14] (by decide) rfl) hS (lv_sub hl [0, 1, 2, 3, 4, 5] rfl)
      · replace h := h.2 c_3
        refine lv_iload hx hb dX0_scrollUp_20 (lv_at hl 2 rfl) ?_
        refine lv_aload_n hx hb dX0_scrollUp_22 rfl (lv_at hl 4 rfl) ?_
        refine lv_iload hx hb dX0_scrollUp_23 (lv_at hl 3 rfl) ?_
        refine lv_aload_n hx hb dX0_scrollUp_25 rfl (lv_at hl 4 rfl) ?_
        refine lv_iload hx hb dX0_scrollUp_26 (lv_at hl 3 rfl) ?_
        refine lv_aload_n hx hb dX0_scrollUp_28 rfl (lv_at hl 4 rfl) ?_
        refine lv_iload hx hb dX0_scrollUp_29 (lv_at hl 3 rfl) ?_
        refine lv_aload_n hx hb dX0_scrollUp_31 rfl (lv_at hl 4 rfl) ?_
        refine fl_get (C := RX0) (T := TX0) (N := 18) (ci := 0) (v := .int (t0.1 1)) hx hb ht in_X0 hown hK hP 0 rfl rfl 1 (by decide) mw_171 rfl dX0_scrollUp_32 ?_
        refine lv_iadd hx hb dX0_scrollUp_35 ?_
        refine vp_callSi (rd_wV (wc := bd_w a0 q t0) (As := [.int (z5 + (t0.1 1))]) (rest := [.int z5, .ref (a0 0), .int z5, .ref (a0 0), .int z4]) hx hb hml hown ht (c2_X0_wantedSign h) wd_X0_wantedSign mw_660 hQ hV hS (hP.sub [0, 1, 2, 3, 4, 5, 6, 7, 8, 9, 10, 11, 12] rfl) rfl rfl rfl hl.1 rfl (Nat.le_of_ble_eq_true rfl) dX0_scrollUp_36 ⟨Nat.le_of_ble_eq_true rfl, Nat.le_of_ble_eq_true rfl, rfl, rfl⟩ ⟨Nat.le_of_ble_eq_true rfl, Nat.le_of_ble_eq_true rfl⟩) (fun r_4 h => ?_)
        try dsimp only at h
        refine vp_callSi (rd_wV (wc := bd_w a0 q t0) (As := [.int z5, .int r_4]) (rest := [.int z5, .ref (a0 0), .int z4]) hx hb hml hown ht (c2_X0_nearest h) wd_X0_nearest mw_572 hQ hV hS (hP.sub [0, 1, 2, 3, 4, 5, 6, 7, 8, 9, 10, 11, 12] rfl) rfl rfl rfl hl.1 rfl (Nat.le_of_ble_eq_true rfl) dX0_scrollUp_39 ⟨Nat.le_of_ble_eq_true rfl, Nat.le_of_ble_eq_true rfl, rfl, rfl⟩ ⟨Nat.le_of_ble_eq_true rfl, Nat.le_of_ble_eq_true rfl⟩) (fun r_6 h => ?_)
        try dsimp only at h
        refine mt_goi (mt_wV (wc := bd_w a0 q t0) (As := [.int z5, .int r_6]) (rest := [.int z4]) hx hb hml hown ht (c2_X0_wantFlap h) wd_X0_wantFlap mw_647 hQ hV hS hA (hP.sub [0, 1, 2, 3, 4, 5, 6, 7, 8, 9, 10, 11, 12] rfl) (hD.sub [0, 1, 2, 3, 4, 5, 6, 7, 8, 9, 10, 11, 12] (by decide) rfl) rfl rfl rfl hl.1 rfl (Nat.le_of_ble_eq_true rfl) dX0_scrollUp_42 ⟨Nat.le_of_ble_eq_true rfl, Nat.le_of_ble_eq_true rfl, rfl, rfl⟩ ⟨Nat.le_of_ble_eq_true rfl, Nat.le_of_ble_eq_true rfl⟩) (wr := [((a1 0), .inr (4, [.ref (a1 1), .int (s1.1 0), .int (s1.1 1), .int (s1.1 2), .int (s1.1 3), .int (s1.1 4), .int (s1.1 5)])), ((a1 1), .inl (q 0, 400, .inl s1.2))]) hP hD hS hA [0, 1, 2, 3, 4, 5, 6, 7, 8, 9, 10, 11, 12] [13, 14] rfl rfl (by decide) (by decide) (fun r_8 u_9 H locs h hP hD hS => ?_)
        try dsimp only at h
        have hP : va_P D vwCl [((a1 0), .inr (4, [.ref (a1 1), .int (s1.1 0), .int (s1.1 1), .int (s1.1 2), .int (s1.1 3), .int (s1.1 4), .int (s1.1 5)])), ((a1 1), .inl (q 0, 400, .inl s1.2)), ((a0 0), .inr (0, [.int (u_9.1 0), .int (u_9.1 1), .int (u_9.1 2), .int (u_9.1 3), .int (u_9.1 4), .int (u_9.1 5), .ref (a0 1), .ref (a0 2), .ref (a0 3), .ref (a0 4), .ref (a0 5), .ref (a0 6), .ref (a0 7), .ref (a0 8), .ref (a0 9), .ref (a0 10), .ref (a0 11), .ref (a0 12)])), ((a0 1), .inl (q 0, 4, .inl (u_9.2.1 0))), ((a0 2), .inl (q 0, 4, .inl (u_9.2.1 1))), ((a0 3), .inl (q 0, 160, .inl (u_9.2.1 2))), ((a0 4), .inl (q 0, 40, .inl (u_9.2.1 3))), ((a0 5), .inl (q 0, 40, .inl (u_9.2.1 4))), ((a0 6), .inl (q 0, 40, .inl (u_9.2.1 5))), ((a0 7), .inl (q 0, 40, .inl (u_9.2.1 6))), ((a0 8), .inl (q 0, 40, .inl (u_9.2.1 7))), ((a0 9), .inl (q 0, 40, .inl (u_9.2.1 8))), ((a0 10), .inl (q 0, 40, .inl (u_9.2.1 9))), ((a0 11), .inl (q 1, 40, .inr (.inl u_9.2.2.1))), ((a0 12), .inl (q 0, u_9.2.2.2.1, .inl u_9.2.2.2.2))] H := hP
        have hD : va_D _ [((a1 0), .inr (4, [.ref (a1 1), .int (s1.1 0), .int (s1.1 1), .int (s1.1 2), .int (s1.1 3), .int (s1.1 4), .int (s1.1 5)])), ((a1 1), .inl (q 0, 400, .inl s1.2)), ((a0 0), .inr (0, [.int (u_9.1 0), .int (u_9.1 1), .int (u_9.1 2), .int (u_9.1 3), .int (u_9.1 4), .int (u_9.1 5), .ref (a0 1), .ref (a0 2), .ref (a0 3), .ref (a0 4), .ref (a0 5), .ref (a0 6), .ref (a0 7), .ref (a0 8), .ref (a0 9), .ref (a0 10), .ref (a0 11), .ref (a0 12)])), ((a0 1), .inl (q 0, 4, .inl (u_9.2.1 0))), ((a0 2), .inl (q 0, 4, .inl (u_9.2.1 1))), ((a0 3), .inl (q 0, 160, .inl (u_9.2.1 2))), ((a0 4), .inl (q 0, 40, .inl (u_9.2.1 3))), ((a0 5), .inl (q 0, 40, .inl (u_9.2.1 4))), ((a0 6), .inl (q 0, 40, .inl (u_9.2.1 5))), ((a0 7), .inl (q 0, 40, .inl (u_9.2.1 6))), ((a0 8), .inl (q 0, 40, .inl (u_9.2.1 7))), ((a0 9), .inl (q 0, 40, .inl (u_9.2.1 8))), ((a0 10), .inl (q 0, 40, .inl (u_9.2.1 9))), ((a0 11), .inl (q 1, 40, .inr (.inl u_9.2.2.1))), ((a0 12), .inl (q 0, u_9.2.2.2.1, .inl u_9.2.2.2.2))] := hD
        refine lv_iadd hx hb dX0_scrollUp_45 ?_
        refine lv_istore (lv' := [(4, .int (z4 + r_8)), (2, .int z2), (3, .int z3), (5, .int z5), (0, .ref (a0 0)), (1, .ref (a1 0))]) hx hb dX0_scrollUp_46 hl (by decide) rfl (fun ls hl => ?_)
        refine lv_iinc (v := (z5 + 1)) (lv' := [(5, .int (z5 + 1)), (4, .int (z4 + r_8)), (2, .int z2), (3, .int z3), (0, .ref (a0 0)), (1, .ref (a1 0))]) hx hb dX0_scrollUp_48 hl (k := 3) rfl rfl (by decide) rfl (fun ls hl => ?_)
        refine lv_goto (tgt := 6) hx hb dX0_scrollUp_51 (by decide) ?_
        exact ih _ _ _ _ _ _ _ ls h (hP.sub (ws' := bd_w a0 q u_9 ++ tp_w a1 q s1) [2, 3, 4, 5, 6, 7, 8, 9, 10, 11, 12, 13, 14, 0, 1] rfl) (hD.sub (ws' := bd_w a0 q u_9 ++ tp_w a1 q s1) [2, 3, 4, 5, 6, 7, 8, 9, 10, 11, 12, 13, 14, 0, 1] (by decide) rfl) hS (lv_sub hl [2, 3, 1, 0, 4, 5] rfl)
  obtain ⟨n6, h⟩ := h
  refine lp6 _ ?_ n6 _ _ _ _ _ _ _ ls h (hP.sub (ws' := bd_w a0 q s0 ++ tp_w a1 q s1) [0, 1, 2, 3, 4, 5, 6, 7, 8, 9, 10, 11, 12, 13, 14] rfl) (hD.sub (ws' := bd_w a0 q s0 ++ tp_w a1 q s1) [0, 1, 2, 3, 4, 5, 6, 7, 8, 9, 10, 11, 12, 13, 14] (by decide) rfl) hS (lv_sub hl [4, 5, 1, 0, 2, 3] rfl)
  · intro t0 z2 z3 z4 z5 H locs ls h hP hD hS hl
    try dsimp only at h
    have hP : va_P D vwCl [((a0 0), .inr (0, [.int (t0.1 0), .int (t0.1 1), .int (t0.1 2), .int (t0.1 3), .int (t0.1 4), .int (t0.1 5), .ref (a0 1), .ref (a0 2), .ref (a0 3), .ref (a0 4), .ref (a0 5), .ref (a0 6), .ref (a0 7), .ref (a0 8), .ref (a0 9), .ref (a0 10), .ref (a0 11), .ref (a0 12)])), ((a0 1), .inl (q 0, 4, .inl (t0.2.1 0))), ((a0 2), .inl (q 0, 4, .inl (t0.2.1 1))), ((a0 3), .inl (q 0, 160, .inl (t0.2.1 2))), ((a0 4), .inl (q 0, 40, .inl (t0.2.1 3))), ((a0 5), .inl (q 0, 40, .inl (t0.2.1 4))), ((a0 6), .inl (q 0, 40, .inl (t0.2.1 5))), ((a0 7), .inl (q 0, 40, .inl (t0.2.1 6))), ((a0 8), .inl (q 0, 40, .inl (t0.2.1 7))), ((a0 9), .inl (q 0, 40, .inl (t0.2.1 8))), ((a0 10), .inl (q 0, 40, .inl (t0.2.1 9))), ((a0 11), .inl (q 1, 40, .inr (.inl t0.2.2.1))), ((a0 12), .inl (q 0, t0.2.2.2.1, .inl t0.2.2.2.2)), ((a1 0), .inr (4, [.ref (a1 1), .int (s1.1 0), .int (s1.1 1), .int (s1.1 2), .int (s1.1 3), .int (s1.1 4), .int (s1.1 5)])), ((a1 1), .inl (q 0, 400, .inl s1.2))] H := hP
    have hD : va_D _ [((a0 0), .inr (0, [.int (t0.1 0), .int (t0.1 1), .int (t0.1 2), .int (t0.1 3), .int (t0.1 4), .int (t0.1 5), .ref (a0 1), .ref (a0 2), .ref (a0 3), .ref (a0 4), .ref (a0 5), .ref (a0 6), .ref (a0 7), .ref (a0 8), .ref (a0 9), .ref (a0 10), .ref (a0 11), .ref (a0 12)])), ((a0 1), .inl (q 0, 4, .inl (t0.2.1 0))), ((a0 2), .inl (q 0, 4, .inl (t0.2.1 1))), ((a0 3), .inl (q 0, 160, .inl (t0.2.1 2))), ((a0 4), .inl (q 0, 40, .inl (t0.2.1 3))), ((a0 5), .inl (q 0, 40, .inl (t0.2.1 4))), ((a0 6), .inl (q 0, 40, .inl (t0.2.1 5))), ((a0 7), .inl (q 0, 40, .inl (t0.2.1 6))), ((a0 8), .inl (q 0, 40, .inl (t0.2.1 7))), ((a0 9), .inl (q 0, 40, .inl (t0.2.1 8))), ((a0 10), .inl (q 0, 40, .inl (t0.2.1 9))), ((a0 11), .inl (q 1, 40, .inr (.inl t0.2.2.1))), ((a0 12), .inl (q 0, t0.2.2.2.1, .inl t0.2.2.2.2)), ((a1 0), .inr (4, [.ref (a1 1), .int (s1.1 0), .int (s1.1 1), .int (s1.1 2), .int (s1.1 3), .int (s1.1 4), .int (s1.1 5)])), ((a1 1), .inl (q 0, 400, .inl s1.2))] := hD
    refine lv_iload hx hb dX0_scrollUp_54 (lv_at hl 2 rfl) ?_
    refine lv_aload_n hx hb dX0_scrollUp_56 rfl (lv_at hl 4 rfl) ?_
    refine lv_aload_n hx hb dX0_scrollUp_57 rfl (lv_at hl 4 rfl) ?_
    refine fl_get (C := RX0) (T := TX0) (N := 18) (ci := 0) (v := .int (t0.1 0)) hx hb ht in_X0 hown hK hP 0 rfl rfl 0 (by decide) mw_167 rfl dX0_scrollUp_58 ?_
    refine lv_iconst (v := 1) hx hb dX0_scrollUp_61 (by decide) ?_
    refine lv_isub hx hb dX0_scrollUp_62 ?_
    refine lv_aload_n hx hb dX0_scrollUp_63 rfl (lv_at hl 5 rfl) ?_
    refine lv_iload_n hx hb dX0_scrollUp_64 rfl (lv_at hl 0 rfl) ?_
    refine lv_iload_n hx hb dX0_scrollUp_65 rfl (lv_at hl 1 rfl) ?_
    refine mt_goi (mt_wV (wc := bd_w a0 q t0 ++ tp_w a1 q s1) (As := [.int ((t0.1 0) - 1), .ref (a1 0), .int z2, .int z3]) (rest := [.int z4]) hx hb hml hown ht (c2_X0_wantSigns h) wd_X0_wantSigns mw_672 hQ hV hS hA (hP.sub [0, 1, 2, 3, 4, 5, 6, 7, 8, 9, 10, 11, 12, 13, 14] rfl) (hD.sub [0, 1, 2, 3, 4, 5, 6, 7, 8, 9, 10, 11, 12, 13, 14] (by decide) rfl) rfl rfl rfl hl.1 rfl (Nat.le_of_ble_eq_true rfl) dX0_scrollUp_66 ⟨Nat.le_of_ble_eq_true rfl, Nat.le_of_ble_eq_true rfl, rfl, rfl⟩ ⟨Nat.le_of_ble_eq_true rfl, Nat.le_of_ble_eq_true rfl⟩) (wr := []) hP hD hS hA [0, 1, 2, 3, 4, 5, 6, 7, 8, 9, 10, 11, 12, 13, 14] [] rfl rfl (by decide) (by decide) (fun r_10 u_11 H locs h hP hD hS => ?_)
    try dsimp only at h
    have hP : va_P D vwCl [((a0 0), .inr (0, [.int (u_11.1 0), .int (u_11.1 1), .int (u_11.1 2), .int (u_11.1 3), .int (u_11.1 4), .int (u_11.1 5), .ref (a0 1), .ref (a0 2), .ref (a0 3), .ref (a0 4), .ref (a0 5), .ref (a0 6), .ref (a0 7), .ref (a0 8), .ref (a0 9), .ref (a0 10), .ref (a0 11), .ref (a0 12)])), ((a0 1), .inl (q 0, 4, .inl (u_11.2.1 0))), ((a0 2), .inl (q 0, 4, .inl (u_11.2.1 1))), ((a0 3), .inl (q 0, 160, .inl (u_11.2.1 2))), ((a0 4), .inl (q 0, 40, .inl (u_11.2.1 3))), ((a0 5), .inl (q 0, 40, .inl (u_11.2.1 4))), ((a0 6), .inl (q 0, 40, .inl (u_11.2.1 5))), ((a0 7), .inl (q 0, 40, .inl (u_11.2.1 6))), ((a0 8), .inl (q 0, 40, .inl (u_11.2.1 7))), ((a0 9), .inl (q 0, 40, .inl (u_11.2.1 8))), ((a0 10), .inl (q 0, 40, .inl (u_11.2.1 9))), ((a0 11), .inl (q 1, 40, .inr (.inl u_11.2.2.1))), ((a0 12), .inl (q 0, u_11.2.2.2.1, .inl u_11.2.2.2.2)), ((a1 0), .inr (4, [.ref (a1 1), .int (s1.1 0), .int (s1.1 1), .int (s1.1 2), .int (s1.1 3), .int (s1.1 4), .int (s1.1 5)])), ((a1 1), .inl (q 0, 400, .inl s1.2))] H := hP
    have hD : va_D _ [((a0 0), .inr (0, [.int (u_11.1 0), .int (u_11.1 1), .int (u_11.1 2), .int (u_11.1 3), .int (u_11.1 4), .int (u_11.1 5), .ref (a0 1), .ref (a0 2), .ref (a0 3), .ref (a0 4), .ref (a0 5), .ref (a0 6), .ref (a0 7), .ref (a0 8), .ref (a0 9), .ref (a0 10), .ref (a0 11), .ref (a0 12)])), ((a0 1), .inl (q 0, 4, .inl (u_11.2.1 0))), ((a0 2), .inl (q 0, 4, .inl (u_11.2.1 1))), ((a0 3), .inl (q 0, 160, .inl (u_11.2.1 2))), ((a0 4), .inl (q 0, 40, .inl (u_11.2.1 3))), ((a0 5), .inl (q 0, 40, .inl (u_11.2.1 4))), ((a0 6), .inl (q 0, 40, .inl (u_11.2.1 5))), ((a0 7), .inl (q 0, 40, .inl (u_11.2.1 6))), ((a0 8), .inl (q 0, 40, .inl (u_11.2.1 7))), ((a0 9), .inl (q 0, 40, .inl (u_11.2.1 8))), ((a0 10), .inl (q 0, 40, .inl (u_11.2.1 9))), ((a0 11), .inl (q 1, 40, .inr (.inl u_11.2.2.1))), ((a0 12), .inl (q 0, u_11.2.2.2.1, .inl u_11.2.2.2.2)), ((a1 0), .inr (4, [.ref (a1 1), .int (s1.1 0), .int (s1.1 1), .int (s1.1 2), .int (s1.1 3), .int (s1.1 4), .int (s1.1 5)])), ((a1 1), .inl (q 0, 400, .inl s1.2))] := hD
    refine lv_iadd hx hb dX0_scrollUp_69 ?_
    exact mt_iret u_11 hx hb hr hk h (hP.sub (ws' := bd_w a0 q u_11 ++ tp_w a1 q s1) [0, 1, 2, 3, 4, 5, 6, 7, 8, 9, 10, 11, 12, 13, 14] rfl) (hD.sub (ws' := bd_w a0 q u_11 ++ tp_w a1 q s1) [0, 1, 2, 3, 4, 5, 6, 7, 8, 9, 10, 11, 12, 13, 14] (by decide) rfl) hS dX0_scrollUp_70

def wp_X0_wantHome_L2 (post : Bd → Prop) (e30 : Bd → Int32 → Int32 → Prop) : Nat → Bd → Int32 → Int32 → Prop
  | 0, _, _, _ => False
  | n2 + 1, t0, z1, z2 => (((t0.1 1) ≤ z2 → e30 t0 z1 z2) ∧ (¬ (t0.1 1) ≤ z2 → vp_in ((z1 * (t0.1 1)) + z2) 40 ∧ wp_X0_wantHome_L2 post e30 n2 (t0.1, (va_up t0.2.1 6 (upd (t0.2.1 6) (Int32.toNatClampNeg ((z1 * (t0.1 1)) + z2)) 0)), t0.2.2.1, t0.2.2.2.1, t0.2.2.2.2) z1 (z2 + 1)))
def wp_X0_wantHome (post : Bd → Prop) (s0 : Bd) (x1 : Int32) : Prop := (∃ n2, wp_X0_wantHome_L2 post (fun t0 z1 z2 => post t0) n2 s0 x1 0)
set_option maxHeartbeats 4000000 in
set_option maxRecDepth 100000 in
theorem c2_X0_wantHome {l : Launch} {D : va_G} {q : Nat → ClassId} {sz : Nat} {a0 : Nat → Nat} {s0 : Bd} {x1 : Int32} {post : Bd → Prop} (h : wp_X0_wantHome post s0 x1) : Met l yX0_wantHome (Cond.code yX0_wantHome cX0_wantHome 3 none :: w_all) ({ frames := 0, cells := 0, slots := 0, locals := 0 } : Room) (mt_P D q [.ref (a0 0), .int x1] (bd_w a0 q s0) sz) (va_Qv (fun u : Bd => post u) (mt_B D (bd_w a0 q s0) sz (fun u : Bd => bd_w a0 q u)) (va_A (bd_w a0 q s0) sz)) 0 0 (va_A (bd_w a0 q s0) sz) := by
  refine mt_start (by decide) (Nat.le_of_ble_eq_true rfl) ?_
  intro p e s m below meth c ls hx hb hr hml hown ht hk hin hP hQ hD hA hS hV hl
  have hK := hQ.1
  have hown : s.vm.findClass RX0 = some m.cls := hown
  have hl : lv_has ls 3 [(0, .ref (a0 0)), (1, .int x1)] := hl
  have hP : va_P D vwCl [((a0 0), .inr (0, [.int (s0.1 0), .int (s0.1 1), .int (s0.1 2), .int (s0.1 3), .int (s0.1 4), .int (s0.1 5), .ref (a0 1), .ref (a0 2), .ref (a0 3), .ref (a0 4), .ref (a0 5), .ref (a0 6), .ref (a0 7), .ref (a0 8), .ref (a0 9), .ref (a0 10), .ref (a0 11), .ref (a0 12)])), ((a0 1), .inl (q 0, 4, .inl (s0.2.1 0))), ((a0 2), .inl (q 0, 4, .inl (s0.2.1 1))), ((a0 3), .inl (q 0, 160, .inl (s0.2.1 2))), ((a0 4), .inl (q 0, 40, .inl (s0.2.1 3))), ((a0 5), .inl (q 0, 40, .inl (s0.2.1 4))), ((a0 6), .inl (q 0, 40, .inl (s0.2.1 5))), ((a0 7), .inl (q 0, 40, .inl (s0.2.1 6))), ((a0 8), .inl (q 0, 40, .inl (s0.2.1 7))), ((a0 9), .inl (q 0, 40, .inl (s0.2.1 8))), ((a0 10), .inl (q 0, 40, .inl (s0.2.1 9))), ((a0 11), .inl (q 1, 40, .inr (.inl s0.2.2.1))), ((a0 12), .inl (q 0, s0.2.2.2.1, .inl s0.2.2.2.2))] s.heap := hP
  have hD : va_D _ [((a0 0), .inr (0, [.int (s0.1 0), .int (s0.1 1), .int (s0.1 2), .int (s0.1 3), .int (s0.1 4), .int (s0.1 5), .ref (a0 1), .ref (a0 2), .ref (a0 3), .ref (a0 4), .ref (a0 5), .ref (a0 6), .ref (a0 7), .ref (a0 8), .ref (a0 9), .ref (a0 10), .ref (a0 11), .ref (a0 12)])), ((a0 1), .inl (q 0, 4, .inl (s0.2.1 0))), ((a0 2), .inl (q 0, 4, .inl (s0.2.1 1))), ((a0 3), .inl (q 0, 160, .inl (s0.2.1 2))), ((a0 4), .inl (q 0, 40, .inl (s0.2.1 3))), ((a0 5), .inl (q 0, 40, .inl (s0.2.1 4))), ((a0 6), .inl (q 0, 40, .inl (s0.2.1 5))), ((a0 7), .inl (q 0, 40, .inl (s0.2.1 6))), ((a0 8), .inl (q 0, 40, .inl (s0.2.1 7))), ((a0 9), .inl (q 0, 40, .inl (s0.2.1 8))), ((a0 10), .inl (q 0, 40, .inl (s0.2.1 9))), ((a0 11), .inl (q 1, 40, .inr (.inl s0.2.2.1))), ((a0 12), .inl (q 0, s0.2.2.2.1, .inl s0.2.2.2.2))] := hD
  unfold wp_X0_wantHome at h
  refine lv_iconst (v := 0) hx hb dX0_wantHome_0 (by decide) ?_
  refine lv_istore_n (lv' := [(2, .int 0), (0, .ref (a0 0)), (1, .int x1)]) hx hb dX0_wantHome_1 rfl hl (by decide) rfl (fun ls hl => ?_)
  have lp2 : ∀ (e30 : Bd → Int32 → Int32 → Prop) (k30 : ∀ (t0 : Bd) (z1 : Int32) (z2 : Int32) (H : Heap) (locs : List Loc) (ls : Array Slot), e30 t0 z1 z2 → va_P D vwCl (bd_w a0 q t0) H → va_D (va_A (bd_w a0 q s0) sz) (bd_w a0 q t0) → va_S (va_A (bd_w a0 q s0) sz) s.heap H locs → lv_has ls 3 [(1, .int z1), (2, .int z2), (0, .ref (a0 0))] → W p l e ({ frames := 0, cells := 0, slots := 0, locals := 0 } : Room) s m [.ref (a0 0), .int x1].toArray below meth c H locs 0 0 (MQ below (va_Qv (fun u : Bd => post u) (mt_B D (bd_w a0 q s0) sz (fun u : Bd => bd_w a0 q u)) (va_A (bd_w a0 q s0) sz)) [.ref (a0 0), .int x1].toArray s 0 0 (va_A (bd_w a0 q s0) sz)) (F0 m 30 ls [])) (n : Nat) (t0 : Bd) (z1 : Int32) (z2 : Int32) (H : Heap) (locs : List Loc) (ls : Array Slot), wp_X0_wantHome_L2 post e30 n t0 z1 z2 → va_P D vwCl (bd_w a0 q t0) H → va_D (va_A (bd_w a0 q s0) sz) (bd_w a0 q t0) → va_S (va_A (bd_w a0 q s0) sz) s.heap H locs → lv_has ls 3 [(1, .int z1), (2, .int z2), (0, .ref (a0 0))] → W p l e ({ frames := 0, cells := 0, slots := 0, locals := 0 } : Room) s m [.ref (a0 0), .int x1].toArray below meth c H locs 0 0 (MQ below (va_Qv (fun u : Bd => post u) (mt_B D (bd_w a0 q s0) sz (fun u : Bd => bd_w a0 q u)) (va_A (bd_w a0 q s0) sz)) [.ref (a0 0), .int x1].toArray s 0 0 (va_A (bd_w a0 q s0) sz)) (F0 m 2 ls []) := by
    intro e30 k30 n
    induction n with
    | zero =>
      intro t0 z1 z2 H locs ls h
      exact h.elim
    | succ n ih =>
      intro t0 z1 z2 H locs ls h hP hD hS hl
      have hP : va_P D vwCl [((a0 0), .inr (0, [.int (t0.1 0), .int (t0.1 1), .int (t0.1 2), .int (t0.1 3), .int (t0.1 4), .int (t0.1 5), .ref (a0 1), .ref (a0 2), .ref (a0 3), .ref (a0 4), .ref (a0 5), .ref (a0 6), .ref (a0 7), .ref (a0 8), .ref (a0 9), .ref (a0 10), .ref (a0 11), .ref (a0 12)])), ((a0 1), .inl (q 0, 4, .inl (t0.2.1 0))), ((a0 2), .inl (q 0, 4, .inl (t0.2.1 1))), ((a0 3), .inl (q 0, 160, .inl (t0.2.1 2))), ((a0 4), .inl (q 0, 40, .inl (t0.2.1 3))), ((a0 5), .inl (q 0, 40, .inl (t0.2.1 4))), ((a0 6), .inl (q 0, 40, .inl (t0.2.1 5))), ((a0 7), .inl (q 0, 40, .inl (t0.2.1 6))), ((a0 8), .inl (q 0, 40, .inl (t0.2.1 7))), ((a0 9), .inl (q 0, 40, .inl (t0.2.1 8))), ((a0 10), .inl (q 0, 40, .inl (t0.2.1 9))), ((a0 11), .inl (q 1, 40, .inr (.inl t0.2.2.1))), ((a0 12), .inl (q 0, t0.2.2.2.1, .inl t0.2.2.2.2))] H := hP
      have hD : va_D _ [((a0 0), .inr (0, [.int (t0.1 0), .int (t0.1 1), .int (t0.1 2), .int (t0.1 3), .int (t0.1 4), .int (t0.1 5), .ref (a0 1), .ref (a0 2), .ref (a0 3), .ref (a0 4), .ref (a0 5), .ref (a0 6), .ref (a0 7), .ref (a0 8), .ref (a0 9), .ref (a0 10), .ref (a0 11), .ref (a0 12)])), ((a0 1), .inl (q 0, 4, .inl (t0.2.1 0))), ((a0 2), .inl (q 0, 4, .inl (t0.2.1 1))), ((a0 3), .inl (q 0, 160, .inl (t0.2.1 2))), ((a0 4), .inl (q 0, 40, .inl (t0.2.1 3))), ((a0 5), .inl (q 0, 40, .inl (t0.2.1 4))), ((a0 6), .inl (q 0, 40, .inl (t0.2.1 5))), ((a0 7), .inl (q 0, 40, .inl (t0.2.1 6))), ((a0 8), .inl (q 0, 40, .inl (t0.2.1 7))), ((a0 9), .inl (q 0, 40, .inl (t0.2.1 8))), ((a0 10), .inl (q 0, 40, .inl (t0.2.1 9))), ((a0 11), .inl (q 1, 40, .inr (.inl t0.2.2.1))), ((a0 12), .inl (q 0, t0.2.2.2.1, .inl t0.2.2.2.2))] := hD
      unfold wp_X0_wantHome_L2 at h
      refine lv_iload_n hx hb dX0_wantHome_2 rfl (lv_at hl 1 rfl) ?_
      refine lv_aload_n hx hb dX0_wantHome_3 rfl (lv_at hl 2 rfl) ?_
      refine fl_get (C := RX0) (T := TX0) (N := 18) (ci := 0) (v := .int (t0.1 1)) hx hb ht in_X0 hown hK hP 0 rfl rfl 1 (by decide) mw_171 rfl dX0_wantHome_4 ?_
      refine lv_icmp_ge (tgt := 30) hx hb dX0_wantHome_7 (by decide) (fun c_1 => ?_) (fun c_1 => ?_)
      · replace h := h.1 c_1
        exact k30 _ _ _ _ _ ls h (hP.sub (ws' := bd_w a0 q t0) [0, 1, 2, 3, 4, 5, 6, 7, 8, 9, 10, 11, 12] rfl) (hD.sub (ws' := bd_w a0 q t0) [0, 1, 2, 3, 4, 5, 6, 7, 8, 9, 10, 11, 12] (by decide) rfl) hS (lv_sub hl [0, 1, 2] rfl)
      · replace h := h.2 c_1
        refine lv_aload_n hx hb dX0_wantHome_10 rfl (lv_at hl 2 rfl) ?_
        refine fl_get (C := RX0) (T := TX0) (N := 18) (ci := 0) (v := .ref (a0 7)) hx hb ht in_X0 hown hK hP 0 rfl rfl 12 (by decide) mw_198 rfl dX0_wantHome_11 ?_
        refine lv_iload_n hx hb dX0_wantHome_14 rfl (lv_at hl 0 rfl) ?_
        refine lv_aload_n hx hb dX0_wantHome_15 rfl (lv_at hl 2 rfl) ?_
        refine fl_get (C := RX0) (T := TX0) (N := 18) (ci := 0) (v := .int (t0.1 1)) hx hb ht in_X0 hown hK hP 0 rfl rfl 1 (by decide) mw_171 rfl dX0_wantHome_16 ?_
        refine lv_imul hx hb dX0_wantHome_19 ?_
        refine lv_iload_n hx hb dX0_wantHome_20 rfl (lv_at hl 1 rfl) ?_
        refine lv_iadd hx hb dX0_wantHome_21 ?_
        refine lv_iconst (v := 0) hx hb dX0_wantHome_22 (by decide) ?_
        obtain ⟨g_2, h⟩ := h
        refine va_iast hx hb hK hP hD hS 7 0 rfl rfl g_2 dX0_wantHome_23 (fun H locs hP hD hS => ?_)
        have hP : va_P D vwCl [((a0 0), .inr (0, [.int (t0.1 0), .int (t0.1 1), .int (t0.1 2), .int (t0.1 3), .int (t0.1 4), .int (t0.1 5), .ref (a0 1), .ref (a0 2), .ref (a0 3), .ref (a0 4), .ref (a0 5), .ref (a0 6), .ref (a0 7), .ref (a0 8), .ref (a0 9), .ref (a0 10), .ref (a0 11), .ref (a0 12)])), ((a0 1), .inl (q 0, 4, .inl (t0.2.1 0))), ((a0 2), .inl (q 0, 4, .inl (t0.2.1 1))), ((a0 3), .inl (q 0, 160, .inl (t0.2.1 2))), ((a0 4), .inl (q 0, 40, .inl (t0.2.1 3))), ((a0 5), .inl (q 0, 40, .inl (t0.2.1 4))), ((a0 6), .inl (q 0, 40, .inl (t0.2.1 5))), ((a0 7), .inl (q 0, 40, .inl (upd (t0.2.1 6) (Int32.toNatClampNeg ((z1 * (t0.1 1)) + z2)) 0))), ((a0 8), .inl (q 0, 40, .inl (t0.2.1 7))), ((a0 9), .inl (q 0, 40, .inl (t0.2.1 8))), ((a0 10), .inl (q 0, 40, .inl (t0.2.1 9))), ((a0 11), .inl (q 1, 40, .inr (.inl t0.2.2.1))), ((a0 12), .inl (q 0, t0.2.2.2.1, .inl t0.2.2.2.2))] H := hP
        have hD : va_D _ [((a0 0), .inr (0, [.int (t0.1 0), .int (t0.1 1), .int (t0.1 2), .int (t0.1 3), .int (t0.1 4), .int (t0.1 5), .ref (a0 1), .ref (a0 2), .ref (a0 3), .ref (a0 4), .ref (a0 5), .ref (a0 6), .ref (a0 7), .ref (a0 8), .ref (a0 9), .ref (a0 10), .ref (a0 11), .ref (a0 12)])), ((a0 1), .inl (q 0, 4, .inl (t0.2.1 0))), ((a0 2), .inl (q 0, 4, .inl (t0.2.1 1))), ((a0 3), .inl (q 0, 160, .inl (t0.2.1 2))), ((a0 4), .inl (q 0, 40, .inl (t0.2.1 3))), ((a0 5), .inl (q 0, 40, .inl (t0.2.1 4))), ((a0 6), .inl (q 0, 40, .inl (t0.2.1 5))), ((a0 7), .inl (q 0, 40, .inl (upd (t0.2.1 6) (Int32.toNatClampNeg ((z1 * (t0.1 1)) + z2)) 0))), ((a0 8), .inl (q 0, 40, .inl (t0.2.1 7))), ((a0 9), .inl (q 0, 40, .inl (t0.2.1 8))), ((a0 10), .inl (q 0, 40, .inl (t0.2.1 9))), ((a0 11), .inl (q 1, 40, .inr (.inl t0.2.2.1))), ((a0 12), .inl (q 0, t0.2.2.2.1, .inl t0.2.2.2.2))] := hD
        refine lv_iinc (v := (z2 + 1)) (lv' := [(2, .int (z2 + 1)), (1, .int z1), (0, .ref (a0 0))]) hx hb dX0_wantHome_24 hl (k := 1) rfl rfl (by decide) rfl (fun ls hl => ?_)
        refine lv_goto (tgt := 2) hx hb dX0_wantHome_27 (by decide) ?_
        exact ih _ _ _ _ _ ls h (hP.sub (ws' := bd_w a0 q (t0.1, (va_up t0.2.1 6 (upd (t0.2.1 6) (Int32.toNatClampNeg ((z1 * (t0.1 1)) + z2)) 0)), t0.2.2.1, t0.2.2.2.1, t0.2.2.2.2)) [0, 1, 2, 3, 4, 5, 6, 7, 8, 9, 10, 11, 12] rfl) (hD.sub (ws' := bd_w a0 q (t0.1, (va_up t0.2.1 6 (upd (t0.2.1 6) (Int32.toNatClampNeg ((z1 * (t0.1 1)) + z2)) 0)), t0.2.2.1, t0.2.2.2.1, t0.2.2.2.2)) [0, 1, 2, 3, 4, 5, 6, 7, 8, 9, 10, 11, 12] (by decide) rfl) hS (lv_sub hl [1, 0, 2] rfl)
  obtain ⟨n2, h⟩ := h
  refine lp2 _ ?_ n2 _ _ _ _ _ ls h (hP.sub (ws' := bd_w a0 q s0) [0, 1, 2, 3, 4, 5, 6, 7, 8, 9, 10, 11, 12] rfl) (hD.sub (ws' := bd_w a0 q s0) [0, 1, 2, 3, 4, 5, 6, 7, 8, 9, 10, 11, 12] (by decide) rfl) hS (lv_sub hl [2, 0, 1] rfl)
  · intro t0 z1 z2 H locs ls h hP hD hS hl
    try dsimp only at h
    have hP : va_P D vwCl [((a0 0), .inr (0, [.int (t0.1 0), .int (t0.1 1), .int (t0.1 2), .int (t0.1 3), .int (t0.1 4), .int (t0.1 5), .ref (a0 1), .ref (a0 2), .ref (a0 3), .ref (a0 4), .ref (a0 5), .ref (a0 6), .ref (a0 7), .ref (a0 8), .ref (a0 9), .ref (a0 10), .ref (a0 11), .ref (a0 12)])), ((a0 1), .inl (q 0, 4, .inl (t0.2.1 0))), ((a0 2), .inl (q 0, 4, .inl (t0.2.1 1))), ((a0 3), .inl (q 0, 160, .inl (t0.2.1 2))), ((a0 4), .inl (q 0, 40, .inl (t0.2.1 3))), ((a0 5), .inl (q 0, 40, .inl (t0.2.1 4))), ((a0 6), .inl (q 0, 40, .inl (t0.2.1 5))), ((a0 7), .inl (q 0, 40, .inl (t0.2.1 6))), ((a0 8), .inl (q 0, 40, .inl (t0.2.1 7))), ((a0 9), .inl (q 0, 40, .inl (t0.2.1 8))), ((a0 10), .inl (q 0, 40, .inl (t0.2.1 9))), ((a0 11), .inl (q 1, 40, .inr (.inl t0.2.2.1))), ((a0 12), .inl (q 0, t0.2.2.2.1, .inl t0.2.2.2.2))] H := hP
    have hD : va_D _ [((a0 0), .inr (0, [.int (t0.1 0), .int (t0.1 1), .int (t0.1 2), .int (t0.1 3), .int (t0.1 4), .int (t0.1 5), .ref (a0 1), .ref (a0 2), .ref (a0 3), .ref (a0 4), .ref (a0 5), .ref (a0 6), .ref (a0 7), .ref (a0 8), .ref (a0 9), .ref (a0 10), .ref (a0 11), .ref (a0 12)])), ((a0 1), .inl (q 0, 4, .inl (t0.2.1 0))), ((a0 2), .inl (q 0, 4, .inl (t0.2.1 1))), ((a0 3), .inl (q 0, 160, .inl (t0.2.1 2))), ((a0 4), .inl (q 0, 40, .inl (t0.2.1 3))), ((a0 5), .inl (q 0, 40, .inl (t0.2.1 4))), ((a0 6), .inl (q 0, 40, .inl (t0.2.1 5))), ((a0 7), .inl (q 0, 40, .inl (t0.2.1 6))), ((a0 8), .inl (q 0, 40, .inl (t0.2.1 7))), ((a0 9), .inl (q 0, 40, .inl (t0.2.1 8))), ((a0 10), .inl (q 0, 40, .inl (t0.2.1 9))), ((a0 11), .inl (q 1, 40, .inr (.inl t0.2.2.1))), ((a0 12), .inl (q 0, t0.2.2.2.1, .inl t0.2.2.2.2))] := hD
    exact mt_vret t0 hx hb hr hk h (hP.sub (ws' := bd_w a0 q t0) [0, 1, 2, 3, 4, 5, 6, 7, 8, 9, 10, 11, 12] rfl) (hD.sub (ws' := bd_w a0 q t0) [0, 1, 2, 3, 4, 5, 6, 7, 8, 9, 10, 11, 12] (by decide) rfl) hS dX0_wantHome_30
