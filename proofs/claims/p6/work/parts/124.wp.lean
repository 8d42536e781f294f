def wp_X7_undo_L21 (post : Int32 → Md → Prop) (e55 : Md → Int32 → Prop) : Nat → Md → Int32 → Prop
  | 0, _, _ => False
  | n21 + 1, t0, z1 => ((6896 ≤ z1 → e55 t0 z1) ∧ (¬ 6896 ≤ z1 → vp_in ((6896 * (t0.1 0)) + z1) 68960 ∧ vp_in z1 6896 ∧ wp_X7_undo_L21 post e55 n21 (t0.1, t0.2.1, (va_up t0.2.2.1 0 (vp_updL (t0.2.2.1 0) (Int32.toNatClampNeg z1) ((t0.2.2.1 1) (Int32.toNatClampNeg ((6896 * (t0.1 0)) + z1))))), t0.2.2.2) (z1 + 1)))
def wp_X7_undo (post : Int32 → Md → Prop) (s0 : Md) : Prop := ((¬ (s0.1 0) = 0 → (∃ n21, wp_X7_undo_L21 post (fun t0 z1 => post (t0.1 0) t0) n21 ((va_up s0.1 0 ((s0.1 0) - 1)), s0.2.1, s0.2.2.1, s0.2.2.2) 0)) ∧ ((s0.1 0) = 0 → post (-1) s0))
set_option maxHeartbeats 4000000 in
set_option maxRecDepth 100000 in
theorem c2_X7_undo {l : Launch} {D : va_G} {q : Nat → ClassId} {sz : Nat} {a0 : Nat → Nat} {s0 : Md} {post : Int32 → Md → Prop} (h : wp_X7_undo post s0) : Met l yX7_undo (Cond.code yX7_undo cX7_undo 2 (some .int) :: w_all) ({ frames := 0, cells := 0, slots := 0, locals := 0 } : Room) (mt_P D q [.ref (a0 0)] (md_v a0 q s0) sz) (va_Qi (fun r (u : Md) => post r u) (mt_B D (md_v a0 q s0) sz (fun u : Md => md_v a0 q u)) (va_A (md_v a0 q s0) sz)) 0 0 (va_A (md_v a0 q s0) sz) := by
  refine mt_start (by decide) (Nat.le_of_ble_eq_true rfl) ?_
  intro p e s m below meth c ls hx hb hr hml hown ht hk hin hP hQ hD hA hS hV hl
  have hK := hQ.1
  have hown : s.vm.findClass RX7 = some m.cls := hown
  have hl : lv_has ls 2 [(0, .ref (a0 0))] := hl
  have hP : va_P D vwCl [((a0 0), .inr (6, [.ref (a0 1), .ref (a0 2), .int (s0.1 0), .ref (a0 3), .ref (a0 5), .ref (a0 4), .long s0.2.1, .int (s0.1 1), .int (s0.1 2), .ref (a0 6), .int (s0.1 3), .int (s0.1 4), .ref (a0 7), .int (s0.1 5), .int (s0.1 6), .int (s0.1 7), .int (s0.1 8), .int (s0.1 9), .int (s0.1 10), .int (s0.1 11), .int (s0.1 12), .int (s0.1 13), .int (s0.1 14)])), ((a0 1), .inl (q 1, 6896, .inr (.inl (s0.2.2.1 0)))), ((a0 2), .inl (q 1, 68960, .inr (.inl (s0.2.2.1 1)))), ((a0 3), .inl (q 1, 13792, .inr (.inl (s0.2.2.1 2)))), ((a0 4), .inl (q 1, 6896, .inr (.inl (s0.2.2.1 3)))), ((a0 5), .inl (q 3, 2, .inl (s0.2.2.2 0))), ((a0 6), .inl (q 0, 40, .inl (s0.2.2.2 1))), ((a0 7), .inl (q 2, 400, .inl (s0.2.2.2 2)))] s.heap := hP
  have hD : va_D _ [((a0 0), .inr (6, [.ref (a0 1), .ref (a0 2), .int (s0.1 0), .ref (a0 3), .ref (a0 5), .ref (a0 4), .long s0.2.1, .int (s0.1 1), .int (s0.1 2), .ref (a0 6), .int (s0.1 3), .int (s0.1 4), .ref (a0 7), .int (s0.1 5), .int (s0.1 6), .int (s0.1 7), .int (s0.1 8), .int (s0.1 9), .int (s0.1 10), .int (s0.1 11), .int (s0.1 12), .int (s0.1 13), .int (s0.1 14)])), ((a0 1), .inl (q 1, 6896, .inr (.inl (s0.2.2.1 0)))), ((a0 2), .inl (q 1, 68960, .inr (.inl (s0.2.2.1 1)))), ((a0 3), .inl (q 1, 13792, .inr (.inl (s0.2.2.1 2)))), ((a0 4), .inl (q 1, 6896, .inr (.inl (s0.2.2.1 3)))), ((a0 5), .inl (q 3, 2, .inl (s0.2.2.2 0))), ((a0 6), .inl (q 0, 40, .inl (s0.2.2.2 1))), ((a0 7), .inl (q 2, 400, .inl (s0.2.2.2 2)))] := hD
  unfold wp_X7_undo at h
  refine lv_aload_n hx hb dX7_undo_0 rfl (lv_at hl 0 rfl) ?_
  refine fl_get (C := RX7) (T := TX7) (N := 23) (ci := 6) (v := .int (s0.1 0)) hx hb ht in_X7 hown hK hP 0 rfl rfl 2 (by decide) mw_1132 rfl dX7_undo_1 ?_
  refine lv_if_ne (tgt := 9) hx hb dX7_undo_4 (by decide) (fun c_1 => ?_) (fun c_1 => ?_)
  · replace h := h.1 c_1
    refine lv_aload_n hx hb dX7_undo_9 rfl (lv_at hl 0 rfl) ?_
    refine lv_dup hx hb dX7_undo_10 rfl ?_
    refine fl_get (C := RX7) (T := TX7) (N := 23) (ci := 6) (v := .int (s0.1 0)) hx hb ht in_X7 hown hK hP 0 rfl rfl 2 (by decide) mw_1132 rfl dX7_undo_11 ?_
    refine lv_iconst (v := 1) hx hb dX7_undo_14 (by decide) ?_
    refine lv_isub hx hb dX7_undo_15 ?_
    refine fl_put (C := RX7) (T := TX7) (N := 23) (ci := 6) (v := .int ((s0.1 0) - 1)) (ws2 := [((a0 0), .inr (6, [.ref (a0 1), .ref (a0 2), .int ((s0.1 0) - 1), .ref (a0 3), .ref (a0 5), .ref (a0 4), .long s0.2.1, .int (s0.1 1), .int (s0.1 2), .ref (a0 6), .int (s0.1 3), .int (s0.1 4), .ref (a0 7), .int (s0.1 5), .int (s0.1 6), .int (s0.1 7), .int (s0.1 8), .int (s0.1 9), .int (s0.1 10), .int (s0.1 11), .int (s0.1 12), .int (s0.1 13), .int (s0.1 14)])), ((a0 1), .inl (q 1, 6896, .inr (.inl (s0.2.2.1 0)))), ((a0 2), .inl (q 1, 68960, .inr (.inl (s0.2.2.1 1)))), ((a0 3), .inl (q 1, 13792, .inr (.inl (s0.2.2.1 2)))), ((a0 4), .inl (q 1, 6896, .inr (.inl (s0.2.2.1 3)))), ((a0 5), .inl (q 3, 2, .inl (s0.2.2.2 0))), ((a0 6), .inl (q 0, 40, .inl (s0.2.2.2 1))), ((a0 7), .inl (q 2, 400, .inl (s0.2.2.2 2)))]) hx hb ht in_X7 tyX7_ok nmX7 hown hK hP hD hS 0 rfl rfl 2 (by decide) mw_1132 rfl rfl rfl (Nat.le_of_ble_eq_true rfl) dX7_undo_16 rfl (fun H locs hP hD hS => ?_)
    refine lv_iconst (v := 0) hx hb dX7_undo_19 (by decide) ?_
    refine lv_istore_n (lv' := [(1, .int 0), (0, .ref (a0 0))]) hx hb dX7_undo_20 rfl hl (by decide) rfl (fun ls hl => ?_)
    have lp21 : ∀ (e55 : Md → Int32 → Prop) (k55 : ∀ (t0 : Md) (z1 : Int32) (H : Heap) (locs : List Loc) (ls : Array Slot), e55 t0 z1 → va_P D vwCl (md_v a0 q t0) H → va_D (va_A (md_v a0 q s0) sz) (md_v a0 q t0) → va_S (va_A (md_v a0 q s0) sz) s.heap H locs → lv_has ls 2 [(1, .int z1), (0, .ref (a0 0))] → W p l e ({ frames := 0, cells := 0, slots := 0, locals := 0 } : Room) s m [.ref (a0 0)].toArray below meth c H locs 0 0 (MQ below (va_Qi (fun r (u : Md) => post r u) (mt_B D (md_v a0 q s0) sz (fun u : Md => md_v a0 q u)) (va_A (md_v a0 q s0) sz)) [.ref (a0 0)].toArray s 0 0 (va_A (md_v a0 q s0) sz)) (F0 m 55 ls [])) (n : Nat) (t0 : Md) (z1 : Int32) (H : Heap) (locs : List Loc) (ls : Array Slot), wp_X7_undo_L21 post e55 n t0 z1 → va_P D vwCl (md_v a0 q t0) H → va_D (va_A (md_v a0 q s0) sz) (md_v a0 q t0) → va_S (va_A (md_v a0 q s0) sz) s.heap H locs → lv_has ls 2 [(1, .int z1), (0, .ref (a0 0))] → W p l e ({ frames := 0, cells := 0, slots := 0, locals := 0 } : Room) s m [.ref (a0 0)].toArray below meth c H locs 0 0 (MQ below (va_Qi (fun r (u : Md) => post r u) (mt_B D (md_v a0 q s0) sz (fun u : Md => md_v a0 q u)) (va_A (md_v a0 q s0) sz)) [.ref (a0 0)].toArray s 0 0 (va_A (md_v a0 q s0) sz)) (F0 m 21 ls []) := by
      intro e55 k55 n
      induction n with
      | zero =>
        intro t0 z1 H locs ls h
        exact h.elim
      | succ n ih =>
        intro t0 z1 H locs ls h hP hD hS hl
        have hP : va_P D vwCl [((a0 0), .inr (6, [.ref (a0 1), .ref (a0 2), .int (t0.1 0), .ref (a0 3), .ref (a0 5), .ref (a0 4), .long t0.2.1, .int (t0.1 1), .int (t0.1 2), .ref (a0 6), .int (t0.1 3), .int (t0.1 4), .ref (a0 7), .int (t0.1 5), .int (t0.1 6), .int (t0.1 7), .int (t0.1 8), .int (t0.1 9), .int (t0.1 10), .int (t0.1 11), .int (t0.1 12), .int (t0.1 13), .int (t0.1 14)])), ((a0 1), .inl (q 1, 6896, .inr (.inl (t0.2.2.1 0)))), ((a0 2), .inl (q 1, 68960, .inr (.inl (t0.2.2.1 1)))), ((a0 3), .inl (q 1, 13792, .inr (.inl (t0.2.2.1 2)))), ((a0 4), .inl (q 1, 6896, .inr (.inl (t0.2.2.1 3)))), ((a0 5), .inl (q 3, 2, .inl (t0.2.2.2 0))), ((a0 6), .inl (q 0, 40, .inl (t0.2.2.2 1))), ((a0 7), .inl (q 2, 400, .inl (t0.2.2.2 2)))] H := hP
        have hD : va_D _ [((a0 0), .inr (6, [.ref (a0 1), .ref (a0 2), .int (t0.1 0), .ref (a0 3), .ref (a0 5), .ref (a0 4), .long t0.2.1, .int (t0.1 1), .int (t0.1 2), .ref (a0 6), .int (t0.1 3), .int (t0.1 4), .ref (a0 7), .int (t0.1 5), .int (t0.1 6), .int (t0.1 7), .int (t0.1 8), .int (t0.1 9), .int (t0.1 10), .int (t0.1 11), .int (t0.1 12), .int (t0.1 13), .int (t0.1 14)])), ((a0 1), .inl (q 1, 6896, .inr (.inl (t0.2.2.1 0)))), ((a0 2), .inl (q 1, 68960, .inr (.inl (t0.2.2.1 1)))), ((a0 3), .inl (q 1, 13792, .inr (.inl (t0.2.2.1 2)))), ((a0 4), .inl (q 1, 6896, .inr (.inl (t0.2.2.1 3)))), ((a0 5), .inl (q 3, 2, .inl (t0.2.2.2 0))), ((a0 6), .inl (q 0, 40, .inl (t0.2.2.2 1))), ((a0 7), .inl (q 2, 400, .inl (t0.2.2.2 2)))] := hD
        unfold wp_X7_undo_L21 at h
        refine lv_iload_n hx hb dX7_undo_21 rfl (lv_at hl 0 rfl) ?_
        refine lv_sipush (v := 6896) hx hb dX7_undo_22 (by decide) ?_
        refine lv_icmp_ge (tgt := 55) hx hb dX7_undo_25 (by decide) (fun c_2 => ?_) (fun c_2 => ?_)
        · replace h := h.1 c_2
          exact k55 _ _ _ _ ls h (hP.sub (ws' := md_v a0 q t0) [0, 1, 2, 3, 4, 5, 6, 7] rfl) (hD.sub (ws' := md_v a0 q t0) [0, 1, 2, 3, 4, 5, 6, 7] (by decide) rfl) hS (lv_sub hl [0, 1] rfl)
        · replace h := h.2 c_2
          refine lv_aload_n hx hb dX7_undo_28 rfl (lv_at hl 1 rfl) ?_
          refine fl_get (C := RX7) (T := TX7) (N := 23) (ci := 6) (v := .ref (a0 1)) hx hb ht in_X7 hown hK hP 0 rfl rfl 0 (by decide) mw_1130 rfl dX7_undo_29 ?_
          refine lv_iload_n hx hb dX7_undo_32 rfl (lv_at hl 0 rfl) ?_
          refine lv_aload_n hx hb dX7_undo_33 rfl (lv_at hl 1 rfl) ?_
          refine fl_get (C := RX7) (T := TX7) (N := 23) (ci := 6) (v := .ref (a0 2)) hx hb ht in_X7 hown hK hP 0 rfl rfl 1 (by decide) mw_1131 rfl dX7_undo_34 ?_
          refine lv_sipush (v := 6896) hx hb dX7_undo_37 (by decide) ?_
          refine lv_aload_n hx hb dX7_undo_40 rfl (lv_at hl 1 rfl) ?_
          refine fl_get (C := RX7) (T := TX7) (N := 23) (ci := 6) (v := .int (t0.1 0)) hx hb ht in_X7 hown hK hP 0 rfl rfl 2 (by decide) mw_1132 rfl dX7_undo_41 ?_
          refine lv_imul hx hb dX7_undo_44 ?_
          refine lv_iload_n hx hb dX7_undo_45 rfl (lv_at hl 0 rfl) ?_
          refine lv_iadd hx hb dX7_undo_46 ?_
          obtain ⟨g_3, h⟩ := h
          refine va_lald hx hb hK hP 2 1 rfl rfl g_3 dX7_undo_47 ?_
          obtain ⟨g_4, h⟩ := h
          refine va_last hx hb hK hP hD hS 1 1 rfl rfl g_4 dX7_undo_48 (fun H locs hP hD hS => ?_)
          have hP : va_P D vwCl [((a0 0), .inr (6, [.ref (a0 1), .ref (a0 2), .int (t0.1 0), .ref (a0 3), .ref (a0 5), .ref (a0 4), .long t0.2.1, .int (t0.1 1), .int (t0.1 2), .ref (a0 6), .int (t0.1 3), .int (t0.1 4), .ref (a0 7), .int (t0.1 5), .int (t0.1 6), .int (t0.1 7), .int (t0.1 8), .int (t0.1 9), .int (t0.1 10), .int (t0.1 11), .int (t0.1 12), .int (t0.1 13), .int (t0.1 14)])), ((a0 1), .inl (q 1, 6896, .inr (.inl (vp_updL (t0.2.2.1 0) (Int32.toNatClampNeg z1) ((t0.2.2.1 1) (Int32.toNatClampNeg ((6896 * (t0.1 0)) + z1))))))), ((a0 2), .inl (q 1, 68960, .inr (.inl (t0.2.2.1 1)))), ((a0 3), .inl (q 1, 13792, .inr (.inl (t0.2.2.1 2)))), ((a0 4), .inl (q 1, 6896, .inr (.inl (t0.2.2.1 3)))), ((a0 5), .inl (q 3, 2, .inl (t0.2.2.2 0))), ((a0 6), .inl (q 0, 40, .inl (t0.2.2.2 1))), ((a0 7), .inl (q 2, 400, .inl (t0.2.2.2 2)))] H := hP
          have hD : va_D _ [((a0 0), .inr (6, [.ref (a0 1), .ref (a0 2), .int (t0.1 0), .ref (a0 3), .ref (a0 5), .ref (a0 4), .long t0.2.1, .int (t0.1 1), .int (t0.1 2), .ref (a0 6), .int (t0.1 3), .int (t0.1 4), .ref (a0 7), .int (t0.1 5), .int (t0.1 6), .int (t0.1 7), .int (t0.1 8), .int (t0.1 9), .int (t0.1 10), .int (t0.1 11), .int (t0.1 12), .int (t0.1 13), .int (t0.1 14)])), ((a0 1), .inl (q 1, 6896, .inr (.inl (vp_updL (t0.2.2.1 0) (Int32.toNatClampNeg z1) ((t0.2.2.1 1) (Int32.toNatClampNeg ((6896 * (t0.1 0)) + z1))))))), ((a0 2), .inl (q 1, 68960, .inr (.inl (t0.2.2.1 1)))), ((a0 3), .inl (q 1, 13792, .inr (.inl (t0.2.2.1 2)))), ((a0 4), .inl (q 1, 6896, .inr (.inl (t0.2.2.1 3)))), ((a0 5), .inl (q 3, 2, .inl (t0.2.2.2 0))), ((a0 6), .inl (q 0, 40, .inl (t0.2.2.2 1))), ((a0 7), .inl (q 2, 400, .inl (t0.2.2.2 2)))] := hD
          refine lv_iinc (v := (z1 + 1)) (lv' := [(1, .int (z1 + 1)), (0, .ref (a0 0))]) hx hb dX7_undo_49 hl (k := 0) rfl rfl (by decide) rfl (fun ls hl => ?_)
          refine lv_goto (tgt := 21) hx hb dX7_undo_52 (by decide) ?_
          exact ih _ _ _ _ ls h (hP.sub (ws' := md_v a0 q (t0.1, t0.2.1, (va_up t0.2.2.1 0 (vp_updL (t0.2.2.1 0) (Int32.toNatClampNeg z1) ((t0.2.2.1 1) (Int32.toNatClampNeg ((6896 * (t0.1 0)) + z1))))), t0.2.2.2)) [0, 1, 2, 3, 4, 5, 6, 7] rfl) (hD.sub (ws' := md_v a0 q (t0.1, t0.2.1, (va_up t0.2.2.1 0 (vp_updL (t0.2.2.1 0) (Int32.toNatClampNeg z1) ((t0.2.2.1 1) (Int32.toNatClampNeg ((6896 * (t0.1 0)) + z1))))), t0.2.2.2)) [0, 1, 2, 3, 4, 5, 6, 7] (by decide) rfl) hS (lv_sub hl [0, 1] rfl)
    obtain ⟨n21, h⟩ := h
    refine lp21 _ ?_ n21 _ _ _ _ ls h (hP.sub (ws' := md_v a0 q ((va_up s0.1 0 ((s0.1 0) - 1)), s0.2.1, s0.2.2.1, s0.2.2.2)) [0, 1, 2, 3, 4, 5, 6, 7] rfl) (hD.sub (ws' := md_v a0 q ((va_up s0.1 0 ((s0.1 0) - 1)), s0.2.1, s0.2.2.1, s0.2.2.2)) [0, 1, 2, 3, 4, 5, 6, 7] (by decide) rfl) hS (lv_sub hl [0, 1] rfl)
    · intro t0 z1 H locs ls h hP hD hS hl
      try dsimp only at h
      have hP : va_P D vwCl [((a0 0), .inr (6, [.ref (a0 1), .ref (a0 2), .int (t0.1 0), .ref (a0 3), .ref (a0 5), .ref (a0 4), .long t0.2.1, .int (t0.1 1), .int (t0.1 2), .ref (a0 6), .int (t0.1 3), .int (t0.1 4), .ref (a0 7), .int (t0.1 5), .int (t0.1 6), .int (t0.1 7), .int (t0.1 8), .int (t0.1 9), .int (t0.1 10), .int (t0.1 11), .int (t0.1 12), .int (t0.1 13), .int (t0.1 14)])), ((a0 1), .inl (q 1, 6896, .inr (.inl (t0.2.2.1 0)))), ((a0 2), .inl (q 1, 68960, .inr (.inl (t0.2.2.1 1)))), ((a0 3), .inl (q 1, 13792, .inr (.inl (t0.2.2.1 2)))), ((a0 4), .inl (q 1, 6896, .inr (.inl (t0.2.2.1 3)))), ((a0 5), .inl (q 3, 2, .inl (t0.2.2.2 0))), ((a0 6), .inl (q 0, 40, .inl (t0.2.2.2 1))), ((a0 7), .inl (q 2, 400, .inl (t0.2.2.2 2)))] H := hP
      have hD : va_D _ [((a0 0), .inr (6, [.ref (a0 1), .ref (a0 2), .int (t0.1 0), .ref (a0 3), .ref (a0 5), .ref (a0 4), .long t0.2.1, .int (t0.1 1), .int (t0.1 2), .ref (a0 6), .int (t0.1 3), .int (t0.1 4), .ref (a0 7), .int (t0.1 5), .int (t0.1 6), .int (t0.1 7), .int (t0.1 8), .int (t0.1 9), .int (t0.1 10), .int (t0.1 11), .int (t0.1 12), .int (t0.1 13), .int (t0.1 14)])), ((a0 1), .inl (q 1, 6896, .inr (.inl (t0.2.2.1 0)))), ((a0 2), .inl (q 1, 68960, .inr (.inl (t0.2.2.1 1)))), ((a0 3), .inl (q 1, 13792, .inr (.inl (t0.2.2.1 2)))), ((a0 4), .inl (q 1, 6896, .inr (.inl (t0.2.2.1 3)))), ((a0 5), .inl (q 3, 2, .inl (t0.2.2.2 0))), ((a0 6), .inl (q 0, 40, .inl (t0.2.2.2 1))), ((a0 7), .inl (q 2, 400, .inl (t0.2.2.2 2)))] := hD
      refine lv_aload_n hx hb dX7_undo_55 rfl (lv_at hl 1 rfl) ?_
      refine fl_get (C := RX7) (T := TX7) (N := 23) (ci := 6) (v := .int (t0.1 0)) hx hb ht in_X7 hown hK hP 0 rfl rfl 2 (by decide) mw_1132 rfl dX7_undo_56 ?_
      exact mt_iret t0 hx hb hr hk h (hP.sub (ws' := md_v a0 q t0) [0, 1, 2, 3, 4, 5, 6, 7] rfl) (hD.sub (ws' := md_v a0 q t0) [0, 1, 2, 3, 4, 5, 6, 7] (by decide) rfl) hS dX7_undo_59
  · replace h := h.2 c_1
    refine lv_iconst (v := (-1)) hx hb dX7_undo_7 (by decide) ?_
    exact mt_iret s0 hx hb hr hk h (hP.sub (ws' := md_v a0 q s0) [0, 1, 2, 3, 4, 5, 6, 7] rfl) (hD.sub (ws' := md_v a0 q s0) [0, 1, 2, 3, 4, 5, 6, 7] (by decide) rfl) hS dX7_undo_8

def wp_X7_keep_L14 (post : Int32 → Md → Prop) (e45 : Md → Int32 → Int32 → Prop) : Nat → Md → Int32 → Int32 → Prop
  | 0, _, _, _ => False
  | n14 + 1, t0, z1, z2 => ((6896 ≤ z2 → e45 t0 z1 z2) ∧ (¬ 6896 ≤ z2 → vp_in z2 6896 ∧ vp_in ((6896 * z1) + z2) 13792 ∧ wp_X7_keep_L14 post e45 n14 (t0.1, t0.2.1, (va_up t0.2.2.1 2 (vp_updL (t0.2.2.1 2) (Int32.toNatClampNeg ((6896 * z1) + z2)) ((t0.2.2.1 0) (Int32.toNatClampNeg z2)))), t0.2.2.2) z1 (z2 + 1)))
def wp_X7_keep (post : Int32 → Md → Prop) (s0 : Md) (x1 : Int32) : Prop := wp_X7_in (fun r_1 => ((¬ r_1 = 0 → (∃ n14, wp_X7_keep_L14 post (fun t0 z1 z2 => vp_in z1 2 ∧ wp_X7_cells (fun r_8 => post r_8 (t0.1, t0.2.1, t0.2.2.1, (va_up t0.2.2.2 0 (upd (t0.2.2.2 0) (Int32.toNatClampNeg z1) (vp_nar .boolean 1))))) (t0.1, t0.2.1, t0.2.2.1, (va_up t0.2.2.2 0 (upd (t0.2.2.2 0) (Int32.toNatClampNeg z1) (vp_nar .boolean 1))))) n14 s0 x1 0)) ∧ (r_1 = 0 → post (-1) s0))) (Int32.toInt64 x1) (0 : Int64) (1 : Int64)
set_option maxHeartbeats 4000000 in
set_option maxRecDepth 100000 in
theorem c2_X7_keep {l : Launch} {D : va_G} {q : Nat → ClassId} {sz : Nat} {a0 : Nat → Nat} {s0 : Md} {x1 : Int32} {post : Int32 → Md → Prop} (h : wp_X7_keep post s0 x1) : Met l yX7_keep (Cond.code yX7_keep cX7_keep 3 (some .int) :: w_all) ({ frames := 2, cells := 0, slots := 0, locals := 40 } : Room) (mt_P D q [.ref (a0 0), .int x1] (md_v a0 q s0) sz) (va_Qi (fun r (u : Md) => post r u) (mt_B D (md_v a0 q s0) sz (fun u : Md => md_v a0 q u)) (va_A (md_v a0 q s0) sz)) 0 0 (va_A (md_v a0 q s0) sz) := by
  refine mt_start (by decide) (Nat.le_of_ble_eq_true rfl) ?_
  intro p e s m below meth c ls hx hb hr hml hown ht hk hin hP hQ hD hA hS hV hl
  have hK := hQ.1
  have hown : s.vm.findClass RX7 = some m.cls := hown
  have hl : lv_has ls 3 [(0, .ref (a0 0)), (1, .int x1)] := hl
  have hP : va_P D vwCl [((a0 0), .inr (6, [.ref (a0 1), .ref (a0 2), .int (s0.1 0), .ref (a0 3), .ref (a0 5), .ref (a0 4), .long s0.2.1, .int (s0.1 1), .int (s0.1 2), .ref (a0 6), .int (s0.1 3), .int (s0.1 4), .ref (a0 7), .int (s0.1 5), .int (s0.1 6), .int (s0.1 7), .int (s0.1 8), .int (s0.1 9), .int (s0.1 10), .int (s0.1 11), .int (s0.1 12), .int (s0.1 13), .int (s0.1 14)])), ((a0 1), .inl (q 1, 6896, .inr (.inl (s0.2.2.1 0)))), ((a0 2), .inl (q 1, 68960, .inr (.inl (s0.2.2.1 1)))), ((a0 3), .inl (q 1, 13792, .inr (.inl (s0.2.2.1 2)))), ((a0 4), .inl (q 1, 6896, .inr (.inl (s0.2.2.1 3)))), ((a0 5), .inl (q 3, 2, .inl (s0.2.2.2 0))), ((a0 6), .inl (q 0, 40, .inl (s0.2.2.2 1))), ((a0 7), .inl (q 2, 400, .inl (s0.2.2.2 2)))] s.heap := hP
  have hD : va_D _ [((a0 0), .inr (6, [.ref (a0 1), .ref (a0 2), .int (s0.1 0), .ref (a0 3), .ref (a0 5), .ref (a0 4), .long s0.2.1, .int (s0.1 1), .int (s0.1 2), .ref (a0 6), .int (s0.1 3), .int (s0.1 4), .ref (a0 7), .int (s0.1 5), .int (s0.1 6), .int (s0.1 7), .int (s0.1 8), .int (s0.1 9), .int (s0.1 10), .int (s0.1 11), .int (s0.1 12), .int (s0.1 13), .int (s0.1 14)])), ((a0 1), .inl (q 1, 6896, .inr (.inl (s0.2.2.1 0)))), ((a0 2), .inl (q 1, 68960, .inr (.inl (s0.2.2.1 1)))), ((a0 3), .inl (q 1, 13792, .inr (.inl (s0.2.2.1 2)))), ((a0 4), .inl (q 1, 6896, .inr (.inl (s0.2.2.1 3)))), ((a0 5), .inl (q 3, 2, .inl (s0.2.2.2 0))), ((a0 6), .inl (q 0, 40, .inl (s0.2.2.2 1))), ((a0 7), .inl (q 2, 400, .inl (s0.2.2.2 2)))] := hD
  unfold wp_X7_keep at h
  refine lv_iload_n hx hb dX7_keep_0 rfl (lv_at hl 1 rfl) ?_
  refine lv_i2l (v := (Int32.toInt64 x1)) hx hb dX7_keep_1 rfl ?_
  refine lv_lconst (v := 0) hx hb dX7_keep_2 (by decide) ?_
  refine lv_lconst (v := 1) hx hb dX7_keep_3 (by decide) ?_
  refine vp_callSi (rd_wS (wc := ([] : va_W)) (As := [.long (Int32.toInt64 x1), .long 0, .long 1]) (rest := []) hx hb hml hown ht (c2_X7_in h) wd_X7_in mw_1213 hQ hV hS (hP.sub [] rfl) rfl hl.1 rfl (Nat.le_of_ble_eq_true rfl) dX7_keep_4 ⟨Nat.le_of_ble_eq_true rfl, Nat.le_of_ble_eq_true rfl, rfl, rfl⟩ ⟨Nat.le_of_ble_eq_true rfl, Nat.le_of_ble_eq_true rfl⟩) (fun r_1 h => ?_)
  try dsimp only at h
  refine lv_if_ne (tgt := 12) hx hb dX7_keep_7 (by decide) (fun c_3 => ?_) (fun c_3 => ?_)
  · replace h := h.1 c_3
    refine lv_iconst (v := 0) hx hb dX7_keep_12 (by decide) ?_
    refine lv_istore_n (lv' := [(2, .int 0), (0, .ref (a0 0)), (1, .int x1)]) hx hb dX7_keep_13 rfl hl (by decide) rfl (fun ls hl => ?_)
    have lp14 : ∀ (e45 : Md → Int32 → Int32 → Prop) (k45 : ∀ (t0 : Md) (z1 : Int32) (z2 : Int32) (H : Heap) (locs : List Loc) (ls : Array Slot), e45 t0 z1 z2 → va_P D vwCl (md_v a0 q t0) H → va_D (va_A (md_v a0 q s0) sz) (md_v a0 q t0) → va_S (va_A (md_v a0 q s0) sz) s.heap H locs → lv_has ls 3 [(1, .int z1), (2, .int z2), (0, .ref (a0 0))] → W p l e ({ frames := 2, cells := 0, slots := 0, locals := 40 } : Room) s m [.ref (a0 0), .int x1].toArray below meth c H locs 0 0 (MQ below (va_Qi (fun r (u : Md) => post r u) (mt_B D (md_v a0 q s0) sz (fun u : Md => md_v a0 q u)) (va_A (md_v a0 q s0) sz)) [.ref (a0 0), .int x1].toArray s 0 0 (va_A (md_v a0 q s0) sz)) (F0 m 45 ls [])) (n : Nat) (t0 : Md) (z1 : Int32) (z2 : Int32) (H : Heap) (locs : List Loc) (ls : Array Slot), wp_X7_keep_L14 post e45 n t0 z1 z2 → va_P D vwCl (md_v a0 q t0) H → va_D (va_A (md_v a0 q s0) sz) (md_v a0 q t0) → va_S (va_A (md_v a0 q s0) sz) s.heap H locs → lv_has ls 3 [(1, .int z1), (2, .int z2), (0, .ref (a0 0))] → W p l e ({ frames := 2, cells := 0, slots := 0, locals := 40 } : Room) s m [.ref (a0 0), .int x1].toArray below meth c H locs 0 0 (MQ below (va_Qi (fun r (u : Md) => post r u) (mt_B D (md_v a0 q s0) sz (fun u : Md => md_v a0 q u)) (va_A (md_v a0 q s0) sz)) [.ref (a0 0), .int x1].toArray s 0 0 (va_A (md_v a0 q s0) sz)) (F0 m 14 ls []) := by
      intro e45 k45 n
      induction n with
      | zero =>
        intro t0 z1 z2 H locs ls h
        exact h.elim
      | succ n ih =>
        intro t0 z1 z2 H locs ls h hP hD hS hl
        have hP : va_P D vwCl [((a0 0), .inr (6, [.ref (a0 1), .ref (a0 2), .int (t0.1 0), .ref (a0 3), .ref (a0 5), .ref (a0 4), .long t0.2.1, .int (t0.1 1), .int (t0.1 2), .ref (a0 6), .int (t0.1 3), .int (t0.1 4), .ref (a0 7), .int (t0.1 5), .int (t0.1 6), .int (t0.1 7), .int (t0.1 8), .int (t0.1 9), .int (t0.1 10), .int (t0.1 11), .int (t0.1 12), .int (t0.1 13), .int (t0.1 14)])), ((a0 1), .inl (q 1, 6896, .inr (.inl (t0.2.2.1 0)))), ((a0 2), .inl (q 1, 68960, .inr (.inl (t0.2.2.1 1)))), ((a0 3), .inl (q 1, 13792, .inr (.inl (t0.2.2.1 2)))), ((a0 4), .inl (q 1, 6896, .inr (.inl (t0.2.2.1 3)))), ((a0 5), .inl (q 3, 2, .inl (t0.2.2.2 0))), ((a0 6), .inl (q 0, 40, .inl (t0.2.2.2 1))), ((a0 7), .inl (q 2, 400, .inl (t0.2.2.2 2)))] H := hP
        have hD : va_D _ [((a0 0), .inr (6, [.ref (a0 1), .ref (a0 2), .int (t0.1 0), .ref (a0 3), .ref (a0 5), .ref (a0 4), .long t0.2.1, .int (t0.1 1), .int (t0.1 2), .ref (a0 6), .int (t0.1 3), .int (t0.1 4), .ref (a0 7), .int (t0.1 5), .int (t0.1 6), .int (t0.1 7), .int (t0.1 8), .int (t0.1 9), .int (t0.1 10), .int (t0.1 11), .int (t0.1 12), .int (t0.1 13), .int (t0.1 14)])), ((a0 1), .inl (q 1, 6896, .inr (.inl (t0.2.2.1 0)))), ((a0 2), .inl (q 1, 68960, .inr (.inl (t0.2.2.1 1)))), ((a0 3), .inl (q 1, 13792, .inr (.inl (t0.2.2.1 2)))), ((a0 4), .inl (q 1, 6896, .inr (.inl (t0.2.2.1 3)))), ((a0 5), .inl (q 3, 2, .inl (t0.2.2.2 0))), ((a0 6), .inl (q 0, 40, .inl (t0.2.2.2 1))), ((a0 7), .inl (q 2, 400, .inl (t0.2.2.2 2)))] := hD
        unfold wp_X7_keep_L14 at h
        refine lv_iload_n hx hb dX7_keep_14 rfl (lv_at hl 1 rfl) ?_
        refine lv_sipush (v := 6896) hx hb dX7_keep_15 (by decide) ?_
        refine lv_icmp_ge (tgt := 45) hx hb dX7_keep_18 (by decide) (fun c_4 => ?_) (fun c_4 => ?_)
        · replace h := h.1 c_4
          exact k45 _ _ _ _ _ ls h (hP.sub (ws' := md_v a0 q t0) [0, 1, 2, 3, 4, 5, 6, 7] rfl) (hD.sub (ws' := md_v a0 q t0) [0, 1, 2, 3, 4, 5, 6, 7] (by decide) rfl) hS (lv_sub hl [0, 1, 2] rfl)
        · replace h := h.2 c_4
          refine lv_aload_n hx hb dX7_keep_21 rfl (lv_at hl 2 rfl) ?_
          refine fl_get (C := RX7) (T := TX7) (N := 23) (ci := 6) (v := .ref (a0 3)) hx hb ht in_X7 hown hK hP 0 rfl rfl 3 (by decide) mw_1133 rfl dX7_keep_22 ?_
          refine lv_sipush (v := 6896) hx hb dX7_keep_25 (by decide) ?_
          refine lv_iload_n hx hb dX7_keep_28 rfl (lv_at hl 0 rfl) ?_
          refine lv_imul hx hb dX7_keep_29 ?_
          refine lv_iload_n hx hb dX7_keep_30 rfl (lv_at hl 1 rfl) ?_
          refine lv_iadd hx hb dX7_keep_31 ?_
          refine lv_aload_n hx hb dX7_keep_32 rfl (lv_at hl 2 rfl) ?_
          refine fl_get (C := RX7) (T := TX7) (N := 23) (ci := 6) (v := .ref (a0 1)) hx hb ht in_X7 hown hK hP 0 rfl rfl 0 (by decide) mw_1130 rfl dX7_keep_33 ?_
          refine lv_iload_n hx hb dX7_keep_36 rfl (lv_at hl 1 rfl) ?_
          obtain ⟨g_5, h⟩ := h
          refine va_lald hx hb hK hP 1 1 rfl rfl g_5 dX7_keep_37 ?_
          obtain ⟨g_6, h⟩ := h
          refine va_last hx hb hK hP hD hS 3 1 rfl rfl g_6 dX7_keep_38 (fun H locs hP hD hS => ?_)
          have hP : va_P D vwCl [((a0 0), .inr (6, [.ref (a0 1), .ref (a0 2), .int (t0.1 0), .ref (a0 3), .ref (a0 5), .ref (a0 4), .long t0.2.1, .int (t0.1 1), .int (t0.1 2), .ref (a0 6), .int (t0.1 3), .int (t0.1 4), .ref (a0 7), .int (t0.1 5), .int (t0.1 6), .int (t0.1 7), .int (t0.1 8), .int (t0.1 9), .int (t0.1 10), .int (t0.1 11), .int (t0.1 12), .int (t0.1 13), .int (t0.1 14)])), ((a0 1), .inl (q 1, 6896, .inr (.inl (t0.2.2.1 0)))), ((a0 2), .inl (q 1, 68960, .inr (.inl (t0.2.2.1 1)))), ((a0 3), .inl (q 1, 13792, .inr (.inl (vp_updL (t0.2.2.1 2) (Int32.toNatClampNeg ((6896 * z1) + z2)) ((t0.2.2.1 0) (Int32.toNatClampNeg z2)))))), ((a0 4), .inl (q 1, 6896, .inr (.inl (t0.2.2.1 3)))), ((a0 5), .inl (q 3, 2, .inl (t0.2.2.2 0))), ((a0 6), .inl (q 0, 40, .inl (t0.2.2.2 1))), ((a0 7), .inl (q 2, 400, .inl (t0.2.2.2 2)))] H := hP
          have hD : va_D _ [((a0 0), .inr (6, [.ref (a0 1), .ref (a0 2), .int (t0.1 0), .ref (a0 3), .ref (a0 5), .ref (a0 4), .long t0.2.1, .int (t0.1 1), .int (t0.1 2), .ref (a0 6), .int (t0.1 3), .int (t0.1 4), .ref (a0 7), .int (t0.1 5), .int (t0.1 6), .int (t0.1 7), .int (t0.1 8), .int (t0.1 9), .int (t0.1 10), .int (t0.1 11), .int (t0.1 12), .int (t0.1 13), .int (t0.1 14)])), ((a0 1), .inl (q 1, 6896, .inr (.inl (t0.2.2.1 0)))), ((a0 2), .inl (q 1, 68960, .inr (.inl (t0.2.2.1 1)))), ((a0 3), .inl (q 1, 13792, .inr (.inl (vp_updL (t0.2.2.1 2) (Int32.toNatClampNeg ((6896 * z1) + z2)) ((t0.2.2.1 0) (Int32.toNatClampNeg z2)))))), ((a0 4), .inl (q 1, 6896, .inr (.inl (t0.2.2.1 3)))), ((a0 5), .inl (q 3, 2, .inl (t0.2.2.2 0))), ((a0 6), .inl (q 0, 40, .inl (t0.2.2.2 1))), ((a0 7), .inl (q 2, 400, .inl (t0.2.2.2 2)))] := hD
          refine lv_iinc (v := (z2 + 1)) (lv' := [(2, .int (z2 + 1)), (1, .int z1), (0, .ref (a0 0))]) hx hb dX7_keep_39 hl (k := 1) rfl rfl (by decide) rfl (fun ls hl => ?_)
          refine lv_goto (tgt := 14) hx hb dX7_keep_42 (by decide) ?_
          exact ih _ _ _ _ _ ls h (hP.sub (ws' := md_v a0 q (t0.1, t0.2.1, (va_up t0.2.2.1 2 (vp_updL (t0.2.2.1 2) (Int32.toNatClampNeg ((6896 * z1) + z2)) ((t0.2.2.1 0) (Int32.toNatClampNeg z2)))), t0.2.2.2)) [0, 1, 2, 3, 4, 5, 6, 7] rfl) (hD.sub (ws' := md_v a0 q (t0.1, t0.2.1, (va_up t0.2.2.1 2 (vp_updL (t0.2.2.1 2) (Int32.toNatClampNeg ((6896 * z1) + z2)) ((t0.2.2.1 0) (Int32.toNatClampNeg z2)))), t0.2.2.2)) [0, 1, 2, 3, 4, 5, 6, 7] (by decide) rfl) hS (lv_sub hl [1, 0, 2] rfl)
    obtain ⟨n14, h⟩ := h
    refine lp14 _ ?_ n14 _ _ _ _ _ ls h (hP.sub (ws' := md_v a0 q s0) [0, 1, 2, 3, 4, 5, 6, 7] rfl) (hD.sub (ws' := md_v a0 q s0) [0, 1, 2, 3, 4, 5, 6, 7] (by decide) rfl) hS (lv_sub hl [2, 0, 1] rfl)
    · intro t0 z1 z2 H locs ls h hP hD hS hl
      try dsimp only at h
      have hP : va_P D vwCl [((a0 0), .inr (6, [.ref (a0 1), .ref (a0 2), .int (t0.1 0), .ref (a0 3), .ref (a0 5), .ref (a0 4), .long t0.2.1, .int (t0.1 1), .int (t0.1 2), .ref (a0 6), .int (t0.1 3), .int (t0.1 4), .ref (a0 7), .int (t0.1 5), .int (t0.1 6), .int (t0.1 7), .int (t0.1 8), .int (t0.1 9), .int (t0.1 10), .int (t0.1 11), .int (t0.1 12), .int (t0.1 13), .int (t0.1 14)])), ((a0 1), .inl (q 1, 6896, .inr (.inl (t0.2.2.1 0)))), ((a0 2), .inl (q 1, 68960, .inr (.inl (t0.2.2.1 1)))), ((a0 3), .inl (q 1, 13792, .inr (.inl (t0.2.2.1 2)))), ((a0 4), .inl (q 1, 6896, .inr (.inl (t0.2.2.1 3)))), ((a0 5), .inl (q 3, 2, .inl (t0.2.2.2 0))), ((a0 6), .inl (q 0, 40, .inl (t0.2.2.2 1))), ((a0 7), .inl (q 2, 400, .inl (t0.2.2.2 2)))] H := hP
      have hD : va_D _ [((a0 0), .inr (6, [.ref (a0 1), .ref (a0 2), .int (t0.1 0), .ref (a0 3), .ref (a0 5), .ref (a0 4), .long t0.2.1, .int (t0.1 1), .int (t0.1 2), .ref (a0 6), .int (t0.1 3), .int (t0.1 4), .ref (a0 7), .int (t0.1 5), .int (t0.1 6), .int (t0.1 7), .int (t0.1 8), .int (t0.1 9), .int (t0.1 10), .int (t0.1 11), .int (t0.1 12), .int (t0.1 13), .int (t0.1 14)])), ((a0 1), .inl (q 1, 6896, .inr (.inl (t0.2.2.1 0)))), ((a0 2), .inl (q 1, 68960, .inr (.inl (t0.2.2.1 1)))), ((a0 3), .inl (q 1, 13792, .inr (.inl (t0.2.2.1 2)))), ((a0 4), .inl (q 1, 6896, .inr (.inl (t0.2.2.1 3)))), ((a0 5), .inl (q 3, 2, .inl (t0.2.2.2 0))), ((a0 6), .inl (q 0, 40, .inl (t0.2.2.2 1))), ((a0 7), .inl (q 2, 400, .inl (t0.2.2.2 2)))] := hD
      refine lv_aload_n hx hb dX7_keep_45 rfl (lv_at hl 2 rfl) ?_
      refine fl_get (C := RX7) (T := TX7) (N := 23) (ci := 6) (v := .ref (a0 5)) hx hb ht in_X7 hown hK hP 0 rfl rfl 4 (by decide) mw_1134 rfl dX7_keep_46 ?_
      refine lv_iload_n hx hb dX7_keep_49 rfl (lv_at hl 0 rfl) ?_
      refine lv_iconst (v := 1) hx hb dX7_keep_50 (by decide) ?_
      obtain ⟨g_7, h⟩ := h
      refine va_zast hx hb hK hP hD hS 5 3 rfl rfl g_7 dX7_keep_51 (fun H locs hP hD hS => ?_)
      have hP : va_P D vwCl [((a0 0), .inr (6, [.ref (a0 1), .ref (a0 2), .int (t0.1 0), .ref (a0 3), .ref (a0 5), .ref (a0 4), .long t0.2.1, .int (t0.1 1), .int (t0.1 2), .ref (a0 6), .int (t0.1 3), .int (t0.1 4), .ref (a0 7), .int (t0.1 5), .int (t0.1 6), .int (t0.1 7), .int (t0.1 8), .int (t0.1 9), .int (t0.1 10), .int (t0.1 11), .int (t0.1 12), .int (t0.1 13), .int (t0.1 14)])), ((a0 1), .inl (q 1, 6896, .inr (.inl (t0.2.2.1 0)))), ((a0 2), .inl (q 1, 68960, .inr (.inl (t0.2.2.1 1)))), ((a0 3), .inl (q 1, 13792, .inr (.inl (t0.2.2.1 2)))), ((a0 4), .inl (q 1, 6896, .inr (.inl (t0.2.2.1 3)))), ((a0 5), .inl (q 3, 2, .inl (upd (t0.2.2.2 0) (Int32.toNatClampNeg z1) (vp_nar .boolean 1)))), ((a0 6), .inl (q 0, 40, .inl (t0.2.2.2 1))), ((a0 7), .inl (q 2, 400, .inl (t0.2.2.2 2)))] H := hP
      have hD : va_D _ [((a0 0), .inr (6, [.ref (a0 1), .ref (a0 2), .int (t0.1 0), .ref (a0 3), .ref (a0 5), .ref (a0 4), .long t0.2.1, .int (t0.1 1), .int (t0.1 2), .ref (a0 6), .int (t0.1 3), .int (t0.1 4), .ref (a0 7), .int (t0.1 5), .int (t0.1 6), .int (t0.1 7), .int (t0.1 8), .int (t0.1 9), .int (t0.1 10), .int (t0.1 11), .int (t0.1 12), .int (t0.1 13), .int (t0.1 14)])), ((a0 1), .inl (q 1, 6896, .inr (.inl (t0.2.2.1 0)))), ((a0 2), .inl (q 1, 68960, .inr (.inl (t0.2.2.1 1)))), ((a0 3), .inl (q 1, 13792, .inr (.inl (t0.2.2.1 2)))), ((a0 4), .inl (q 1, 6896, .inr (.inl (t0.2.2.1 3)))), ((a0 5), .inl (q 3, 2, .inl (upd (t0.2.2.2 0) (Int32.toNatClampNeg z1) (vp_nar .boolean 1)))), ((a0 6), .inl (q 0, 40, .inl (t0.2.2.2 1))), ((a0 7), .inl (q 2, 400, .inl (t0.2.2.2 2)))] := hD
      refine lv_aload_n hx hb dX7_keep_52 rfl (lv_at hl 2 rfl) ?_
      refine vp_callSi (rd_wV (wc := md_v a0 q (t0.1, t0.2.1, t0.2.2.1, (va_up t0.2.2.2 0 (upd (t0.2.2.2 0) (Int32.toNatClampNeg z1) (vp_nar .boolean 1))))) (As := []) (rest := []) hx hb hml hown ht (c2_X7_cells h) wd_X7_cells mw_1295 hQ hV hS (hP.sub [0, 1, 2, 3, 4, 5, 6, 7] rfl) rfl rfl rfl hl.1 rfl (Nat.le_of_ble_eq_true rfl) dX7_keep_53 ⟨Nat.le_of_ble_eq_true rfl, Nat.le_of_ble_eq_true rfl, rfl, rfl⟩ ⟨Nat.le_of_ble_eq_true rfl, Nat.le_of_ble_eq_true rfl⟩) (fun r_8 h => ?_)
      try dsimp only at h
      exact mt_iret (t0.1, t0.2.1, t0.2.2.1, (va_up t0.2.2.2 0 (upd (t0.2.2.2 0) (Int32.toNatClampNeg z1) (vp_nar .boolean 1)))) hx hb hr hk h (hP.sub (ws' := md_v a0 q (t0.1, t0.2.1, t0.2.2.1, (va_up t0.2.2.2 0 (upd (t0.2.2.2 0) (Int32.toNatClampNeg z1) (vp_nar .boolean 1))))) [0, 1, 2, 3, 4, 5, 6, 7] rfl) (hD.sub (ws' := md_v a0 q (t0.1, t0.2.1, t0.2.2.1, (va_up t0.2.2.2 0 (upd (t0.2.2.2 0) (Int32.toNatClampNeg z1) (vp_nar .boolean 1))))) [0, 1, 2, 3, 4, 5, 6, 7] (by decide) rfl) hS dX7_keep_56
  · replace h := h.2 c_3
    refine lv_iconst (v := (-1)) hx hb dX7_keep_10 (by decide) ?_
    exact mt_iret s0 hx hb hr hk h (hP.sub (ws' := md_v a0 q s0) [0, 1, 2, 3, 4, 5, 6, 7] rfl) (hD.sub (ws' := md_v a0 q s0) [0, 1, 2, 3, 4, 5, 6, 7] (by decide) rfl) hS dX7_keep_11

def wp_X7_back_L26 (post : Int32 → Md → Prop) (e57 : Md → Int32 → Int32 → Prop) : Nat → Md → Int32 → Int32 → Prop
  | 0, _, _, _ => False
  | n26 + 1, t0, z1, z2 => ((6896 ≤ z2 → e57 t0 z1 z2) ∧ (¬ 6896 ≤ z2 → vp_in ((6896 * z1) + z2) 13792 ∧ vp_in z2 6896 ∧ wp_X7_back_L26 post e57 n26 (t0.1, t0.2.1, (va_up t0.2.2.1 0 (vp_updL (t0.2.2.1 0) (Int32.toNatClampNeg z2) ((t0.2.2.1 2) (Int32.toNatClampNeg ((6896 * z1) + z2))))), t0.2.2.2) z1 (z2 + 1)))
def wp_X7_back (post : Int32 → Md → Prop) (s0 : Md) (x1 : Int32) : Prop := wp_X7_in (fun r_1 => ((¬ r_1 = 0 → vp_in x1 2 ∧ ((¬ ((s0.2.2.2 0) (Int32.toNatClampNeg x1)) = 0 → (∃ n26, wp_X7_back_L26 post (fun t0 z1 z2 => wp_X7_cells (fun r_9 => post r_9 ((va_up t0.1 0 0), t0.2.1, t0.2.2.1, t0.2.2.2)) ((va_up t0.1 0 0), t0.2.1, t0.2.2.1, t0.2.2.2)) n26 s0 x1 0)) ∧ (((s0.2.2.2 0) (Int32.toNatClampNeg x1)) = 0 → post (-2) s0))) ∧ (r_1 = 0 → post (-1) s0))) (Int32.toInt64 x1) (0 : Int64) (1 : Int64)
set_option maxHeartbeats 4000000 in
set_option maxRecDepth 100000 in
theorem c2_X7_back {l : Launch} {D : va_G} {q : Nat → ClassId} {sz : Nat} {a0 : Nat → Nat} {s0 : Md} {x1 : Int32} {post : Int32 → Md → Prop} (h : wp_X7_back post s0 x1) : Met l yX7_back (Cond.code yX7_back cX7_back 3 (some .int) :: w_all) ({ frames := 2, cells := 0, slots := 0, locals := 40 } : Room) (mt_P D q [.ref (a0 0), .int x1] (md_v a0 q s0) sz) (va_Qi (fun r (u : Md) => post r u) (mt_B D (md_v a0 q s0) sz (fun u : Md => md_v a0 q u)) (va_A (md_v a0 q s0) sz)) 0 0 (va_A (md_v a0 q s0) sz) := by
  refine mt_start (by decide) (Nat.le_of_ble_eq_true rfl) ?_
  intro p e s m below meth c ls hx hb hr hml hown ht hk hin hP hQ hD hA hS hV hl
  have hK := hQ.1
  have hown : s.vm.findClass RX7 = some m.cls := hown
  have hl : lv_has ls 3 [(0, .ref (a0 0)), (1, .int x1)] := hl
  have hP : va_P D vwCl [((a0 0), .inr (6, [.ref (a0 1), .ref (a0 2), .int (s0.1 0), .ref (a0 3), .ref (a0 5), .ref (a0 4), .long s0.2.1, .int (s0.1 1), .int (s0.1 2), .ref (a0 6), .int (s0.1 3), .int (s0.1 4), .ref (a0 7), .int (s0.1 5), .int (s0.1 6), .int (s0.1 7), .int (s0.1 8), .int (s0.1 9), .int (s0.1 10), .int (s0.1 11), .int (s0.1 12), .int (s0.1 13), .int (s0.1 14)])), ((a0 1), .inl (q 1, 6896, .inr (.inl (s0.2.2.1 0)))), ((a0 2), .inl (q 1, 68960, .inr (.inl (s0.2.2.1 1)))), ((a0 3), .inl (q 1, 13792, .inr (.inl (s0.2.2.1 2)))), ((a0 4), .inl (q 1, 6896, .inr (.inl (s0.2.2.1 3)))), ((a0 5), .inl (q 3, 2, .inl (s0.2.2.2 0))), ((a0 6), .inl (q 0, 40, .inl (s0.2.2.2 1))), ((a0 7), .inl (q 2, 400, .inl (s0.2.2.2 2)))] s.heap := hP
  have hD : va_D _ [((a0 0), .inr (6, [.ref (a0 1), .ref (a0 2), .int (s0.1 0), .ref (a0 3), .ref (a0 5), .ref (a0 4), .long s0.2.1, .int (s0.1 1), .int (s0.1 2), .ref (a0 6), .int (s0.1 3), .int (s0.1 4), .ref (a0 7), .int (s0.1 5), .int (s0.1 6), .int (s0.1 7), .int (s0.1 8), .int (s0.1 9), .int (s0.1 10), .int (s0.1 11), .int (s0.1 12), .int (s0.1 13), .int (s0.1 14)])), ((a0 1), .inl (q 1, 6896, .inr (.inl (s0.2.2.1 0)))), ((a0 2), .inl (q 1, 68960, .inr (.inl (s0.2.2.1 1)))), ((a0 3), .inl (q 1, 13792, .inr (.inl (s0.2.2.1 2)))), ((a0 4), .inl (q 1, 6896, .inr (.inl (s0.2.2.1 3)))), ((a0 5), .inl (q 3, 2, .inl (s0.2.2.2 0))), ((a0 6), .inl (q 0, 40, .inl (s0.2.2.2 1))), ((a0 7), .inl (q 2, 400, .inl (s0.2.2.2 2)))] := hD
  unfold wp_X7_back at h
  refine lv_iload_n hx hb dX7_back_0 rfl (lv_at hl 1 rfl) ?_
  refine lv_i2l (v := (Int32.toInt64 x1)) hx hb dX7_back_1 rfl ?_
  refine lv_lconst (v := 0) hx hb dX7_back_2 (by decide) ?_
  refine lv_lconst (v := 1) hx hb dX7_back_3 (by decide) ?_
  refine vp_callSi (rd_wS (wc := ([] : va_W)) (As := [.long (Int32.toInt64 x1), .long 0, .long 1]) (rest := []) hx hb hml hown ht (c2_X7_in h) wd_X7_in mw_1213 hQ hV hS (hP.sub [] rfl) rfl hl.1 rfl (Nat.le_of_ble_eq_true rfl) dX7_back_4 ⟨Nat.le_of_ble_eq_true rfl, Nat.le_of_ble_eq_true rfl, rfl, rfl⟩ ⟨Nat.le_of_ble_eq_true rfl, Nat.le_of_ble_eq_true rfl⟩) (fun r_1 h => ?_)
  try dsimp only at h
  refine lv_if_ne (tgt := 12) hx hb dX7_back_7 (by decide) (fun c_3 => ?_) (fun c_3 => ?_)
  · replace h := h.1 c_3
    refine lv_aload_n hx hb dX7_back_12 rfl (lv_at hl 0 rfl) ?_
    refine fl_get (C := RX7) (T := TX7) (N := 23) (ci := 6) (v := .ref (a0 5)) hx hb ht in_X7 hown hK hP 0 rfl rfl 4 (by decide) mw_1134 rfl dX7_back_13 ?_
    refine lv_iload_n hx hb dX7_back_16 rfl (lv_at hl 1 rfl) ?_
    obtain ⟨g_4, h⟩ := h
    refine va_zald hx hb hK hP 5 3 rfl rfl g_4 dX7_back_17 ?_
    refine lv_if_ne (tgt := 24) hx hb dX7_back_18 (by decide) (fun c_5 => ?_) (fun c_5 => ?_)
    · replace h := h.1 c_5
      refine lv_iconst (v := 0) hx hb dX7_back_24 (by decide) ?_
      refine lv_istore_n (lv' := [(2, .int 0), (0, .ref (a0 0)), (1, .int x1)]) hx hb dX7_back_25 rfl hl (by decide) rfl (fun ls hl => ?_)
      have lp26 : ∀ (e57 : Md → Int32 → Int32 → Prop) (k57 : ∀ (t0 : Md) (z1 : Int32) (z2 : Int32) (H : Heap) (locs : List Loc) (ls : Array Slot), e57 t0 z1 z2 → va_P D vwCl (md_v a0 q t0) H → va_D (va_A (md_v a0 q s0) sz) (md_v a0 q t0) → va_S (va_A (md_v a0 q s0) sz) s.heap H locs → lv_has ls 3 [(1, .int z1), (2, .int z2), (0, .ref (a0 0))] → W p l e ({ frames := 2, cells := 0, slots := 0, locals := 40 } : Room) s m [.ref (a0 0), .int x1].toArray below meth c H locs 0 0 (MQ below (va_Qi (fun r (u : Md) => post r u) (mt_B D (md_v a0 q s0) sz (fun u : Md => md_v a0 q u)) (va_A (md_v a0 q s0) sz)) [.ref (a0 0), .int x1].toArray s 0 0 (va_A (md_v a0 q s0) sz)) (F0 m 57 ls [])) (n : Nat) (t0 : Md) (z1 : Int32) (z2 : Int32) (H : Heap) (locs : List Loc) (ls : Array Slot), wp_X7_back_L26 post e57 n t0 z1 z2 → va_P D vwCl (md_v a0 q t0) H → va_D (va_A (md_v a0 q s0) sz) (md_v a0 q t0) → va_S (va_A (md_v a0 q s0) sz) s.heap H locs → lv_has ls 3 [(1, .int z1), (2, .int z2), (0, .ref (a0 0))] → W p l e ({ frames := 2, cells := 0, slots := 0, locals := 40 } : Room) s m [.ref (a0 0), .int x1].toArray below meth c H locs 0 0 (MQ below (va_Qi (fun r (u : Md) => post r u) (mt_B D (md_v a0 q s0) sz (fun u : Md => md_v a0 q u)) (va_A (md_v a0 q s0) sz)) [.ref (a0 0), .int x1].toArray s 0 0 (va_A (md_v a0 q s0) sz)) (F0 m 26 ls []) := by
        intro e57 k57 n
        induction n with
        | zero =>
          intro t0 z1 z2 H locs ls h
          exact h.elim
        | succ n ih =>
          intro t0 z1 z2 H locs ls h hP hD hS hl
          have hP : va_P D vwCl [((a0 0), .inr (6, [.ref (a0 1), .ref (a0 2), .int (t0.1 0), .ref (a0 3), .ref (a0 5), .ref (a0 4), .long t0.2.1, .int (t0.1 1), .int (t0.1 2), .ref (a0 6), .int (t0.1 3), .int (t0.1 4), .ref (a0 7), .int (t0.1 5), .int (t0.1 6), .int (t0.1 7), .int (t0.1 8), .int (t0.1 9), .int (t0.1 10), .int (t0.1 11), .int (t0.1 12), .int (t0.1 13), .int (t0.1 14)])), ((a0 1), .inl (q 1, 6896, .inr (.inl (t0.2.2.1 0)))), ((a0 2), .inl (q 1, 68960, .inr (.inl (t0.2.2.1 1)))), ((a0 3), .inl (q 1, 13792, .inr (.inl (t0.2.2.1 2)))), ((a0 4), .inl (q 1, 6896, .inr (.inl (t0.2.2.1 3)))), ((a0 5), .inl (q 3, 2, .inl (t0.2.2.2 0))), ((a0 6), .inl (q 0, 40, .inl (t0.2.2.2 1))), ((a0 7), .inl (q 2, 400, .inl (t0.2.2.2 2)))] H := hP
          have hD : va_D _ [((a0 0), .inr (6, [.ref (a0 1), .ref (a0 2), .int (t0.1 0), .ref (a0 3), .ref (a0 5), .ref (a0 4), .long t0.2.1, .int (t0.1 1), .int (t0.1 2), .ref (a0 6), .int (t0.1 3), .int (t0.1 4), .ref (a0 7), .int (t0.1 5), .int (t0.1 6), .int (t0.1 7), .int (t0.1 8), .int (t0.1 9), .int (t0.1 10), .int (t0.1 11), .int (t0.1 12), .int (t0.1 13), .int (t0.1 14)])), ((a0 1), .inl (q 1, 6896, .inr (.inl (t0.2.2.1 0)))), ((a0 2), .inl (q 1, 68960, .inr (.inl (t0.2.2.1 1)))), ((a0 3), .inl (q 1, 13792, .inr (.inl (t0.2.2.1 2)))), ((a0 4), .inl (q 1, 6896, .inr (.inl (t0.2.2.1 3)))), ((a0 5), .inl (q 3, 2, .inl (t0.2.2.2 0))), ((a0 6), .inl (q 0, 40, .inl (t0.2.2.2 1))), ((a0 7), .inl (q 2, 400, .inl (t0.2.2.2 2)))] := hD
          unfold wp_X7_back_L26 at h
          refine lv_iload_n hx hb dX7_back_26 rfl (lv_at hl 1 rfl) ?_
          refine lv_sipush (v := 6896) hx hb dX7_back_27 (by decide) ?_
          refine lv_icmp_ge (tgt := 57) hx hb dX7_back_30 (by decide) (fun c_6 => ?_) (fun c_6 => ?_)
          · replace h := h.1 c_6
            exact k57 _ _ _ _ _ ls h (hP.sub (ws' := md_v a0 q t0) [0, 1, 2, 3, 4, 5, 6, 7] rfl) (hD.sub (ws' := md_v a0 q t0) [0, 1, 2, 3, 4, 5, 6, 7] (by decide) rfl) hS (lv_sub hl [0, 1, 2] rfl)
          · replace h := h.2 c_6
            refine lv_aload_n hx hb dX7_back_33 rfl (lv_at hl 2 rfl) ?_
            refine fl_get (C := RX7) (T := TX7) (N := 23) (ci := 6) (v := .ref (a0 1)) hx hb ht in_X7 hown hK hP 0 rfl rfl 0 (by decide) mw_1130 rfl dX7_back_34 ?_
            refine lv_iload_n hx hb dX7_back_37 rfl (lv_at hl 1 rfl) ?_
            refine lv_aload_n hx hb dX7_back_38 rfl (lv_at hl 2 rfl) ?_
            refine fl_get (C := RX7) (T := TX7) (N := 23) (ci := 6) (v := .ref (a0 3)) hx hb ht in_X7 hown hK hP 0 rfl rfl 3 (by decide) mw_1133 rfl dX7_back_39 ?_
            refine lv_sipush (v := 6896) hx hb dX7_back_42 (by decide) ?_
            refine lv_iload_n hx hb dX7_back_45 rfl (lv_at hl 0 rfl) ?_
            refine lv_imul hx hb dX7_back_46 ?_
            refine lv_iload_n hx hb dX7_back_47 rfl (lv_at hl 1 rfl) ?_
            refine lv_iadd hx hb dX7_back_48 ?_
            obtain ⟨g_7, h⟩ := h
            refine va_lald hx hb hK hP 3 1 rfl rfl g_7 dX7_back_49 ?_
            obtain ⟨g_8, h⟩ := h
            refine va_last hx hb hK hP hD hS 1 1 rfl rfl g_8 dX7_back_50 (fun H locs hP hD hS => ?_)
            have hP : va_P D vwCl [((a0 0), .inr (6, [.ref (a0 1), .ref (a0 2), .int (t0.1 0), .ref (a0 3), .ref (a0 5), .ref (a0 4), .long t0.2.1, .int (t0.1 1), .int (t0.1 2), .ref (a0 6), .int (t0.1 3), .int (t0.1 4), .ref (a0 7), .int (t0.1 5), .int (t0.1 6), .int (t0.1 7), .int (t0.1 8), .int (t0.1 9), .int (t0.1 10), .int (t0.1 11), .int (t0.1 12), .int (t0.1 13), .int (t0.1 14)])), ((a0 1), .inl (q 1, 6896, .inr (.inl (vp_updL (t0.2.2.1 0) (Int32.toNatClampNeg z2) ((t0.2.2.1 2) (Int32.toNatClampNeg ((6896 * z1) + z2))))))), ((a0 2), .inl (q 1, 68960, .inr (.inl (t0.2.2.1 1)))), ((a0 3), .inl (q 1, 13792, .inr (.inl (t0.2.2.1 2)))), ((a0 4), .inl (q 1, 6896, .inr (.inl (t0.2.2.1 3)))), ((a0 5), .inl (q 3, 2, .inl (t0.2.2.2 0))), ((a0 6), .inl (q 0, 40, .inl (t0.2.2.2 1))), ((a0 7), .inl (q 2, 400, .inl (t0.2.2.2 2)))] H := hP
            have hD : va_D _ [((a0 0), .inr (6, [.ref (a0 1), .ref (a0 2), .int (t0.1 0), .ref (a0 3), .ref (a0 5), .ref (a0 4), .long t0.2.1, .int (t0.1 1), .int (t0.1 2), .ref (a0 6), .int (t0.1 3), .int (t0.1 4), .ref (a0 7), .int (t0.1 5), .int (t0.1 6), .int (t0.1 7), .int (t0.1 8), .int (t0.1 9), .int (t0.1 10), .int (t0.1 11), .int (t0.1 12), .int (t0.1 13), .int (t0.1 14)])), ((a0 1), .inl (q 1, 6896, .inr (.inl (vp_updL (t0.2.2.1 0) (Int32.toNatClampNeg z2) ((t0.2.2.1 2) (Int32.toNatClampNeg ((6896 * z1) + z2))))))), ((a0 2), .inl (q 1, 68960, .inr (.inl (t0.2.2.1 1)))), ((a0 3), .inl (q 1, 13792, .inr (.inl (t0.2.2.1 2)))), ((a0 4), .inl (q 1, 6896, .inr (.inl (t0.2.2.1 3)))), ((a0 5), .inl (q 3, 2, .inl (t0.2.2.2 0))), ((a0 6), .inl (q 0, 40, .inl (t0.2.2.2 1))), ((a0 7), .inl (q 2, 400, .inl (t0.2.2.2 2)))] := hD
            refine lv_iinc (v := (z2 + 1)) (lv' := [(2, .int (z2 + 1)), (1, .int z1), (0, .ref (a0 0))]) hx hb dX7_back_51 hl (k := 1) rfl rfl (by decide) rfl (fun ls hl => ?_)
            refine lv_goto (tgt := 26) hx hb dX7_back_54 (by decide) ?_
            exact ih _ _ _ _ _ ls h (hP.sub (ws' := md_v a0 q (t0.1, t0.2.1, (va_up t0.2.2.1 0 (vp_updL (t0.2.2.1 0) (Int32.toNatClampNeg z2) ((t0.2.2.1 2) (Int32.toNatClampNeg ((6896 * z1) + z2))))), t0.2.2.2)) [0, 1, 2, 3, 4, 5, 6, 7] rfl) (hD.sub (ws' := md_v a0 q (t0.1, t0.2.1, (va_up t0.2.2.1 0 (vp_updL (t0.2.2.1 0) (Int32.toNatClampNeg z2) ((t0.2.2.1 2) (Int32.toNatClampNeg ((6896 * z1) + z2))))), t0.2.2.2)) [0, 1, 2, 3, 4, 5, 6, 7] (by decide) rfl) hS (lv_sub hl [1, 0, 2] rfl)
      obtain ⟨n26, h⟩ := h
      refine lp26 _ ?_ n26 _ _ _ _ _ ls h (hP.sub (ws' := md_v a0 q s0) [0, 1, 2, 3, 4, 5, 6, 7] rfl) (hD.sub (ws' := md_v a0 q s0) [0, 1, 2, 3, 4, 5, 6, 7] (by decide) rfl) hS (lv_sub hl [2, 0, 1] rfl)
      · intro t0 z1 z2 H locs ls h hP hD hS hl
        try dsimp only at h
        have hP : va_P D vwCl [((a0 0), .inr (6, [.ref (a0 1), .ref (a0 2), .int (t0.1 0), .ref (a0 3), .ref (a0 5), .ref (a0 4), .long t0.2.1, .int (t0.1 1), .int (t0.1 2), .ref (a0 6), .int (t0.1 3), .int (t0.1 4), .ref (a0 7), .int (t0.1 5), .int (t0.1 6), .int (t0.1 7), .int (t0.1 8), .int (t0.1 9), .int (t0.1 10), .int (t0.1 11), .int (t0.1 12), .int (t0.1 13), .int (t0.1 14)])), ((a0 1), .inl (q 1, 6896, .inr (.inl (t0.2.2.1 0)))), ((a0 2), .inl (q 1, 68960, .inr (.inl (t0.2.2.1 1)))), ((a0 3), .inl (q 1, 13792, .inr (.inl (t0.2.2.1 2)))), ((a0 4), .inl (q 1, 6896, .inr (.inl (t0.2.2.1 3)))), ((a0 5), .inl (q 3, 2, .inl (t0.2.2.2 0))), ((a0 6), .inl (q 0, 40, .inl (t0.2.2.2 1))), ((a0 7), .inl (q 2, 400, .inl (t0.2.2.2 2)))] H := hP
        have hD : va_D _ [((a0 0), .inr (6, [.ref (a0 1), .ref (a0 2), .int (t0.1 0), .ref (a0 3), .ref (a0 5), .ref (a0 4), .long t0.2.1, .int (t0.1 1), .int (t0.1 2), .ref (a0 6), .int (t0.1 3), .int (t0.1 4), .ref (a0 7), .int (t0.1 5), .int (t0.1 6), .int (t0.1 7), .int (t0.1 8), .int (t0.1 9), .int (t0.1 10), .int (t0.1 11), .int (t0.1 12), .int (t0.1 13), .int (t0.1 14)])), ((a0 1), .inl (q 1, 6896, .inr (.inl (t0.2.2.1 0)))), ((a0 2), .inl (q 1, 68960, .inr (.inl (t0.2.2.1 1)))), ((a0 3), .inl (q 1, 13792, .inr (.inl (t0.2.2.1 2)))), ((a0 4), .inl (q 1, 6896, .inr (.inl (t0.2.2.1 3)))), ((a0 5), .inl (q 3, 2, .inl (t0.2.2.2 0))), ((a0 6), .inl (q 0, 40, .inl (t0.2.2.2 1))), ((a0 7), .inl (q 2, 400, .inl (t0.2.2.2 2)))] := hD
        refine lv_aload_n hx hb dX7_back_57 rfl (lv_at hl 2 rfl) ?_
        refine lv_iconst (v := 0) hx hb dX7_back_58 (by decide) ?_
        refine fl_put (C := RX7) (T := TX7) (N := 23) (ci := 6) (v := .int 0) (ws2 := [((a0 0), .inr (6, [.ref (a0 1), .ref (a0 2), .int 0, .ref (a0 3), .ref (a0 5), .ref (a0 4), .long t0.2.1, .int (t0.1 1), .int (t0.1 2), .ref (a0 6), .int (t0.1 3), .int (t0.1 4), .ref (a0 7), .int (t0.1 5), .int (t0.1 6), .int (t0.1 7), .int (t0.1 8), .int (t0.1 9), .int (t0.1 10), .int (t0.1 11), .int (t0.1 12), .int (t0.1 13), .int (t0.1 14)])), ((a0 1), .inl (q 1, 6896, .inr (.inl (t0.2.2.1 0)))), ((a0 2), .inl (q 1, 68960, .inr (.inl (t0.2.2.1 1)))), ((a0 3), .inl (q 1, 13792, .inr (.inl (t0.2.2.1 2)))), ((a0 4), .inl (q 1, 6896, .inr (.inl (t0.2.2.1 3)))), ((a0 5), .inl (q 3, 2, .inl (t0.2.2.2 0))), ((a0 6), .inl (q 0, 40, .inl (t0.2.2.2 1))), ((a0 7), .inl (q 2, 400, .inl (t0.2.2.2 2)))]) hx hb ht in_X7 tyX7_ok nmX7 hown hK hP hD hS 0 rfl rfl 2 (by decide) mw_1132 rfl rfl rfl (Nat.le_of_ble_eq_true rfl) dX7_back_59 rfl (fun H locs hP hD hS => ?_)
        refine lv_aload_n hx hb dX7_back_62 rfl (lv_at hl 2 rfl) ?_
        refine vp_callSi (rd_wV (wc := md_v a0 q ((va_up t0.1 0 0), t0.2.1, t0.2.2.1, t0.2.2.2)) (As := []) (rest := []) hx hb hml hown ht (c2_X7_cells h) wd_X7_cells mw_1295 hQ hV hS (hP.sub [0, 1, 2, 3, 4, 5, 6, 7] rfl) rfl rfl rfl hl.1 rfl (Nat.le_of_ble_eq_true rfl) dX7_back_63 ⟨Nat.le_of_ble_eq_true rfl, Nat.le_of_ble_eq_true rfl, rfl, rfl⟩ ⟨Nat.le_of_ble_eq_true rfl, Nat.le_of_ble_eq_true rfl⟩) (fun r_9 h => ?_)
        try dsimp only at h
        exact mt_iret ((va_up t0.1 0 0), t0.2.1, t0.2.2.1, t0.2.2.2) hx hb hr hk h (hP.sub (ws' := md_v a0 q ((va_up t0.1 0 0), t0.2.1, t0.2.2.1, t0.2.2.2)) [0, 1, 2, 3, 4, 5, 6, 7] rfl) (hD.sub (ws' := md_v a0 q ((va_up t0.1 0 0), t0.2.1, t0.2.2.1, t0.2.2.2)) [0, 1, 2, 3, 4, 5, 6, 7] (by decide) rfl) hS dX7_back_66
    · replace h := h.2 c_5
      refine lv_bipush (v := (-2)) hx hb dX7_back_21 (by decide) ?_
      exact mt_iret s0 hx hb hr hk h (hP.sub (ws' := md_v a0 q s0) [0, 1, 2, 3, 4, 5, 6, 7] rfl) (hD.sub (ws' := md_v a0 q s0) [0, 1, 2, 3, 4, 5, 6, 7] (by decide) rfl) hS dX7_back_23
  · replace h := h.2 c_3
    refine lv_iconst (v := (-1)) hx hb dX7_back_10 (by decide) ?_
    exact mt_iret s0 hx hb hr hk h (hP.sub (ws' := md_v a0 q s0) [0, 1, 2, 3, 4, 5, 6, 7] rfl) (hD.sub (ws' := md_v a0 q s0) [0, 1, 2, 3, 4, 5, 6, 7] (by decide) rfl) hS dX7_back_11

def wp_X7_cell (post : Int32 → Prop) (s0 : Md) (x1 : Int32) (x2 : Int32) : Prop := wp_X7_isCell (fun r_1 => ((¬ r_1 = 0 → ((x2 = 0 → wp_X7_of (fun r_5 => post r_5) s0 x1 x2) ∧ (¬ x2 = 0 → ((x2 = 1 → wp_X7_of (fun r_8 => post r_8) s0 x1 x2) ∧ (¬ x2 = 1 → ((x2 = 2 → wp_X7_of (fun r_11 => post r_11) s0 x1 x2) ∧ (¬ x2 = 2 → ((x2 = 3 → wp_X7_of (fun r_14 => post r_14) s0 x1 x2) ∧ (¬ x2 = 3 → ((x2 = 4 → wp_X7_leftOf (fun r_17 => post r_17) s0 x1) ∧ (¬ x2 = 4 → ((x2 = 5 → wp_X7_of (fun r_20 => post r_20) s0 x1 (4 : Int32)) ∧ (¬ x2 = 5 → ((x2 = 6 → wp_X7_of (fun r_23 => post r_23) s0 x1 (5 : Int32)) ∧ (¬ x2 = 6 → ((x2 = 7 → wp_X7_of (fun r_26 => post r_26) s0 x1 (6 : Int32)) ∧ (¬ x2 = 7 → ((x2 = 8 → wp_X7_wornOf (fun r_29 => wp_X7_bits (fun r_31 => post r_31) r_29) s0 x1) ∧ (¬ x2 = 8 → post (-1)))))))))))))))))))) ∧ (r_1 = 0 → post (-1)))) s0 x1
set_option maxHeartbeats 4000000 in
set_option maxRecDepth 100000 in
theorem c2_X7_cell {l : Launch} {D : va_G} {q : Nat → ClassId} {a0 : Nat → Nat} {s0 : Md} {x1 : Int32} {x2 : Int32} {post : Int32 → Prop} (h : wp_X7_cell post s0 x1 x2) : Met l yX7_cell (Cond.code yX7_cell cX7_cell 3 (some .int) :: w_all) ({ frames := 3, cells := 0, slots := 0, locals := 64 } : Room) (rd_P D q [.ref (a0 0), .int x1, .int x2] (md_v a0 q s0)) (vp_Si post) 0 0 (fun _ => False) := by
  refine rd_start (by decide) (Nat.le_of_ble_eq_true rfl) ?_
  intro p e s m below meth c ls hx hb hr hml hown ht hk hP hQ hV hl
  have hK := hQ.1
  have hown : s.vm.findClass RX7 = some m.cls := hown
  have hl : lv_has ls 3 [(0, .ref (a0 0)), (1, .int x1), (2, .int x2)] := hl
  have hP : va_P D vwCl [((a0 0), .inr (6, [.ref (a0 1), .ref (a0 2), .int (s0.1 0), .ref (a0 3), .ref (a0 5), .ref (a0 4), .long s0.2.1, .int (s0.1 1), .int (s0.1 2), .ref (a0 6), .int (s0.1 3), .int (s0.1 4), .ref (a0 7), .int (s0.1 5), .int (s0.1 6), .int (s0.1 7), .int (s0.1 8), .int (s0.1 9), .int (s0.1 10), .int (s0.1 11), .int (s0.1 12), .int (s0.1 13), .int (s0.1 14)])), ((a0 1), .inl (q 1, 6896, .inr (.inl (s0.2.2.1 0)))), ((a0 2), .inl (q 1, 68960, .inr (.inl (s0.2.2.1 1)))), ((a0 3), .inl (q 1, 13792, .inr (.inl (s0.2.2.1 2)))), ((a0 4), .inl (q 1, 6896, .inr (.inl (s0.2.2.1 3)))), ((a0 5), .inl (q 3, 2, .inl (s0.2.2.2 0))), ((a0 6), .inl (q 0, 40, .inl (s0.2.2.2 1))), ((a0 7), .inl (q 2, 400, .inl (s0.2.2.2 2)))] s.heap := hP
  unfold wp_X7_cell at h
  refine lv_aload_n hx hb dX7_cell_0 rfl (lv_at hl 0 rfl) ?_
  refine lv_iload_n hx hb dX7_cell_1 rfl (lv_at hl 1 rfl) ?_
  refine vp_callSi (rd_wV (wc := md_v a0 q s0) (As := [.int x1]) (rest := []) hx hb hml hown ht (c2_X7_isCell h) wd_X7_isCell mw_1340 hQ hV va_S.rf (hP.sub [0, 1, 2, 3, 4, 5, 6, 7] rfl) rfl rfl rfl hl.1 rfl (Nat.le_of_ble_eq_true rfl) dX7_cell_2 ⟨Nat.le_of_ble_eq_true rfl, Nat.le_of_ble_eq_true rfl, rfl, rfl⟩ ⟨Nat.le_of_ble_eq_true rfl, Nat.le_of_ble_eq_true rfl⟩) (fun r_1 h => ?_)
  try dsimp only at h
  refine lv_if_ne (tgt := 10) hx hb dX7_cell_5 (by decide) (fun c_3 => ?_) (fun c_3 => ?_)
  · replace h := h.1 c_3
    refine lv_iload_n hx hb dX7_cell_10 rfl (lv_at hl 2 rfl) ?_
    by_cases k_4 : x2 = 0
    · replace h := h.1 k_4
      refine lv_tableIn (tgt := 60) hx hb dX7_cell_11 (by rw [k_4]; decide) (by rw [k_4]; decide) (by rw [k_4]; rfl) (by decide) ?_
      refine lv_aload_n hx hb dX7_cell_60 rfl (lv_at hl 0 rfl) ?_
      refine lv_iload_n hx hb dX7_cell_61 rfl (lv_at hl 1 rfl) ?_
      refine lv_iload_n hx hb dX7_cell_62 rfl (lv_at hl 2 rfl) ?_
      refine vp_callSi (rd_wV (wc := md_v a0 q s0) (As := [.int x1, .int x2]) (rest := []) hx hb hml hown ht (c2_X7_of h) wd_X7_of mw_1249 hQ hV va_S.rf (hP.sub [0, 1, 2, 3, 4, 5, 6, 7] rfl) rfl rfl rfl hl.1 rfl (Nat.le_of_ble_eq_true rfl) dX7_cell_63 ⟨Nat.le_of_ble_eq_true rfl, Nat.le_of_ble_eq_true rfl, rfl, rfl⟩ ⟨Nat.le_of_ble_eq_true rfl, Nat.le_of_ble_eq_true rfl⟩) (fun r_5 h => ?_)
      try dsimp only at h
      exact rd_iret hx hb hr hk h dX7_cell_66
    replace h := h.2 k_4
    by_cases k_7 : x2 = 1
    · replace h := h.1 k_7
      refine lv_tableIn (tgt := 60) hx hb dX7_cell_11 (by rw [k_7]; decide) (by rw [k_7]; decide) (by rw [k_7]; rfl) (by decide) ?_
      refine lv_aload_n hx hb dX7_cell_60 rfl (lv_at hl 0 rfl) ?_
      refine lv_iload_n hx hb dX7_cell_61 rfl (lv_at hl 1 rfl) ?_
      refine lv_iload_n hx hb dX7_cell_62 rfl (lv_at hl 2 rfl) ?_
      refine vp_callSi (rd_wV (wc := md_v a0 q s0) (As := [.int x1, .int x2]) (rest := []) hx hb hml hown ht (c2_X7_of h) wd_X7_of mw_1249 hQ hV va_S.rf (hP.sub [0, 1, 2, 3, 4, 5, 6, 7] rfl) rfl rfl rfl hl.1 rfl (Nat.le_of_ble_eq_true rfl) dX7_cell_63 ⟨Nat.le_of_ble_eq_true rfl, Nat.le_of_ble_eq_true rfl, rfl, rfl⟩ ⟨Nat.le_of_ble_eq_true rfl, Nat.le_of_ble_eq_true rfl⟩) (fun r_8 h => ?_)
      try dsimp only at h
      exact rd_iret hx hb hr hk h dX7_cell_66
    replace h := h.2 k_7
    by_cases k_10 : x2 = 2
    · replace h := h.1 k_10
      refine lv_tableIn (tgt := 60) hx hb dX7_cell_11 (by rw [k_10]; decide) (by rw [k_10]; decide) (by rw [k_10]; rfl) (by decide) ?_
      refine lv_aload_n hx hb dX7_cell_60 rfl (lv_at hl 0 rfl) ?_
      refine lv_iload_n hx hb dX7_cell_61 rfl (lv_at hl 1 rfl) ?_
      refine lv_iload_n hx hb dX7_cell_62 rfl (lv_at hl 2 rfl) ?_
      refine vp_callSi (rd_wV (wc := md_v a0 q s0) (As := [.int x1, .int x2]) (rest := []) hx hb hml hown ht (c2_X7_of h) wd_X7_of mw_1249 hQ hV va_S.rf (hP.sub [0, 1, 2, 3, 4, 5, 6, 7] rfl) rfl rfl rfl hl.1 rfl (Nat.le_of_ble_eq_true rfl) dX7_cell_63 ⟨Nat.le_of_ble_eq_true rfl, Nat.le_of_ble_eq_true rfl, rfl, rfl⟩ ⟨Nat.le_of_ble_eq_true rfl, Nat.le_of_ble_eq_true rfl⟩) (fun r_11 h => ?_)
      try dsimp only at h
      exact rd_iret hx hb hr hk h dX7_cell_66
    replace h := h.2 k_10
    by_cases k_13 : x2 = 3
    · replace h := h.1 k_13
      refine lv_tableIn (tgt := 60) hx hb dX7_cell_11 (by rw [k_13]; decide) (by rw [k_13]; decide) (by rw [k_13]; rfl) (by decide) ?_
      refine lv_aload_n hx hb dX7_cell_60 rfl (lv_at hl 0 rfl) ?_
      refine lv_iload_n hx hb dX7_cell_61 rfl (lv_at hl 1 rfl) ?_
      refine lv_iload_n hx hb dX7_cell_62 rfl (lv_at hl 2 rfl) ?_
      refine vp_callSi (rd_wV (wc := md_v a0 q s0) (As := [.int x1, .int x2]) (rest := []) hx hb hml hown ht (c2_X7_of h) wd_X7_of mw_1249 hQ hV va_S.rf (hP.sub [0, 1, 2, 3, 4, 5, 6, 7] rfl) rfl rfl rfl hl.1 rfl (Nat.le_of_ble_eq_true rfl) dX7_cell_63 ⟨Nat.le_of_ble_eq_true rfl, Nat.le_of_ble_eq_true rfl, rfl, rfl⟩ ⟨Nat.le_of_ble_eq_true rfl, Nat.le_of_ble_eq_true rfl⟩) (fun r_14 h => ?_)
      try dsimp only at h
      exact rd_iret hx hb hr hk h dX7_cell_66
    replace h := h.2 k_13
    by_cases k_16 : x2 = 4
    · replace h := h.1 k_16
      refine lv_tableIn (tgt := 67) hx hb dX7_cell_11 (by rw [k_16]; decide) (by rw [k_16]; decide) (by rw [k_16]; rfl) (by decide) ?_
      refine lv_aload_n hx hb dX7_cell_67 rfl (lv_at hl 0 rfl) ?_
      refine lv_iload_n hx hb dX7_cell_68 rfl (lv_at hl 1 rfl) ?_
      refine vp_callSi (rd_wV (wc := md_v a0 q s0) (As := [.int x1]) (rest := []) hx hb hml hown ht (c2_X7_leftOf h) wd_X7_leftOf mw_1312 hQ hV va_S.rf (hP.sub [0, 1, 2, 3, 4, 5, 6, 7] rfl) rfl rfl rfl hl.1 rfl (Nat.le_of_ble_eq_true rfl) dX7_cell_69 ⟨Nat.le_of_ble_eq_true rfl, Nat.le_of_ble_eq_true rfl, rfl, rfl⟩ ⟨Nat.le_of_ble_eq_true rfl, Nat.le_of_ble_eq_true rfl⟩) (fun r_17 h => ?_)
      try dsimp only at h
      exact rd_iret hx hb hr hk h dX7_cell_72
    replace h := h.2 k_16
    by_cases k_19 : x2 = 5
    · replace h := h.1 k_19
      refine lv_tableIn (tgt := 73) hx hb dX7_cell_11 (by rw [k_19]; decide) (by rw [k_19]; decide) (by rw [k_19]; rfl) (by decide) ?_
      refine lv_aload_n hx hb dX7_cell_73 rfl (lv_at hl 0 rfl) ?_
      refine lv_iload_n hx hb dX7_cell_74 rfl (lv_at hl 1 rfl) ?_
      refine lv_iconst (v := 4) hx hb dX7_cell_75 (by decide) ?_
      refine vp_callSi (rd_wV (wc := md_v a0 q s0) (As := [.int x1, .int 4]) (rest := []) hx hb hml hown ht (c2_X7_of h) wd_X7_of mw_1249 hQ hV va_S.rf (hP.sub [0, 1, 2, 3, 4, 5, 6, 7] rfl) rfl rfl rfl hl.1 rfl (Nat.le_of_ble_eq_true rfl) dX7_cell_76 ⟨Nat.le_of_ble_eq_true rfl, Nat.le_of_ble_eq_true rfl, rfl, rfl⟩ ⟨Nat.le_of_ble_eq_true rfl, Nat.le_of_ble_eq_true rfl⟩) (fun r_20 h => ?_)
      try dsimp only at h
      exact rd_iret hx hb hr hk h dX7_cell_79
    replace h := h.2 k_19
    by_cases k_22 : x2 = 6
    · replace h := h.1 k_22
      refine lv_tableIn (tgt := 80) hx hb dX7_cell_11 (by rw [k_22]; decide) (by rw [k_22]; decide) (by rw [k_22]; rfl) (by decide) ?_
      refine lv_aload_n hx hb dX7_cell_80 rfl (lv_at hl 0 rfl) ?_
      refine lv_iload_n hx hb dX7_cell_81 rfl (lv_at hl 1 rfl) ?_
      refine lv_iconst (v := 5) hx hb dX7_cell_82 (by decide) ?_
      refine vp_callSi (rd_wV (wc := md_v a0 q s0) (As := [.int x1, .int 5]) (rest := []) hx hb hml hown ht (c2_X7_of h) wd_X7_of mw_1249 hQ hV va_S.rf (hP.sub [0, 1, 2, 3, 4, 5, 6, 7] rfl) rfl rfl rfl hl.1 rfl (Nat.le_of_ble_eq_true rfl) dX7_cell_83 ⟨Nat.le_of_ble_eq_true rfl, Nat.le_of_ble_eq_true rfl, rfl, rfl⟩ ⟨Nat.le_of_ble_eq_true rfl, Nat.le_of_ble_eq_true rfl⟩) (fun r_23 h => ?_)
      try dsimp only at h
      exact rd_iret hx hb hr hk h dX7_cell_86
    replace h := h.2 k_22
    by_cases k_25 : x2 = 7
    · replace h := h.1 k_25
      refine lv_tableIn (tgt := 87) hx hb dX7_cell_11 (by rw [k_25]; decide) (by rw [k_25]; decide) (by rw [k_25]; rfl) (by decide) ?_
      refine lv_aload_n hx hb dX7_cell_87 rfl (lv_at hl 0 rfl) ?_
      refine lv_iload_n hx hb dX7_cell_88 rfl (lv_at hl 1 rfl) ?_
      refine lv_bipush (v := 6) hx hb dX7_cell_89 (by decide) ?_
      refine vp_callSi (rd_wV (wc := md_v a0 q s0) (As := [.int x1, .int 6]) (rest := []) hx hb hml hown ht (c2_X7_of h) wd_X7_of mw_1249 hQ hV va_S.rf (hP.sub [0, 1, 2, 3, 4, 5, 6, 7] rfl) rfl rfl rfl hl.1 rfl (Nat.le_of_ble_eq_true rfl) dX7_cell_91 ⟨Nat.le_of_ble_eq_true rfl, Nat.le_of_ble_eq_true rfl, rfl, rfl⟩ ⟨Nat.le_of_ble_eq_true rfl, Nat.le_of_ble_eq_true rfl⟩) (fun r_26 h => ?_)
      try dsimp only at h
      exact rd_iret hx hb hr hk h dX7_cell_94
    replace h := h.2 k_25
    by_cases k_28 : x2 = 8
    · replace h := h.1 k_28
      refine lv_tableIn (tgt := 95) hx hb dX7_cell_11 (by rw [k_28]; decide) (by rw [k_28]; decide) (by rw [k_28]; rfl) (by decide) ?_
      refine lv_aload_n hx hb dX7_cell_95 rfl (lv_at hl 0 rfl) ?_
      refine lv_iload_n hx hb dX7_cell_96 rfl (lv_at hl 1 rfl) ?_
      refine vp_callSl (rd_wV (wc := md_v a0 q s0) (As := [.int x1]) (rest := []) hx hb hml hown ht (c2_X7_wornOf h) wd_X7_wornOf mw_1261 hQ hV va_S.rf (hP.sub [0, 1, 2, 3, 4, 5, 6, 7] rfl) rfl rfl rfl hl.1 rfl (Nat.le_of_ble_eq_true rfl) dX7_cell_97 ⟨Nat.le_of_ble_eq_true rfl, Nat.le_of_ble_eq_true rfl, rfl, rfl⟩ ⟨Nat.le_of_ble_eq_true rfl, Nat.le_of_ble_eq_true rfl⟩) (fun r_29 h => ?_)
      try dsimp only at h
      refine vp_callSi (rd_wS (wc := ([] : va_W)) (As := [.long r_29]) (rest := []) hx hb hml hown ht (c2_X7_bits h) wd_X7_bits mw_1357 hQ hV va_S.rf (hP.sub [] rfl) rfl hl.1 rfl (Nat.le_of_ble_eq_true rfl) dX7_cell_100 ⟨Nat.le_of_ble_eq_true rfl, Nat.le_of_ble_eq_true rfl, rfl, rfl⟩ ⟨Nat.le_of_ble_eq_true rfl, Nat.le_of_ble_eq_true rfl⟩) (fun r_31 h => ?_)
      try dsimp only at h
      exact rd_iret hx hb hr hk h dX7_cell_103
    replace h := h.2 k_28
    refine lv_tableOut (tgt := 104) hx hb dX7_cell_11 (by have g0 := k_4; have g1 := k_7; have g2 := k_10; have g3 := k_13; have g4 := k_16; have g5 := k_19; have g6 := k_22; have g7 := k_25; have g8 := k_28; (try simp only [lg_cmp_ge, lg_cmp_le, lg_cmp_gt, lg_cmp_lt, lg_cmp_eq] at g0 g1 g2 g3 g4 g5 g6 g7 g8); (try simp only [Int32.lt_iff_toInt_lt, Int32.le_iff_toInt_le, ← Int32.toInt_inj, Int32.reduceToInt, Int64.lt_iff_toInt_lt, Int64.le_iff_toInt_le, ← Int64.toInt_inj, Int64.reduceToInt, Int32.toInt_toInt64] at g0 g1 g2 g3 g4 g5 g6 g7 g8); omega) (by decide) ?_
    refine lv_iconst (v := (-1)) hx hb dX7_cell_104 (by decide) ?_
    exact rd_iret hx hb hr hk h dX7_cell_105
  · replace h := h.2 c_3
    refine lv_iconst (v := (-1)) hx hb dX7_cell_8 (by decide) ?_
    exact rd_iret hx hb hr hk h dX7_cell_9

def wp_X7_worn (post : Int64 → Prop) (s0 : Md) (x1 : Int32) : Prop := wp_X7_isCell (fun r_1 => ((r_1 = 0 → post (-1)) ∧ (¬ r_1 = 0 → wp_X7_wornOf (fun r_4 => post r_4) s0 x1))) s0 x1
set_option maxHeartbeats 4000000 in
set_option maxRecDepth 100000 in
theorem c2_X7_worn {l : Launch} {D : va_G} {q : Nat → ClassId} {a0 : Nat → Nat} {s0 : Md} {x1 : Int32} {post : Int64 → Prop} (h : wp_X7_worn post s0 x1) : Met l yX7_worn (Cond.code yX7_worn cX7_worn 2 (some .long) :: w_all) ({ frames := 3, cells := 0, slots := 0, locals := 61 } : Room) (rd_P D q [.ref (a0 0), .int x1] (md_v a0 q s0)) (vp_Sl post) 0 0 (fun _ => False) := by
  refine rd_start (by decide) (Nat.le_of_ble_eq_true rfl) ?_
  intro p e s m below meth c ls hx hb hr hml hown ht hk hP hQ hV hl
  have hK := hQ.1
  have hown : s.vm.findClass RX7 = some m.cls := hown
  have hl : lv_has ls 2 [(0, .ref (a0 0)), (1, .int x1)] := hl
  have hP : va_P D vwCl [((a0 0), .inr (6, [.ref (a0 1), .ref (a0 2), .int (s0.1 0), .ref (a0 3), .ref (a0 5), .ref (a0 4), .long s0.2.1, .int (s0.1 1), .int (s0.1 2), .ref (a0 6), .int (s0.1 3), .int (s0.1 4), .ref (a0 7), .int (s0.1 5), .int (s0.1 6), .int (s0.1 7), .int (s0.1 8), .int (s0.1 9), .int (s0.1 10), .int (s0.1 11), .int (s0.1 12), .int (s0.1 13), .int (s0.1 14)])), ((a0 1), .inl (q 1, 6896, .inr (.inl (s0.2.2.1 0)))), ((a0 2), .inl (q 1, 68960, .inr (.inl (s0.2.2.1 1)))), ((a0 3), .inl (q 1, 13792, .inr (.inl (s0.2.2.1 2)))), ((a0 4), .inl (q 1, 6896, .inr (.inl (s0.2.2.1 3)))), ((a0 5), .inl (q 3, 2, .inl (s0.2.2.2 0))), ((a0 6), .inl (q 0, 40, .inl (s0.2.2.2 1))), ((a0 7), .inl (q 2, 400, .inl (s0.2.2.2 2)))] s.heap := hP
  unfold wp_X7_worn at h
  refine lv_aload_n hx hb dX7_worn_0 rfl (lv_at hl 0 rfl) ?_
  refine lv_iload_n hx hb dX7_worn_1 rfl (lv_at hl 1 rfl) ?_
  refine vp_callSi (rd_wV (wc := md_v a0 q s0) (As := [.int x1]) (rest := []) hx hb hml hown ht (c2_X7_isCell h) wd_X7_isCell mw_1340 hQ hV va_S.rf (hP.sub [0, 1, 2, 3, 4, 5, 6, 7] rfl) rfl rfl rfl hl.1 rfl (Nat.le_of_ble_eq_true rfl) dX7_worn_2 ⟨Nat.le_of_ble_eq_true rfl, Nat.le_of_ble_eq_true rfl, rfl, rfl⟩ ⟨Nat.le_of_ble_eq_true rfl, Nat.le_of_ble_eq_true rfl⟩) (fun r_1 h => ?_)
  try dsimp only at h
  refine lv_if_eq (tgt := 16) hx hb dX7_worn_5 (by decide) (fun c_3 => ?_) (fun c_3 => ?_)
  · replace h := h.1 c_3
    refine lv_ldc2 (v := (-1)) hx hb hown (ht _ mw_1364) dX7_worn_16 ?_
    exact rd_lret hx hb hr hk h dX7_worn_19
  · replace h := h.2 c_3
    refine lv_aload_n hx hb dX7_worn_8 rfl (lv_at hl 0 rfl) ?_
    refine lv_iload_n hx hb dX7_worn_9 rfl (lv_at hl 1 rfl) ?_
    refine vp_callSl (rd_wV (wc := md_v a0 q s0) (As := [.int x1]) (rest := []) hx hb hml hown ht (c2_X7_wornOf h) wd_X7_wornOf mw_1261 hQ hV va_S.rf (hP.sub [0, 1, 2, 3, 4, 5, 6, 7] rfl) rfl rfl rfl hl.1 rfl (Nat.le_of_ble_eq_true rfl) dX7_worn_10 ⟨Nat.le_of_ble_eq_true rfl, Nat.le_of_ble_eq_true rfl, rfl, rfl⟩ ⟨Nat.le_of_ble_eq_true rfl, Nat.le_of_ble_eq_true rfl⟩) (fun r_4 h => ?_)
    try dsimp only at h
    refine lv_goto (tgt := 19) hx hb dX7_worn_13 (by decide) ?_
    exact rd_lret hx hb hr hk h dX7_worn_19

def wp_X7_cellsWith_L4 (s0 : Md) (post : Int32 → Prop) (e36 : Int32 → Int32 → Int32 → Prop) : Nat → Int32 → Int32 → Int32 → Prop
  | 0, _, _, _ => False
  | n4 + 1, z1, z2, z3 => wp_X7_cells (fun r_1 => ((r_1 ≤ z3 → e36 z1 z2 z3) ∧ (¬ r_1 ≤ z3 → wp_X7_of (fun r_4 => ((¬ r_4 = z1 → wp_X7_cellsWith_L4 s0 post e36 n4 z1 (z2 + 0) (z3 + 1)) ∧ (r_4 = z1 → wp_X7_cellsWith_L4 s0 post e36 n4 z1 (z2 + 1) (z3 + 1)))) s0 z3 (0 : Int32)))) s0
def wp_X7_cellsWith (post : Int32 → Prop) (s0 : Md) (x1 : Int32) : Prop := (∃ n4, wp_X7_cellsWith_L4 s0 post (fun z1 z2 z3 => post z2) n4 x1 0 0)
set_option maxHeartbeats 4000000 in
set_option maxRecDepth 100000 in
theorem c2_X7_cellsWith {l : Launch} {D : va_G} {q : Nat → ClassId} {a0 : Nat → Nat} {s0 : Md} {x1 : Int32} {post : Int32 → Prop} (h : wp_X7_cellsWith post s0 x1) : Met l yX7_cellsWith (Cond.code yX7_cellsWith cX7_cellsWith 4 (some .int) :: w_all) ({ frames := 2, cells := 0, slots := 0, locals := 40 } : Room) (rd_P D q [.ref (a0 0), .int x1] (md_v a0 q s0)) (vp_Si post) 0 0 (fun _ => False) := by
  refine rd_start (by decide) (Nat.le_of_ble_eq_true rfl) ?_
  intro p e s m below meth c ls hx hb hr hml hown ht hk hP hQ hV hl
  have hK := hQ.1
  have hown : s.vm.findClass RX7 = some m.cls := hown
  have hl : lv_has ls 4 [(0, .ref (a0 0)), (1, .int x1)] := hl
  have hP : va_P D vwCl [((a0 0), .inr (6, [.ref (a0 1), .ref (a0 2), .int (s0.1 0), .ref (a0 3), .ref (a0 5), .ref (a0 4), .long s0.2.1, .int (s0.1 1), .int (s0.1 2), .ref (a0 6), .int (s0.1 3), .int (s0.1 4), .ref (a0 7), .int (s0.1 5), .int (s0.1 6), .int (s0.1 7), .int (s0.1 8), .int (s0.1 9), .int (s0.1 10), .int (s0.1 11), .int (s0.1 12), .int (s0.1 13), .int (s0.1 14)])), ((a0 1), .inl (q 1, 6896, .inr (.inl (s0.2.2.1 0)))), ((a0 2), .inl (q 1, 68960, .inr (.inl (s0.2.2.1 1)))), ((a0 3), .inl (q 1, 13792, .inr (.inl (s0.2.2.1 2)))), ((a0 4), .inl (q 1, 6896, .inr (.inl (s0.2.2.1 3)))), ((a0 5), .inl (q 3, 2, .inl (s0.2.2.2 0))), ((a0 6), .inl (q 0, 40, .inl (s0.2.2.2 1))), ((a0 7), .inl (q 2, 400, .inl (s0.2.2.2 2)))] s.heap := hP
  unfold wp_X7_cellsWith at h
  refine lv_iconst (v := 0) hx hb dX7_cellsWith_0 (by decide) ?_
  refine lv_istore_n (lv' := [(2, .int 0), (0, .ref (a0 0)), (1, .int x1)]) hx hb dX7_cellsWith_1 rfl hl (by decide) rfl (fun ls hl => ?_)
  refine lv_iconst (v := 0) hx hb dX7_cellsWith_2 (by decide) ?_
  refine lv_istore_n (lv' := [(3, .int 0), (2, .int 0), (0, .ref (a0 0)), (1, .int x1)]) hx hb dX7_cellsWith_3 rfl hl (by decide) rfl (fun ls hl => ?_)
  have lp4 : ∀ (e36 : Int32 → Int32 → Int32 → Prop) (k36 : ∀ (z1 : Int32) (z2 : Int32) (z3 : Int32) (ls : Array Slot), e36 z1 z2 z3 → lv_has ls 4 [(1, .int z1), (2, .int z2), (3, .int z3), (0, .ref (a0 0))] → W p l e ({ frames := 2, cells := 0, slots := 0, locals := 40 } : Room) s m [.ref (a0 0), .int x1].toArray below meth c s.heap [] 0 0 (MQ below (vp_Si post) [.ref (a0 0), .int x1].toArray s 0 0 (fun _ => False)) (F0 m 36 ls [])) (n : Nat) (z1 : Int32) (z2 : Int32) (z3 : Int32) (ls : Array Slot), wp_X7_cellsWith_L4 s0 post e36 n z1 z2 z3 → lv_has ls 4 [(1, .int z1), (2, .int z2), (3, .int z3), (0, .ref (a0 0))] → W p l e ({ frames := 2, cells := 0, slots := 0, locals := 40 } : Room) s m [.ref (a0 0), .int x1].toArray below meth c s.heap [] 0 0 (MQ below (vp_Si post) [.ref (a0 0), .int x1].toArray s 0 0 (fun _ => False)) (F0 m 4 ls []) := by
    intro e36 k36 n
    induction n with
    | zero =>
      intro z1 z2 z3 ls h
      exact h.elim
    | succ n ih =>
      intro z1 z2 z3 ls h hl
      unfold wp_X7_cellsWith_L4 at h
      refine lv_iload_n hx hb dX7_cellsWith_4 rfl (lv_at hl 2 rfl) ?_
      refine lv_aload_n hx hb dX7_cellsWith_5 rfl (lv_at hl 3 rfl) ?_
      refine vp_callSi (rd_wV (wc := md_v a0 q s0) (As := []) (rest := [.int z3]) hx hb hml hown ht (c2_X7_cells h) wd_X7_cells mw_1295 hQ hV va_S.rf (hP.sub [0, 1, 2, 3, 4, 5, 6, 7] rfl) rfl rfl rfl hl.1 rfl (Nat.le_of_ble_eq_true rfl) dX7_cellsWith_6 ⟨Nat.le_of_ble_eq_true rfl, Nat.le_of_ble_eq_true rfl, rfl, rfl⟩ ⟨Nat.le_of_ble_eq_true rfl, Nat.le_of_ble_eq_true rfl⟩) (fun r_1 h => ?_)
      try dsimp only at h
      refine lv_icmp_ge (tgt := 36) hx hb dX7_cellsWith_9 (by decide) (fun c_3 => ?_) (fun c_3 => ?_)
      · replace h := h.1 c_3
        exact k36 _ _ _ ls h (lv_sub hl [0, 1, 2, 3] rfl)
      · replace h := h.2 c_3
        refine lv_iload_n hx hb dX7_cellsWith_12 rfl (lv_at hl 1 rfl) ?_
        refine lv_aload_n hx hb dX7_cellsWith_13 rfl (lv_at hl 3 rfl) ?_
        refine lv_iload_n hx hb dX7_cellsWith_14 rfl (lv_at hl 2 rfl) ?_
        refine lv_iconst (v := 0) hx hb dX7_cellsWith_15 (by decide) ?_
        refine vp_callSi (rd_wV (wc := md_v a0 q s0) (As := [.int z3, .int 0]) (rest := [.int z2]) hx hb hml hown ht (c2_X7_of h) wd_X7_of mw_1249 hQ hV va_S.rf (hP.sub [0, 1, 2, 3, 4, 5, 6, 7] rfl) rfl rfl rfl hl.1 rfl (Nat.le_of_ble_eq_true rfl) dX7_cellsWith_16 ⟨Nat.le_of_ble_eq_true rfl, Nat.le_of_ble_eq_true rfl, rfl, rfl⟩ ⟨Nat.le_of_ble_eq_true rfl, Nat.le_of_ble_eq_true rfl⟩) (fun r_4 h => ?_)
        try dsimp only at h
        refine lv_iload_n hx hb dX7_cellsWith_19 rfl (lv_at hl 0 rfl) ?_
        refine lv_icmp_ne (tgt := 27) hx hb dX7_cellsWith_20 (by decide) (fun c_6 => ?_) (fun c_6 => ?_)
        · replace h := h.1 c_6
          refine lv_iconst (v := 0) hx hb dX7_cellsWith_27 (by decide) ?_
          refine lv_iadd hx hb dX7_cellsWith_28 ?_
          refine lv_istore_n (lv' := [(2, .int (z2 + 0)), (1, .int z1), (3, .int z3), (0, .ref (a0 0))]) hx hb dX7_cellsWith_29 rfl hl (by decide) rfl (fun ls hl => ?_)
          refine lv_iinc (v := (z3 + 1)) (lv' := [(3, .int (z3 + 1)), (2, .int (z2 + 0)), (1, .int z1), (0, .ref (a0 0))]) hx hb dX7_cellsWith_30 hl (k := 2) rfl rfl (by decide) rfl (fun ls hl => ?_)
          refine lv_goto (tgt := 4) hx hb dX7_cellsWith_33 (by decide) ?_
          exact ih _ _ _ ls h (lv_sub hl [2, 1, 0, 3] rfl)
        · replace h := h.2 c_6
          refine lv_iconst (v := 1) hx hb dX7_cellsWith_23 (by decide) ?_
          refine lv_goto (tgt := 28) hx hb dX7_cellsWith_24 (by decide) ?_
          refine lv_iadd hx hb dX7_cellsWith_28 ?_
          refine lv_istore_n (lv' := [(2, .int (z2 + 1)), (1, .int z1), (3, .int z3), (0, .ref (a0 0))]) hx hb dX7_cellsWith_29 rfl hl (by decide) rfl (fun ls hl => ?_)
          refine lv_iinc (v := (z3 + 1)) (lv' := [(3, .int (z3 + 1)), (2, .int (z2 + 1)), (1, .int z1), (0, .ref (a0 0))]) hx hb dX7_cellsWith_30 hl (k := 2) rfl rfl (by decide) rfl (fun ls hl => ?_)
          refine lv_goto (tgt := 4) hx hb dX7_cellsWith_33 (by decide) ?_
          exact ih _ _ _ ls h (lv_sub hl [2, 1, 0, 3] rfl)
  obtain ⟨n4, h⟩ := h
  refine lp4 _ ?_ n4 _ _ _ ls h (lv_sub hl [3, 1, 0, 2] rfl)
  · intro z1 z2 z3 ls h hl
    try dsimp only at h
    refine lv_iload_n hx hb dX7_cellsWith_36 rfl (lv_at hl 1 rfl) ?_
    exact rd_iret hx hb hr hk h dX7_cellsWith_37

def wp_X7_manyWith_L5 (s0 : Md) (post : Int32 → Prop) (e40 : Int32 → Int32 → Int32 → Int32 → Prop) : Nat → Int32 → Int32 → Int32 → Int32 → Prop
  | 0, _, _, _, _ => False
  | n5 + 1, z1, z2, z3, z4 => wp_X7_flapsOf (fun r_1 => ((r_1 ≤ z4 → e40 z1 z2 z3 z4) ∧ (¬ r_1 ≤ z4 → wp_X7_signOf (fun r_4 => ((¬ r_4 = z2 → wp_X7_manyWith_L5 s0 post e40 n5 z1 z2 (z3 + 0) (z4 + 1)) ∧ (r_4 = z2 → wp_X7_manyWith_L5 s0 post e40 n5 z1 z2 (z3 + 1) (z4 + 1)))) s0 z1 z4))) s0 z1
def wp_X7_manyWith (post : Int32 → Prop) (s0 : Md) (x1 : Int32) (x2 : Int32) : Prop := (∃ n5, wp_X7_manyWith_L5 s0 post (fun z1 z2 z3 z4 => post z3) n5 x1 x2 0 0)
set_option maxHeartbeats 4000000 in
set_option maxRecDepth 100000 in
theorem c2_X7_manyWith {l : Launch} {D : va_G} {q : Nat → ClassId} {a0 : Nat → Nat} {s0 : Md} {x1 : Int32} {x2 : Int32} {post : Int32 → Prop} (h : wp_X7_manyWith post s0 x1 x2) : Met l yX7_manyWith (Cond.code yX7_manyWith cX7_manyWith 5 (some .int) :: w_all) ({ frames := 1, cells := 0, slots := 0, locals := 22 } : Room) (rd_P D q [.ref (a0 0), .int x1, .int x2] (md_v a0 q s0)) (vp_Si post) 0 0 (fun _ => False) := by
  refine rd_start (by decide) (Nat.le_of_ble_eq_true rfl) ?_
  intro p e s m below meth c ls hx hb hr hml hown ht hk hP hQ hV hl
  have hK := hQ.1
  have hown : s.vm.findClass RX7 = some m.cls := hown
  have hl : lv_has ls 5 [(0, .ref (a0 0)), (1, .int x1), (2, .int x2)] := hl
  have hP : va_P D vwCl [((a0 0), .inr (6, [.ref (a0 1), .ref (a0 2), .int (s0.1 0), .ref (a0 3), .ref (a0 5), .ref (a0 4), .long s0.2.1, .int (s0.1 1), .int (s0.1 2), .ref (a0 6), .int (s0.1 3), .int (s0.1 4), .ref (a0 7), .int (s0.1 5), .int (s0.1 6), .int (s0.1 7), .int (s0.1 8), .int (s0.1 9), .int (s0.1 10), .int (s0.1 11), .int (s0.1 12), .int (s0.1 13), .int (s0.1 14)])), ((a0 1), .inl (q 1, 6896, .inr (.inl (s0.2.2.1 0)))), ((a0 2), .inl (q 1, 68960, .inr (.inl (s0.2.2.1 1)))), ((a0 3), .inl (q 1, 13792, .inr (.inl (s0.2.2.1 2)))), ((a0 4), .inl (q 1, 6896, .inr (.inl (s0.2.2.1 3)))), ((a0 5), .inl (q 3, 2, .inl (s0.2.2.2 0))), ((a0 6), .inl (q 0, 40, .inl (s0.2.2.2 1))), ((a0 7), .inl (q 2, 400, .inl (s0.2.2.2 2)))] s.heap := hP
  unfold wp_X7_manyWith at h
  refine lv_iconst (v := 0) hx hb dX7_manyWith_0 (by decide) ?_
  refine lv_istore_n (lv' := [(3, .int 0), (0, .ref (a0 0)), (1, .int x1), (2, .int x2)]) hx hb dX7_manyWith_1 rfl hl (by decide) rfl (fun ls hl => ?_)
  refine lv_iconst (v := 0) hx hb dX7_manyWith_2 (by decide) ?_
  refine lv_istore (lv' := [(4, .int 0), (3, .int 0), (0, .ref (a0 0)), (1, .int x1), (2, .int x2)]) hx hb dX7_manyWith_3 hl (by decide) rfl (fun ls hl => ?_)
  have lp5 : ∀ (e40 : Int32 → Int32 → Int32 → Int32 → Prop) (k40 : ∀ (z1 : Int32) (z2 : Int32) (z3 : Int32) (z4 : Int32) (ls : Array Slot), e40 z1 z2 z3 z4 → lv_has ls 5 [(1, .int z1), (2, .int z2), (3, .int z3), (4, .int z4), (0, .ref (a0 0))] → W p l e ({ frames := 1, cells := 0, slots := 0, locals := 22 } : Room) s m [.ref (a0 0), .int x1, .int x2].toArray below meth c s.heap [] 0 0 (MQ below (vp_Si post) [.ref (a0 0), .int x1, .int x2].toArray s 0 0 (fun _ => False)) (F0 m 40 ls [])) (n : Nat) (z1 : Int32) (z2 : Int32) (z3 : Int32) (z4 : Int32) (ls : Array Slot), wp_X7_manyWith_L5 s0 post e40 n z1 z2 z3 z4 → lv_has ls 5 [(1, .int z1), (2, .int z2), (3, .int z3), (4, .int z4), (0, .ref (a0 0))] → W p l e ({ frames := 1, cells := 0, slots := 0, locals := 22 } : Room) s m [.ref (a0 0), .int x1, .int x2].toArray below meth c s.heap [] 0 0 (MQ below (vp_Si post) [.ref (a0 0), .int x1, .int x2].toArray s 0 0 (fun _ => False)) (F0 m 5 ls []) := by
    intro e40 k40 n
    induction n with
    | zero =>
      intro z1 z2 z3 z4 ls h
      exact h.elim
    | succ n ih =>
      intro z1 z2 z3 z4 ls h hl
      unfold wp_X7_manyWith_L5 at h
      refine lv_iload hx hb dX7_manyWith_5 (lv_at hl 3 rfl) ?_
      refine lv_aload_n hx hb dX7_manyWith_7 rfl (lv_at hl 4 rfl) ?_
      refine lv_iload_n hx hb dX7_manyWith_8 rfl (lv_at hl 0 rfl) ?_
      refine vp_callSi (rd_wV (wc := md_v a0 q s0) (As := [.int z1]) (rest := [.int z4]) hx hb hml hown ht (c2_X7_flapsOf h) wd_X7_flapsOf mw_1253 hQ hV va_S.rf (hP.sub [0, 1, 2, 3, 4, 5, 6, 7] rfl) rfl rfl rfl hl.1 rfl (Nat.le_of_ble_eq_true rfl) dX7_manyWith_9 ⟨Nat.le_of_ble_eq_true rfl, Nat.le_of_ble_eq_true rfl, rfl, rfl⟩ ⟨Nat.le_of_ble_eq_true rfl, Nat.le_of_ble_eq_true rfl⟩) (fun r_1 h => ?_)
      try dsimp only at h
      refine lv_icmp_ge (tgt := 40) hx hb dX7_manyWith_12 (by decide) (fun c_3 => ?_) (fun c_3 => ?_)
      · replace h := h.1 c_3
        exact k40 _ _ _ _ ls h (lv_sub hl [0, 1, 2, 3, 4] rfl)
      · replace h := h.2 c_3
        refine lv_iload_n hx hb dX7_manyWith_15 rfl (lv_at hl 2 rfl) ?_
        refine lv_aload_n hx hb dX7_manyWith_16 rfl (lv_at hl 4 rfl) ?_
        refine lv_iload_n hx hb dX7_manyWith_17 rfl (lv_at hl 0 rfl) ?_
        refine lv_iload hx hb dX7_manyWith_18 (lv_at hl 3 rfl) ?_
        refine vp_callSi (rd_wV (wc := md_v a0 q s0) (As := [.int z1, .int z4]) (rest := [.int z3]) hx hb hml hown ht (c2_X7_signOf h) wd_X7_signOf mw_1257 hQ hV va_S.rf (hP.sub [0, 1, 2, 3, 4, 5, 6, 7] rfl) rfl rfl rfl hl.1 rfl (Nat.le_of_ble_eq_true rfl) dX7_manyWith_20 ⟨Nat.le_of_ble_eq_true rfl, Nat.le_of_ble_eq_true rfl, rfl, rfl⟩ ⟨Nat.le_of_ble_eq_true rfl, Nat.le_of_ble_eq_true rfl⟩) (fun r_4 h => ?_)
        try dsimp only at h
        refine lv_iload_n hx hb dX7_manyWith_23 rfl (lv_at hl 1 rfl) ?_
        refine lv_icmp_ne (tgt := 31) hx hb dX7_manyWith_24 (by decide) (fun c_6 => ?_) (fun c_6 => ?_)
        · replace h := h.1 c_6
          refine lv_iconst (v := 0) hx hb dX7_manyWith_31 (by decide) ?_
          refine lv_iadd hx hb dX7_manyWith_32 ?_
          refine lv_istore_n (lv' := [(3, .int (z3 + 0)), (1, .int z1), (2, .int z2), (4, .int z4), (0, .ref (a0 0))]) hx hb dX7_manyWith_33 rfl hl (by decide) rfl (fun ls hl => ?_)
          refine lv_iinc (v := (z4 + 1)) (lv' := [(4, .int (z4 + 1)), (3, .int (z3 + 0)), (1, .int z1), (2, .int z2), (0, .ref (a0 0))]) hx hb dX7_manyWith_34 hl (k := 3) rfl rfl (by decide) rfl (fun ls hl => ?_)
          refine lv_goto (tgt := 5) hx hb dX7_manyWith_37 (by decide) ?_
          exact ih _ _ _ _ ls h (lv_sub hl [2, 3, 1, 0, 4] rfl)
        · replace h := h.2 c_6
          refine lv_iconst (v := 1) hx hb dX7_manyWith_27 (by decide) ?_
          refine lv_goto (tgt := 32) hx hb dX7_manyWith_28 (by decide) ?_
          refine lv_iadd hx hb dX7_manyWith_32 ?_
          refine lv_istore_n (lv' := [(3, .int (z3 + 1)), (1, .int z1), (2, .int z2), (4, .int z4), (0, .ref (a0 0))]) hx hb dX7_manyWith_33 rfl hl (by decide) rfl (fun ls hl => ?_)
          refine lv_iinc (v := (z4 + 1)) (lv' := [(4, .int (z4 + 1)), (3, .int (z3 + 1)), (1, .int z1), (2, .int z2), (0, .ref (a0 0))]) hx hb dX7_manyWith_34 hl (k := 3) rfl rfl (by decide) rfl (fun ls hl => ?_)
          refine lv_goto (tgt := 5) hx hb dX7_manyWith_37 (by decide) ?_
          exact ih _ _ _ _ ls h (lv_sub hl [2, 3, 1, 0, 4] rfl)
  obtain ⟨n5, h⟩ := h
  refine lp5 _ ?_ n5 _ _ _ _ ls h (lv_sub hl [3, 4, 1, 0, 2] rfl)
  · intro z1 z2 z3 z4 ls h hl
    try dsimp only at h
    refine lv_iload_n hx hb dX7_manyWith_40 rfl (lv_at hl 2 rfl) ?_
    exact rd_iret hx hb hr hk h dX7_manyWith_41

def wp_X7_signsOf_L6 (s0 : Md) (post : Int32 → Prop) (e57 : Int32 → Int32 → Int32 → Int32 → Prop) : Nat → Int32 → Int32 → Int32 → Int32 → Prop
  | 0, _, _, _, _ => False
  | n6 + 1, z1, z2, z3, z4 => ((127 ≤ z4 → e57 z1 z2 z3 z4) ∧ (¬ 127 ≤ z4 → wp_X7_manyWith (fun r_2 => ((¬ z2 = 0 → ((r_2 ≤ z3 → wp_X7_signsOf_L6 s0 post e57 n6 z1 z2 z3 (z4 + 1)) ∧ (¬ r_2 ≤ z3 → wp_X7_signsOf_L6 s0 post e57 n6 z1 z2 r_2 (z4 + 1)))) ∧ (z2 = 0 → ((r_2 ≤ 0 → wp_X7_signsOf_L6 s0 post e57 n6 z1 z2 (z3 + 0) (z4 + 1)) ∧ (¬ r_2 ≤ 0 → wp_X7_signsOf_L6 s0 post e57 n6 z1 z2 (z3 + 1) (z4 + 1)))))) s0 z1 z4))
def wp_X7_signsOf (post : Int32 → Prop) (s0 : Md) (x1 : Int32) (x2 : Int32) : Prop := (∃ n6, wp_X7_signsOf_L6 s0 post (fun z1 z2 z3 z4 => post z3) n6 x1 x2 0 32)
set_option maxHeartbeats 4000000 in
set_option maxRecDepth 100000 in
theorem c2_X7_signsOf {l : Launch} {D : va_G} {q : Nat → ClassId} {a0 : Nat → Nat} {s0 : Md} {x1 : Int32} {x2 : Int32} {post : Int32 → Prop} (h : wp_X7_signsOf post s0 x1 x2) : Met l yX7_signsOf (Cond.code yX7_signsOf cX7_signsOf 6 (some .int) :: w_all) ({ frames := 2, cells := 0, slots := 0, locals := 46 } : Room) (rd_P D q [.ref (a0 0), .int x1, .int x2] (md_v a0 q s0)) (vp_Si post) 0 0 (fun _ => False) := by
  refine rd_start (by decide) (Nat.le_of_ble_eq_true rfl) ?_
  intro p e s m below meth c ls hx hb hr hml hown ht hk hP hQ hV hl
  have hK := hQ.1
  have hown : s.vm.findClass RX7 = some m.cls := hown
  have hl : lv_has ls 6 [(0, .ref (a0 0)), (1, .int x1), (2, .int x2)] := hl
  have hP : va_P D vwCl [((a0 0), .inr (6, [.ref (a0 1), .ref (a0 2), .int (s0.1 0), .ref (a0 3), .ref (a0 5), .ref (a0 4), .long s0.2.1, .int (s0.1 1), .int (s0.1 2), .ref (a0 6), .int (s0.1 3), .int (s0.1 4), .ref (a0 7), .int (s0.1 5), .int (s0.1 6), .int (s0.1 7), .int (s0.1 8), .int (s0.1 9), .int (s0.1 10), .int (s0.1 11), .int (s0.1 12), .int (s0.1 13), .int (s0.1 14)])), ((a0 1), .inl (q 1, 6896, .inr (.inl (s0.2.2.1 0)))), ((a0 2), .inl (q 1, 68960, .inr (.inl (s0.2.2.1 1)))), ((a0 3), .inl (q 1, 13792, .inr (.inl (s0.2.2.1 2)))), ((a0 4), .inl (q 1, 6896, .inr (.inl (s0.2.2.1 3)))), ((a0 5), .inl (q 3, 2, .inl (s0.2.2.2 0))), ((a0 6), .inl (q 0, 40, .inl (s0.2.2.2 1))), ((a0 7), .inl (q 2, 400, .inl (s0.2.2.2 2)))] s.heap := hP
  unfold wp_X7_signsOf at h
  refine lv_iconst (v := 0) hx hb dX7_signsOf_0 (by decide) ?_
  refine lv_istore_n (lv' := [(3, .int 0), (0, .ref (a0 0)), (1, .int x1), (2, .int x2)]) hx hb dX7_signsOf_1 rfl hl (by decide) rfl (fun ls hl => ?_)
  refine lv_bipush (v := 32) hx hb dX7_signsOf_2 (by decide) ?_
  refine lv_istore (lv' := [(4, .int 32), (3, .int 0), (0, .ref (a0 0)), (1, .int x1), (2, .int x2)]) hx hb dX7_signsOf_4 hl (by decide) rfl (fun ls hl => ?_)
  have lp6 : ∀ (e57 : Int32 → Int32 → Int32 → Int32 → Prop) (k57 : ∀ (z1 : Int32) (z2 : Int32) (z3 : Int32) (z4 : Int32) (ls : Array Slot), e57 z1 z2 z3 z4 → lv_has ls 6 [(1, .int z1), (2, .int z2), (3, .int z3), (4, .int z4), (0, .ref (a0 0))] → W p l e ({ frames := 2, cells := 0, slots := 0, locals := 46 } : Room) s m [.ref (a0 0), .int x1, .int x2].toArray below meth c s.heap [] 0 0 (MQ below (vp_Si post) [.ref (a0 0), .int x1, .int x2].toArray s 0 0 (fun _ => False)) (F0 m 57 ls [])) (n : Nat) (z1 : Int32) (z2 : Int32) (z3 : Int32) (z4 : Int32) (ls : Array Slot), wp_X7_signsOf_L6 s0 post e57 n z1 z2 z3 z4 → lv_has ls 6 [(1, .int z1), (2, .int z2), (3, .int z3), (4, .int z4), (0, .ref (a0 0))] → W p l e ({ frames := 2, cells := 0, slots := 0, locals := 46 } : Room) s m [.ref (a0 0), .int x1, .int x2].toArray below meth c s.heap [] 0 0 (MQ below (vp_Si post) [.ref (a0 0), .int x1, .int x2].toArray s 0 0 (fun _ => False)) (F0 m 6 ls []) := by
    intro e57 k57 n
    induction n with
    | zero =>
      intro z1 z2 z3 z4 ls h
      exact h.elim
    | succ n ih =>
      intro z1 z2 z3 z4 ls h hl
      unfold wp_X7_signsOf_L6 at h
      refine lv_iload hx hb dX7_signsOf_6 (lv_at hl 3 rfl) ?_
      refine lv_bipush (v := 127) hx hb dX7_signsOf_8 (by decide) ?_
      refine lv_icmp_ge (tgt := 57) hx hb dX7_signsOf_10 (by decide) (fun c_1 => ?_) (fun c_1 => ?_)
      · replace h := h.1 c_1
        exact k57 _ _ _ _ ls h (lv_sub hl [0, 1, 2, 3, 4] rfl)
      · replace h := h.2 c_1
        refine lv_aload_n hx hb dX7_signsOf_13 rfl (lv_at hl 4 rfl) ?_
        refine lv_iload_n hx hb dX7_signsOf_14 rfl (lv_at hl 0 rfl) ?_
        refine lv_iload hx hb dX7_signsOf_15 (lv_at hl 3 rfl) ?_
        refine vp_callSi (rd_wV (wc := md_v a0 q s0) (As := [.int z1, .int z4]) (rest := []) hx hb hml hown ht (c2_X7_manyWith h) wd_X7_manyWith mw_1409 hQ hV va_S.rf (hP.sub [0, 1, 2, 3, 4, 5, 6, 7] rfl) rfl rfl rfl hl.1 rfl (Nat.le_of_ble_eq_true rfl) dX7_signsOf_17 ⟨Nat.le_of_ble_eq_true rfl, Nat.le_of_ble_eq_true rfl, rfl, rfl⟩ ⟨Nat.le_of_ble_eq_true rfl, Nat.le_of_ble_eq_true rfl⟩) (fun r_2 h => ?_)
        try dsimp only at h
        refine lv_istore (lv' := [(5, .int r_2), (1, .int z1), (2, .int z2), (3, .int z3), (4, .int z4), (0, .ref (a0 0))]) hx hb dX7_signsOf_20 hl (by decide) rfl (fun ls hl => ?_)
        refine lv_iload_n hx hb dX7_signsOf_22 rfl (lv_at hl 2 rfl) ?_
        refine lv_if_ne (tgt := 42) hx hb dX7_signsOf_23 (by decide) (fun c_4 => ?_) (fun c_4 => ?_)
        · replace h := h.1 c_4
          refine lv_iload hx hb dX7_signsOf_42 (lv_at hl 0 rfl) ?_
          refine lv_iload_n hx hb dX7_signsOf_44 rfl (lv_at hl 3 rfl) ?_
          refine lv_icmp_le (tgt := 51) hx hb dX7_signsOf_45 (by decide) (fun c_5 => ?_) (fun c_5 => ?_)
          · replace h := h.1 c_5
            refine lv_iinc (v := (z4 + 1)) (lv' := [(4, .int (z4 + 1)), (5, .int r_2), (1, .int z1), (2, .int z2), (3, .int z3), (0, .ref (a0 0))]) hx hb dX7_signsOf_51 hl (k := 4) rfl rfl (by decide) rfl (fun ls hl => ?_)
            refine lv_goto (tgt := 6) hx hb dX7_signsOf_54 (by decide) ?_
            exact ih _ _ _ _ ls h (lv_sub hl [2, 3, 4, 0, 5] rfl)
          · replace h := h.2 c_5
            refine lv_iload hx hb dX7_signsOf_48 (lv_at hl 0 rfl) ?_
            refine lv_istore_n (lv' := [(3, .int r_2), (5, .int r_2), (1, .int z1), (2, .int z2), (4, .int z4), (0, .ref (a0 0))]) hx hb dX7_signsOf_50 rfl hl (by decide) rfl (fun ls hl => ?_)
            refine lv_iinc (v := (z4 + 1)) (lv' := [(4, .int (z4 + 1)), (3, .int r_2), (5, .int r_2), (1, .int z1), (2, .int z2), (0, .ref (a0 0))]) hx hb dX7_signsOf_51 hl (k := 4) rfl rfl (by decide) rfl (fun ls hl => ?_)
            refine lv_goto (tgt := 6) hx hb dX7_signsOf_54 (by decide) ?_
            exact ih _ _ _ _ ls h (lv_sub hl [3, 4, 1, 0, 5] rfl)
        · replace h := h.2 c_4
          refine lv_iload_n hx hb dX7_signsOf_26 rfl (lv_at hl 3 rfl) ?_
          refine lv_iload hx hb dX7_signsOf_27 (lv_at hl 0 rfl) ?_
          refine lv_if_le (tgt := 36) hx hb dX7_signsOf_29 (by decide) (fun c_6 => ?_) (fun c_6 => ?_)
          · replace h := h.1 c_6
            refine lv_iconst (v := 0) hx hb dX7_signsOf_36 (by decide) ?_
            refine lv_iadd hx hb dX7_signsOf_37 ?_
            refine lv_istore_n (lv' := [(3, .int (z3 + 0)), (5, .int r_2), (1, .int z1), (2, .int z2), (4, .int z4), (0, .ref (a0 0))]) hx hb dX7_signsOf_38 rfl hl (by decide) rfl (fun ls hl => ?_)
            refine lv_goto (tgt := 51) hx hb dX7_signsOf_39 (by decide) ?_
            refine lv_iinc (v := (z4 + 1)) (lv' := [(4, .int (z4 + 1)), (3, .int (z3 + 0)), (5, .int r_2), (1, .int z1), (2, .int z2), (0, .ref (a0 0))]) hx hb dX7_signsOf_51 hl (k := 4) rfl rfl (by decide) rfl (fun ls hl => ?_)
            refine lv_goto (tgt := 6) hx hb dX7_signsOf_54 (by decide) ?_
            exact ih _ _ _ _ ls h (lv_sub hl [3, 4, 1, 0, 5] rfl)
          · replace h := h.2 c_6
            refine lv_iconst (v := 1) hx hb dX7_signsOf_32 (by decide) ?_
            refine lv_goto (tgt := 37) hx hb dX7_signsOf_33 (by decide) ?_
            refine lv_iadd hx hb dX7_signsOf_37 ?_
            refine lv_istore_n (lv' := [(3, .int (z3 + 1)), (5, .int r_2), (1, .int z1), (2, .int z2), (4, .int z4), (0, .ref (a0 0))]) hx hb dX7_signsOf_38 rfl hl (by decide) rfl (fun ls hl => ?_)
            refine lv_goto (tgt := 51) hx hb dX7_signsOf_39 (by decide) ?_
            refine lv_iinc (v := (z4 + 1)) (lv' := [(4, .int (z4 + 1)), (3, .int (z3 + 1)), (5, .int r_2), (1, .int z1), (2, .int z2), (0, .ref (a0 0))]) hx hb dX7_signsOf_51 hl (k := 4) rfl rfl (by decide) rfl (fun ls hl => ?_)
            refine lv_goto (tgt := 6) hx hb dX7_signsOf_54 (by decide) ?_
            exact ih _ _ _ _ ls h (lv_sub hl [3, 4, 1, 0, 5] rfl)
  obtain ⟨n6, h⟩ := h
  refine lp6 _ ?_ n6 _ _ _ _ ls h (lv_sub hl [3, 4, 1, 0, 2] rfl)
  · intro z1 z2 z3 z4 ls h hl
    try dsimp only at h
    refine lv_iload_n hx hb dX7_signsOf_57 rfl (lv_at hl 2 rfl) ?_
    exact rd_iret hx hb hr hk h dX7_signsOf_58

def wp_X7_drum (post : Int32 → Prop) (s0 : Md) (x1 : Int32) (x2 : Int32) : Prop := wp_X7_isDrum (fun r_1 => ((¬ r_1 = 0 → ((x2 = 0 → wp_X7_currentOf (fun r_5 => post r_5) s0 x1) ∧ (¬ x2 = 0 → ((x2 = 1 → wp_X7_flapsOf (fun r_8 => post r_8) s0 x1) ∧ (¬ x2 = 1 → ((x2 = 2 → wp_X7_cellsWith (fun r_11 => post r_11) s0 x1) ∧ (¬ x2 = 2 → ((x2 = 3 → wp_X7_signsOf (fun r_14 => post r_14) s0 x1 (0 : Int32)) ∧ (¬ x2 = 3 → ((x2 = 4 → wp_X7_signsOf (fun r_17 => post r_17) s0 x1 (1 : Int32)) ∧ (¬ x2 = 4 → post (-1)))))))))))) ∧ (r_1 = 0 → post (-1)))) s0 x1
set_option maxHeartbeats 4000000 in
set_option maxRecDepth 100000 in
theorem c2_X7_drum {l : Launch} {D : va_G} {q : Nat → ClassId} {a0 : Nat → Nat} {s0 : Md} {x1 : Int32} {x2 : Int32} {post : Int32 → Prop} (h : wp_X7_drum post s0 x1 x2) : Met l yX7_drum (Cond.code yX7_drum cX7_drum 3 (some .int) :: w_all) ({ frames := 3, cells := 0, slots := 0, locals := 71 } : Room) (rd_P D q [.ref (a0 0), .int x1, .int x2] (md_v a0 q s0)) (vp_Si post) 0 0 (fun _ => False) := by
  refine rd_start (by decide) (Nat.le_of_ble_eq_true rfl) ?_
  intro p e s m below meth c ls hx hb hr hml hown ht hk hP hQ hV hl
  have hK := hQ.1
  have hown : s.vm.findClass RX7 = some m.cls := hown
  have hl : lv_has ls 3 [(0, .ref (a0 0)), (1, .int x1), (2, .int x2)] := hl
  have hP : va_P D vwCl [((a0 0), .inr (6, [.ref (a0 1), .ref (a0 2), .int (s0.1 0), .ref (a0 3), .ref (a0 5), .ref (a0 4), .long s0.2.1, .int (s0.1 1), .int (s0.1 2), .ref (a0 6), .int (s0.1 3), .int (s0.1 4), .ref (a0 7), .int (s0.1 5), .int (s0.1 6), .int (s0.1 7), .int (s0.1 8), .int (s0.1 9), .int (s0.1 10), .int (s0.1 11), .int (s0.1 12), .int (s0.1 13), .int (s0.1 14)])), ((a0 1), .inl (q 1, 6896, .inr (.inl (s0.2.2.1 0)))), ((a0 2), .inl (q 1, 68960, .inr (.inl (s0.2.2.1 1)))), ((a0 3), .inl (q 1, 13792, .inr (.inl (s0.2.2.1 2)))), ((a0 4), .inl (q 1, 6896, .inr (.inl (s0.2.2.1 3)))), ((a0 5), .inl (q 3, 2, .inl (s0.2.2.2 0))), ((a0 6), .inl (q 0, 40, .inl (s0.2.2.2 1))), ((a0 7), .inl (q 2, 400, .inl (s0.2.2.2 2)))] s.heap := hP
  unfold wp_X7_drum at h
  refine lv_aload_n hx hb dX7_drum_0 rfl (lv_at hl 0 rfl) ?_
  refine lv_iload_n hx hb dX7_drum_1 rfl (lv_at hl 1 rfl) ?_
  refine vp_callSi (rd_wV (wc := md_v a0 q s0) (As := [.int x1]) (rest := []) hx hb hml hown ht (c2_X7_isDrum h) wd_X7_isDrum mw_1373 hQ hV va_S.rf (hP.sub [0, 1, 2, 3, 4, 5, 6, 7] rfl) rfl rfl rfl hl.1 rfl (Nat.le_of_ble_eq_true rfl) dX7_drum_2 ⟨Nat.le_of_ble_eq_true rfl, Nat.le_of_ble_eq_true rfl, rfl, rfl⟩ ⟨Nat.le_of_ble_eq_true rfl, Nat.le_of_ble_eq_true rfl⟩) (fun r_1 h => ?_)
  try dsimp only at h
  refine lv_if_ne (tgt := 10) hx hb dX7_drum_5 (by decide) (fun c_3 => ?_) (fun c_3 => ?_)
  · replace h := h.1 c_3
    refine lv_iload_n hx hb dX7_drum_10 rfl (lv_at hl 2 rfl) ?_
    by_cases k_4 : x2 = 0
    · replace h := h.1 k_4
      refine lv_tableIn (tgt := 44) hx hb dX7_drum_11 (by rw [k_4]; decide) (by rw [k_4]; decide) (by rw [k_4]; rfl) (by decide) ?_
      refine lv_aload_n hx hb dX7_drum_44 rfl (lv_at hl 0 rfl) ?_
      refine lv_iload_n hx hb dX7_drum_45 rfl (lv_at hl 1 rfl) ?_
      refine vp_callSi (rd_wV (wc := md_v a0 q s0) (As := [.int x1]) (rest := []) hx hb hml hown ht (c2_X7_currentOf h) wd_X7_currentOf mw_1320 hQ hV va_S.rf (hP.sub [0, 1, 2, 3, 4, 5, 6, 7] rfl) rfl rfl rfl hl.1 rfl (Nat.le_of_ble_eq_true rfl) dX7_drum_46 ⟨Nat.le_of_ble_eq_true rfl, Nat.le_of_ble_eq_true rfl, rfl, rfl⟩ ⟨Nat.le_of_ble_eq_true rfl, Nat.le_of_ble_eq_true rfl⟩) (fun r_5 h => ?_)
      try dsimp only at h
      exact rd_iret hx hb hr hk h dX7_drum_49
    replace h := h.2 k_4
    by_cases k_7 : x2 = 1
    · replace h := h.1 k_7
      refine lv_tableIn (tgt := 50) hx hb dX7_drum_11 (by rw [k_7]; decide) (by rw [k_7]; decide) (by rw [k_7]; rfl) (by decide) ?_
      refine lv_aload_n hx hb dX7_drum_50 rfl (lv_at hl 0 rfl) ?_
      refine lv_iload_n hx hb dX7_drum_51 rfl (lv_at hl 1 rfl) ?_
      refine vp_callSi (rd_wV (wc := md_v a0 q s0) (As := [.int x1]) (rest := []) hx hb hml hown ht (c2_X7_flapsOf h) wd_X7_flapsOf mw_1253 hQ hV va_S.rf (hP.sub [0, 1, 2, 3, 4, 5, 6, 7] rfl) rfl rfl rfl hl.1 rfl (Nat.le_of_ble_eq_true rfl) dX7_drum_52 ⟨Nat.le_of_ble_eq_true rfl, Nat.le_of_ble_eq_true rfl, rfl, rfl⟩ ⟨Nat.le_of_ble_eq_true rfl, Nat.le_of_ble_eq_true rfl⟩) (fun r_8 h => ?_)
      try dsimp only at h
      exact rd_iret hx hb hr hk h dX7_drum_55
    replace h := h.2 k_7
    by_cases k_10 : x2 = 2
    · replace h := h.1 k_10
      refine lv_tableIn (tgt := 56) hx hb dX7_drum_11 (by rw [k_10]; decide) (by rw [k_10]; decide) (by rw [k_10]; rfl) (by decide) ?_
      refine lv_aload_n hx hb dX7_drum_56 rfl (lv_at hl 0 rfl) ?_
      refine lv_iload_n hx hb dX7_drum_57 rfl (lv_at hl 1 rfl) ?_
      refine vp_callSi (rd_wV (wc := md_v a0 q s0) (As := [.int x1]) (rest := []) hx hb hml hown ht (c2_X7_cellsWith h) wd_X7_cellsWith mw_1401 hQ hV va_S.rf (hP.sub [0, 1, 2, 3, 4, 5, 6, 7] rfl) rfl rfl rfl hl.1 rfl (Nat.le_of_ble_eq_true rfl) dX7_drum_58 ⟨Nat.le_of_ble_eq_true rfl, Nat.le_of_ble_eq_true rfl, rfl, rfl⟩ ⟨Nat.le_of_ble_eq_true rfl, Nat.le_of_ble_eq_true rfl⟩) (fun r_11 h => ?_)
      try dsimp only at h
      exact rd_iret hx hb hr hk h dX7_drum_61
    replace h := h.2 k_10
    by_cases k_13 : x2 = 3
    · replace h := h.1 k_13
      refine lv_tableIn (tgt := 62) hx hb dX7_drum_11 (by rw [k_13]; decide) (by rw [k_13]; decide) (by rw [k_13]; rfl) (by decide) ?_
      refine lv_aload_n hx hb dX7_drum_62 rfl (lv_at hl 0 rfl) ?_
      refine lv_iload_n hx hb dX7_drum_63 rfl (lv_at hl 1 rfl) ?_
      refine lv_iconst (v := 0) hx hb dX7_drum_64 (by decide) ?_
      refine vp_callSi (rd_wV (wc := md_v a0 q s0) (As := [.int x1, .int 0]) (rest := []) hx hb hml hown ht (c2_X7_signsOf h) wd_X7_signsOf mw_1405 hQ hV va_S.rf (hP.sub [0, 1, 2, 3, 4, 5, 6, 7] rfl) rfl rfl rfl hl.1 rfl (Nat.le_of_ble_eq_true rfl) dX7_drum_65 ⟨Nat.le_of_ble_eq_true rfl, Nat.le_of_ble_eq_true rfl, rfl, rfl⟩ ⟨Nat.le_of_ble_eq_true rfl, Nat.le_of_ble_eq_true rfl⟩) (fun r_14 h => ?_)
      try dsimp only at h
      exact rd_iret hx hb hr hk h dX7_drum_68
    replace h := h.2 k_13
    by_cases k_16 : x2 = 4
    · replace h := h.1 k_16
      refine lv_tableIn (tgt := 69) hx hb dX7_drum_11 (by rw [k_16]; decide) (by rw [k_16]; decide) (by rw [k_16]; rfl) (by decide) ?_
      refine lv_aload_n hx hb dX7_drum_69 rfl (lv_at hl 0 rfl) ?_
      refine lv_iload_n hx hb dX7_drum_70 rfl (lv_at hl 1 rfl) ?_
      refine lv_iconst (v := 1) hx hb dX7_drum_71 (by decide) ?_
      refine vp_callSi (rd_wV (wc := md_v a0 q s0) (As := [.int x1, .int 1]) (rest := []) hx hb hml hown ht (c2_X7_signsOf h) wd_X7_signsOf mw_1405 hQ hV va_S.rf (hP.sub [0, 1, 2, 3, 4, 5, 6, 7] rfl) rfl rfl rfl hl.1 rfl (Nat.le_of_ble_eq_true rfl) dX7_drum_72 ⟨Nat.le_of_ble_eq_true rfl, Nat.le_of_ble_eq_true rfl, rfl, rfl⟩ ⟨Nat.le_of_ble_eq_true rfl, Nat.le_of_ble_eq_true rfl⟩) (fun r_17 h => ?_)
      try dsimp only at h
      exact rd_iret hx hb hr hk h dX7_drum_75
    replace h := h.2 k_16
    refine lv_tableOut (tgt := 76) hx hb dX7_drum_11 (by have g0 := k_4; have g1 := k_7; have g2 := k_10; have g3 := k_13; have g4 := k_16; (try simp only [lg_cmp_ge, lg_cmp_le, lg_cmp_gt, lg_cmp_lt, lg_cmp_eq] at g0 g1 g2 g3 g4); (try simp only [Int32.lt_iff_toInt_lt, Int32.le_iff_toInt_le, ← Int32.toInt_inj, Int32.reduceToInt, Int64.lt_iff_toInt_lt, Int64.le_iff_toInt_le, ← Int64.toInt_inj, Int64.reduceToInt, Int32.toInt_toInt64] at g0 g1 g2 g3 g4); omega) (by decide) ?_
    refine lv_iconst (v := (-1)) hx hb dX7_drum_76 (by decide) ?_
    exact rd_iret hx hb hr hk h dX7_drum_77
  · replace h := h.2 c_3
    refine lv_iconst (v := (-1)) hx hb dX7_drum_8 (by decide) ?_
    exact rd_iret hx hb hr hk h dX7_drum_9
