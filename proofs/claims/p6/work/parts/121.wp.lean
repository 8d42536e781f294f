def wp_X7_ticks_L6 (post : Int32 → Md → Prop) (e36 : Md → Int32 → Prop) : Nat → Md → Int32 → Prop
  | 0, _, _ => False
  | n6 + 1, t0, z1 => wp_X7_cells (fun r_3 => ((r_3 ≤ z1 → e36 t0 z1) ∧ (¬ r_3 ≤ z1 → wp_X7_isIn (fun r_6 => ((r_6 = 0 → wp_X7_ticks_L6 post e36 n6 t0 (z1 + 1)) ∧ (¬ r_6 = 0 → wp_X7_steps (fun u_10 => wp_X7_ticks_L6 post e36 n6 u_10 (z1 + 1)) t0 z1))) t0.2.1 z1))) t0
def wp_X7_ticks (post : Int32 → Md → Prop) (s0 : Md) : Prop := wp_X7_findsTurning (fun u_2 => (∃ n6, wp_X7_ticks_L6 post (fun t0 z1 => ((¬ (t0.1 1) = 0 → post (t0.1 1) (t0.1, t0.2.1, (va_up t0.2.2.1 0 (vp_updL (vp_updL (t0.2.2.1 0) (Int32.toNatClampNeg 4) (Int32.toInt64 (Int64.toInt32 (((t0.2.2.1 0) (Int32.toNatClampNeg 4)) + (Int32.toInt64 ((t0.1 1) * (t0.1 1))))))) (Int32.toNatClampNeg 5) (((vp_updL (t0.2.2.1 0) (Int32.toNatClampNeg 4) (Int32.toInt64 (Int64.toInt32 (((t0.2.2.1 0) (Int32.toNatClampNeg 4)) + (Int32.toInt64 ((t0.1 1) * (t0.1 1))))))) (Int32.toNatClampNeg 5)) + 1))), t0.2.2.2)) ∧ ((t0.1 1) = 0 → post 0 t0))) n6 u_2 0)) s0
set_option maxHeartbeats 4000000 in
set_option maxRecDepth 100000 in
theorem c2_X7_ticks {l : Launch} {D : va_G} {q : Nat → ClassId} {sz : Nat} {a0 : Nat → Nat} {s0 : Md} {post : Int32 → Md → Prop} (h : wp_X7_ticks post s0) : Met l yX7_ticks (Cond.code yX7_ticks cX7_ticks 2 (some .int) :: w_all) ({ frames := 4, cells := 0, slots := 0, locals := 89 } : Room) (mt_P D q [.ref (a0 0)] (md_v a0 q s0) sz) (va_Qi (fun r (u : Md) => post r u) (mt_B D (md_v a0 q s0) sz (fun u : Md => md_v a0 q u)) (va_A (md_v a0 q s0) sz)) 0 0 (va_A (md_v a0 q s0) sz) := by
  refine mt_start (by decide) (Nat.le_of_ble_eq_true rfl) ?_
  intro p e s m below meth c ls hx hb hr hml hown ht hk hin hP hQ hD hA hS hV hl
  have hK := hQ.1
  have hown : s.vm.findClass RX7 = some m.cls := hown
  have hl : lv_has ls 2 [(0, .ref (a0 0))] := hl
  have hP : va_P D vwCl [((a0 0), .inr (6, [.ref (a0 1), .ref (a0 2), .int (s0.1 0), .ref (a0 3), .ref (a0 5), .ref (a0 4), .long s0.2.1, .int (s0.1 1), .int (s0.1 2), .ref (a0 6), .int (s0.1 3), .int (s0.1 4), .ref (a0 7), .int (s0.1 5), .int (s0.1 6), .int (s0.1 7), .int (s0.1 8), .int (s0.1 9), .int (s0.1 10), .int (s0.1 11), .int (s0.1 12), .int (s0.1 13), .int (s0.1 14)])), ((a0 1), .inl (q 1, 6896, .inr (.inl (s0.2.2.1 0)))), ((a0 2), .inl (q 1, 68960, .inr (.inl (s0.2.2.1 1)))), ((a0 3), .inl (q 1, 13792, .inr (.inl (s0.2.2.1 2)))), ((a0 4), .inl (q 1, 6896, .inr (.inl (s0.2.2.1 3)))), ((a0 5), .inl (q 3, 2, .inl (s0.2.2.2 0))), ((a0 6), .inl (q 0, 40, .inl (s0.2.2.2 1))), ((a0 7), .inl (q 2, 400, .inl (s0.2.2.2 2)))] s.heap := hP
  have hD : va_D _ [((a0 0), .inr (6, [.ref (a0 1), .ref (a0 2), .int (s0.1 0), .ref (a0 3), .ref (a0 5), .ref (a0 4), .long s0.2.1, .int (s0.1 1), .int (s0.1 2), .ref (a0 6), .int (s0.1 3), .int (s0.1 4), .ref (a0 7), .int (s0.1 5), .int (s0.1 6), .int (s0.1 7), .int (s0.1 8), .int (s0.1 9), .int (s0.1 10), .int (s0.1 11), .int (s0.1 12), .int (s0.1 13), .int (s0.1 14)])), ((a0 1), .inl (q 1, 6896, .inr (.inl (s0.2.2.1 0)))), ((a0 2), .inl (q 1, 68960, .inr (.inl (s0.2.2.1 1)))), ((a0 3), .inl (q 1, 13792, .inr (.inl (s0.2.2.1 2)))), ((a0 4), .inl (q 1, 6896, .inr (.inl (s0.2.2.1 3)))), ((a0 5), .inl (q 3, 2, .inl (s0.2.2.2 0))), ((a0 6), .inl (q 0, 40, .inl (s0.2.2.2 1))), ((a0 7), .inl (q 2, 400, .inl (s0.2.2.2 2)))] := hD
  unfold wp_X7_ticks at h
  refine lv_aload_n hx hb dX7_ticks_0 rfl (lv_at hl 0 rfl) ?_
  refine mt_gov (mt_wV (wc := md_v a0 q s0) (As := []) (rest := []) hx hb hml hown ht (c2_X7_findsTurning h) wd_X7_findsTurning mw_1308 hQ hV hS hA (hP.sub [0, 1, 2, 3, 4, 5, 6, 7] rfl) (hD.sub [0, 1, 2, 3, 4, 5, 6, 7] (by decide) rfl) rfl rfl rfl hl.1 rfl (Nat.le_of_ble_eq_true rfl) dX7_ticks_1 ⟨Nat.le_of_ble_eq_true rfl, Nat.le_of_ble_eq_true rfl, rfl, rfl⟩ ⟨Nat.le_of_ble_eq_true rfl, Nat.le_of_ble_eq_true rfl⟩) (wr := []) hP hD hS hA [0, 1, 2, 3, 4, 5, 6, 7] [] rfl rfl (by decide) (by decide) (fun u_2 H locs h hP hD hS => ?_)
  try dsimp only at h
  have hP : va_P D vwCl [((a0 0), .inr (6, [.ref (a0 1), .ref (a0 2), .int (u_2.1 0), .ref (a0 3), .ref (a0 5), .ref (a0 4), .long u_2.2.1, .int (u_2.1 1), .int (u_2.1 2), .ref (a0 6), .int (u_2.1 3), .int (u_2.1 4), .ref (a0 7), .int (u_2.1 5), .int (u_2.1 6), .int (u_2.1 7), .int (u_2.1 8), .int (u_2.1 9), .int (u_2.1 10), .int (u_2.1 11), .int (u_2.1 12), .int (u_2.1 13), .int (u_2.1 14)])), ((a0 1), .inl (q 1, 6896, .inr (.inl (u_2.2.2.1 0)))), ((a0 2), .inl (q 1, 68960, .inr (.inl (u_2.2.2.1 1)))), ((a0 3), .inl (q 1, 13792, .inr (.inl (u_2.2.2.1 2)))), ((a0 4), .inl (q 1, 6896, .inr (.inl (u_2.2.2.1 3)))), ((a0 5), .inl (q 3, 2, .inl (u_2.2.2.2 0))), ((a0 6), .inl (q 0, 40, .inl (u_2.2.2.2 1))), ((a0 7), .inl (q 2, 400, .inl (u_2.2.2.2 2)))] H := hP
  have hD : va_D _ [((a0 0), .inr (6, [.ref (a0 1), .ref (a0 2), .int (u_2.1 0), .ref (a0 3), .ref (a0 5), .ref (a0 4), .long u_2.2.1, .int (u_2.1 1), .int (u_2.1 2), .ref (a0 6), .int (u_2.1 3), .int (u_2.1 4), .ref (a0 7), .int (u_2.1 5), .int (u_2.1 6), .int (u_2.1 7), .int (u_2.1 8), .int (u_2.1 9), .int (u_2.1 10), .int (u_2.1 11), .int (u_2.1 12), .int (u_2.1 13), .int (u_2.1 14)])), ((a0 1), .inl (q 1, 6896, .inr (.inl (u_2.2.2.1 0)))), ((a0 2), .inl (q 1, 68960, .inr (.inl (u_2.2.2.1 1)))), ((a0 3), .inl (q 1, 13792, .inr (.inl (u_2.2.2.1 2)))), ((a0 4), .inl (q 1, 6896, .inr (.inl (u_2.2.2.1 3)))), ((a0 5), .inl (q 3, 2, .inl (u_2.2.2.2 0))), ((a0 6), .inl (q 0, 40, .inl (u_2.2.2.2 1))), ((a0 7), .inl (q 2, 400, .inl (u_2.2.2.2 2)))] := hD
  refine lv_iconst (v := 0) hx hb dX7_ticks_4 (by decide) ?_
  refine lv_istore_n (lv' := [(1, .int 0), (0, .ref (a0 0))]) hx hb dX7_ticks_5 rfl hl (by decide) rfl (fun ls hl => ?_)
  have lp6 : ∀ (e36 : Md → Int32 → Prop) (k36 : ∀ (t0 : Md) (z1 : Int32) (H : Heap) (locs : List Loc) (ls : Array Slot), e36 t0 z1 → va_P D vwCl (md_v a0 q t0) H → va_D (va_A (md_v a0 q s0) sz) (md_v a0 q t0) → va_S (va_A (md_v a0 q s0) sz) s.heap H locs → lv_has ls 2 [(1, .int z1), (0, .ref (a0 0))] → W p l e ({ frames := 4, cells := 0, slots := 0, locals := 89 } : Room) s m [.ref (a0 0)].toArray below meth c H locs 0 0 (MQ below (va_Qi (fun r (u : Md) => post r u) (mt_B D (md_v a0 q s0) sz (fun u : Md => md_v a0 q u)) (va_A (md_v a0 q s0) sz)) [.ref (a0 0)].toArray s 0 0 (va_A (md_v a0 q s0) sz)) (F0 m 36 ls [])) (n : Nat) (t0 : Md) (z1 : Int32) (H : Heap) (locs : List Loc) (ls : Array Slot), wp_X7_ticks_L6 post e36 n t0 z1 → va_P D vwCl (md_v a0 q t0) H → va_D (va_A (md_v a0 q s0) sz) (md_v a0 q t0) → va_S (va_A (md_v a0 q s0) sz) s.heap H locs → lv_has ls 2 [(1, .int z1), (0, .ref (a0 0))] → W p l e ({ frames := 4, cells := 0, slots := 0, locals := 89 } : Room) s m [.ref (a0 0)].toArray below meth c H locs 0 0 (MQ below (va_Qi (fun r (u : Md) => post r u) (mt_B D (md_v a0 q s0) sz (fun u : Md => md_v a0 q u)) (va_A (md_v a0 q s0) sz)) [.ref (a0 0)].toArray s 0 0 (va_A (md_v a0 q s0) sz)) (F0 m 6 ls []) := by
    intro e36 k36 n
    induction n with
    | zero =>
      intro t0 z1 H locs ls h
      exact h.elim
    | succ n ih =>
      intro t0 z1 H locs ls h hP hD hS hl
      have hP : va_P D vwCl [((a0 0), .inr (6, [.ref (a0 1), .ref (a0 2), .int (t0.1 0), .ref (a0 3), .ref (a0 5), .ref (a0 4), .long t0.2.1, .int (t0.1 1), .int (t0.1 2), .ref (a0 6), .int (t0.1 3), .int (t0.1 4), .ref (a0 7), .int (t0.1 5), .int (t0.1 6), .int (t0.1 7), .int (t0.1 8), .int (t0.1 9), .int (t0.1 10), .int (t0.1 11), .int (t0.1 12), .int (t0.1 13), .int (t0.1 14)])), ((a0 1), .inl (q 1, 6896, .inr (.inl (t0.2.2.1 0)))), ((a0 2), .inl (q 1, 68960, .inr (.inl (t0.2.2.1 1)))), ((a0 3), .inl (q 1, 13792, .inr (.inl (t0.2.2.1 2)))), ((a0 4), .inl (q 1, 6896, .inr (.inl (t0.2.2.1 3)))), ((a0 5), .inl (q 3, 2, .inl (t0.2.2.2 0))), ((a0 6), .inl (q 0, 40, .inl (t0.2.2.2 1))), ((a0 7), .inl (q 2, 400, .inl (t0.2.2.2 2)))] H := hP
      have hD : va_D _ [((a0 0), .inr (6, [.ref (a0 1), .ref (a0 2), .int (t0.1 0), .ref (a0 3), .ref (a0 5), .ref (a0 4), .long t0.2.1, .int (t0.1 1), .int (t0.1 2), .ref (a0 6), .int (t0.1 3), .int (t0.1 4), .ref (a0 7), .int (t0.1 5), .int (t0.1 6), .int (t0.1 7), .int (t0.1 8), .int (t0.1 9), .int (t0.1 10), .int (t0.1 11), .int (t0.1 12), .int (t0.1 13), .int (t0.1 14)])), ((a0 1), .inl (q 1, 6896, .inr (.inl (t0.2.2.1 0)))), ((a0 2), .inl (q 1, 68960, .inr (.inl (t0.2.2.1 1)))), ((a0 3), .inl (q 1, 13792, .inr (.inl (t0.2.2.1 2)))), ((a0 4), .inl (q 1, 6896, .inr (.inl (t0.2.2.1 3)))), ((a0 5), .inl (q 3, 2, .inl (t0.2.2.2 0))), ((a0 6), .inl (q 0, 40, .inl (t0.2.2.2 1))), ((a0 7), .inl (q 2, 400, .inl (t0.2.2.2 2)))] := hD
      unfold wp_X7_ticks_L6 at h
      refine lv_iload_n hx hb dX7_ticks_6 rfl (lv_at hl 0 rfl) ?_
      refine lv_aload_n hx hb dX7_ticks_7 rfl (lv_at hl 1 rfl) ?_
      refine vp_callSi (rd_wV (wc := md_v a0 q t0) (As := []) (rest := [.int z1]) hx hb hml hown ht (c2_X7_cells h) wd_X7_cells mw_1295 hQ hV hS (hP.sub [0, 1, 2, 3, 4, 5, 6, 7] rfl) rfl rfl rfl hl.1 rfl (Nat.le_of_ble_eq_true rfl) dX7_ticks_8 ⟨Nat.le_of_ble_eq_true rfl, Nat.le_of_ble_eq_true rfl, rfl, rfl⟩ ⟨Nat.le_of_ble_eq_true rfl, Nat.le_of_ble_eq_true rfl⟩) (fun r_3 h => ?_)
      try dsimp only at h
      refine lv_icmp_ge (tgt := 36) hx hb dX7_ticks_11 (by decide) (fun c_5 => ?_) (fun c_5 => ?_)
      · replace h := h.1 c_5
        exact k36 _ _ _ _ ls h (hP.sub (ws' := md_v a0 q t0) [0, 1, 2, 3, 4, 5, 6, 7] rfl) (hD.sub (ws' := md_v a0 q t0) [0, 1, 2, 3, 4, 5, 6, 7] (by decide) rfl) hS (lv_sub hl [0, 1] rfl)
      · replace h := h.2 c_5
        refine lv_aload_n hx hb dX7_ticks_14 rfl (lv_at hl 1 rfl) ?_
        refine fl_get (C := RX7) (T := TX7) (N := 23) (ci := 6) (v := .long t0.2.1) hx hb ht in_X7 hown hK hP 0 rfl rfl 6 (by decide) mw_1136 rfl dX7_ticks_15 ?_
        refine lv_iload_n hx hb dX7_ticks_18 rfl (lv_at hl 0 rfl) ?_
        refine vp_callSi (rd_wS (wc := ([] : va_W)) (As := [.long t0.2.1, .int z1]) (rest := []) hx hb hml hown ht (c2_X7_isIn h) wd_X7_isIn mw_1265 hQ hV hS (hP.sub [] rfl) rfl hl.1 rfl (Nat.le_of_ble_eq_true rfl) dX7_ticks_19 ⟨Nat.le_of_ble_eq_true rfl, Nat.le_of_ble_eq_true rfl, rfl, rfl⟩ ⟨Nat.le_of_ble_eq_true rfl, Nat.le_of_ble_eq_true rfl⟩) (fun r_6 h => ?_)
        try dsimp only at h
        refine lv_if_eq (tgt := 30) hx hb dX7_ticks_22 (by decide) (fun c_8 => ?_) (fun c_8 => ?_)
        · replace h := h.1 c_8
          refine lv_iinc (v := (z1 + 1)) (lv' := [(1, .int (z1 + 1)), (0, .ref (a0 0))]) hx hb dX7_ticks_30 hl (k := 0) rfl rfl (by decide) rfl (fun ls hl => ?_)
          refine lv_goto (tgt := 6) hx hb dX7_ticks_33 (by decide) ?_
          exact ih _ _ _ _ ls h (hP.sub (ws' := md_v a0 q t0) [0, 1, 2, 3, 4, 5, 6, 7] rfl) (hD.sub (ws' := md_v a0 q t0) [0, 1, 2, 3, 4, 5, 6, 7] (by decide) rfl) hS (lv_sub hl [0, 1] rfl)
        · replace h := h.2 c_8
          refine lv_aload_n hx hb dX7_ticks_25 rfl (lv_at hl 1 rfl) ?_
          refine lv_iload_n hx hb dX7_ticks_26 rfl (lv_at hl 0 rfl) ?_
          refine mt_gov (mt_wV (wc := md_v a0 q t0) (As := [.int z1]) (rest := []) hx hb hml hown ht (c2_X7_steps h) wd_X7_steps mw_1324 hQ hV hS hA (hP.sub [0, 1, 2, 3, 4, 5, 6, 7] rfl) (hD.sub [0, 1, 2, 3, 4, 5, 6, 7] (by decide) rfl) rfl rfl rfl hl.1 rfl (Nat.le_of_ble_eq_true rfl) dX7_ticks_27 ⟨Nat.le_of_ble_eq_true rfl, Nat.le_of_ble_eq_true rfl, rfl, rfl⟩ ⟨Nat.le_of_ble_eq_true rfl, Nat.le_of_ble_eq_true rfl⟩) (wr := []) hP hD hS hA [0, 1, 2, 3, 4, 5, 6, 7] [] rfl rfl (by decide) (by decide) (fun u_10 H locs h hP hD hS => ?_)
          try dsimp only at h
          have hP : va_P D vwCl [((a0 0), .inr (6, [.ref (a0 1), .ref (a0 2), .int (u_10.1 0), .ref (a0 3), .ref (a0 5), .ref (a0 4), .long u_10.2.1, .int (u_10.1 1), .int (u_10.1 2), .ref (a0 6), .int (u_10.1 3), .int (u_10.1 4), .ref (a0 7), .int (u_10.1 5), .int (u_10.1 6), .int (u_10.1 7), .int (u_10.1 8), .int (u_10.1 9), .int (u_10.1 10), .int (u_10.1 11), .int (u_10.1 12), .int (u_10.1 13), .int (u_10.1 14)])), ((a0 1), .inl (q 1, 6896, .inr (.inl (u_10.2.2.1 0)))), ((a0 2), .inl (q 1, 68960, .inr (.inl (u_10.2.2.1 1)))), ((a0 3), .inl (q 1, 13792, .inr (.inl (u_10.2.2.1 2)))), ((a0 4), .inl (q 1, 6896, .inr (.inl (u_10.2.2.1 3)))), ((a0 5), .inl (q 3, 2, .inl (u_10.2.2.2 0))), ((a0 6), .inl (q 0, 40, .inl (u_10.2.2.2 1))), ((a0 7), .inl (q 2, 400, .inl (u_10.2.2.2 2)))] H := hP
          have hD : va_D _ [((a0 0), .inr (6, [.ref (a0 1), .ref (a0 2), .int (u_10.1 0), .ref (a0 3), .ref (a0 5), .ref (a0 4), .long u_10.2.1, .int (u_10.1 1), .int (u_10.1 2), .ref (a0 6), .int (u_10.1 3), .int (u_10.1 4), .ref (a0 7), .int (u_10.1 5), .int (u_10.1 6), .int (u_10.1 7), .int (u_10.1 8), .int (u_10.1 9), .int (u_10.1 10), .int (u_10.1 11), .int (u_10.1 12), .int (u_10.1 13), .int (u_10.1 14)])), ((a0 1), .inl (q 1, 6896, .inr (.inl (u_10.2.2.1 0)))), ((a0 2), .inl (q 1, 68960, .inr (.inl (u_10.2.2.1 1)))), ((a0 3), .inl (q 1, 13792, .inr (.inl (u_10.2.2.1 2)))), ((a0 4), .inl (q 1, 6896, .inr (.inl (u_10.2.2.1 3)))), ((a0 5), .inl (q 3, 2, .inl (u_10.2.2.2 0))), ((a0 6), .inl (q 0, 40, .inl (u_10.2.2.2 1))), ((a0 7), .inl (q 2, 400, .inl (u_10.2.2.2 2)))] := hD
          refine lv_iinc (v := (z1 + 1)) (lv' := [(1, .int (z1 + 1)), (0, .ref (a0 0))]) hx hb dX7_ticks_30 hl (k := 0) rfl rfl (by decide) rfl (fun ls hl => ?_)
          refine lv_goto (tgt := 6) hx hb dX7_ticks_33 (by decide) ?_
          exact ih _ _ _ _ ls h (hP.sub (ws' := md_v a0 q u_10) [0, 1, 2, 3, 4, 5, 6, 7] rfl) (hD.sub (ws' := md_v a0 q u_10) [0, 1, 2, 3, 4, 5, 6, 7] (by decide) rfl) hS (lv_sub hl [0, 1] rfl)
  obtain ⟨n6, h⟩ := h
  refine lp6 _ ?_ n6 _ _ _ _ ls h (hP.sub (ws' := md_v a0 q u_2) [0, 1, 2, 3, 4, 5, 6, 7] rfl) (hD.sub (ws' := md_v a0 q u_2) [0, 1, 2, 3, 4, 5, 6, 7] (by decide) rfl) hS (lv_sub hl [0, 1] rfl)
  · intro t0 z1 H locs ls h hP hD hS hl
    try dsimp only at h
    have hP : va_P D vwCl [((a0 0), .inr (6, [.ref (a0 1), .ref (a0 2), .int (t0.1 0), .ref (a0 3), .ref (a0 5), .ref (a0 4), .long t0.2.1, .int (t0.1 1), .int (t0.1 2), .ref (a0 6), .int (t0.1 3), .int (t0.1 4), .ref (a0 7), .int (t0.1 5), .int (t0.1 6), .int (t0.1 7), .int (t0.1 8), .int (t0.1 9), .int (t0.1 10), .int (t0.1 11), .int (t0.1 12), .int (t0.1 13), .int (t0.1 14)])), ((a0 1), .inl (q 1, 6896, .inr (.inl (t0.2.2.1 0)))), ((a0 2), .inl (q 1, 68960, .inr (.inl (t0.2.2.1 1)))), ((a0 3), .inl (q 1, 13792, .inr (.inl (t0.2.2.1 2)))), ((a0 4), .inl (q 1, 6896, .inr (.inl (t0.2.2.1 3)))), ((a0 5), .inl (q 3, 2, .inl (t0.2.2.2 0))), ((a0 6), .inl (q 0, 40, .inl (t0.2.2.2 1))), ((a0 7), .inl (q 2, 400, .inl (t0.2.2.2 2)))] H := hP
    have hD : va_D _ [((a0 0), .inr (6, [.ref (a0 1), .ref (a0 2), .int (t0.1 0), .ref (a0 3), .ref (a0 5), .ref (a0 4), .long t0.2.1, .int (t0.1 1), .int (t0.1 2), .ref (a0 6), .int (t0.1 3), .int (t0.1 4), .ref (a0 7), .int (t0.1 5), .int (t0.1 6), .int (t0.1 7), .int (t0.1 8), .int (t0.1 9), .int (t0.1 10), .int (t0.1 11), .int (t0.1 12), .int (t0.1 13), .int (t0.1 14)])), ((a0 1), .inl (q 1, 6896, .inr (.inl (t0.2.2.1 0)))), ((a0 2), .inl (q 1, 68960, .inr (.inl (t0.2.2.1 1)))), ((a0 3), .inl (q 1, 13792, .inr (.inl (t0.2.2.1 2)))), ((a0 4), .inl (q 1, 6896, .inr (.inl (t0.2.2.1 3)))), ((a0 5), .inl (q 3, 2, .inl (t0.2.2.2 0))), ((a0 6), .inl (q 0, 40, .inl (t0.2.2.2 1))), ((a0 7), .inl (q 2, 400, .inl (t0.2.2.2 2)))] := hD
    refine lv_aload_n hx hb dX7_ticks_36 rfl (lv_at hl 1 rfl) ?_
    refine fl_get (C := RX7) (T := TX7) (N := 23) (ci := 6) (v := .int (t0.1 1)) hx hb ht in_X7 hown hK hP 0 rfl rfl 7 (by decide) mw_1137 rfl dX7_ticks_37 ?_
    refine lv_if_ne (tgt := 45) hx hb dX7_ticks_40 (by decide) (fun c_11 => ?_) (fun c_11 => ?_)
    · replace h := h.1 c_11
      refine lv_aload_n hx hb dX7_ticks_45 rfl (lv_at hl 1 rfl) ?_
      refine fl_get (C := RX7) (T := TX7) (N := 23) (ci := 6) (v := .ref (a0 1)) hx hb ht in_X7 hown hK hP 0 rfl rfl 0 (by decide) mw_1130 rfl dX7_ticks_46 ?_
      refine lv_iconst (v := 4) hx hb dX7_ticks_49 (by decide) ?_
      refine lv_aload_n hx hb dX7_ticks_50 rfl (lv_at hl 1 rfl) ?_
      refine fl_get (C := RX7) (T := TX7) (N := 23) (ci := 6) (v := .ref (a0 1)) hx hb ht in_X7 hown hK hP 0 rfl rfl 0 (by decide) mw_1130 rfl dX7_ticks_51 ?_
      refine lv_iconst (v := 4) hx hb dX7_ticks_54 (by decide) ?_
      refine va_lald hx hb hK hP 1 1 rfl rfl (in_c rfl) dX7_ticks_55 ?_
      refine lv_aload_n hx hb dX7_ticks_56 rfl (lv_at hl 1 rfl) ?_
      refine fl_get (C := RX7) (T := TX7) (N := 23) (ci := 6) (v := .int (t0.1 1)) hx hb ht in_X7 hown hK hP 0 rfl rfl 7 (by decide) mw_1137 rfl dX7_ticks_57 ?_
      refine lv_aload_n hx hb dX7_ticks_60 rfl (lv_at hl 1 rfl) ?_
      refine fl_get (C := RX7) (T := TX7) (N := 23) (ci := 6) (v := .int (t0.1 1)) hx hb ht in_X7 hown hK hP 0 rfl rfl 7 (by decide) mw_1137 rfl dX7_ticks_61 ?_
      refine lv_imul hx hb dX7_ticks_64 ?_
      refine lv_i2l (v := (Int32.toInt64 ((t0.1 1) * (t0.1 1)))) hx hb dX7_ticks_65 rfl ?_
      refine lv_ladd hx hb dX7_ticks_66 ?_
      refine lv_l2i (v := (Int64.toInt32 (((t0.2.2.1 0) (Int32.toNatClampNeg 4)) + (Int32.toInt64 ((t0.1 1) * (t0.1 1)))))) hx hb dX7_ticks_67 rfl ?_
      refine lv_i2l (v := (Int32.toInt64 (Int64.toInt32 (((t0.2.2.1 0) (Int32.toNatClampNeg 4)) + (Int32.toInt64 ((t0.1 1) * (t0.1 1))))))) hx hb dX7_ticks_68 rfl ?_
      refine va_last hx hb hK hP hD hS 1 1 rfl rfl (in_c rfl) dX7_ticks_69 (fun H locs hP hD hS => ?_)
      have hP : va_P D vwCl [((a0 0), .inr (6, [.ref (a0 1), .ref (a0 2), .int (t0.1 0), .ref (a0 3), .ref (a0 5), .ref (a0 4), .long t0.2.1, .int (t0.1 1), .int (t0.1 2), .ref (a0 6), .int (t0.1 3), .int (t0.1 4), .ref (a0 7), .int (t0.1 5), .int (t0.1 6), .int (t0.1 7), .int (t0.1 8), .int (t0.1 9), .int (t0.1 10), .int (t0.1 11), .int (t0.1 12), .int (t0.1 13), .int (t0.1 14)])), ((a0 1), .inl (q 1, 6896, .inr (.inl (vp_updL (t0.2.2.1 0) (Int32.toNatClampNeg 4) (Int32.toInt64 (Int64.toInt32 (((t0.2.2.1 0) (Int32.toNatClampNeg 4)) + (Int32.toInt64 ((t0.1 1) * (t0.1 1)))))))))), ((a0 2), .inl (q 1, 68960, .inr (.inl (t0.2.2.1 1)))), ((a0 3), .inl (q 1, 13792, .inr (.inl (t0.2.2.1 2)))), ((a0 4), .inl (q 1, 6896, .inr (.inl (t0.2.2.1 3)))), ((a0 5), .inl (q 3, 2, .inl (t0.2.2.2 0))), ((a0 6), .inl (q 0, 40, .inl (t0.2.2.2 1))), ((a0 7), .inl (q 2, 400, .inl (t0.2.2.2 2)))] H := hP
      have hD : va_D _ [((a0 0), .inr (6, [.ref (a0 1), .ref (a0 2), .int (t0.1 0), .ref (a0 3), .ref (a0 5), .ref (a0 4), .long t0.2.1, .int (t0.1 1), .int (t0.1 2), .ref (a0 6), .int (t0.1 3), .int (t0.1 4), .ref (a0 7), .int (t0.1 5), .int (t0.1 6), .int (t0.1 7), .int (t0.1 8), .int (t0.1 9), .int (t0.1 10), .int (t0.1 11), .int (t0.1 12), .int (t0.1 13), .int (t0.1 14)])), ((a0 1), .inl (q 1, 6896, .inr (.inl (vp_updL (t0.2.2.1 0) (Int32.toNatClampNeg 4) (Int32.toInt64 (Int64.toInt32 (((t0.2.2.1 0) (Int32.toNatClampNeg 4)) + (Int32.toInt64 ((t0.1 1) * (t0.1 1)))))))))), ((a0 2), .inl (q 1, 68960, .inr (.inl (t0.2.2.1 1)))), ((a0 3), .inl (q 1, 13792, .inr (.inl (t0.2.2.1 2)))), ((a0 4), .inl (q 1, 6896, .inr (.inl (t0.2.2.1 3)))), ((a0 5), .inl (q 3, 2, .inl (t0.2.2.2 0))), ((a0 6), .inl (q 0, 40, .inl (t0.2.2.2 1))), ((a0 7), .inl (q 2, 400, .inl (t0.2.2.2 2)))] := hD
      refine lv_aload_n hx hb dX7_ticks_70 rfl (lv_at hl 1 rfl) ?_
      refine fl_get (C := RX7) (T := TX7) (N := 23) (ci := 6) (v := .ref (a0 1)) hx hb ht in_X7 hown hK hP 0 rfl rfl 0 (by decide) mw_1130 rfl dX7_ticks_71 ?_
      refine lv_iconst (v := 5) hx hb dX7_ticks_74 (by decide) ?_
      refine lv_dup2_11 hx hb dX7_ticks_75 rfl rfl ?_
      refine va_lald hx hb hK hP 1 1 rfl rfl (in_c rfl) dX7_ticks_76 ?_
      refine lv_lconst (v := 1) hx hb dX7_ticks_77 (by decide) ?_
      refine lv_ladd hx hb dX7_ticks_78 ?_
      refine va_last hx hb hK hP hD hS 1 1 rfl rfl (in_c rfl) dX7_ticks_79 (fun H locs hP hD hS => ?_)
      have hP : va_P D vwCl [((a0 0), .inr (6, [.ref (a0 1), .ref (a0 2), .int (t0.1 0), .ref (a0 3), .ref (a0 5), .ref (a0 4), .long t0.2.1, .int (t0.1 1), .int (t0.1 2), .ref (a0 6), .int (t0.1 3), .int (t0.1 4), .ref (a0 7), .int (t0.1 5), .int (t0.1 6), .int (t0.1 7), .int (t0.1 8), .int (t0.1 9), .int (t0.1 10), .int (t0.1 11), .int (t0.1 12), .int (t0.1 13), .int (t0.1 14)])), ((a0 1), .inl (q 1, 6896, .inr (.inl (vp_updL (vp_updL (t0.2.2.1 0) (Int32.toNatClampNeg 4) (Int32.toInt64 (Int64.toInt32 (((t0.2.2.1 0) (Int32.toNatClampNeg 4)) + (Int32.toInt64 ((t0.1 1) * (t0.1 1))))))) (Int32.toNatClampNeg 5) (((vp_updL (t0.2.2.1 0) (Int32.toNatClampNeg 4) (Int32.toInt64 (Int64.toInt32 (((t0.2.2.1 0) (Int32.toNatClampNeg 4)) + (Int32.toInt64 ((t0.1 1) * (t0.1 1))))))) (Int32.toNatClampNeg 5)) + 1))))), ((a0 2), .inl (q 1, 68960, .inr (.inl (t0.2.2.1 1)))), ((a0 3), .inl (q 1, 13792, .inr (.inl (t0.2.2.1 2)))), ((a0 4), .inl (q 1, 6896, .inr (.inl (t0.2.2.1 3)))), ((a0 5), .inl (q 3, 2, .inl (t0.2.2.2 0))), ((a0 6), .inl (q 0, 40, .inl (t0.2.2.2 1))), ((a0 7), .inl (q 2, 400, .inl (t0.2.2.2 2)))] H := hP
      have hD : va_D _ [((a0 0), .inr (6, [.ref (a0 1), .ref (a0 2), .int (t0.1 0), .ref (a0 3), .ref (a0 5), .ref (a0 4), .long t0.2.1, .int (t0.1 1), .int (t0.1 2), .ref (a0 6), .int (t0.1 3), .int (t0.1 4), .ref (a0 7), .int (t0.1 5), .int (t0.1 6), .int (t0.1 7), .int (t0.1 8), .int (t0.1 9), .int (t0.1 10), .int (t0.1 11), .int (t0.1 12), .int (t0.1 13), .int (t0.1 14)])), ((a0 1), .inl (q 1, 6896, .inr (.inl (vp_updL (vp_updL (t0.2.2.1 0) (Int32.toNatClampNeg 4) (Int32.toInt64 (Int64.toInt32 (((t0.2.2.1 0) (Int32.toNatClampNeg 4)) + (Int32.toInt64 ((t0.1 1) * (t0.1 1))))))) (Int32.toNatClampNeg 5) (((vp_updL (t0.2.2.1 0) (Int32.toNatClampNeg 4) (Int32.toInt64 (Int64.toInt32 (((t0.2.2.1 0) (Int32.toNatClampNeg 4)) + (Int32.toInt64 ((t0.1 1) * (t0.1 1))))))) (Int32.toNatClampNeg 5)) + 1))))), ((a0 2), .inl (q 1, 68960, .inr (.inl (t0.2.2.1 1)))), ((a0 3), .inl (q 1, 13792, .inr (.inl (t0.2.2.1 2)))), ((a0 4), .inl (q 1, 6896, .inr (.inl (t0.2.2.1 3)))), ((a0 5), .inl (q 3, 2, .inl (t0.2.2.2 0))), ((a0 6), .inl (q 0, 40, .inl (t0.2.2.2 1))), ((a0 7), .inl (q 2, 400, .inl (t0.2.2.2 2)))] := hD
      refine lv_aload_n hx hb dX7_ticks_80 rfl (lv_at hl 1 rfl) ?_
      refine fl_get (C := RX7) (T := TX7) (N := 23) (ci := 6) (v := .int (t0.1 1)) hx hb ht in_X7 hown hK hP 0 rfl rfl 7 (by decide) mw_1137 rfl dX7_ticks_81 ?_
      exact mt_iret (t0.1, t0.2.1, (va_up t0.2.2.1 0 (vp_updL (vp_updL (t0.2.2.1 0) (Int32.toNatClampNeg 4) (Int32.toInt64 (Int64.toInt32 (((t0.2.2.1 0) (Int32.toNatClampNeg 4)) + (Int32.toInt64 ((t0.1 1) * (t0.1 1))))))) (Int32.toNatClampNeg 5) (((vp_updL (t0.2.2.1 0) (Int32.toNatClampNeg 4) (Int32.toInt64 (Int64.toInt32 (((t0.2.2.1 0) (Int32.toNatClampNeg 4)) + (Int32.toInt64 ((t0.1 1) * (t0.1 1))))))) (Int32.toNatClampNeg 5)) + 1))), t0.2.2.2) hx hb hr hk h (hP.sub (ws' := md_v a0 q (t0.1, t0.2.1, (va_up t0.2.2.1 0 (vp_updL (vp_updL (t0.2.2.1 0) (Int32.toNatClampNeg 4) (Int32.toInt64 (Int64.toInt32 (((t0.2.2.1 0) (Int32.toNatClampNeg 4)) + (Int32.toInt64 ((t0.1 1) * (t0.1 1))))))) (Int32.toNatClampNeg 5) (((vp_updL (t0.2.2.1 0) (Int32.toNatClampNeg 4) (Int32.toInt64 (Int64.toInt32 (((t0.2.2.1 0) (Int32.toNatClampNeg 4)) + (Int32.toInt64 ((t0.1 1) * (t0.1 1))))))) (Int32.toNatClampNeg 5)) + 1))), t0.2.2.2)) [0, 1, 2, 3, 4, 5, 6, 7] rfl) (hD.sub (ws' := md_v a0 q (t0.1, t0.2.1, (va_up t0.2.2.1 0 (vp_updL (vp_updL (t0.2.2.1 0) (Int32.toNatClampNeg 4) (Int32.toInt64 (Int64.toInt32 (((t0.2.2.1 0) (Int32.toNatClampNeg 4)) + (Int32.toInt64 ((t0.1 1) * (t0.1 1))))))) (Int32.toNatClampNeg 5) (((vp_updL (t0.2.2.1 0) (Int32.toNatClampNeg 4) (Int32.toInt64 (Int64.toInt32 (((t0.2.2.1 0) (Int32.toNatClampNeg 4)) + (Int32.toInt64 ((t0.1 1) * (t0.1 1))))))) (Int32.toNatClampNeg 5)) + 1))), t0.2.2.2)) [0, 1, 2, 3, 4, 5, 6, 7] (by decide) rfl) hS dX7_ticks_84
    · replace h := h.2 c_11
      refine lv_iconst (v := 0) hx hb dX7_ticks_43 (by decide) ?_
      exact mt_iret t0 hx hb hr hk h (hP.sub (ws' := md_v a0 q t0) [0, 1, 2, 3, 4, 5, 6, 7] rfl) (hD.sub (ws' := md_v a0 q t0) [0, 1, 2, 3, 4, 5, 6, 7] (by decide) rfl) hS dX7_ticks_44

def wp_X7_flapFor_L5 (s0 : Md) (post : Int32 → Prop) (e95 : Int32 → Int32 → Int32 → Int32 → Prop) : Nat → Int32 → Int32 → Int32 → Int32 → Prop
  | 0, _, _, _, _ => False
  | n5 + 1, z1, z2, z3, z4 => wp_X7_flaps (fun r_1 => ((r_1 ≤ z4 → e95 z1 z2 z3 z4) ∧ (¬ r_1 ≤ z4 → wp_X7_of (fun r_4 => wp_X7_signOf (fun r_6 => ((¬ r_6 = z2 → wp_X7_flapFor_L5 s0 post e95 n5 z1 z2 z3 (z4 + 1)) ∧ (r_6 = z2 → wp_X7_wornOf (fun r_9 => wp_X7_isIn (fun r_11 => ((r_11 = 0 → ((z3 = (-1) → wp_X7_flapFor_L5 s0 post e95 n5 z1 z2 z4 (z4 + 1)) ∧ (¬ z3 = (-1) → wp_X7_of (fun r_15 => wp_X7_flaps (fun r_17 => wp_X7_on (fun r_19 => wp_X7_of (fun r_21 => wp_X7_flaps (fun r_23 => wp_X7_on (fun r_25 => ((r_25 ≤ r_19 → wp_X7_flapFor_L5 s0 post e95 n5 z1 z2 z3 (z4 + 1)) ∧ (¬ r_25 ≤ r_19 → wp_X7_flapFor_L5 s0 post e95 n5 z1 z2 z4 (z4 + 1)))) r_21 z3 r_23) s0 z1) s0 z1 (2 : Int32)) r_15 z4 r_17) s0 z1) s0 z1 (2 : Int32)))) ∧ (¬ r_11 = 0 → wp_X7_flapFor_L5 s0 post e95 n5 z1 z2 z3 (z4 + 1)))) r_9 z4) s0 z1))) s0 r_4 z4) s0 z1 (0 : Int32)))) s0 z1
def wp_X7_flapFor (post : Int32 → Prop) (s0 : Md) (x1 : Int32) (x2 : Int32) : Prop := (∃ n5, wp_X7_flapFor_L5 s0 post (fun z1 z2 z3 z4 => post z3) n5 x1 x2 (-1) 0)
set_option maxHeartbeats 4000000 in
set_option maxRecDepth 100000 in
theorem c2_X7_flapFor {l : Launch} {D : va_G} {q : Nat → ClassId} {a0 : Nat → Nat} {s0 : Md} {x1 : Int32} {x2 : Int32} {post : Int32 → Prop} (h : wp_X7_flapFor post s0 x1 x2) : Met l yX7_flapFor (Cond.code yX7_flapFor cX7_flapFor 5 (some .int) :: w_all) ({ frames := 2, cells := 0, slots := 0, locals := 43 } : Room) (rd_P D q [.ref (a0 0), .int x1, .int x2] (md_v a0 q s0)) (vp_Si post) 0 0 (fun _ => False) := by
  refine rd_start (by decide) (Nat.le_of_ble_eq_true rfl) ?_
  intro p e s m below meth c ls hx hb hr hml hown ht hk hP hQ hV hl
  have hK := hQ.1
  have hown : s.vm.findClass RX7 = some m.cls := hown
  have hl : lv_has ls 5 [(0, .ref (a0 0)), (1, .int x1), (2, .int x2)] := hl
  have hP : va_P D vwCl [((a0 0), .inr (6, [.ref (a0 1), .ref (a0 2), .int (s0.1 0), .ref (a0 3), .ref (a0 5), .ref (a0 4), .long s0.2.1, .int (s0.1 1), .int (s0.1 2), .ref (a0 6), .int (s0.1 3), .int (s0.1 4), .ref (a0 7), .int (s0.1 5), .int (s0.1 6), .int (s0.1 7), .int (s0.1 8), .int (s0.1 9), .int (s0.1 10), .int (s0.1 11), .int (s0.1 12), .int (s0.1 13), .int (s0.1 14)])), ((a0 1), .inl (q 1, 6896, .inr (.inl (s0.2.2.1 0)))), ((a0 2), .inl (q 1, 68960, .inr (.inl (s0.2.2.1 1)))), ((a0 3), .inl (q 1, 13792, .inr (.inl (s0.2.2.1 2)))), ((a0 4), .inl (q 1, 6896, .inr (.inl (s0.2.2.1 3)))), ((a0 5), .inl (q 3, 2, .inl (s0.2.2.2 0))), ((a0 6), .inl (q 0, 40, .inl (s0.2.2.2 1))), ((a0 7), .inl (q 2, 400, .inl (s0.2.2.2 2)))] s.heap := hP
  unfold wp_X7_flapFor at h
  refine lv_iconst (v := (-1)) hx hb dX7_flapFor_0 (by decide) ?_
  refine lv_istore_n (lv' := [(3, .int (-1)), (0, .ref (a0 0)), (1, .int x1), (2, .int x2)]) hx hb dX7_flapFor_1 rfl hl (by decide) rfl (fun ls hl => ?_)
  refine lv_iconst (v := 0) hx hb dX7_flapFor_2 (by decide) ?_
  refine lv_istore (lv' := [(4, .int 0), (3, .int (-1)), (0, .ref (a0 0)), (1, .int x1), (2, .int x2)]) hx hb dX7_flapFor_3 hl (by decide) rfl (fun ls hl => ?_)
  have lp5 : ∀ (e95 : Int32 → Int32 → Int32 → Int32 → Prop) (k95 : ∀ (z1 : Int32) (z2 : Int32) (z3 : Int32) (z4 : Int32) (ls : Array Slot), e95 z1 z2 z3 z4 → lv_has ls 5 [(1, .int z1), (2, .int z2), (3, .int z3), (4, .int z4), (0, .ref (a0 0))] → W p l e ({ frames := 2, cells := 0, slots := 0, locals := 43 } : Room) s m [.ref (a0 0), .int x1, .int x2].toArray below meth c s.heap [] 0 0 (MQ below (vp_Si post) [.ref (a0 0), .int x1, .int x2].toArray s 0 0 (fun _ => False)) (F0 m 95 ls [])) (n : Nat) (z1 : Int32) (z2 : Int32) (z3 : Int32) (z4 : Int32) (ls : Array Slot), wp_X7_flapFor_L5 s0 post e95 n z1 z2 z3 z4 → lv_has ls 5 [(1, .int z1), (2, .int z2), (3, .int z3), (4, .int z4), (0, .ref (a0 0))] → W p l e ({ frames := 2, cells := 0, slots := 0, locals := 43 } : Room) s m [.ref (a0 0), .int x1, .int x2].toArray below meth c s.heap [] 0 0 (MQ below (vp_Si post) [.ref (a0 0), .int x1, .int x2].toArray s 0 0 (fun _ => False)) (F0 m 5 ls []) := by
    intro e95 k95 n
    induction n with
    | zero =>
      intro z1 z2 z3 z4 ls h
      exact h.elim
    | succ n ih =>
      intro z1 z2 z3 z4 ls h hl
      unfold wp_X7_flapFor_L5 at h
      refine lv_iload hx hb dX7_flapFor_5 (lv_at hl 3 rfl) ?_
      refine lv_aload_n hx hb dX7_flapFor_7 rfl (lv_at hl 4 rfl) ?_
      refine lv_iload_n hx hb dX7_flapFor_8 rfl (lv_at hl 0 rfl) ?_
      refine vp_callSi (rd_wV (wc := md_v a0 q s0) (As := [.int z1]) (rest := [.int z4]) hx hb hml hown ht (c2_X7_flaps h) wd_X7_flaps mw_1245 hQ hV va_S.rf (hP.sub [0, 1, 2, 3, 4, 5, 6, 7] rfl) rfl rfl rfl hl.1 rfl (Nat.le_of_ble_eq_true rfl) dX7_flapFor_9 ⟨Nat.le_of_ble_eq_true rfl, Nat.le_of_ble_eq_true rfl, rfl, rfl⟩ ⟨Nat.le_of_ble_eq_true rfl, Nat.le_of_ble_eq_true rfl⟩) (fun r_1 h => ?_)
      try dsimp only at h
      refine lv_icmp_ge (tgt := 95) hx hb dX7_flapFor_12 (by decide) (fun c_3 => ?_) (fun c_3 => ?_)
      · replace h := h.1 c_3
        exact k95 _ _ _ _ ls h (lv_sub hl [0, 1, 2, 3, 4] rfl)
      · replace h := h.2 c_3
        refine lv_aload_n hx hb dX7_flapFor_15 rfl (lv_at hl 4 rfl) ?_
        refine lv_aload_n hx hb dX7_flapFor_16 rfl (lv_at hl 4 rfl) ?_
        refine lv_iload_n hx hb dX7_flapFor_17 rfl (lv_at hl 0 rfl) ?_
        refine lv_iconst (v := 0) hx hb dX7_flapFor_18 (by decide) ?_
        refine vp_callSi (rd_wV (wc := md_v a0 q s0) (As := [.int z1, .int 0]) (rest := [.ref (a0 0)]) hx hb hml hown ht (c2_X7_of h) wd_X7_of mw_1249 hQ hV va_S.rf (hP.sub [0, 1, 2, 3, 4, 5, 6, 7] rfl) rfl rfl rfl hl.1 rfl (Nat.le_of_ble_eq_true rfl) dX7_flapFor_19 ⟨Nat.le_of_ble_eq_true rfl, Nat.le_of_ble_eq_true rfl, rfl, rfl⟩ ⟨Nat.le_of_ble_eq_true rfl, Nat.le_of_ble_eq_true rfl⟩) (fun r_4 h => ?_)
        try dsimp only at h
        refine lv_iload hx hb dX7_flapFor_22 (lv_at hl 3 rfl) ?_
        refine vp_callSi (rd_wV (wc := md_v a0 q s0) (As := [.int r_4, .int z4]) (rest := []) hx hb hml hown ht (c2_X7_signOf h) wd_X7_signOf mw_1257 hQ hV va_S.rf (hP.sub [0, 1, 2, 3, 4, 5, 6, 7] rfl) rfl rfl rfl hl.1 rfl (Nat.le_of_ble_eq_true rfl) dX7_flapFor_24 ⟨Nat.le_of_ble_eq_true rfl, Nat.le_of_ble_eq_true rfl, rfl, rfl⟩ ⟨Nat.le_of_ble_eq_true rfl, Nat.le_of_ble_eq_true rfl⟩) (fun r_6 h => ?_)
        try dsimp only at h
        refine lv_iload_n hx hb dX7_flapFor_27 rfl (lv_at hl 1 rfl) ?_
        refine lv_icmp_ne (tgt := 89) hx hb dX7_flapFor_28 (by decide) (fun c_8 => ?_) (fun c_8 => ?_)
        · replace h := h.1 c_8
          refine lv_iinc (v := (z4 + 1)) (lv' := [(4, .int (z4 + 1)), (1, .int z1), (2, .int z2), (3, .int z3), (0, .ref (a0 0))]) hx hb dX7_flapFor_89 hl (k := 3) rfl rfl (by decide) rfl (fun ls hl => ?_)
          refine lv_goto (tgt := 5) hx hb dX7_flapFor_92 (by decide) ?_
          exact ih _ _ _ _ ls h (lv_sub hl [1, 2, 3, 0, 4] rfl)
        · replace h := h.2 c_8
          refine lv_aload_n hx hb dX7_flapFor_31 rfl (lv_at hl 4 rfl) ?_
          refine lv_iload_n hx hb dX7_flapFor_32 rfl (lv_at hl 0 rfl) ?_
          refine vp_callSl (rd_wV (wc := md_v a0 q s0) (As := [.int z1]) (rest := []) hx hb hml hown ht (c2_X7_wornOf h) wd_X7_wornOf mw_1261 hQ hV va_S.rf (hP.sub [0, 1, 2, 3, 4, 5, 6, 7] rfl) rfl rfl rfl hl.1 rfl (Nat.le_of_ble_eq_true rfl) dX7_flapFor_33 ⟨Nat.le_of_ble_eq_true rfl, Nat.le_of_ble_eq_true rfl, rfl, rfl⟩ ⟨Nat.le_of_ble_eq_true rfl, Nat.le_of_ble_eq_true rfl⟩) (fun r_9 h => ?_)
          try dsimp only at h
          refine lv_iload hx hb dX7_flapFor_36 (lv_at hl 3 rfl) ?_
          refine vp_callSi (rd_wS (wc := ([] : va_W)) (As := [.long r_9, .int z4]) (rest := []) hx hb hml hown ht (c2_X7_isIn h) wd_X7_isIn mw_1265 hQ hV va_S.rf (hP.sub [] rfl) rfl hl.1 rfl (Nat.le_of_ble_eq_true rfl) dX7_flapFor_38 ⟨Nat.le_of_ble_eq_true rfl, Nat.le_of_ble_eq_true rfl, rfl, rfl⟩ ⟨Nat.le_of_ble_eq_true rfl, Nat.le_of_ble_eq_true rfl⟩) (fun r_11 h => ?_)
          try dsimp only at h
          refine lv_if_eq (tgt := 47) hx hb dX7_flapFor_41 (by decide) (fun c_13 => ?_) (fun c_13 => ?_)
          · replace h := h.1 c_13
            refine lv_iload_n hx hb dX7_flapFor_47 rfl (lv_at hl 2 rfl) ?_
            refine lv_iconst (v := (-1)) hx hb dX7_flapFor_48 (by decide) ?_
            refine lv_icmp_eq (tgt := 86) hx hb dX7_flapFor_49 (by decide) (fun c_14 => ?_) (fun c_14 => ?_)
            · replace h := h.1 c_14
              refine lv_iload hx hb dX7_flapFor_86 (lv_at hl 3 rfl) ?_
              refine lv_istore_n (lv' := [(3, .int z4), (1, .int z1), (2, .int z2), (4, .int z4), (0, .ref (a0 0))]) hx hb dX7_flapFor_88 rfl hl (by decide) rfl (fun ls hl => ?_)
              refine lv_iinc (v := (z4 + 1)) (lv' := [(4, .int (z4 + 1)), (3, .int z4), (1, .int z1), (2, .int z2), (0, .ref (a0 0))]) hx hb dX7_flapFor_89 hl (k := 3) rfl rfl (by decide) rfl (fun ls hl => ?_)
              refine lv_goto (tgt := 5) hx hb dX7_flapFor_92 (by decide) ?_
              exact ih _ _ _ _ ls h (lv_sub hl [2, 3, 1, 0, 4] rfl)
            · replace h := h.2 c_14
              refine lv_aload_n hx hb dX7_flapFor_52 rfl (lv_at hl 4 rfl) ?_
              refine lv_iload_n hx hb dX7_flapFor_53 rfl (lv_at hl 0 rfl) ?_
              refine lv_iconst (v := 2) hx hb dX7_flapFor_54 (by decide) ?_
              refine vp_callSi (rd_wV (wc := md_v a0 q s0) (As := [.int z1, .int 2]) (rest := []) hx hb hml hown ht (c2_X7_of h) wd_X7_of mw_1249 hQ hV va_S.rf (hP.sub [0, 1, 2, 3, 4, 5, 6, 7] rfl) rfl rfl rfl hl.1 rfl (Nat.le_of_ble_eq_true rfl) dX7_flapFor_55 ⟨Nat.le_of_ble_eq_true rfl, Nat.le_of_ble_eq_true rfl, rfl, rfl⟩ ⟨Nat.le_of_ble_eq_true rfl, Nat.le_of_ble_eq_true rfl⟩) (fun r_15 h => ?_)
              try dsimp only at h
              refine lv_iload hx hb dX7_flapFor_58 (lv_at hl 3 rfl) ?_
              refine lv_aload_n hx hb dX7_flapFor_60 rfl (lv_at hl 4 rfl) ?_
              refine lv_iload_n hx hb dX7_flapFor_61 rfl (lv_at hl 0 rfl) ?_
              refine vp_callSi (rd_wV (wc := md_v a0 q s0) (As := [.int z1]) (rest := [.int z4, .int r_15]) hx hb hml hown ht (c2_X7_flaps h) wd_X7_flaps mw_1245 hQ hV va_S.rf (hP.sub [0, 1, 2, 3, 4, 5, 6, 7] rfl) rfl rfl rfl hl.1 rfl (Nat.le_of_ble_eq_true rfl) dX7_flapFor_62 ⟨Nat.le_of_ble_eq_true rfl, Nat.le_of_ble_eq_true rfl, rfl, rfl⟩ ⟨Nat.le_of_ble_eq_true rfl, Nat.le_of_ble_eq_true rfl⟩) (fun r_17 h => ?_)
              try dsimp only at h
              refine vp_callSi (rd_wS (wc := ([] : va_W)) (As := [.int r_15, .int z4, .int r_17]) (rest := []) hx hb hml hown ht (c2_X7_on h) wd_X7_on mw_1268 hQ hV va_S.rf (hP.sub [] rfl) rfl hl.1 rfl (Nat.le_of_ble_eq_true rfl) dX7_flapFor_65 ⟨Nat.le_of_ble_eq_true rfl, Nat.le_of_ble_eq_true rfl, rfl, rfl⟩ ⟨Nat.le_of_ble_eq_true rfl, Nat.le_of_ble_eq_true rfl⟩) (fun r_19 h => ?_)
              try dsimp only at h
              refine lv_aload_n hx hb dX7_flapFor_68 rfl (lv_at hl 4 rfl) ?_
              refine lv_iload_n hx hb dX7_flapFor_69 rfl (lv_at hl 0 rfl) ?_
              refine lv_iconst (v := 2) hx hb dX7_flapFor_70 (by decide) ?_
              refine vp_callSi (rd_wV (wc := md_v a0 q s0) (As := [.int z1, .int 2]) (rest := [.int r_19]) hx hb hml hown ht (c2_X7_of h) wd_X7_of mw_1249 hQ hV va_S.rf (hP.sub [0, 1, 2, 3, 4, 5, 6, 7] rfl) rfl rfl rfl hl.1 rfl (Nat.le_of_ble_eq_true rfl) dX7_flapFor_71 ⟨Nat.le_of_ble_eq_true rfl, Nat.le_of_ble_eq_true rfl, rfl, rfl⟩ ⟨Nat.le_of_ble_eq_true rfl, Nat.le_of_ble_eq_true rfl⟩) (fun r_21 h => ?_)
              try dsimp only at h
              refine lv_iload_n hx hb dX7_flapFor_74 rfl (lv_at hl 2 rfl) ?_
              refine lv_aload_n hx hb dX7_flapFor_75 rfl (lv_at hl 4 rfl) ?_
              refine lv_iload_n hx hb dX7_flapFor_76 rfl (lv_at hl 0 rfl) ?_
              refine vp_callSi (rd_wV (wc := md_v a0 q s0) (As := [.int z1]) (rest := [.int z3, .int r_21, .int r_19]) hx hb hml hown ht (c2_X7_flaps h) wd_X7_flaps mw_1245 hQ hV va_S.rf (hP.sub [0, 1, 2, 3, 4, 5, 6, 7] rfl) rfl rfl rfl hl.1 rfl (Nat.le_of_ble_eq_true rfl) dX7_flapFor_77 ⟨Nat.le_of_ble_eq_true rfl, Nat.le_of_ble_eq_true rfl, rfl, rfl⟩ ⟨Nat.le_of_ble_eq_true rfl, Nat.le_of_ble_eq_true rfl⟩) (fun r_23 h => ?_)
              try dsimp only at h
              refine vp_callSi (rd_wS (wc := ([] : va_W)) (As := [.int r_21, .int z3, .int r_23]) (rest := [.int r_19]) hx hb hml hown ht (c2_X7_on h) wd_X7_on mw_1268 hQ hV va_S.rf (hP.sub [] rfl) rfl hl.1 rfl (Nat.le_of_ble_eq_true rfl) dX7_flapFor_80 ⟨Nat.le_of_ble_eq_true rfl, Nat.le_of_ble_eq_true rfl, rfl, rfl⟩ ⟨Nat.le_of_ble_eq_true rfl, Nat.le_of_ble_eq_true rfl⟩) (fun r_25 h => ?_)
              try dsimp only at h
              refine lv_icmp_ge (tgt := 89) hx hb dX7_flapFor_83 (by decide) (fun c_27 => ?_) (fun c_27 => ?_)
              · replace h := h.1 c_27
                refine lv_iinc (v := (z4 + 1)) (lv' := [(4, .int (z4 + 1)), (1, .int z1), (2, .int z2), (3, .int z3), (0, .ref (a0 0))]) hx hb dX7_flapFor_89 hl (k := 3) rfl rfl (by decide) rfl (fun ls hl => ?_)
                refine lv_goto (tgt := 5) hx hb dX7_flapFor_92 (by decide) ?_
                exact ih _ _ _ _ ls h (lv_sub hl [1, 2, 3, 0, 4] rfl)
              · replace h := h.2 c_27
                refine lv_iload hx hb dX7_flapFor_86 (lv_at hl 3 rfl) ?_
                refine lv_istore_n (lv' := [(3, .int z4), (1, .int z1), (2, .int z2), (4, .int z4), (0, .ref (a0 0))]) hx hb dX7_flapFor_88 rfl hl (by decide) rfl (fun ls hl => ?_)
                refine lv_iinc (v := (z4 + 1)) (lv' := [(4, .int (z4 + 1)), (3, .int z4), (1, .int z1), (2, .int z2), (0, .ref (a0 0))]) hx hb dX7_flapFor_89 hl (k := 3) rfl rfl (by decide) rfl (fun ls hl => ?_)
                refine lv_goto (tgt := 5) hx hb dX7_flapFor_92 (by decide) ?_
                exact ih _ _ _ _ ls h (lv_sub hl [2, 3, 1, 0, 4] rfl)
          · replace h := h.2 c_13
            refine lv_goto (tgt := 89) hx hb dX7_flapFor_44 (by decide) ?_
            refine lv_iinc (v := (z4 + 1)) (lv' := [(4, .int (z4 + 1)), (1, .int z1), (2, .int z2), (3, .int z3), (0, .ref (a0 0))]) hx hb dX7_flapFor_89 hl (k := 3) rfl rfl (by decide) rfl (fun ls hl => ?_)
            refine lv_goto (tgt := 5) hx hb dX7_flapFor_92 (by decide) ?_
            exact ih _ _ _ _ ls h (lv_sub hl [1, 2, 3, 0, 4] rfl)
  obtain ⟨n5, h⟩ := h
  refine lp5 _ ?_ n5 _ _ _ _ ls h (lv_sub hl [3, 4, 1, 0, 2] rfl)
  · intro z1 z2 z3 z4 ls h hl
    try dsimp only at h
    refine lv_iload_n hx hb dX7_flapFor_95 rfl (lv_at hl 2 rfl) ?_
    exact rd_iret hx hb hr hk h dX7_flapFor_96

def wp_X7_wantsFlap (post : Md → Prop) (s0 : Md) (x1 : Int32) (x2 : Int32) (x3 : Int32) : Prop := wp_X7_sets (fun u_2 => ((x3 = 0 → post u_2) ∧ (¬ x3 = 0 → wp_X7_of (fun r_4 => ((x2 = r_4 → post u_2) ∧ (¬ x2 = r_4 → wp_X7_of (fun r_7 => wp_X7_of (fun r_9 => vp_in ((496 + (40 * ((40 * r_7) + r_9))) + x2) 6896 ∧ vp_in ((496 + (40 * ((40 * r_7) + r_9))) + x2) 6896 ∧ post (u_2.1, u_2.2.1, (va_up u_2.2.2.1 0 (vp_updL (u_2.2.2.1 0) (Int32.toNatClampNeg ((496 + (40 * ((40 * r_7) + r_9))) + x2)) (((u_2.2.2.1 0) (Int32.toNatClampNeg ((496 + (40 * ((40 * r_7) + r_9))) + x2))) + 1))), u_2.2.2.2)) u_2 x1 (2 : Int32)) u_2 x1 (0 : Int32)))) u_2 x1 (2 : Int32)))) s0 x1 (3 : Int32) (Int32.toInt64 x2)
set_option maxHeartbeats 4000000 in
set_option maxRecDepth 100000 in
theorem c2_X7_wantsFlap {l : Launch} {D : va_G} {q : Nat → ClassId} {sz : Nat} {a0 : Nat → Nat} {s0 : Md} {x1 : Int32} {x2 : Int32} {x3 : Int32} {post : Md → Prop} (h : wp_X7_wantsFlap post s0 x1 x2 x3) : Met l yX7_wantsFlap (Cond.code yX7_wantsFlap cX7_wantsFlap 4 none :: w_all) ({ frames := 1, cells := 0, slots := 0, locals := 24 } : Room) (mt_P D q [.ref (a0 0), .int x1, .int x2, .int x3] (md_v a0 q s0) sz) (va_Qv (fun u : Md => post u) (mt_B D (md_v a0 q s0) sz (fun u : Md => md_v a0 q u)) (va_A (md_v a0 q s0) sz)) 0 0 (va_A (md_v a0 q s0) sz) := by
  refine mt_start (by decide) (Nat.le_of_ble_eq_true rfl) ?_
  intro p e s m below meth c ls hx hb hr hml hown ht hk hin hP hQ hD hA hS hV hl
  have hK := hQ.1
  have hown : s.vm.findClass RX7 = some m.cls := hown
  have hl : lv_has ls 4 [(0, .ref (a0 0)), (1, .int x1), (2, .int x2), (3, .int x3)] := hl
  have hP : va_P D vwCl [((a0 0), .inr (6, [.ref (a0 1), .ref (a0 2), .int (s0.1 0), .ref (a0 3), .ref (a0 5), .ref (a0 4), .long s0.2.1, .int (s0.1 1), .int (s0.1 2), .ref (a0 6), .int (s0.1 3), .int (s0.1 4), .ref (a0 7), .int (s0.1 5), .int (s0.1 6), .int (s0.1 7), .int (s0.1 8), .int (s0.1 9), .int (s0.1 10), .int (s0.1 11), .int (s0.1 12), .int (s0.1 13), .int (s0.1 14)])), ((a0 1), .inl (q 1, 6896, .inr (.inl (s0.2.2.1 0)))), ((a0 2), .inl (q 1, 68960, .inr (.inl (s0.2.2.1 1)))), ((a0 3), .inl (q 1, 13792, .inr (.inl (s0.2.2.1 2)))), ((a0 4), .inl (q 1, 6896, .inr (.inl (s0.2.2.1 3)))), ((a0 5), .inl (q 3, 2, .inl (s0.2.2.2 0))), ((a0 6), .inl (q 0, 40, .inl (s0.2.2.2 1))), ((a0 7), .inl (q 2, 400, .inl (s0.2.2.2 2)))] s.heap := hP
  have hD : va_D _ [((a0 0), .inr (6, [.ref (a0 1), .ref (a0 2), .int (s0.1 0), .ref (a0 3), .ref (a0 5), .ref (a0 4), .long s0.2.1, .int (s0.1 1), .int (s0.1 2), .ref (a0 6), .int (s0.1 3), .int (s0.1 4), .ref (a0 7), .int (s0.1 5), .int (s0.1 6), .int (s0.1 7), .int (s0.1 8), .int (s0.1 9), .int (s0.1 10), .int (s0.1 11), .int (s0.1 12), .int (s0.1 13), .int (s0.1 14)])), ((a0 1), .inl (q 1, 6896, .inr (.inl (s0.2.2.1 0)))), ((a0 2), .inl (q 1, 68960, .inr (.inl (s0.2.2.1 1)))), ((a0 3), .inl (q 1, 13792, .inr (.inl (s0.2.2.1 2)))), ((a0 4), .inl (q 1, 6896, .inr (.inl (s0.2.2.1 3)))), ((a0 5), .inl (q 3, 2, .inl (s0.2.2.2 0))), ((a0 6), .inl (q 0, 40, .inl (s0.2.2.2 1))), ((a0 7), .inl (q 2, 400, .inl (s0.2.2.2 2)))] := hD
  unfold wp_X7_wantsFlap at h
  refine lv_aload_n hx hb dX7_wantsFlap_0 rfl (lv_at hl 0 rfl) ?_
  refine lv_iload_n hx hb dX7_wantsFlap_1 rfl (lv_at hl 1 rfl) ?_
  refine lv_iconst (v := 3) hx hb dX7_wantsFlap_2 (by decide) ?_
  refine lv_iload_n hx hb dX7_wantsFlap_3 rfl (lv_at hl 2 rfl) ?_
  refine lv_i2l (v := (Int32.toInt64 x2)) hx hb dX7_wantsFlap_4 rfl ?_
  refine mt_gov (mt_wV (wc := md_v a0 q s0) (As := [.int x1, .int 3, .long (Int32.toInt64 x2)]) (rest := []) hx hb hml hown ht (c2_X7_sets h) wd_X7_sets mw_1275 hQ hV hS hA (hP.sub [0, 1, 2, 3, 4, 5, 6, 7] rfl) (hD.sub [0, 1, 2, 3, 4, 5, 6, 7] (by decide) rfl) rfl rfl rfl hl.1 rfl (Nat.le_of_ble_eq_true rfl) dX7_wantsFlap_5 ⟨Nat.le_of_ble_eq_true rfl, Nat.le_of_ble_eq_true rfl, rfl, rfl⟩ ⟨Nat.le_of_ble_eq_true rfl, Nat.le_of_ble_eq_true rfl⟩) (wr := []) hP hD hS hA [0, 1, 2, 3, 4, 5, 6, 7] [] rfl rfl (by decide) (by decide) (fun u_2 H locs h hP hD hS => ?_)
  try dsimp only at h
  have hP : va_P D vwCl [((a0 0), .inr (6, [.ref (a0 1), .ref (a0 2), .int (u_2.1 0), .ref (a0 3), .ref (a0 5), .ref (a0 4), .long u_2.2.1, .int (u_2.1 1), .int (u_2.1 2), .ref (a0 6), .int (u_2.1 3), .int (u_2.1 4), .ref (a0 7), .int (u_2.1 5), .int (u_2.1 6), .int (u_2.1 7), .int (u_2.1 8), .int (u_2.1 9), .int (u_2.1 10), .int (u_2.1 11), .int (u_2.1 12), .int (u_2.1 13), .int (u_2.1 14)])), ((a0 1), .inl (q 1, 6896, .inr (.inl (u_2.2.2.1 0)))), ((a0 2), .inl (q 1, 68960, .inr (.inl (u_2.2.2.1 1)))), ((a0 3), .inl (q 1, 13792, .inr (.inl (u_2.2.2.1 2)))), ((a0 4), .inl (q 1, 6896, .inr (.inl (u_2.2.2.1 3)))), ((a0 5), .inl (q 3, 2, .inl (u_2.2.2.2 0))), ((a0 6), .inl (q 0, 40, .inl (u_2.2.2.2 1))), ((a0 7), .inl (q 2, 400, .inl (u_2.2.2.2 2)))] H := hP
  have hD : va_D _ [((a0 0), .inr (6, [.ref (a0 1), .ref (a0 2), .int (u_2.1 0), .ref (a0 3), .ref (a0 5), .ref (a0 4), .long u_2.2.1, .int (u_2.1 1), .int (u_2.1 2), .ref (a0 6), .int (u_2.1 3), .int (u_2.1 4), .ref (a0 7), .int (u_2.1 5), .int (u_2.1 6), .int (u_2.1 7), .int (u_2.1 8), .int (u_2.1 9), .int (u_2.1 10), .int (u_2.1 11), .int (u_2.1 12), .int (u_2.1 13), .int (u_2.1 14)])), ((a0 1), .inl (q 1, 6896, .inr (.inl (u_2.2.2.1 0)))), ((a0 2), .inl (q 1, 68960, .inr (.inl (u_2.2.2.1 1)))), ((a0 3), .inl (q 1, 13792, .inr (.inl (u_2.2.2.1 2)))), ((a0 4), .inl (q 1, 6896, .inr (.inl (u_2.2.2.1 3)))), ((a0 5), .inl (q 3, 2, .inl (u_2.2.2.2 0))), ((a0 6), .inl (q 0, 40, .inl (u_2.2.2.2 1))), ((a0 7), .inl (q 2, 400, .inl (u_2.2.2.2 2)))] := hD
  refine lv_iload_n hx hb dX7_wantsFlap_8 rfl (lv_at hl 3 rfl) ?_
  refine lv_if_eq (tgt := 56) hx hb dX7_wantsFlap_9 (by decide) (fun c_3 => ?_) (fun c_3 => ?_)
  · replace h := h.1 c_3
    exact mt_vret u_2 hx hb hr hk h (hP.sub (ws' := md_v a0 q u_2) [0, 1, 2, 3, 4, 5, 6, 7] rfl) (hD.sub (ws' := md_v a0 q u_2) [0, 1, 2, 3, 4, 5, 6, 7] (by decide) rfl) hS dX7_wantsFlap_56
  · replace h := h.2 c_3
    refine lv_iload_n hx hb dX7_wantsFlap_12 rfl (lv_at hl 2 rfl) ?_
    refine lv_aload_n hx hb dX7_wantsFlap_13 rfl (lv_at hl 0 rfl) ?_
    refine lv_iload_n hx hb dX7_wantsFlap_14 rfl (lv_at hl 1 rfl) ?_
    refine lv_iconst (v := 2) hx hb dX7_wantsFlap_15 (by decide) ?_
    refine vp_callSi (rd_wV (wc := md_v a0 q u_2) (As := [.int x1, .int 2]) (rest := [.int x2]) hx hb hml hown ht (c2_X7_of h) wd_X7_of mw_1249 hQ hV hS (hP.sub [0, 1, 2, 3, 4, 5, 6, 7] rfl) rfl rfl rfl hl.1 rfl (Nat.le_of_ble_eq_true rfl) dX7_wantsFlap_16 ⟨Nat.le_of_ble_eq_true rfl, Nat.le_of_ble_eq_true rfl, rfl, rfl⟩ ⟨Nat.le_of_ble_eq_true rfl, Nat.le_of_ble_eq_true rfl⟩) (fun r_4 h => ?_)
    try dsimp only at h
    refine lv_icmp_eq (tgt := 56) hx hb dX7_wantsFlap_19 (by decide) (fun c_6 => ?_) (fun c_6 => ?_)
    · replace h := h.1 c_6
      exact mt_vret u_2 hx hb hr hk h (hP.sub (ws' := md_v a0 q u_2) [0, 1, 2, 3, 4, 5, 6, 7] rfl) (hD.sub (ws' := md_v a0 q u_2) [0, 1, 2, 3, 4, 5, 6, 7] (by decide) rfl) hS dX7_wantsFlap_56
    · replace h := h.2 c_6
      refine lv_aload_n hx hb dX7_wantsFlap_22 rfl (lv_at hl 0 rfl) ?_
      refine fl_get (C := RX7) (T := TX7) (N := 23) (ci := 6) (v := .ref (a0 1)) hx hb ht in_X7 hown hK hP 0 rfl rfl 0 (by decide) mw_1130 rfl dX7_wantsFlap_23 ?_
      refine lv_sipush (v := 496) hx hb dX7_wantsFlap_26 (by decide) ?_
      refine lv_bipush (v := 40) hx hb dX7_wantsFlap_29 (by decide) ?_
      refine lv_bipush (v := 40) hx hb dX7_wantsFlap_31 (by decide) ?_
      refine lv_aload_n hx hb dX7_wantsFlap_33 rfl (lv_at hl 0 rfl) ?_
      refine lv_iload_n hx hb dX7_wantsFlap_34 rfl (lv_at hl 1 rfl) ?_
      refine lv_iconst (v := 0) hx hb dX7_wantsFlap_35 (by decide) ?_
      refine vp_callSi (rd_wV (wc := md_v a0 q u_2) (As := [.int x1, .int 0]) (rest := [.int 40, .int 40, .int 496, .ref (a0 1)]) hx hb hml hown ht (c2_X7_of h) wd_X7_of mw_1249 hQ hV hS (hP.sub [0, 1, 2, 3, 4, 5, 6, 7] rfl) rfl rfl rfl hl.1 rfl (Nat.le_of_ble_eq_true rfl) dX7_wantsFlap_36 ⟨Nat.le_of_ble_eq_true rfl, Nat.le_of_ble_eq_true rfl, rfl, rfl⟩ ⟨Nat.le_of_ble_eq_true rfl, Nat.le_of_ble_eq_true rfl⟩) (fun r_7 h => ?_)
      try dsimp only at h
      refine lv_imul hx hb dX7_wantsFlap_39 ?_
      refine lv_aload_n hx hb dX7_wantsFlap_40 rfl (lv_at hl 0 rfl) ?_
      refine lv_iload_n hx hb dX7_wantsFlap_41 rfl (lv_at hl 1 rfl) ?_
      refine lv_iconst (v := 2) hx hb dX7_wantsFlap_42 (by decide) ?_
      refine vp_callSi (rd_wV (wc := md_v a0 q u_2) (As := [.int x1, .int 2]) (rest := [.int (40 * r_7), .int 40, .int 496, .ref (a0 1)]) hx hb hml hown ht (c2_X7_of h) wd_X7_of mw_1249 hQ hV hS (hP.sub [0, 1, 2, 3, 4, 5, 6, 7] rfl) rfl rfl rfl hl.1 rfl (Nat.le_of_ble_eq_true rfl) dX7_wantsFlap_43 ⟨Nat.le_of_ble_eq_true rfl, Nat.le_of_ble_eq_true rfl, rfl, rfl⟩ ⟨Nat.le_of_ble_eq_true rfl, Nat.le_of_ble_eq_true rfl⟩) (fun r_9 h => ?_)
      try dsimp only at h
      refine lv_iadd hx hb dX7_wantsFlap_46 ?_
      refine lv_imul hx hb dX7_wantsFlap_47 ?_
      refine lv_iadd hx hb dX7_wantsFlap_48 ?_
      refine lv_iload_n hx hb dX7_wantsFlap_49 rfl (lv_at hl 2 rfl) ?_
      refine lv_iadd hx hb dX7_wantsFlap_50 ?_
      refine lv_dup2_11 hx hb dX7_wantsFlap_51 rfl rfl ?_
      obtain ⟨g_11, h⟩ := h
      refine va_lald hx hb hK hP 1 1 rfl rfl g_11 dX7_wantsFlap_52 ?_
      refine lv_lconst (v := 1) hx hb dX7_wantsFlap_53 (by decide) ?_
      refine lv_ladd hx hb dX7_wantsFlap_54 ?_
      obtain ⟨g_12, h⟩ := h
      refine va_last hx hb hK hP hD hS 1 1 rfl rfl g_12 dX7_wantsFlap_55 (fun H locs hP hD hS => ?_)
      have hP : va_P D vwCl [((a0 0), .inr (6, [.ref (a0 1), .ref (a0 2), .int (u_2.1 0), .ref (a0 3), .ref (a0 5), .ref (a0 4), .long u_2.2.1, .int (u_2.1 1), .int (u_2.1 2), .ref (a0 6), .int (u_2.1 3), .int (u_2.1 4), .ref (a0 7), .int (u_2.1 5), .int (u_2.1 6), .int (u_2.1 7), .int (u_2.1 8), .int (u_2.1 9), .int (u_2.1 10), .int (u_2.1 11), .int (u_2.1 12), .int (u_2.1 13), .int (u_2.1 14)])), ((a0 1), .inl (q 1, 6896, .inr (.inl (vp_updL (u_2.2.2.1 0) (Int32.toNatClampNeg ((496 + (40 * ((40 * r_7) + r_9))) + x2)) (((u_2.2.2.1 0) (Int32.toNatClampNeg ((496 + (40 * ((40 * r_7) + r_9))) + x2))) + 1))))), ((a0 2), .inl (q 1, 68960, .inr (.inl (u_2.2.2.1 1)))), ((a0 3), .inl (q 1, 13792, .inr (.inl (u_2.2.2.1 2)))), ((a0 4), .inl (q 1, 6896, .inr (.inl (u_2.2.2.1 3)))), ((a0 5), .inl (q 3, 2, .inl (u_2.2.2.2 0))), ((a0 6), .inl (q 0, 40, .inl (u_2.2.2.2 1))), ((a0 7), .inl (q 2, 400, .inl (u_2.2.2.2 2)))] H := hP
      have hD : va_D _ [((a0 0), .inr (6, [.ref (a0 1), .ref (a0 2), .int (u_2.1 0), .ref (a0 3), .ref (a0 5), .ref (a0 4), .long u_2.2.1, .int (u_2.1 1), .int (u_2.1 2), .ref (a0 6), .int (u_2.1 3), .int (u_2.1 4), .ref (a0 7), .int (u_2.1 5), .int (u_2.1 6), .int (u_2.1 7), .int (u_2.1 8), .int (u_2.1 9), .int (u_2.1 10), .int (u_2.1 11), .int (u_2.1 12), .int (u_2.1 13), .int (u_2.1 14)])), ((a0 1), .inl (q 1, 6896, .inr (.inl (vp_updL (u_2.2.2.1 0) (Int32.toNatClampNeg ((496 + (40 * ((40 * r_7) + r_9))) + x2)) (((u_2.2.2.1 0) (Int32.toNatClampNeg ((496 + (40 * ((40 * r_7) + r_9))) + x2))) + 1))))), ((a0 2), .inl (q 1, 68960, .inr (.inl (u_2.2.2.1 1)))), ((a0 3), .inl (q 1, 13792, .inr (.inl (u_2.2.2.1 2)))), ((a0 4), .inl (q 1, 6896, .inr (.inl (u_2.2.2.1 3)))), ((a0 5), .inl (q 3, 2, .inl (u_2.2.2.2 0))), ((a0 6), .inl (q 0, 40, .inl (u_2.2.2.2 1))), ((a0 7), .inl (q 2, 400, .inl (u_2.2.2.2 2)))] := hD
      exact mt_vret (u_2.1, u_2.2.1, (va_up u_2.2.2.1 0 (vp_updL (u_2.2.2.1 0) (Int32.toNatClampNeg ((496 + (40 * ((40 * r_7) + r_9))) + x2)) (((u_2.2.2.1 0) (Int32.toNatClampNeg ((496 + (40 * ((40 * r_7) + r_9))) + x2))) + 1))), u_2.2.2.2) hx hb hr hk h (hP.sub (ws' := md_v a0 q (u_2.1, u_2.2.1, (va_up u_2.2.2.1 0 (vp_updL (u_2.2.2.1 0) (Int32.toNatClampNeg ((496 + (40 * ((40 * r_7) + r_9))) + x2)) (((u_2.2.2.1 0) (Int32.toNatClampNeg ((496 + (40 * ((40 * r_7) + r_9))) + x2))) + 1))), u_2.2.2.2)) [0, 1, 2, 3, 4, 5, 6, 7] rfl) (hD.sub (ws' := md_v a0 q (u_2.1, u_2.2.1, (va_up u_2.2.2.1 0 (vp_updL (u_2.2.2.1 0) (Int32.toNatClampNeg ((496 + (40 * ((40 * r_7) + r_9))) + x2)) (((u_2.2.2.1 0) (Int32.toNatClampNeg ((496 + (40 * ((40 * r_7) + r_9))) + x2))) + 1))), u_2.2.2.2)) [0, 1, 2, 3, 4, 5, 6, 7] (by decide) rfl) hS dX7_wantsFlap_56

def wp_X7_wantsSigns_L6 (post : Int32 → Md → Prop) (e81 : Md → Int32 → Int32 → Int32 → Int32 → Int32 → Int32 → Prop) : Nat → Md → Int32 → Int32 → Int32 → Int32 → Int32 → Int32 → Prop
  | 0, _, _, _, _, _, _, _ => False
  | n6 + 1, t0, z1, z2, z3, z4, z5, z6 => wp_X7_wide (fun r_1 => ((r_1 ≤ z6 → e81 t0 z1 z2 z3 z4 z5 z6) ∧ (¬ r_1 ≤ z6 → wp_X7_wide (fun r_4 => ((z3 ≤ z6 → wp_X7_wantsFlap (fun u_8 => wp_X7_wantsSigns_L6 post e81 n6 u_8 z1 z2 z3 z4 z5 (z6 + 1)) t0 ((r_4 * z1) + z6) (0 : Int32) z4) ∧ (¬ z3 ≤ z6 → vp_in (z2 + z6) 400 ∧ wp_X7_flapFor (fun r_10 => ((¬ r_10 = (-1) → wp_X7_wantsFlap (fun u_14 => wp_X7_wantsSigns_L6 post e81 n6 u_14 z1 z2 z3 z4 z5 (z6 + 1)) t0 ((r_4 * z1) + z6) r_10 z4) ∧ (r_10 = (-1) → wp_X7_wantsSigns_L6 post e81 n6 t0 z1 z2 z3 z4 (z5 + 1) (z6 + 1)))) t0 ((r_4 * z1) + z6) ((t0.2.2.2 2) (Int32.toNatClampNeg (z2 + z6)))))) t0))) t0
def wp_X7_wantsSigns (post : Int32 → Md → Prop) (s0 : Md) (x1 : Int32) (x2 : Int32) (x3 : Int32) (x4 : Int32) : Prop := (∃ n6, wp_X7_wantsSigns_L6 post (fun t0 z1 z2 z3 z4 z5 z6 => post z5 t0) n6 s0 x1 x2 x3 x4 0 0)
set_option maxHeartbeats 4000000 in
set_option maxRecDepth 100000 in
theorem c2_X7_wantsSigns {l : Launch} {D : va_G} {q : Nat → ClassId} {sz : Nat} {a0 : Nat → Nat} {s0 : Md} {x1 : Int32} {x2 : Int32} {x3 : Int32} {x4 : Int32} {post : Int32 → Md → Prop} (h : wp_X7_wantsSigns post s0 x1 x2 x3 x4) : Met l yX7_wantsSigns (Cond.code yX7_wantsSigns cX7_wantsSigns 9 (some .int) :: w_all) ({ frames := 3, cells := 0, slots := 0, locals := 67 } : Room) (mt_P D q [.ref (a0 0), .int x1, .int x2, .int x3, .int x4] (md_v a0 q s0) sz) (va_Qi (fun r (u : Md) => post r u) (mt_B D (md_v a0 q s0) sz (fun u : Md => md_v a0 q u)) (va_A (md_v a0 q s0) sz)) 0 0 (va_A (md_v a0 q s0) sz) := by
  refine mt_start (by decide) (Nat.le_of_ble_eq_true rfl) ?_
  intro p e s m below meth c ls hx hb hr hml hown ht hk hin hP hQ hD hA hS hV hl
  have hK := hQ.1
  have hown : s.vm.findClass RX7 = some m.cls := hown
  have hl : lv_has ls 9 [(0, .ref (a0 0)), (1, .int x1), (2, .int x2), (3, .int x3), (4, .int x4)] := hl
  have hP : va_P D vwCl [((a0 0), .inr (6, [.ref (a0 1), .ref (a0 2), .int (s0.1 0), .ref (a0 3), .ref (a0 5), .ref (a0 4), .long s0.2.1, .int (s0.1 1), .int (s0.1 2), .ref (a0 6), .int (s0.1 3), .int (s0.1 4), .ref (a0 7), .int (s0.1 5), .int (s0.1 6), .int (s0.1 7), .int (s0.1 8), .int (s0.1 9), .int (s0.1 10), .int (s0.1 11), .int (s0.1 12), .int (s0.1 13), .int (s0.1 14)])), ((a0 1), .inl (q 1, 6896, .inr (.inl (s0.2.2.1 0)))), ((a0 2), .inl (q 1, 68960, .inr (.inl (s0.2.2.1 1)))), ((a0 3), .inl (q 1, 13792, .inr (.inl (s0.2.2.1 2)))), ((a0 4), .inl (q 1, 6896, .inr (.inl (s0.2.2.1 3)))), ((a0 5), .inl (q 3, 2, .inl (s0.2.2.2 0))), ((a0 6), .inl (q 0, 40, .inl (s0.2.2.2 1))), ((a0 7), .inl (q 2, 400, .inl (s0.2.2.2 2)))] s.heap := hP
  have hD : va_D _ [((a0 0), .inr (6, [.ref (a0 1), .ref (a0 2), .int (s0.1 0), .ref (a0 3), .ref (a0 5), .ref (a0 4), .long s0.2.1, .int (s0.1 1), .int (s0.1 2), .ref (a0 6), .int (s0.1 3), .int (s0.1 4), .ref (a0 7), .int (s0.1 5), .int (s0.1 6), .int (s0.1 7), .int (s0.1 8), .int (s0.1 9), .int (s0.1 10), .int (s0.1 11), .int (s0.1 12), .int (s0.1 13), .int (s0.1 14)])), ((a0 1), .inl (q 1, 6896, .inr (.inl (s0.2.2.1 0)))), ((a0 2), .inl (q 1, 68960, .inr (.inl (s0.2.2.1 1)))), ((a0 3), .inl (q 1, 13792, .inr (.inl (s0.2.2.1 2)))), ((a0 4), .inl (q 1, 6896, .inr (.inl (s0.2.2.1 3)))), ((a0 5), .inl (q 3, 2, .inl (s0.2.2.2 0))), ((a0 6), .inl (q 0, 40, .inl (s0.2.2.2 1))), ((a0 7), .inl (q 2, 400, .inl (s0.2.2.2 2)))] := hD
  unfold wp_X7_wantsSigns at h
  refine lv_iconst (v := 0) hx hb dX7_wantsSigns_0 (by decide) ?_
  refine lv_istore (lv' := [(5, .int 0), (0, .ref (a0 0)), (1, .int x1), (2, .int x2), (3, .int x3), (4, .int x4)]) hx hb dX7_wantsSigns_1 hl (by decide) rfl (fun ls hl => ?_)
  refine lv_iconst (v := 0) hx hb dX7_wantsSigns_3 (by decide) ?_
  refine lv_istore (lv' := [(6, .int 0), (5, .int 0), (0, .ref (a0 0)), (1, .int x1), (2, .int x2), (3, .int x3), (4, .int x4)]) hx hb dX7_wantsSigns_4 hl (by decide) rfl (fun ls hl => ?_)
  have lp6 : ∀ (e81 : Md → Int32 → Int32 → Int32 → Int32 → Int32 → Int32 → Prop) (k81 : ∀ (t0 : Md) (z1 : Int32) (z2 : Int32) (z3 : Int32) (z4 : Int32) (z5 : Int32) (z6 : Int32) (H : Heap) (locs : List Loc) (ls : Array Slot), e81 t0 z1 z2 z3 z4 z5 z6 → va_P D vwCl (md_v a0 q t0) H → va_D (va_A (md_v a0 q s0) sz) (md_v a0 q t0) → va_S (va_A (md_v a0 q s0) sz) s.heap H locs → lv_has ls 9 [(1, .int z1), (2, .int z2), (3, .int z3), (4, .int z4), (5, .int z5), (6, .int z6), (0, .ref (a0 0))] → W p l e ({ frames := 3, cells := 0, slots := 0, locals := 67 } : Room) s m [.ref (a0 0), .int x1, .int x2, .int x3, .int x4].toArray below meth c H locs 0 0 (MQ below (va_Qi (fun r (u : Md) => post r u) (mt_B D (md_v a0 q s0) sz (fun u : Md => md_v a0 q u)) (va_A (md_v a0 q s0) sz)) [.ref (a0 0), .int x1, .int x2, .int x3, .int x4].toArray s 0 0 (va_A (md_v a0 q s0) sz)) (F0 m 81 ls [])) (n : Nat) (t0 : Md) (z1 : Int32) (z2 : Int32) (z3 : Int32) (z4 : Int32) (z5 : Int32) (z6 : Int32) (H : Heap) (locs : List Loc) (ls : Array Slot), wp_X7_wantsSigns_L6 post e81 n t0 z1 z2 z3 z4 z5 z6 → va_P D vwCl (md_v a0 q t0) H → va_D (va_A (md_v a0 q s0) sz) (md_v a0 q t0) → va_S (va_A (md_v a0 q s0) sz) s.heap H locs → lv_has ls 9 [(1, .int z1), (2, .int z2), (3, .int z3), (4, .int z4), (5, .int z5), (6, .int z6), (0, .ref (a0 0))] → W p l e ({ frames := 3, cells := 0, slots := 0, locals := 67 } : Room) s m [.ref (a0 0), .int x1, .int x2, .int x3, .int x4].toArray below meth c H locs 0 0 (MQ below (va_Qi (fun r (u : Md) => post r u) (mt_B D (md_v a0 q s0) sz (fun u : Md => md_v a0 q u)) (va_A (md_v a0 q s0) sz)) [.ref (a0 0), .int x1, .int x2, .int x3, .int x4].toArray s 0 0 (va_A (md_v a0 q s0) sz)) (F0 m 6 ls []) := by
    intro e81 k81 n
    induction n with
    | zero =>
      intro t0 z1 z2 z3 z4 z5 z6 H locs ls h
      exact h.elim
    | succ n ih =>
      intro t0 z1 z2 z3 z4 z5 z6 H locs ls h hP hD hS hl
      have hP : va_P D vwCl [((a0 0), .inr (6, [.ref (a0 1), .ref (a0 2), .int (t0.1 0), .ref (a0 3), .ref (a0 5), .ref (a0 4), .long t0.2.1, .int (t0.1 1), .int (t0.1 2), .ref (a0 6), .int (t0.1 3), .int (t0.1 4), .ref (a0 7), .int (t0.1 5), .int (t0.1 6), .int (t0.1 7), .int (t0.1 8), .int (t0.1 9), .int (t0.1 10), .int (t0.1 11), .int (t0.1 12), .int (t0.1 13), .int (t0.1 14)])), ((a0 1), .inl (q 1, 6896, .inr (.inl (t0.2.2.1 0)))), ((a0 2), .inl (q 1, 68960, .inr (.inl (t0.2.2.1 1)))), ((a0 3), .inl (q 1, 13792, .inr (.inl (t0.2.2.1 2)))), ((a0 4), .inl (q 1, 6896, .inr (.inl (t0.2.2.1 3)))), ((a0 5), .inl (q 3, 2, .inl (t0.2.2.2 0))), ((a0 6), .inl (q 0, 40, .inl (t0.2.2.2 1))), ((a0 7), .inl (q 2, 400, .inl (t0.2.2.2 2)))] H := hP
      have hD : va_D _ [((a0 0), .inr (6, [.ref (a0 1), .ref (a0 2), .int (t0.1 0), .ref (a0 3), .ref (a0 5), .ref (a0 4), .long t0.2.1, .int (t0.1 1), .int (t0.1 2), .ref (a0 6), .int (t0.1 3), .int (t0.1 4), .ref (a0 7), .int (t0.1 5), .int (t0.1 6), .int (t0.1 7), .int (t0.1 8), .int (t0.1 9), .int (t0.1 10), .int (t0.1 11), .int (t0.1 12), .int (t0.1 13), .int (t0.1 14)])), ((a0 1), .inl (q 1, 6896, .inr (.inl (t0.2.2.1 0)))), ((a0 2), .inl (q 1, 68960, .inr (.inl (t0.2.2.1 1)))), ((a0 3), .inl (q 1, 13792, .inr (.inl (t0.2.2.1 2)))), ((a0 4), .inl (q 1, 6896, .inr (.inl (t0.2.2.1 3)))), ((a0 5), .inl (q 3, 2, .inl (t0.2.2.2 0))), ((a0 6), .inl (q 0, 40, .inl (t0.2.2.2 1))), ((a0 7), .inl (q 2, 400, .inl (t0.2.2.2 2)))] := hD
      unfold wp_X7_wantsSigns_L6 at h
      refine lv_iload hx hb dX7_wantsSigns_6 (lv_at hl 5 rfl) ?_
      refine lv_aload_n hx hb dX7_wantsSigns_8 rfl (lv_at hl 6 rfl) ?_
      refine vp_callSi (rd_wV (wc := md_v a0 q t0) (As := []) (rest := [.int z6]) hx hb hml hown ht (c2_X7_wide h) wd_X7_wide mw_1220 hQ hV hS (hP.sub [0, 1, 2, 3, 4, 5, 6, 7] rfl) rfl rfl rfl hl.1 rfl (Nat.le_of_ble_eq_true rfl) dX7_wantsSigns_9 ⟨Nat.le_of_ble_eq_true rfl, Nat.le_of_ble_eq_true rfl, rfl, rfl⟩ ⟨Nat.le_of_ble_eq_true rfl, Nat.le_of_ble_eq_true rfl⟩) (fun r_1 h => ?_)
      try dsimp only at h
      refine lv_icmp_ge (tgt := 81) hx hb dX7_wantsSigns_12 (by decide) (fun c_3 => ?_) (fun c_3 => ?_)
      · replace h := h.1 c_3
        exact k81 _ _ _ _ _ _ _ _ _ ls h (hP.sub (ws' := md_v a0 q t0) [0, 1, 2, 3, 4, 5, 6, 7] rfl) (hD.sub (ws' := md_v a0 q t0) [0, 1, 2, 3, 4, 5, 6, 7] (by decide) rfl) hS (lv_sub hl [0, 1, 2, 3, 4, 5, 6] rfl)
      · replace h := h.2 c_3
        refine lv_aload_n hx hb dX7_wantsSigns_15 rfl (lv_at hl 6 rfl) ?_
        refine vp_callSi (rd_wV (wc := md_v a0 q t0) (As := []) (rest := []) hx hb hml hown ht (c2_X7_wide h) wd_X7_wide mw_1220 hQ hV hS (hP.sub [0, 1, 2, 3, 4, 5, 6, 7] rfl) rfl rfl rfl hl.1 rfl (Nat.le_of_ble_eq_true rfl) dX7_wantsSigns_16 ⟨Nat.le_of_ble_eq_true rfl, Nat.le_of_ble_eq_true rfl, rfl, rfl⟩ ⟨Nat.le_of_ble_eq_true rfl, Nat.le_of_ble_eq_true rfl⟩) (fun r_4 h => ?_)
        try dsimp only at h
        refine lv_iload_n hx hb dX7_wantsSigns_19 rfl (lv_at hl 0 rfl) ?_
        refine lv_imul hx hb dX7_wantsSigns_20 ?_
        refine lv_iload hx hb dX7_wantsSigns_21 (lv_at hl 5 rfl) ?_
        refine lv_iadd hx hb dX7_wantsSigns_23 ?_
        refine lv_istore (lv' := [(7, .int ((r_4 * z1) + z6)), (1, .int z1), (2, .int z2), (3, .int z3), (4, .int z4), (5, .int z5), (6, .int z6), (0, .ref (a0 0))]) hx hb dX7_wantsSigns_24 hl (by decide) rfl (fun ls hl => ?_)
        refine lv_iload hx hb dX7_wantsSigns_26 (lv_at hl 6 rfl) ?_
        refine lv_iload_n hx hb dX7_wantsSigns_28 rfl (lv_at hl 3 rfl) ?_
        refine lv_icmp_ge (tgt := 50) hx hb dX7_wantsSigns_29 (by decide) (fun c_6 => ?_) (fun c_6 => ?_)
        · replace h := h.1 c_6
          refine lv_iconst (v := 0) hx hb dX7_wantsSigns_50 (by decide) ?_
          refine lv_istore (lv' := [(8, .int 0), (7, .int ((r_4 * z1) + z6)), (1, .int z1), (2, .int z2), (3, .int z3), (4, .int z4), (5, .int z5), (6, .int z6), (0, .ref (a0 0))]) hx hb dX7_wantsSigns_51 hl (by decide) rfl (fun ls hl => ?_)
          refine lv_iload hx hb dX7_wantsSigns_53 (lv_at hl 0 rfl) ?_
          refine lv_iconst (v := (-1)) hx hb dX7_wantsSigns_55 (by decide) ?_
          refine lv_icmp_ne (tgt := 65) hx hb dX7_wantsSigns_56 (by decide) (fun _ => ?_) (fun c9 => absurd c9 (by decide))
          refine lv_aload_n hx hb dX7_wantsSigns_65 rfl (lv_at hl 8 rfl) ?_
          refine lv_iload hx hb dX7_wantsSigns_66 (lv_at hl 1 rfl) ?_
          refine lv_iload hx hb dX7_wantsSigns_68 (lv_at hl 0 rfl) ?_
          refine lv_iload hx hb dX7_wantsSigns_70 (lv_at hl 5 rfl) ?_
          refine mt_gov (mt_wV (wc := md_v a0 q t0) (As := [.int ((r_4 * z1) + z6), .int 0, .int z4]) (rest := []) hx hb hml hown ht (c2_X7_wantsFlap h) wd_X7_wantsFlap mw_1271 hQ hV hS hA (hP.sub [0, 1, 2, 3, 4, 5, 6, 7] rfl) (hD.sub [0, 1, 2, 3, 4, 5, 6, 7] (by decide) rfl) rfl rfl rfl hl.1 rfl (Nat.le_of_ble_eq_true rfl) dX7_wantsSigns_72 ⟨Nat.le_of_ble_eq_true rfl, Nat.le_of_ble_eq_true rfl, rfl, rfl⟩ ⟨Nat.le_of_ble_eq_true rfl, Nat.le_of_ble_eq_true rfl⟩) (wr := []) hP hD hS hA [0, 1, 2, 3, 4, 5, 6, 7] [] rfl rfl (by decide) (by decide) (fun u_8 H locs h hP hD hS => ?_)
          try dsimp only at h
          have hP : va_P D vwCl [((a0 0), .inr (6, [.ref (a0 1), .ref (a0 2), .int (u_8.1 0), .ref (a0 3), .ref (a0 5), .ref (a0 4), .long u_8.2.1, .int (u_8.1 1), .int (u_8.1 2), .ref (a0 6), .int (u_8.1 3), .int (u_8.1 4), .ref (a0 7), .int (u_8.1 5), .int (u_8.1 6), .int (u_8.1 7), .int (u_8.1 8), .int (u_8.1 9), .int (u_8.1 10), .int (u_8.1 11), .int (u_8.1 12), .int (u_8.1 13), .int (u_8.1 14)])), ((a0 1), .inl (q 1, 6896, .inr (.inl (u_8.2.2.1 0)))), ((a0 2), .inl (q 1, 68960, .inr (.inl (u_8.2.2.1 1)))), ((a0 3), .inl (q 1, 13792, .inr (.inl (u_8.2.2.1 2)))), ((a0 4), .inl (q 1, 6896, .inr (.inl (u_8.2.2.1 3)))), ((a0 5), .inl (q 3, 2, .inl (u_8.2.2.2 0))), ((a0 6), .inl (q 0, 40, .inl (u_8.2.2.2 1))), ((a0 7), .inl (q 2, 400, .inl (u_8.2.2.2 2)))] H := hP
          have hD : va_D _ [((a0 0), .inr (6, [.ref (a0 1), .ref (a0 2), .int (u_8.1 0), .ref (a0 3), .ref (a0 5), .ref (a0 4), .long u_8.2.1, .int (u_8.1 1), .int (u_8.1 2), .ref (a0 6), .int (u_8.1 3), .int (u_8.1 4), .ref (a0 7), .int (u_8.1 5), .int (u_8.1 6), .int (u_8.1 7), .int (u_8.1 8), .int (u_8.1 9), .int (u_8.1 10), .int (u_8.1 11), .int (u_8.1 12), .int (u_8.1 13), .int (u_8.1 14)])), ((a0 1), .inl (q 1, 6896, .inr (.inl (u_8.2.2.1 0)))), ((a0 2), .inl (q 1, 68960, .inr (.inl (u_8.2.2.1 1)))), ((a0 3), .inl (q 1, 13792, .inr (.inl (u_8.2.2.1 2)))), ((a0 4), .inl (q 1, 6896, .inr (.inl (u_8.2.2.1 3)))), ((a0 5), .inl (q 3, 2, .inl (u_8.2.2.2 0))), ((a0 6), .inl (q 0, 40, .inl (u_8.2.2.2 1))), ((a0 7), .inl (q 2, 400, .inl (u_8.2.2.2 2)))] := hD
          refine lv_iinc (v := (z6 + 1)) (lv' := [(6, .int (z6 + 1)), (8, .int 0), (7, .int ((r_4 * z1) + z6)), (1, .int z1), (2, .int z2), (3, .int z3), (4, .int z4), (5, .int z5), (0, .ref (a0 0))]) hx hb dX7_wantsSigns_75 hl (k := 7) rfl rfl (by decide) rfl (fun ls hl => ?_)
          refine lv_goto (tgt := 6) hx hb dX7_wantsSigns_78 (by decide) ?_
          exact ih _ _ _ _ _ _ _ _ _ ls h (hP.sub (ws' := md_v a0 q u_8) [0, 1, 2, 3, 4, 5, 6, 7] rfl) (hD.sub (ws' := md_v a0 q u_8) [0, 1, 2, 3, 4, 5, 6, 7] (by decide) rfl) hS (lv_sub hl [3, 4, 5, 6, 7, 0, 8] rfl)
        · replace h := h.2 c_6
          refine lv_aload_n hx hb dX7_wantsSigns_32 rfl (lv_at hl 7 rfl) ?_
          refine lv_iload hx hb dX7_wantsSigns_33 (lv_at hl 0 rfl) ?_
          refine lv_aload_n hx hb dX7_wantsSigns_35 rfl (lv_at hl 7 rfl) ?_
          refine fl_get (C := RX7) (T := TX7) (N := 23) (ci := 6) (v := .ref (a0 7)) hx hb ht in_X7 hown hK hP 0 rfl rfl 12 (by decide) mw_1142 rfl dX7_wantsSigns_36 ?_
          refine lv_iload_n hx hb dX7_wantsSigns_39 rfl (lv_at hl 2 rfl) ?_
          refine lv_iload hx hb dX7_wantsSigns_40 (lv_at hl 6 rfl) ?_
          refine lv_iadd hx hb dX7_wantsSigns_42 ?_
          obtain ⟨g_9, h⟩ := h
          refine va_bald hx hb hK hP 7 2 rfl rfl g_9 dX7_wantsSigns_43 ?_
          refine vp_callSi (rd_wV (wc := md_v a0 q t0) (As := [.int ((r_4 * z1) + z6), .int ((t0.2.2.2 2) (Int32.toNatClampNeg (z2 + z6)))]) (rest := []) hx hb hml hown ht (c2_X7_flapFor h) wd_X7_flapFor mw_1241 hQ hV hS (hP.sub [0, 1, 2, 3, 4, 5, 6, 7] rfl) rfl rfl rfl hl.1 rfl (Nat.le_of_ble_eq_true rfl) dX7_wantsSigns_44 ⟨Nat.le_of_ble_eq_true rfl, Nat.le_of_ble_eq_true rfl, rfl, rfl⟩ ⟨Nat.le_of_ble_eq_true rfl, Nat.le_of_ble_eq_true rfl⟩) (fun r_10 h => ?_)
          try dsimp only at h
          refine lv_goto (tgt := 51) hx hb dX7_wantsSigns_47 (by decide) ?_
          refine lv_istore (lv' := [(8, .int r_10), (7, .int ((r_4 * z1) + z6)), (1, .int z1), (2, .int z2), (3, .int z3), (4, .int z4), (5, .int z5), (6, .int z6), (0, .ref (a0 0))]) hx hb dX7_wantsSigns_51 hl (by decide) rfl (fun ls hl => ?_)
          refine lv_iload hx hb dX7_wantsSigns_53 (lv_at hl 0 rfl) ?_
          refine lv_iconst (v := (-1)) hx hb dX7_wantsSigns_55 (by decide) ?_
          refine lv_icmp_ne (tgt := 65) hx hb dX7_wantsSigns_56 (by decide) (fun c_12 => ?_) (fun c_12 => ?_)
          · replace h := h.1 c_12
            refine lv_aload_n hx hb dX7_wantsSigns_65 rfl (lv_at hl 8 rfl) ?_
            refine lv_iload hx hb dX7_wantsSigns_66 (lv_at hl 1 rfl) ?_
            refine lv_iload hx hb dX7_wantsSigns_68 (lv_at hl 0 rfl) ?_
            refine lv_iload hx hb dX7_wantsSigns_70 (lv_at hl 5 rfl) ?_
            refine mt_gov (mt_wV (wc := md_v a0 q t0) (As := [.int ((r_4 * z1) + z6), .int r_10, .int z4]) (rest := []) hx hb hml hown ht (c2_X7_wantsFlap h) wd_X7_wantsFlap mw_1271 hQ hV hS hA (hP.sub [0, 1, 2, 3, 4, 5, 6, 7] rfl) (hD.sub [0, 1, 2, 3, 4, 5, 6, 7] (by decide) rfl) rfl rfl rfl hl.1 rfl (Nat.le_of_ble_eq_true rfl) dX7_wantsSigns_72 ⟨Nat.le_of_ble_eq_true rfl, Nat.le_of_ble_eq_true rfl, rfl, rfl⟩ ⟨Nat.le_of_ble_eq_true rfl, Nat.le_of_ble_eq_true rfl⟩) (wr := []) hP hD hS hA [0, 1, 2, 3, 4, 5, 6, 7] [] rfl rfl (by decide) (by decide) (fun u_14 H locs h hP hD hS => ?_)
            try dsimp only at h
            have hP : va_P D vwCl [((a0 0), .inr (6, [.ref (a0 1), .ref (a0 2), .int (u_14.1 0), .ref (a0 3), .ref (a0 5), .ref (a0 4), .long u_14.2.1, .int (u_14.1 1), .int (u_14.1 2), .ref (a0 6), .int (u_14.1 3), .int (u_14.1 4), .ref (a0 7), .int (u_14.1 5), .int (u_14.1 6), .int (u_14.1 7), .int (u_14.1 8), .int (u_14.1 9), .int (u_14.1 10), .int (u_14.1 11), .int (u_14.1 12), .int (u_14.1 13), .int (u_14.1 14)])), ((a0 1), .inl (q 1, 6896, .inr (.inl (u_14.2.2.1 0)))), ((a0 2), .inl (q 1, 68960, .inr (.inl (u_14.2.2.1 1)))), ((a0 3), .inl (q 1, 13792, .inr (.inl (u_14.2.2.1 2)))), ((a0 4), .inl (q 1, 6896, .inr (.inl (u_14.2.2.1 3)))), ((a0 5), .inl (q 3, 2, .inl (u_14.2.2.2 0))), ((a0 6), .inl (q 0, 40, .inl (u_14.2.2.2 1))), ((a0 7), .inl (q 2, 400, .inl (u_14.2.2.2 2)))] H := hP
            have hD : va_D _ [((a0 0), .inr (6, [.ref (a0 1), .ref (a0 2), .int (u_14.1 0), .ref (a0 3), .ref (a0 5), .ref (a0 4), .long u_14.2.1, .int (u_14.1 1), .int (u_14.1 2), .ref (a0 6), .int (u_14.1 3), .int (u_14.1 4), .ref (a0 7), .int (u_14.1 5), .int (u_14.1 6), .int (u_14.1 7), .int (u_14.1 8), .int (u_14.1 9), .int (u_14.1 10), .int (u_14.1 11), .int (u_14.1 12), .int (u_14.1 13), .int (u_14.1 14)])), ((a0 1), .inl (q 1, 6896, .inr (.inl (u_14.2.2.1 0)))), ((a0 2), .inl (q 1, 68960, .inr (.inl (u_14.2.2.1 1)))), ((a0 3), .inl (q 1, 13792, .inr (.inl (u_14.2.2.1 2)))), ((a0 4), .inl (q 1, 6896, .inr (.inl (u_14.2.2.1 3)))), ((a0 5), .inl (q 3, 2, .inl (u_14.2.2.2 0))), ((a0 6), .inl (q 0, 40, .inl (u_14.2.2.2 1))), ((a0 7), .inl (q 2, 400, .inl (u_14.2.2.2 2)))] := hD
            refine lv_iinc (v := (z6 + 1)) (lv' := [(6, .int (z6 + 1)), (8, .int r_10), (7, .int ((r_4 * z1) + z6)), (1, .int z1), (2, .int z2), (3, .int z3), (4, .int z4), (5, .int z5), (0, .ref (a0 0))]) hx hb dX7_wantsSigns_75 hl (k := 7) rfl rfl (by decide) rfl (fun ls hl => ?_)
            refine lv_goto (tgt := 6) hx hb dX7_wantsSigns_78 (by decide) ?_
            exact ih _ _ _ _ _ _ _ _ _ ls h (hP.sub (ws' := md_v a0 q u_14) [0, 1, 2, 3, 4, 5, 6, 7] rfl) (hD.sub (ws' := md_v a0 q u_14) [0, 1, 2, 3, 4, 5, 6, 7] (by decide) rfl) hS (lv_sub hl [3, 4, 5, 6, 7, 0, 8] rfl)
          · replace h := h.2 c_12
            refine lv_iinc (v := (z5 + 1)) (lv' := [(5, .int (z5 + 1)), (8, .int r_10), (7, .int ((r_4 * z1) + z6)), (1, .int z1), (2, .int z2), (3, .int z3), (4, .int z4), (6, .int z6), (0, .ref (a0 0))]) hx hb dX7_wantsSigns_59 hl (k := 6) rfl rfl (by decide) rfl (fun ls hl => ?_)
            refine lv_goto (tgt := 75) hx hb dX7_wantsSigns_62 (by decide) ?_
            refine lv_iinc (v := (z6 + 1)) (lv' := [(6, .int (z6 + 1)), (5, .int (z5 + 1)), (8, .int r_10), (7, .int ((r_4 * z1) + z6)), (1, .int z1), (2, .int z2), (3, .int z3), (4, .int z4), (0, .ref (a0 0))]) hx hb dX7_wantsSigns_75 hl (k := 7) rfl rfl (by decide) rfl (fun ls hl => ?_)
            refine lv_goto (tgt := 6) hx hb dX7_wantsSigns_78 (by decide) ?_
            exact ih _ _ _ _ _ _ _ _ _ ls h (hP.sub (ws' := md_v a0 q t0) [0, 1, 2, 3, 4, 5, 6, 7] rfl) (hD.sub (ws' := md_v a0 q t0) [0, 1, 2, 3, 4, 5, 6, 7] (by decide) rfl) hS (lv_sub hl [4, 5, 6, 7, 1, 0, 8] rfl)
  obtain ⟨n6, h⟩ := h
  refine lp6 _ ?_ n6 _ _ _ _ _ _ _ _ _ ls h (hP.sub (ws' := md_v a0 q s0) [0, 1, 2, 3, 4, 5, 6, 7] rfl) (hD.sub (ws' := md_v a0 q s0) [0, 1, 2, 3, 4, 5, 6, 7] (by decide) rfl) hS (lv_sub hl [3, 4, 5, 6, 1, 0, 2] rfl)
  · intro t0 z1 z2 z3 z4 z5 z6 H locs ls h hP hD hS hl
    try dsimp only at h
    have hP : va_P D vwCl [((a0 0), .inr (6, [.ref (a0 1), .ref (a0 2), .int (t0.1 0), .ref (a0 3), .ref (a0 5), .ref (a0 4), .long t0.2.1, .int (t0.1 1), .int (t0.1 2), .ref (a0 6), .int (t0.1 3), .int (t0.1 4), .ref (a0 7), .int (t0.1 5), .int (t0.1 6), .int (t0.1 7), .int (t0.1 8), .int (t0.1 9), .int (t0.1 10), .int (t0.1 11), .int (t0.1 12), .int (t0.1 13), .int (t0.1 14)])), ((a0 1), .inl (q 1, 6896, .inr (.inl (t0.2.2.1 0)))), ((a0 2), .inl (q 1, 68960, .inr (.inl (t0.2.2.1 1)))), ((a0 3), .inl (q 1, 13792, .inr (.inl (t0.2.2.1 2)))), ((a0 4), .inl (q 1, 6896, .inr (.inl (t0.2.2.1 3)))), ((a0 5), .inl (q 3, 2, .inl (t0.2.2.2 0))), ((a0 6), .inl (q 0, 40, .inl (t0.2.2.2 1))), ((a0 7), .inl (q 2, 400, .inl (t0.2.2.2 2)))] H := hP
    have hD : va_D _ [((a0 0), .inr (6, [.ref (a0 1), .ref (a0 2), .int (t0.1 0), .ref (a0 3), .ref (a0 5), .ref (a0 4), .long t0.2.1, .int (t0.1 1), .int (t0.1 2), .ref (a0 6), .int (t0.1 3), .int (t0.1 4), .ref (a0 7), .int (t0.1 5), .int (t0.1 6), .int (t0.1 7), .int (t0.1 8), .int (t0.1 9), .int (t0.1 10), .int (t0.1 11), .int (t0.1 12), .int (t0.1 13), .int (t0.1 14)])), ((a0 1), .inl (q 1, 6896, .inr (.inl (t0.2.2.1 0)))), ((a0 2), .inl (q 1, 68960, .inr (.inl (t0.2.2.1 1)))), ((a0 3), .inl (q 1, 13792, .inr (.inl (t0.2.2.1 2)))), ((a0 4), .inl (q 1, 6896, .inr (.inl (t0.2.2.1 3)))), ((a0 5), .inl (q 3, 2, .inl (t0.2.2.2 0))), ((a0 6), .inl (q 0, 40, .inl (t0.2.2.2 1))), ((a0 7), .inl (q 2, 400, .inl (t0.2.2.2 2)))] := hD
    refine lv_iload hx hb dX7_wantsSigns_81 (lv_at hl 4 rfl) ?_
    exact mt_iret t0 hx hb hr hk h (hP.sub (ws' := md_v a0 q t0) [0, 1, 2, 3, 4, 5, 6, 7] rfl) (hD.sub (ws' := md_v a0 q t0) [0, 1, 2, 3, 4, 5, 6, 7] (by decide) rfl) hS dX7_wantsSigns_83

def wp_X7_scrolls_L5 (post : Int32 → Md → Prop) (e45 : Md → Int32 → Int32 → Int32 → Int32 → Prop) : Nat → Md → Int32 → Int32 → Int32 → Int32 → Prop
  | 0, _, _, _, _, _ => False
  | n5 + 1, t0, z1, z2, z3, z4 => wp_X7_cells (fun r_1 => ((r_1 ≤ z4 → e45 t0 z1 z2 z3 z4) ∧ (¬ r_1 ≤ z4 → wp_X7_of (fun r_4 => wp_X7_of (fun r_6 => wp_X7_signOf (fun r_8 => vp_in z4 40 ∧ wp_X7_scrolls_L5 post e45 n5 (t0.1, t0.2.1, t0.2.2.1, (va_up t0.2.2.2 1 (upd (t0.2.2.2 1) (Int32.toNatClampNeg z4) r_8))) z1 z2 z3 (z4 + 1)) t0 r_4 r_6) t0 z4 (3 : Int32)) t0 z4 (0 : Int32)))) t0
def wp_X7_scrolls_L48 (post : Int32 → Md → Prop) (e109 : Md → Int32 → Int32 → Int32 → Int32 → Prop) : Nat → Md → Int32 → Int32 → Int32 → Int32 → Prop
  | 0, _, _, _, _, _ => False
  | n48 + 1, t0, z1, z2, z3, z4 => wp_X7_wide (fun r_11 => wp_X7_cells (fun r_13 => ((r_13 ≤ (z4 + r_11) → e109 t0 z1 z2 z3 z4) ∧ (¬ r_13 ≤ (z4 + r_11) → wp_X7_wide (fun r_16 => vp_in (z4 + r_16) 40 ∧ wp_X7_flapFor (fun r_19 => ((¬ r_19 = (-1) → wp_X7_wantsFlap (fun u_23 => wp_X7_scrolls_L48 post e109 n48 u_23 z1 z2 z3 (z4 + 1)) t0 z4 r_19 (1 : Int32)) ∧ (r_19 = (-1) → wp_X7_scrolls_L48 post e109 n48 t0 z1 z2 (z3 + 1) (z4 + 1)))) t0 z4 ((t0.2.2.2 1) (Int32.toNatClampNeg (z4 + r_16)))) t0))) t0) t0
def wp_X7_scrolls (post : Int32 → Md → Prop) (s0 : Md) (x1 : Int32) (x2 : Int32) : Prop := (∃ n5, wp_X7_scrolls_L5 post (fun t0 z1 z2 z3 z4 => (∃ n48, wp_X7_scrolls_L48 post (fun t0 z1 z2 z3 z4 => wp_X7_rows (fun r_24 => wp_X7_wantsSigns (fun r_26 u_27 => post (z3 + r_26) u_27) t0 (r_24 - 1) z1 z2 (1 : Int32)) t0) n48 t0 z1 z2 z3 0)) n5 s0 x1 x2 0 0)
set_option maxHeartbeats 4000000 in
set_option maxRecDepth 100000 in
theorem c2_X7_scrolls {l : Launch} {D : va_G} {q : Nat → ClassId} {sz : Nat} {a0 : Nat → Nat} {s0 : Md} {x1 : Int32} {x2 : Int32} {post : Int32 → Md → Prop} (h : wp_X7_scrolls post s0 x1 x2) : Met l yX7_scrolls (Cond.code yX7_scrolls cX7_scrolls 6 (some .int) :: w_all) ({ frames := 4, cells := 0, slots := 0, locals := 95 } : Room) (mt_P D q [.ref (a0 0), .int x1, .int x2] (md_v a0 q s0) sz) (va_Qi (fun r (u : Md) => post r u) (mt_B D (md_v a0 q s0) sz (fun u : Md => md_v a0 q u)) (va_A (md_v a0 q s0) sz)) 0 0 (va_A (md_v a0 q s0) sz) := by
  refine mt_start (by decide) (Nat.le_of_ble_eq_true rfl) ?_
  intro p e s m below meth c ls hx hb hr hml hown ht hk hin hP hQ hD hA hS hV hl
  have hK := hQ.1
  have hown : s.vm.findClass RX7 = some m.cls := hown
  have hl : lv_has ls 6 [(0, .ref (a0 0)), (1, .int x1), (2, .int x2)] := hl
  have hP : va_P D vwCl [((a0 0), .inr (6, [.ref (a0 1), .ref (a0 2), .int (s0.1 0), .ref (a0 3), .ref (a0 5), .ref (a0 4), .long s0.2.1, .int (s0.1 1), .int (s0.1 2), .ref (a0 6), .int (s0.1 3), .int (s0.1 4), .ref (a0 7), .int (s0.1 5), .int (s0.1 6), .int (s0.1 7), .int (s0.1 8), .int (s0.1 9), .int (s0.1 10), .int (s0.1 11), .int (s0.1 12), .int (s0.1 13), .int (s0.1 14)])), ((a0 1), .inl (q 1, 6896, .inr (.inl (s0.2.2.1 0)))), ((a0 2), .inl (q 1, 68960, .inr (.inl (s0.2.2.1 1)))), ((a0 3), .inl (q 1, 13792, .inr (.inl (s0.2.2.1 2)))), ((a0 4), .inl (q 1, 6896, .inr (.inl (s0.2.2.1 3)))), ((a0 5), .inl (q 3, 2, .inl (s0.2.2.2 0))), ((a0 6), .inl (q 0, 40, .inl (s0.2.2.2 1))), ((a0 7), .inl (q 2, 400, .inl (s0.2.2.2 2)))] s.heap := hP
  have hD : va_D _ [((a0 0), .inr (6, [.ref (a0 1), .ref (a0 2), .int (s0.1 0), .ref (a0 3), .ref (a0 5), .ref (a0 4), .long s0.2.1, .int (s0.1 1), .int (s0.1 2), .ref (a0 6), .int (s0.1 3), .int (s0.1 4), .ref (a0 7), .int (s0.1 5), .int (s0.1 6), .int (s0.1 7), .int (s0.1 8), .int (s0.1 9), .int (s0.1 10), .int (s0.1 11), .int (s0.1 12), .int (s0.1 13), .int (s0.1 14)])), ((a0 1), .inl (q 1, 6896, .inr (.inl (s0.2.2.1 0)))), ((a0 2), .inl (q 1, 68960, .inr (.inl (s0.2.2.1 1)))), ((a0 3), .inl (q 1, 13792, .inr (.inl (s0.2.2.1 2)))), ((a0 4), .inl (q 1, 6896, .inr (.inl (s0.2.2.1 3)))), ((a0 5), .inl (q 3, 2, .inl (s0.2.2.2 0))), ((a0 6), .inl (q 0, 40, .inl (s0.2.2.2 1))), ((a0 7), .inl (q 2, 400, .inl (s0.2.2.2 2)))] := hD
  unfold wp_X7_scrolls at h
  refine lv_iconst (v := 0) hx hb dX7_scrolls_0 (by decide) ?_
  refine lv_istore_n (lv' := [(3, .int 0), (0, .ref (a0 0)), (1, .int x1), (2, .int x2)]) hx hb dX7_scrolls_1 rfl hl (by decide) rfl (fun ls hl => ?_)
  refine lv_iconst (v := 0) hx hb dX7_scrolls_2 (by decide) ?_
  refine lv_istore (lv' := [(4, .int 0), (3, .int 0), (0, .ref (a0 0)), (1, .int x1), (2, .int x2)]) hx hb dX7_scrolls_3 hl (by decide) rfl (fun ls hl => ?_)
  have lp5 : ∀ (e45 : Md → Int32 → Int32 → Int32 → Int32 → Prop) (k45 : ∀ (t0 : Md) (z1 : Int32) (z2 : Int32) (z3 : Int32) (z4 : Int32) (H : Heap) (locs : List Loc) (ls : Array Slot), e45 t0 z1 z2 z3 z4 → va_P D vwCl (md_v a0 q t0) H → va_D (va_A (md_v a0 q s0) sz) (md_v a0 q t0) → va_S (va_A (md_v a0 q s0) sz) s.heap H locs → lv_has ls 6 [(1, .int z1), (2, .int z2), (3, .int z3), (4, .int z4), (0, .ref (a0 0))] → W p l e ({ frames := 4, cells := 0, slots := 0, locals := 95 } : Room) s m [.ref (a0 0), .int x1, .int x2].toArray below meth c H locs 0 0 (MQ below (va_Qi (fun r (u : Md) => post r u) (mt_B D (md_v a0 q s0) sz (fun u : Md => md_v a0 q u)) (va_A (md_v a0 q s0) sz)) [.ref (a0 0), .int x1, .int x2].toArray s 0 0 (va_A (md_v a0 q s0) sz)) (F0 m 45 ls [])) (n : Nat) (t0 : Md) (z1 : Int32) (z2 : Int32) (z3 : Int32) (z4 : Int32) (H : Heap) (locs : List Loc) (ls : Array Slot), wp_X7_scrolls_L5 post e45 n t0 z1 z2 z3 z4 → va_P D vwCl (md_v a0 q t0) H → va_D (va_A (md_v a0 q s0) sz) (md_v a0 q t0) → va_S (va_A (md_v a0 q s0) sz) s.heap H locs → lv_has ls 6 [(1, .int z1), (2, .int z2), (3, .int z3), (4, .int z4), (0, .ref (a0 0))] → W p l e ({ frames := 4, cells := 0, slots := 0, locals := 95 } : Room) s m [.ref (a0 0), .int x1, .int x2].toArray below meth c H locs 0 0 (MQ below (va_Qi (fun r (u : Md) => post r u) (mt_B D (md_v a0 q s0) sz (fun u : Md => md_v a0 q u)) (va_A (md_v a0 q s0) sz)) [.ref (a0 0), .int x1, .int x2].toArray s 0 0 (va_A (md_v a0 q s0) sz)) (F0 m 5 ls []) := by
    intro e45 k45 n
    induction n with
    | zero =>
      intro t0 z1 z2 z3 z4 H locs ls h
      exact h.elim
    | succ n ih =>
      intro t0 z1 z2 z3 z4 H locs ls h hP hD hS hl
      have hP : va_P D vwCl [((a0 0), .inr (6, [.ref (a0 1), .ref (a0 2), .int (t0.1 0), .ref (a0 3), .ref (a0 5), .ref (a0 4), .long t0.2.1, .int (t0.1 1), .int (t0.1 2), .ref (a0 6), .int (t0.1 3), .int (t0.1 4), .ref (a0 7), .int (t0.1 5), .int (t0.1 6), .int (t0.1 7), .int (t0.1 8), .int (t0.1 9), .int (t0.1 10), .int (t0.1 11), .int (t0.1 12), .int (t0.1 13), .int (t0.1 14)])), ((a0 1), .inl (q 1, 6896, .inr (.inl (t0.2.2.1 0)))), ((a0 2), .inl (q 1, 68960, .inr (.inl (t0.2.2.1 1)))), ((a0 3), .inl (q 1, 13792, .inr (.inl (t0.2.2.1 2)))), ((a0 4), .inl (q 1, 6896, .inr (.inl (t0.2.2.1 3)))), ((a0 5), .inl (q 3, 2, .inl (t0.2.2.2 0))), ((a0 6), .inl (q 0, 40, .inl (t0.2.2.2 1))), ((a0 7), .inl (q 2, 400, .inl (t0.2.2.2 2)))] H := hP
      have hD : va_D _ [((a0 0), .inr (6, [.ref (a0 1), .ref (a0 2), .int (t0.1 0), .ref (a0 3), .ref (a0 5), .ref (a0 4), .long t0.2.1, .int (t0.1 1), .int (t0.1 2), .ref (a0 6), .int (t0.1 3), .int (t0.1 4), .ref (a0 7), .int (t0.1 5), .int (t0.1 6), .int (t0.1 7), .int (t0.1 8), .int (t0.1 9), .int (t0.1 10), .int (t0.1 11), .int (t0.1 12), .int (t0.1 13), .int (t0.1 14)])), ((a0 1), .inl (q 1, 6896, .inr (.inl (t0.2.2.1 0)))), ((a0 2), .inl (q 1, 68960, .inr (.inl (t0.2.2.1 1)))), ((a0 3), .inl (q 1, 13792, .inr (.inl (t0.2.2.1 2)))), ((a0 4), .inl (q 1, 6896, .inr (.inl (t0.2.2.1 3)))), ((a0 5), .inl (q 3, 2, .inl (t0.2.2.2 0))), ((a0 6), .inl (q 0, 40, .inl (t0.2.2.2 1))), ((a0 7), .inl (q 2, 400, .inl (t0.2.2.2 2)))] := hD
      unfold wp_X7_scrolls_L5 at h
      refine lv_iload hx hb dX7_scrolls_5 (lv_at hl 3 rfl) ?_
      refine lv_aload_n hx hb dX7_scrolls_7 rfl (lv_at hl 4 rfl) ?_
      refine vp_callSi (rd_wV (wc := md_v a0 q t0) (As := []) (rest := [.int z4]) hx hb hml hown ht (c2_X7_cells h) wd_X7_cells mw_1295 hQ hV hS (hP.sub [0, 1, 2, 3, 4, 5, 6, 7] rfl) rfl rfl rfl hl.1 rfl (Nat.le_of_ble_eq_true rfl) dX7_scrolls_8 ⟨Nat.le_of_ble_eq_true rfl, Nat.le_of_ble_eq_true rfl, rfl, rfl⟩ ⟨Nat.le_of_ble_eq_true rfl, Nat.le_of_ble_eq_true rfl⟩) (fun r_1 h => ?_)
      try dsimp only at h
      refine lv_icmp_ge (tgt := 45) hx hb dX7_scrolls_11 (by decide) (fun c_3 => ?_) (fun c_3 => ?_)
      · replace h := h.1 c_3
        exact k45 _ _ _ _ _ _ _ ls h (hP.sub (ws' := md_v a0 q t0) [0, 1, 2, 3, 4, 5, 6, 7] rfl) (hD.sub (ws' := md_v a0 q t0) [0, 1, 2, 3, 4, 5, 6, 7] (by decide) rfl) hS (lv_sub hl [0, 1, 2, 3, 4] rfl)
      · replace h := h.2 c_3
        refine lv_aload_n hx hb dX7_scrolls_14 rfl (lv_at hl 4 rfl) ?_
        refine fl_get (C := RX7) (T := TX7) (N := 23) (ci := 6) (v := .ref (a0 6)) hx hb ht in_X7 hown hK hP 0 rfl rfl 9 (by decide) mw_1139 rfl dX7_scrolls_15 ?_
        refine lv_iload hx hb dX7_scrolls_18 (lv_at hl 3 rfl) ?_
        refine lv_aload_n hx hb dX7_scrolls_20 rfl (lv_at hl 4 rfl) ?_
        refine lv_aload_n hx hb dX7_scrolls_21 rfl (lv_at hl 4 rfl) ?_
        refine lv_iload hx hb dX7_scrolls_22 (lv_at hl 3 rfl) ?_
        refine lv_iconst (v := 0) hx hb dX7_scrolls_24 (by decide) ?_
        refine vp_callSi (rd_wV (wc := md_v a0 q t0) (As := [.int z4, .int 0]) (rest := [.ref (a0 0), .int z4, .ref (a0 6)]) hx hb hml hown ht (c2_X7_of h) wd_X7_of mw_1249 hQ hV hS (hP.sub [0, 1, 2, 3, 4, 5, 6, 7] rfl) rfl rfl rfl hl.1 rfl (Nat.le_of_ble_eq_true rfl) dX7_scrolls_25 ⟨Nat.le_of_ble_eq_true rfl, Nat.le_of_ble_eq_true rfl, rfl, rfl⟩ ⟨Nat.le_of_ble_eq_true rfl, Nat.le_of_ble_eq_true rfl⟩) (fun r_4 h => ?_)
        try dsimp only at h
        refine lv_aload_n hx hb dX7_scrolls_28 rfl (lv_at hl 4 rfl) ?_
        refine lv_iload hx hb dX7_scrolls_29 (lv_at hl 3 rfl) ?_
        refine lv_iconst (v := 3) hx hb dX7_scrolls_31 (by decide) ?_
        refine vp_callSi (rd_wV (wc := md_v a0 q t0) (As := [.int z4, .int 3]) (rest := [.int r_4, .ref (a0 0), .int z4, .ref (a0 6)]) hx hb hml hown ht (c2_X7_of h) wd_X7_of mw_1249 hQ hV hS (hP.sub [0, 1, 2, 3, 4, 5, 6, 7] rfl) rfl rfl rfl hl.1 rfl (Nat.le_of_ble_eq_true rfl) dX7_scrolls_32 ⟨Nat.le_of_ble_eq_true rfl, Nat.le_of_ble_eq_true rfl, rfl, rfl⟩ ⟨Nat.le_of_ble_eq_true rfl, Nat.le_of_ble_eq_true rfl⟩) (fun r_6 h => ?_)
        try dsimp only at h
        refine vp_callSi (rd_wV (wc := md_v a0 q t0) (As := [.int r_4, .int r_6]) (rest := [.int z4, .ref (a0 6)]) hx hb hml hown ht (c2_X7_signOf h) wd_X7_signOf mw_1257 hQ hV hS (hP.sub [0, 1, 2, 3, 4, 5, 6, 7] rfl) rfl rfl rfl hl.1 rfl (Nat.le_of_ble_eq_true rfl) dX7_scrolls_35 ⟨Nat.le_of_ble_eq_true rfl, Nat.le_of_ble_eq_true rfl, rfl, rfl⟩ ⟨Nat.le_of_ble_eq_true rfl, Nat.le_of_ble_eq_true rfl⟩) (fun r_8 h => ?_)
        try dsimp only at h
        obtain ⟨g_10, h⟩ := h
        refine va_iast hx hb hK hP hD hS 6 0 rfl rfl g_10 dX7_scrolls_38 (fun H locs hP hD hS => ?_)
        have hP : va_P D vwCl [((a0 0), .inr (6, [.ref (a0 1), .ref (a0 2), .int (t0.1 0), .ref (a0 3), .ref (a0 5), .ref (a0 4), .long t0.2.1, .int (t0.1 1), .int (t0.1 2), .ref (a0 6), .int (t0.1 3), .int (t0.1 4), .ref (a0 7), .int (t0.1 5), .int (t0.1 6), .int (t0.1 7), .int (t0.1 8), .int (t0.1 9), .int (t0.1 10), .int (t0.1 11), .int (t0.1 12), .int (t0.1 13), .int (t0.1 14)])), ((a0 1), .inl (q 1, 6896, .inr (.inl (t0.2.2.1 0)))), ((a0 2), .inl (q 1, 68960, .inr (.inl (t0.2.2.1 1)))), ((a0 3), .inl (q 1, 13792, .inr (.inl (t0.2.2.1 2)))), ((a0 4), .inl (q 1, 6896, .inr (.inl (t0.2.2.1 3)))), ((a0 5), .inl (q 3, 2, .inl (t0.2.2.2 0))), ((a0 6), .inl (q 0, 40, .inl (upd (t0.2.2.2 1) (Int32.toNatClampNeg z4) r_8))), ((a0 7), .inl (q 2, 400, .inl (t0.2.2.2 2)))] H := hP
        have hD : va_D _ [((a0 0), .inr (6, [.ref (a0 1), .ref (a0 2), .int (t0.1 0), .ref (a0 3), .ref (a0 5), .ref (a0 4), .long t0.2.1, .int (t0.1 1), .int (t0.1 2), .ref (a0 6), .int (t0.1 3), .int (t0.1 4), .ref (a0 7), .int (t0.1 5), .int (t0.1 6), .int (t0.1 7), .int (t0.1 8), .int (t0.1 9), .int (t0.1 10), .int (t0.1 11), .int (t0.1 12), .int (t0.1 13), .int (t0.1 14)])), ((a0 1), .inl (q 1, 6896, .inr (.inl (t0.2.2.1 0)))), ((a0 2), .inl (q 1, 68960, .inr (.inl (t0.2.2.1 1)))), ((a0 3), .inl (q 1, 13792, .inr (.inl (t0.2.2.1 2)))), ((a0 4), .inl (q 1, 6896, .inr (.inl (t0.2.2.1 3)))), ((a0 5), .inl (q 3, 2, .inl (t0.2.2.2 0))), ((a0 6), .inl (q 0, 40, .inl (upd (t0.2.2.2 1) (Int32.toNatClampNeg z4) r_8))), ((a0 7), .inl (q 2, 400, .inl (t0.2.2.2 2)))] := hD
        refine lv_iinc (v := (z4 + 1)) (lv' := [(4, .int (z4 + 1)), (1, .int z1), (2, .int z2), (3, .int z3), (0, .ref (a0 0))]) hx hb dX7_scrolls_39 hl (k := 3) rfl rfl (by decide) rfl (fun ls hl => ?_)
        refine lv_goto (tgt := 5) hx hb dX7_scrolls_42 (by decide) ?_
        exact ih _ _ _ _ _ _ _ ls h (hP.sub (ws' := md_v a0 q (t0.1, t0.2.1, t0.2.2.1, (va_up t0.2.2.2 1 (upd (t0.2.2.2 1) (Int32.toNatClampNeg z4) r_8)))) [0, 1, 2, 3, 4, 5, 6, 7] rfl) (hD.sub (ws' := md_v a0 q (t0.1, t0.2.1, t0.2.2.1, (va_up t0.2.2.2 1 (upd (t0.2.2.2 1) (Int32.toNatClampNeg z4) r_8)))) [0, 1, 2, 3, 4, 5, 6, 7] (by decide) rfl) hS (lv_sub hl [1, 2, 3, 0, 4] rfl)
  obtain ⟨n5, h⟩ := h
  refine lp5 _ ?_ n5 _ _ _ _ _ _ _ ls h (hP.sub (ws' := md_v a0 q s0) [0, 1, 2, 3, 4, 5, 6, 7] rfl) (hD.sub (ws' := md_v a0 q s0) [0, 1, 2, 3, 4, 5, 6, 7] (by decide) rfl) hS (lv_sub hl [3, 4, 1, 0, 2] rfl)
  · intro t0 z1 z2 z3 z4 H locs ls h hP hD hS hl
    try dsimp only at h
    have hP : va_P D vwCl [((a0 0), .inr (6, [.ref (a0 1), .ref (a0 2), .int (t0.1 0), .ref (a0 3), .ref (a0 5), .ref (a0 4), .long t0.2.1, .int (t0.1 1), .int (t0.1 2), .ref (a0 6), .int (t0.1 3), .int (t0.1 4), .ref (a0 7), .int (t0.1 5), .int (t0.1 6), .int (t0.1 7), .int (t0.1 8), .int (t0.1 9), .int (t0.1 10), .int (t0.1 11), .int (t0.1 12), .int (t0.1 13), .int (t0.1 14)])), ((a0 1), .inl (q 1, 6896, .inr (.inl (t0.2.2.1 0)))), ((a0 2), .inl (q 1, 68960, .inr (.inl (t0.2.2.1 1)))), ((a0 3), .inl (q 1, 13792, .inr (.inl (t0.2.2.1 2)))), ((a0 4), .inl (q 1, 6896, .inr (.inl (t0.2.2.1 3)))), ((a0 5), .inl (q 3, 2, .inl (t0.2.2.2 0))), ((a0 6), .inl (q 0, 40, .inl (t0.2.2.2 1))), ((a0 7), .inl (q 2, 400, .inl (t0.2.2.2 2)))] H := hP
    have hD : va_D _ [((a0 0), .inr (6, [.ref (a0 1), .ref (a0 2), .int (t0.1 0), .ref (a0 3), .ref (a0 5), .ref (a0 4), .long t0.2.1, .int (t0.1 1), .int (t0.1 2), .ref (a0 6), .int (t0.1 3), .int (t0.1 4), .ref (a0 7), .int (t0.1 5), .int (t0.1 6), .int (t0.1 7), .int (t0.1 8), .int (t0.1 9), .int (t0.1 10), .int (t0.1 11), .int (t0.1 12), .int (t0.1 13), .int (t0.1 14)])), ((a0 1), .inl (q 1, 6896, .inr (.inl (t0.2.2.1 0)))), ((a0 2), .inl (q 1, 68960, .inr (.inl (t0.2.2.1 1)))), ((a0 3), .inl (q 1, 13792, .inr (.inl (t0.2.2.1 2)))), ((a0 4), .inl (q 1, 6896, .inr (.inl (t0.2.2.1 3)))), ((a0 5), .inl (q 3, 2, .inl (t0.2.2.2 0))), ((a0 6), .inl (q 0, 40, .inl (t0.2.2.2 1))), ((a0 7), .inl (q 2, 400, .inl (t0.2.2.2 2)))] := hD
    refine lv_iconst (v := 0) hx hb dX7_scrolls_45 (by decide) ?_
    refine lv_istore (lv' := [(4, .int 0), (1, .int z1), (2, .int z2), (3, .int z3), (0, .ref (a0 0))]) hx hb dX7_scrolls_46 hl (by decide) rfl (fun ls hl => ?_)
    have lp48 : ∀ (e109 : Md → Int32 → Int32 → Int32 → Int32 → Prop) (k109 : ∀ (t0 : Md) (z1 : Int32) (z2 : Int32) (z3 : Int32) (z4 : Int32) (H : Heap) (locs : List Loc) (ls : Array Slot), e109 t0 z1 z2 z3 z4 → va_P D vwCl (md_v a0 q t0) H → va_D (va_A (md_v a0 q s0) sz) (md_v a0 q t0) → va_S (va_A (md_v a0 q s0) sz) s.heap H locs → lv_has ls 6 [(1, .int z1), (2, .int z2), (3, .int z3), (4, .int z4), (0, .ref (a0 0))] → W p l e ({ frames := 4, cells := 0, slots := 0, locals := 95 } : Room) s m [.ref (a0 0), .int x1, .int x2].toArray below meth c H locs 0 0 (MQ below (va_Qi (fun r (u : Md) => post r u) (mt_B D (md_v a0 q s0) sz (fun u : Md => md_v a0 q u)) (va_A (md_v a0 q s0) sz)) [.ref (a0 0), .int x1, .int x2].toArray s 0 0 (va_A (md_v a0 q s0) sz)) (F0 m 109 ls [])) (n : Nat) (t0 : Md) (z1 : Int32) (z2 : Int32) (z3 : Int32) (z4 : Int32) (H : Heap) (locs : List Loc) (ls : Array Slot), wp_X7_scrolls_L48 post e109 n t0 z1 z2 z3 z4 → va_P D vwCl (md_v a0 q t0) H → va_D (va_A (md_v a0 q s0) sz) (md_v a0 q t0) → va_S (va_A (md_v a0 q s0) sz) s.heap H locs → lv_has ls 6 [(1, .int z1), (2, .int z2), (3, .int z3), (4, .int z4), (0, .ref (a0 0))] → W p l e ({ frames := 4, cells := 0, slots := 0, locals := 95 } : Room) s m [.ref (a0 0), .int x1, .int x2].toArray below meth c H locs 0 0 (MQ below (va_Qi (fun r (u : Md) => post r u) (mt_B D (md_v a0 q s0) sz (fun u : Md => md_v a0 q u)) (va_A (md_v a0 q s0) sz)) [.ref (a0 0), .int x1, .int x2].toArray s 0 0 (va_A (md_v a0 q s0) sz)) (F0 m 48 ls []) := by
      intro e109 k109 n
      induction n with
      | zero =>
        intro t0 z1 z2 z3 z4 H locs ls h
        exact h.elim
      | succ n ih =>
        intro t0 z1 z2 z3 z4 H locs ls h hP hD hS hl
        have hP : va_P D vwCl [((a0 0), .inr (6, [.ref (a0 1), .ref (a0 2), .int (t0.1 0), .ref (a0 3), .ref (a0 5), .ref (a0 4), .long t0.2.1, .int (t0.1 1), .int (t0.1 2), .ref (a0 6), .int (t0.1 3), .int (t0.1 4), .ref (a0 7), .int (t0.1 5), .int (t0.1 6), .int (t0.1 7), .int (t0.1 8), .int (t0.1 9), .int (t0.1 10), .int (t0.1 11), .int (t0.1 12), .int (t0.1 13), .int (t0.1 14)])), ((a0 1), .inl (q 1, 6896, .inr (.inl (t0.2.2.1 0)))), ((a0 2), .inl (q 1, 68960, .inr (.inl (t0.2.2.1 1)))), ((a0 3), .inl (q 1, 13792, .inr (.inl (t0.2.2.1 2)))), ((a0 4), .inl (q 1, 6896, .inr (.inl (t0.2.2.1 3)))), ((a0 5), .inl (q 3, 2, .inl (t0.2.2.2 0))), ((a0 6), .inl (q 0, 40, .inl (t0.2.2.2 1))), ((a0 7), .inl (q 2, 400, .inl (t0.2.2.2 2)))] H := hP
        have hD : va_D _ [((a0 0), .inr (6, [.ref (a0 1), .ref (a0 2), .int (t0.1 0), .ref (a0 3), .ref (a0 5), .ref (a0 4), .long t0.2.1, .int (t0.1 1), .int (t0.1 2), .ref (a0 6), .int (t0.1 3), .int (t0.1 4), .ref (a0 7), .int (t0.1 5), .int (t0.1 6), .int (t0.1 7), .int (t0.1 8), .int (t0.1 9), .int (t0.1 10), .int (t0.1 11), .int (t0.1 12), .int (t0.1 13), .int (t0.1 14)])), ((a0 1), .inl (q 1, 6896, .inr (.inl (t0.2.2.1 0)))), ((a0 2), .inl (q 1, 68960, .inr (.inl (t0.2.2.1 1)))), ((a0 3), .inl (q 1, 13792, .inr (.inl (t0.2.2.1 2)))), ((a0 4), .inl (q 1, 6896, .inr (.inl (t0.2.2.1 3)))), ((a0 5), .inl (q 3, 2, .inl (t0.2.2.2 0))), ((a0 6), .inl (q 0, 40, .inl (t0.2.2.2 1))), ((a0 7), .inl (q 2, 400, .inl (t0.2.2.2 2)))] := hD
        unfold wp_X7_scrolls_L48 at h
        refine lv_iload hx hb dX7_scrolls_48 (lv_at hl 3 rfl) ?_
        refine lv_aload_n hx hb dX7_scrolls_50 rfl (lv_at hl 4 rfl) ?_
        refine vp_callSi (rd_wV (wc := md_v a0 q t0) (As := []) (rest := [.int z4]) hx hb hml hown ht (c2_X7_wide h) wd_X7_wide mw_1220 hQ hV hS (hP.sub [0, 1, 2, 3, 4, 5, 6, 7] rfl) rfl rfl rfl hl.1 rfl (Nat.le_of_ble_eq_true rfl) dX7_scrolls_51 ⟨Nat.le_of_ble_eq_true rfl, Nat.le_of_ble_eq_true rfl, rfl, rfl⟩ ⟨Nat.le_of_ble_eq_true rfl, Nat.le_of_ble_eq_true rfl⟩) (fun r_11 h => ?_)
        try dsimp only at h
        refine lv_iadd hx hb dX7_scrolls_54 ?_
        refine lv_aload_n hx hb dX7_scrolls_55 rfl (lv_at hl 4 rfl) ?_
        refine vp_callSi (rd_wV (wc := md_v a0 q t0) (As := []) (rest := [.int (z4 + r_11)]) hx hb hml hown ht (c2_X7_cells h) wd_X7_cells mw_1295 hQ hV hS (hP.sub [0, 1, 2, 3, 4, 5, 6, 7] rfl) rfl rfl rfl hl.1 rfl (Nat.le_of_ble_eq_true rfl) dX7_scrolls_56 ⟨Nat.le_of_ble_eq_true rfl, Nat.le_of_ble_eq_true rfl, rfl, rfl⟩ ⟨Nat.le_of_ble_eq_true rfl, Nat.le_of_ble_eq_true rfl⟩) (fun r_13 h => ?_)
        try dsimp only at h
        refine lv_icmp_ge (tgt := 109) hx hb dX7_scrolls_59 (by decide) (fun c_15 => ?_) (fun c_15 => ?_)
        · replace h := h.1 c_15
          exact k109 _ _ _ _ _ _ _ ls h (hP.sub (ws' := md_v a0 q t0) [0, 1, 2, 3, 4, 5, 6, 7] rfl) (hD.sub (ws' := md_v a0 q t0) [0, 1, 2, 3, 4, 5, 6, 7] (by decide) rfl) hS (lv_sub hl [0, 1, 2, 3, 4] rfl)
        · replace h := h.2 c_15
          refine lv_aload_n hx hb dX7_scrolls_62 rfl (lv_at hl 4 rfl) ?_
          refine lv_iload hx hb dX7_scrolls_63 (lv_at hl 3 rfl) ?_
          refine lv_aload_n hx hb dX7_scrolls_65 rfl (lv_at hl 4 rfl) ?_
          refine fl_get (C := RX7) (T := TX7) (N := 23) (ci := 6) (v := .ref (a0 6)) hx hb ht in_X7 hown hK hP 0 rfl rfl 9 (by decide) mw_1139 rfl dX7_scrolls_66 ?_
          refine lv_iload hx hb dX7_scrolls_69 (lv_at hl 3 rfl) ?_
          refine lv_aload_n hx hb dX7_scrolls_71 rfl (lv_at hl 4 rfl) ?_
          refine vp_callSi (rd_wV (wc := md_v a0 q t0) (As := []) (rest := [.int z4, .ref (a0 6), .int z4, .ref (a0 0)]) hx hb hml hown ht (c2_X7_wide h) wd_X7_wide mw_1220 hQ hV hS (hP.sub [0, 1, 2, 3, 4, 5, 6, 7] rfl) rfl rfl rfl hl.1 rfl (Nat.le_of_ble_eq_true rfl) dX7_scrolls_72 ⟨Nat.le_of_ble_eq_true rfl, Nat.le_of_ble_eq_true rfl, rfl, rfl⟩ ⟨Nat.le_of_ble_eq_true rfl, Nat.le_of_ble_eq_true rfl⟩) (fun r_16 h => ?_)
          try dsimp only at h
          refine lv_iadd hx hb dX7_scrolls_75 ?_
          obtain ⟨g_18, h⟩ := h
          refine va_iald hx hb hK hP 6 0 rfl rfl g_18 dX7_scrolls_76 ?_
          refine vp_callSi (rd_wV (wc := md_v a0 q t0) (As := [.int z4, .int ((t0.2.2.2 1) (Int32.toNatClampNeg (z4 + r_16)))]) (rest := []) hx hb hml hown ht (c2_X7_flapFor h) wd_X7_flapFor mw_1241 hQ hV hS (hP.sub [0, 1, 2, 3, 4, 5, 6, 7] rfl) rfl rfl rfl hl.1 rfl (Nat.le_of_ble_eq_true rfl) dX7_scrolls_77 ⟨Nat.le_of_ble_eq_true rfl, Nat.le_of_ble_eq_true rfl, rfl, rfl⟩ ⟨Nat.le_of_ble_eq_true rfl, Nat.le_of_ble_eq_true rfl⟩) (fun r_19 h => ?_)
          try dsimp only at h
          refine lv_istore (lv' := [(5, .int r_19), (1, .int z1), (2, .int z2), (3, .int z3), (4, .int z4), (0, .ref (a0 0))]) hx hb dX7_scrolls_80 hl (by decide) rfl (fun ls hl => ?_)
          refine lv_iload hx hb dX7_scrolls_82 (lv_at hl 0 rfl) ?_
          refine lv_iconst (v := (-1)) hx hb dX7_scrolls_84 (by decide) ?_
          refine lv_icmp_ne (tgt := 94) hx hb dX7_scrolls_85 (by decide) (fun c_21 => ?_) (fun c_21 => ?_)
          · replace h := h.1 c_21
            refine lv_aload_n hx hb dX7_scrolls_94 rfl (lv_at hl 5 rfl) ?_
            refine lv_iload hx hb dX7_scrolls_95 (lv_at hl 4 rfl) ?_
            refine lv_iload hx hb dX7_scrolls_97 (lv_at hl 0 rfl) ?_
            refine lv_iconst (v := 1) hx hb dX7_scrolls_99 (by decide) ?_
            refine mt_gov (mt_wV (wc := md_v a0 q t0) (As := [.int z4, .int r_19, .int 1]) (rest := []) hx hb hml hown ht (c2_X7_wantsFlap h) wd_X7_wantsFlap mw_1271 hQ hV hS hA (hP.sub [0, 1, 2, 3, 4, 5, 6, 7] rfl) (hD.sub [0, 1, 2, 3, 4, 5, 6, 7] (by decide) rfl) rfl rfl rfl hl.1 rfl (Nat.le_of_ble_eq_true rfl) dX7_scrolls_100 ⟨Nat.le_of_ble_eq_true rfl, Nat.le_of_ble_eq_true rfl, rfl, rfl⟩ ⟨Nat.le_of_ble_eq_true rfl, Nat.le_of_ble_eq_true rfl⟩) (wr := []) hP hD hS hA [0, 1, 2, 3, 4, 5, 6, 7] [] rfl rfl (by decide) (by decide) (fun u_23 H locs h hP hD hS => ?_)
            try dsimp only at h
            have hP : va_P D vwCl [((a0 0), .inr (6, [.ref (a0 1), .ref (a0 2), .int (u_23.1 0), .ref (a0 3), .ref (a0 5), .ref (a0 4), .long u_23.2.1, .int (u_23.1 1), .int (u_23.1 2), .ref (a0 6), .int (u_23.1 3), .int (u_23.1 4), .ref (a0 7), .int (u_23.1 5), .int (u_23.1 6), .int (u_23.1 7), .int (u_23.1 8), .int (u_23.1 9), .int (u_23.1 10), .int (u_23.1 11), .int (u_23.1 12), .int (u_23.1 13), .int (u_23.1 14)])), ((a0 1), .inl (q 1, 6896, .inr (.inl (u_23.2.2.1 0)))), ((a0 2), .inl (q 1, 68960, .inr (.inl (u_23.2.2.1 1)))), ((a0 3), .inl (q 1, 13792, .inr (.inl (u_23.2.2.1 2)))), ((a0 4), .inl (q 1, 6896, .inr (.inl (u_23.2.2.1 3)))), ((a0 5), .inl (q 3, 2, .inl (u_23.2.2.2 0))), ((a0 6), .inl (q 0, 40, .inl (u_23.2.2.2 1))), ((a0 7), .inl (q 2, 400, .inl (u_23.2.2.2 2)))] H := hP
            have hD : va_D _ [((a0 0), .inr (6, [.ref (a0 1), .ref (a0 2), .int (u_23.1 0), .ref (a0 3), .ref (a0 5), .ref (a0 4), .long u_23.2.1, .int (u_23.1 1), .int (u_23.1 2), .ref (a0 6), .int (u_23.1 3), .int (u_23.1 4), .ref (a0 7), .int (u_23.1 5), .int (u_23.1 6), .int (u_23.1 7), .int (u_23.1 8), .int (u_23.1 9), .int (u_23.1 10), .int (u_23.1 11), .int (u_23.1 12), .int (u_23.1 13), .int (u_23.1 14)])), ((a0 1), .inl (q 1, 6896, .inr (.inl (u_23.2.2.1 0)))), ((a0 2), .inl (q 1, 68960, .inr (.inl (u_23.2.2.1 1)))), ((a0 3), .inl (q 1, 13792, .inr (.inl (u_23.2.2.1 2)))), ((a0 4), .inl (q 1, 6896, .inr (.inl (u_23.2.2.1 3)))), ((a0 5), .inl (q 3, 2, .inl (u_23.2.2.2 0))), ((a0 6), .inl (q 0, 40, .inl (u_23.2.2.2 1))), ((a0 7), .inl (q 2, 400, .inl (u_23.2.2.2 2)))] := hD
            refine lv_iinc (v := (z4 + 1)) (lv' := [(4, .int (z4 + 1)), (5, .int r_19), (1, .int z1), (2, .int z2), (3, .int z3), (0, .ref (a0 0))]) hx hb dX7_scrolls_103 hl (k := 4) rfl rfl (by decide) rfl (fun ls hl => ?_)
            refine lv_goto (tgt := 48) hx hb dX7_scrolls_106 (by decide) ?_
            exact ih _ _ _ _ _ _ _ ls h (hP.sub (ws' := md_v a0 q u_23) [0, 1, 2, 3, 4, 5, 6, 7] rfl) (hD.sub (ws' := md_v a0 q u_23) [0, 1, 2, 3, 4, 5, 6, 7] (by decide) rfl) hS (lv_sub hl [2, 3, 4, 0, 5] rfl)
          · replace h := h.2 c_21
            refine lv_iinc (v := (z3 + 1)) (lv' := [(3, .int (z3 + 1)), (5, .int r_19), (1, .int z1), (2, .int z2), (4, .int z4), (0, .ref (a0 0))]) hx hb dX7_scrolls_88 hl (k := 3) rfl rfl (by decide) rfl (fun ls hl => ?_)
            refine lv_goto (tgt := 103) hx hb dX7_scrolls_91 (by decide) ?_
            refine lv_iinc (v := (z4 + 1)) (lv' := [(4, .int (z4 + 1)), (3, .int (z3 + 1)), (5, .int r_19), (1, .int z1), (2, .int z2), (0, .ref (a0 0))]) hx hb dX7_scrolls_103 hl (k := 4) rfl rfl (by decide) rfl (fun ls hl => ?_)
            refine lv_goto (tgt := 48) hx hb dX7_scrolls_106 (by decide) ?_
            exact ih _ _ _ _ _ _ _ ls h (hP.sub (ws' := md_v a0 q t0) [0, 1, 2, 3, 4, 5, 6, 7] rfl) (hD.sub (ws' := md_v a0 q t0) [0, 1, 2, 3, 4, 5, 6, 7] (by decide) rfl) hS (lv_sub hl [3, 4, 1, 0, 5] rfl)
    obtain ⟨n48, h⟩ := h
    refine lp48 _ ?_ n48 _ _ _ _ _ _ _ ls h (hP.sub (ws' := md_v a0 q t0) [0, 1, 2, 3, 4, 5, 6, 7] rfl) (hD.sub (ws' := md_v a0 q t0) [0, 1, 2, 3, 4, 5, 6, 7] (by decide) rfl) hS (lv_sub hl [1, 2, 3, 0, 4] rfl)
    · intro t0 z1 z2 z3 z4 H locs ls h hP hD hS hl
      try dsimp only at h
      have hP : va_P D vwCl [((a0 0), .inr (6, [.ref (a0 1), .ref (a0 2), .int (t0.1 0), .ref (a0 3), .ref (a0 5), .ref (a0 4), .long t0.2.1, .int (t0.1 1), .int (t0.1 2), .ref (a0 6), .int (t0.1 3), .int (t0.1 4), .ref (a0 7), .int (t0.1 5), .int (t0.1 6), .int (t0.1 7), .int (t0.1 8), .int (t0.1 9), .int (t0.1 10), .int (t0.1 11), .int (t0.1 12), .int (t0.1 13), .int (t0.1 14)])), ((a0 1), .inl (q 1, 6896, .inr (.inl (t0.2.2.1 0)))), ((a0 2), .inl (q 1, 68960, .inr (.inl (t0.2.2.1 1)))), ((a0 3), .inl (q 1, 13792, .inr (.inl (t0.2.2.1 2)))), ((a0 4), .inl (q 1, 6896, .inr (.inl (t0.2.2.1 3)))), ((a0 5), .inl (q 3, 2, .inl (t0.2.2.2 0))), ((a0 6), .inl (q 0, 40, .inl (t0.2.2.2 1))), ((a0 7), .inl (q 2, 400, .inl (t0.2.2.2 2)))] H := hP
      have hD : va_D _ [((a0 0), .inr (6, [.ref (a0 1), .ref (a0 2), .int (t0.1 0), .ref (a0 3), .ref (a0 5), .ref (a0 4), .long t0.2.1, .int (t0.1 1), .int (t0.1 2), .ref (a0 6), .int (t0.1 3), .int (t0.1 4), .ref (a0 7), .int (t0.1 5), .int (t0.1 6), .int (t0.1 7), .int (t0.1 8), .int (t0.1 9), .int (t0.1 10), .int (t0.1 11), .int (t0.1 12), .int (t0.1 13), .int (t0.1 14)])), ((a0 1), .inl (q 1, 6896, .inr (.inl (t0.2.2.1 0)))), ((a0 2), .inl (q 1, 68960, .inr (.inl (t0.2.2.1 1)))), ((a0 3), .inl (q 1, 13792, .inr (.inl (t0.2.2.1 2)))), ((a0 4), .inl (q 1, 6896, .inr (.inl (t0.2.2.1 3)))), ((a0 5), .inl (q 3, 2, .inl (t0.2.2.2 0))), ((a0 6), .inl (q 0, 40, .inl (t0.2.2.2 1))), ((a0 7), .inl (q 2, 400, .inl (t0.2.2.2 2)))] := hD
      refine lv_iload_n hx hb dX7_scrolls_109 rfl (lv_at hl 2 rfl) ?_
      refine lv_aload_n hx hb dX7_scrolls_110 rfl (lv_at hl 4 rfl) ?_
      refine lv_aload_n hx hb dX7_scrolls_111 rfl (lv_at hl 4 rfl) ?_
      refine vp_callSi (rd_wV (wc := md_v a0 q t0) (As := []) (rest := [.ref (a0 0), .int z3]) hx hb hml hown ht (c2_X7_rows h) wd_X7_rows mw_1209 hQ hV hS (hP.sub [0, 1, 2, 3, 4, 5, 6, 7] rfl) rfl rfl rfl hl.1 rfl (Nat.le_of_ble_eq_true rfl) dX7_scrolls_112 ⟨Nat.le_of_ble_eq_true rfl, Nat.le_of_ble_eq_true rfl, rfl, rfl⟩ ⟨Nat.le_of_ble_eq_true rfl, Nat.le_of_ble_eq_true rfl⟩) (fun r_24 h => ?_)
      try dsimp only at h
      refine lv_iconst (v := 1) hx hb dX7_scrolls_115 (by decide) ?_
      refine lv_isub hx hb dX7_scrolls_116 ?_
      refine lv_iload_n hx hb dX7_scrolls_117 rfl (lv_at hl 0 rfl) ?_
      refine lv_iload_n hx hb dX7_scrolls_118 rfl (lv_at hl 1 rfl) ?_
      refine lv_iconst (v := 1) hx hb dX7_scrolls_119 (by decide) ?_
      refine mt_goi (mt_wV (wc := md_v a0 q t0) (As := [.int (r_24 - 1), .int z1, .int z2, .int 1]) (rest := [.int z3]) hx hb hml hown ht (c2_X7_wantsSigns h) wd_X7_wantsSigns mw_1237 hQ hV hS hA (hP.sub [0, 1, 2, 3, 4, 5, 6, 7] rfl) (hD.sub [0, 1, 2, 3, 4, 5, 6, 7] (by decide) rfl) rfl rfl rfl hl.1 rfl (Nat.le_of_ble_eq_true rfl) dX7_scrolls_120 ⟨Nat.le_of_ble_eq_true rfl, Nat.le_of_ble_eq_true rfl, rfl, rfl⟩ ⟨Nat.le_of_ble_eq_true rfl, Nat.le_of_ble_eq_true rfl⟩) (wr := []) hP hD hS hA [0, 1, 2, 3, 4, 5, 6, 7] [] rfl rfl (by decide) (by decide) (fun r_26 u_27 H locs h hP hD hS => ?_)
      try dsimp only at h
      have hP : va_P D vwCl [((a0 0), .inr (6, [.ref (a0 1), .ref (a0 2), .int (u_27.1 0), .ref (a0 3), .ref (a0 5), .ref (a0 4), .long u_27.2.1, .int (u_27.1 1), .int (u_27.1 2), .ref (a0 6), .int (u_27.1 3), .int (u_27.1 4), .ref (a0 7), .int (u_27.1 5), .int (u_27.1 6), .int (u_27.1 7), .int (u_27.1 8), .int (u_27.1 9), .int (u_27.1 10), .int (u_27.1 11), .int (u_27.1 12), .int (u_27.1 13), .int (u_27.1 14)])), ((a0 1), .inl (q 1, 6896, .inr (.inl (u_27.2.2.1 0)))), ((a0 2), .inl (q 1, 68960, .inr (.inl (u_27.2.2.1 1)))), ((a0 3), .inl (q 1, 13792, .inr (.inl (u_27.2.2.1 2)))), ((a0 4), .inl (q 1, 6896, .inr (.inl (u_27.2.2.1 3)))), ((a0 5), .inl (q 3, 2, .inl (u_27.2.2.2 0))), ((a0 6), .inl (q 0, 40, .inl (u_27.2.2.2 1))), ((a0 7), .inl (q 2, 400, .inl (u_27.2.2.2 2)))] H := hP
      have hD : va_D _ [((a0 0), .inr (6, [.ref (a0 1), .ref (a0 2), .int (u_27.1 0), .ref (a0 3), .ref (a0 5), .ref (a0 4), .long u_27.2.1, .int (u_27.1 1), .int (u_27.1 2), .ref (a0 6), .int (u_27.1 3), .int (u_27.1 4), .ref (a0 7), .int (u_27.1 5), .int (u_27.1 6), .int (u_27.1 7), .int (u_27.1 8), .int (u_27.1 9), .int (u_27.1 10), .int (u_27.1 11), .int (u_27.1 12), .int (u_27.1 13), .int (u_27.1 14)])), ((a0 1), .inl (q 1, 6896, .inr (.inl (u_27.2.2.1 0)))), ((a0 2), .inl (q 1, 68960, .inr (.inl (u_27.2.2.1 1)))), ((a0 3), .inl (q 1, 13792, .inr (.inl (u_27.2.2.1 2)))), ((a0 4), .inl (q 1, 6896, .inr (.inl (u_27.2.2.1 3)))), ((a0 5), .inl (q 3, 2, .inl (u_27.2.2.2 0))), ((a0 6), .inl (q 0, 40, .inl (u_27.2.2.2 1))), ((a0 7), .inl (q 2, 400, .inl (u_27.2.2.2 2)))] := hD
      refine lv_iadd hx hb dX7_scrolls_123 ?_
      exact mt_iret u_27 hx hb hr hk h (hP.sub (ws' := md_v a0 q u_27) [0, 1, 2, 3, 4, 5, 6, 7] rfl) (hD.sub (ws' := md_v a0 q u_27) [0, 1, 2, 3, 4, 5, 6, 7] (by decide) rfl) hS dX7_scrolls_124
