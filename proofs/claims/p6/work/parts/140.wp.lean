def wp_X7_loudest_L31 (post : Int32 → Md → Prop) (e63 : Md → Int32 → Int32 → Int32 → Int32 → Prop) : Nat → Md → Int32 → Int32 → Int32 → Int32 → Prop
  | 0, _, _, _, _, _ => False
  | n31 + 1, t0, z1, z2, z3, z4 => wp_X7_ticks (fun r_9 u_10 => ((r_9 ≤ 0 → e63 u_10 z1 z2 z3 z4) ∧ (¬ r_9 ≤ 0 → ((z3 < (u_10.1 1) → wp_X7_loudest_L31 post e63 n31 u_10 z1 z4 (u_10.1 1) (z4 + 1)) ∧ (¬ z3 < (u_10.1 1) → wp_X7_loudest_L31 post e63 n31 u_10 z1 z2 z3 (z4 + 1)))))) t0
def wp_X7_loudest (post : Int32 → Md → Prop) (s0 : Md) (x1 : Int32) : Prop := wp_X7_isBoard (fun r_1 => ((r_1 = 0 → post (-1) s0) ∧ (¬ r_1 = 0 → wp_X7_in (fun r_4 => ((¬ r_4 = 0 → wp_X7_putsAside (fun u_8 => (∃ n31, wp_X7_loudest_L31 post (fun t0 z1 z2 z3 z4 => wp_X7_takesBack (fun u_14 => ((z2 = (-2) → post z2 u_14) ∧ (¬ z2 = (-2) → ((¬ z1 = 0 → post (z3 * z3) u_14) ∧ (z1 = 0 → post z2 u_14))))) t0) n31 u_8 x1 (-2) 0 0)) s0) ∧ (r_4 = 0 → post (-1) s0))) (Int32.toInt64 x1) (0 : Int64) (1 : Int64)))) s0
set_option maxHeartbeats 4000000 in
set_option maxRecDepth 100000 in
theorem c2_X7_loudest {l : Launch} {D : va_G} {q : Nat → ClassId} {sz : Nat} {a0 : Nat → Nat} {s0 : Md} {x1 : Int32} {post : Int32 → Md → Prop} (h : wp_X7_loudest post s0 x1) : Met l yX7_loudest (Cond.code yX7_loudest cX7_loudest 5 (some .int) :: w_all) ({ frames := 5, cells := 0, slots := 0, locals := 110 } : Room) (mt_P D q [.ref (a0 0), .int x1] (md_v a0 q s0) sz) (va_Qi (fun r (u : Md) => post r u) (mt_B D (md_v a0 q s0) sz (fun u : Md => md_v a0 q u)) (va_A (md_v a0 q s0) sz)) 0 0 (va_A (md_v a0 q s0) sz) := by
  refine mt_start (by decide) (Nat.le_of_ble_eq_true rfl) ?_
  intro p e s m below meth c ls hx hb hr hml hown ht hk hin hP hQ hD hA hS hV hl
  have hK := hQ.1
  have hown : s.vm.findClass RX7 = some m.cls := hown
  have hl : lv_has ls 5 [(0, .ref (a0 0)), (1, .int x1)] := hl
  have hP : va_P D vwCl [((a0 0), .inr (6, [.ref (a0 1), .ref (a0 2), .int (s0.1 0), .ref (a0 3), .ref (a0 5), .ref (a0 4), .long s0.2.1, .int (s0.1 1), .int (s0.1 2), .ref (a0 6), .int (s0.1 3), .int (s0.1 4), .ref (a0 7), .int (s0.1 5), .int (s0.1 6), .int (s0.1 7), .int (s0.1 8), .int (s0.1 9), .int (s0.1 10), .int (s0.1 11), .int (s0.1 12), .int (s0.1 13), .int (s0.1 14)])), ((a0 1), .inl (q 1, 6896, .inr (.inl (s0.2.2.1 0)))), ((a0 2), .inl (q 1, 68960, .inr (.inl (s0.2.2.1 1)))), ((a0 3), .inl (q 1, 13792, .inr (.inl (s0.2.2.1 2)))), ((a0 4), .inl (q 1, 6896, .inr (.inl (s0.2.2.1 3)))), ((a0 5), .inl (q 3, 2, .inl (s0.2.2.2 0))), ((a0 6), .inl (q 0, 40, .inl (s0.2.2.2 1))), ((a0 7), .inl (q 2, 400, .inl (s0.2.2.2 2)))] s.heap := hP
  have hD : va_D _ [((a0 0), .inr (6, [.ref (a0 1), .ref (a0 2), .int (s0.1 0), .ref (a0 3), .ref (a0 5), .ref (a0 4), .long s0.2.1, .int (s0.1 1), .int (s0.1 2), .ref (a0 6), .int (s0.1 3), .int (s0.1 4), .ref (a0 7), .int (s0.1 5), .int (s0.1 6), .int (s0.1 7), .int (s0.1 8), .int (s0.1 9), .int (s0.1 10), .int (s0.1 11), .int (s0.1 12), .int (s0.1 13), .int (s0.1 14)])), ((a0 1), .inl (q 1, 6896, .inr (.inl (s0.2.2.1 0)))), ((a0 2), .inl (q 1, 68960, .inr (.inl (s0.2.2.1 1)))), ((a0 3), .inl (q 1, 13792, .inr (.inl (s0.2.2.1 2)))), ((a0 4), .inl (q 1, 6896, .inr (.inl (s0.2.2.1 3)))), ((a0 5), .inl (q 3, 2, .inl (s0.2.2.2 0))), ((a0 6), .inl (q 0, 40, .inl (s0.2.2.2 1))), ((a0 7), .inl (q 2, 400, .inl (s0.2.2.2 2)))] := hD
  unfold wp_X7_loudest at h
  refine lv_aload_n hx hb dX7_loudest_0 rfl (lv_at hl 0 rfl) ?_
  refine vp_callSi (rd_wV (wc := md_v a0 q s0) (As := []) (rest := []) hx hb hml hown ht (c2_X7_isBoard h) wd_X7_isBoard mw_1283 hQ hV hS (hP.sub [0, 1, 2, 3, 4, 5, 6, 7] rfl) rfl rfl rfl hl.1 rfl (Nat.le_of_ble_eq_true rfl) dX7_loudest_1 ⟨Nat.le_of_ble_eq_true rfl, Nat.le_of_ble_eq_true rfl, rfl, rfl⟩ ⟨Nat.le_of_ble_eq_true rfl, Nat.le_of_ble_eq_true rfl⟩) (fun r_1 h => ?_)
  try dsimp only at h
  refine lv_if_eq (tgt := 17) hx hb dX7_loudest_4 (by decide) (fun c_3 => ?_) (fun c_3 => ?_)
  · replace h := h.1 c_3
    refine lv_iconst (v := (-1)) hx hb dX7_loudest_17 (by decide) ?_
    exact mt_iret s0 hx hb hr hk h (hP.sub (ws' := md_v a0 q s0) [0, 1, 2, 3, 4, 5, 6, 7] rfl) (hD.sub (ws' := md_v a0 q s0) [0, 1, 2, 3, 4, 5, 6, 7] (by decide) rfl) hS dX7_loudest_18
  · replace h := h.2 c_3
    refine lv_iload_n hx hb dX7_loudest_7 rfl (lv_at hl 1 rfl) ?_
    refine lv_i2l (v := (Int32.toInt64 x1)) hx hb dX7_loudest_8 rfl ?_
    refine lv_lconst (v := 0) hx hb dX7_loudest_9 (by decide) ?_
    refine lv_lconst (v := 1) hx hb dX7_loudest_10 (by decide) ?_
    refine vp_callSi (rd_wS (wc := ([] : va_W)) (As := [.long (Int32.toInt64 x1), .long 0, .long 1]) (rest := []) hx hb hml hown ht (c2_X7_in h) wd_X7_in mw_1213 hQ hV hS (hP.sub [] rfl) rfl hl.1 rfl (Nat.le_of_ble_eq_true rfl) dX7_loudest_11 ⟨Nat.le_of_ble_eq_true rfl, Nat.le_of_ble_eq_true rfl, rfl, rfl⟩ ⟨Nat.le_of_ble_eq_true rfl, Nat.le_of_ble_eq_true rfl⟩) (fun r_4 h => ?_)
    try dsimp only at h
    refine lv_if_ne (tgt := 19) hx hb dX7_loudest_14 (by decide) (fun c_6 => ?_) (fun c_6 => ?_)
    · replace h := h.1 c_6
      refine lv_aload_n hx hb dX7_loudest_19 rfl (lv_at hl 0 rfl) ?_
      refine mt_gov (mt_wV (wc := md_v a0 q s0) (As := []) (rest := []) hx hb hml hown ht (c2_X7_putsAside h) wd_X7_putsAside mw_1449 hQ hV hS hA (hP.sub [0, 1, 2, 3, 4, 5, 6, 7] rfl) (hD.sub [0, 1, 2, 3, 4, 5, 6, 7] (by decide) rfl) rfl rfl rfl hl.1 rfl (Nat.le_of_ble_eq_true rfl) dX7_loudest_20 ⟨Nat.le_of_ble_eq_true rfl, Nat.le_of_ble_eq_true rfl, rfl, rfl⟩ ⟨Nat.le_of_ble_eq_true rfl, Nat.le_of_ble_eq_true rfl⟩) (wr := []) hP hD hS hA [0, 1, 2, 3, 4, 5, 6, 7] [] rfl rfl (by decide) (by decide) (fun u_8 H locs h hP hD hS => ?_)
      try dsimp only at h
      have hP : va_P D vwCl [((a0 0), .inr (6, [.ref (a0 1), .ref (a0 2), .int (u_8.1 0), .ref (a0 3), .ref (a0 5), .ref (a0 4), .long u_8.2.1, .int (u_8.1 1), .int (u_8.1 2), .ref (a0 6), .int (u_8.1 3), .int (u_8.1 4), .ref (a0 7), .int (u_8.1 5), .int (u_8.1 6), .int (u_8.1 7), .int (u_8.1 8), .int (u_8.1 9), .int (u_8.1 10), .int (u_8.1 11), .int (u_8.1 12), .int (u_8.1 13), .int (u_8.1 14)])), ((a0 1), .inl (q 1, 6896, .inr (.inl (u_8.2.2.1 0)))), ((a0 2), .inl (q 1, 68960, .inr (.inl (u_8.2.2.1 1)))), ((a0 3), .inl (q 1, 13792, .inr (.inl (u_8.2.2.1 2)))), ((a0 4), .inl (q 1, 6896, .inr (.inl (u_8.2.2.1 3)))), ((a0 5), .inl (q 3, 2, .inl (u_8.2.2.2 0))), ((a0 6), .inl (q 0, 40, .inl (u_8.2.2.2 1))), ((a0 7), .inl (q 2, 400, .inl (u_8.2.2.2 2)))] H := hP
      have hD : va_D _ [((a0 0), .inr (6, [.ref (a0 1), .ref (a0 2), .int (u_8.1 0), .ref (a0 3), .ref (a0 5), .ref (a0 4), .long u_8.2.1, .int (u_8.1 1), .int (u_8.1 2), .ref (a0 6), .int (u_8.1 3), .int (u_8.1 4), .ref (a0 7), .int (u_8.1 5), .int (u_8.1 6), .int (u_8.1 7), .int (u_8.1 8), .int (u_8.1 9), .int (u_8.1 10), .int (u_8.1 11), .int (u_8.1 12), .int (u_8.1 13), .int (u_8.1 14)])), ((a0 1), .inl (q 1, 6896, .inr (.inl (u_8.2.2.1 0)))), ((a0 2), .inl (q 1, 68960, .inr (.inl (u_8.2.2.1 1)))), ((a0 3), .inl (q 1, 13792, .inr (.inl (u_8.2.2.1 2)))), ((a0 4), .inl (q 1, 6896, .inr (.inl (u_8.2.2.1 3)))), ((a0 5), .inl (q 3, 2, .inl (u_8.2.2.2 0))), ((a0 6), .inl (q 0, 40, .inl (u_8.2.2.2 1))), ((a0 7), .inl (q 2, 400, .inl (u_8.2.2.2 2)))] := hD
      refine lv_bipush (v := (-2)) hx hb dX7_loudest_23 (by decide) ?_
      refine lv_istore_n (lv' := [(2, .int (-2)), (0, .ref (a0 0)), (1, .int x1)]) hx hb dX7_loudest_25 rfl hl (by decide) rfl (fun ls hl => ?_)
      refine lv_iconst (v := 0) hx hb dX7_loudest_26 (by decide) ?_
      refine lv_istore_n (lv' := [(3, .int 0), (2, .int (-2)), (0, .ref (a0 0)), (1, .int x1)]) hx hb dX7_loudest_27 rfl hl (by decide) rfl (fun ls hl => ?_)
      refine lv_iconst (v := 0) hx hb dX7_loudest_28 (by decide) ?_
      refine lv_istore (lv' := [(4, .int 0), (3, .int 0), (2, .int (-2)), (0, .ref (a0 0)), (1, .int x1)]) hx hb dX7_loudest_29 hl (by decide) rfl (fun ls hl => ?_)
      have lp31 : ∀ (e63 : Md → Int32 → Int32 → Int32 → Int32 → Prop) (k63 : ∀ (t0 : Md) (z1 : Int32) (z2 : Int32) (z3 : Int32) (z4 : Int32) (H : Heap) (locs : List Loc) (ls : Array Slot), e63 t0 z1 z2 z3 z4 → va_P D vwCl (md_v a0 q t0) H → va_D (va_A (md_v a0 q s0) sz) (md_v a0 q t0) → va_S (va_A (md_v a0 q s0) sz) s.heap H locs → lv_has ls 5 [(1, .int z1), (2, .int z2), (3, .int z3), (4, .int z4), (0, .ref (a0 0))] → W p l e ({ frames := 5, cells := 0, slots := 0, locals := 110 } : Room) s m [.ref (a0 0), .int x1].toArray below meth c H locs 0 0 (MQ below (va_Qi (fun r (u : Md) => post r u) (mt_B D (md_v a0 q s0) sz (fun u : Md => md_v a0 q u)) (va_A (md_v a0 q s0) sz)) [.ref (a0 0), .int x1].toArray s 0 0 (va_A (md_v a0 q s0) sz)) (F0 m 63 ls [])) (n : Nat) (t0 : Md) (z1 : Int32) (z2 : Int32) (z3 : Int32) (z4 : Int32) (H : Heap) (locs : List Loc) (ls : Array Slot), wp_X7_loudest_L31 post e63 n t0 z1 z2 z3 z4 → va_P D vwCl (md_v a0 q t0) H → va_D (va_A (md_v a0 q s0) sz) (md_v a0 q t0) → va_S (va_A (md_v a0 q s0) sz) s.heap H locs → lv_has ls 5 [(1, .int z1), (2, .int z2), (3, .int z3), (4, .int z4), (0, .ref (a0 0))] → W p l e ({ frames := 5, cells := 0, slots := 0, locals := 110 } : Room) s m [.ref (a0 0), .int x1].toArray below meth c H locs 0 0 (MQ below (va_Qi (fun r (u : Md) => post r u) (mt_B D (md_v a0 q s0) sz (fun u : Md => md_v a0 q u)) (va_A (md_v a0 q s0) sz)) [.ref (a0 0), .int x1].toArray s 0 0 (va_A (md_v a0 q s0) sz)) (F0 m 31 ls []) := by
        intro e63 k63 n
        induction n with
        | zero =>
          intro t0 z1 z2 z3 z4 H locs ls h
          exact h.elim
        | succ n ih =>
          intro t0 z1 z2 z3 z4 H locs ls h hP hD hS hl
          have hP : va_P D vwCl [((a0 0), .inr (6, [.ref (a0 1), .ref (a0 2), .int (t0.1 0), .ref (a0 3), .ref (a0 5), .ref (a0 4), .long t0.2.1, .int (t0.1 1), .int (t0.1 2), .ref (a0 6), .int (t0.1 3), .int (t0.1 4), .ref (a0 7), .int (t0.1 5), .int (t0.1 6), .int (t0.1 7), .int (t0.1 8), .int (t0.1 9), .int (t0.1 10), .int (t0.1 11), .int (t0.1 12), .int (t0.1 13), .int (t0.1 14)])), ((a0 1), .inl (q 1, 6896, .inr (.inl (t0.2.2.1 0)))), ((a0 2), .inl (q 1, 68960, .inr (.inl (t0.2.2.1 1)))), ((a0 3), .inl (q 1, 13792, .inr (.inl (t0.2.2.1 2)))), ((a0 4), .inl (q 1, 6896, .inr (.inl (t0.2.2.1 3)))), ((a0 5), .inl (q 3, 2, .inl (t0.2.2.2 0))), ((a0 6), .inl (q 0, 40, .inl (t0.2.2.2 1))), ((a0 7), .inl (q 2, 400, .inl (t0.2.2.2 2)))] H := hP
          have hD : va_D _ [((a0 0), .inr (6, [.ref (a0 1), .ref (a0 2), .int (t0.1 0), .ref (a0 3), .ref (a0 5), .ref (a0 4), .long t0.2.1, .int (t0.1 1), .int (t0.1 2), .ref (a0 6), .int (t0.1 3), .int (t0.1 4), .ref (a0 7), .int (t0.1 5), .int (t0.1 6), .int (t0.1 7), .int (t0.1 8), .int (t0.1 9), .int (t0.1 10), .int (t0.1 11), .int (t0.1 12), .int (t0.1 13), .int (t0.1 14)])), ((a0 1), .inl (q 1, 6896, .inr (.inl (t0.2.2.1 0)))), ((a0 2), .inl (q 1, 68960, .inr (.inl (t0.2.2.1 1)))), ((a0 3), .inl (q 1, 13792, .inr (.inl (t0.2.2.1 2)))), ((a0 4), .inl (q 1, 6896, .inr (.inl (t0.2.2.1 3)))), ((a0 5), .inl (q 3, 2, .inl (t0.2.2.2 0))), ((a0 6), .inl (q 0, 40, .inl (t0.2.2.2 1))), ((a0 7), .inl (q 2, 400, .inl (t0.2.2.2 2)))] := hD
          unfold wp_X7_loudest_L31 at h
          refine lv_aload_n hx hb dX7_loudest_31 rfl (lv_at hl 4 rfl) ?_
          refine mt_goi (mt_wV (wc := md_v a0 q t0) (As := []) (rest := []) hx hb hml hown ht (c2_X7_ticks h) wd_X7_ticks mw_1304 hQ hV hS hA (hP.sub [0, 1, 2, 3, 4, 5, 6, 7] rfl) (hD.sub [0, 1, 2, 3, 4, 5, 6, 7] (by decide) rfl) rfl rfl rfl hl.1 rfl (Nat.le_of_ble_eq_true rfl) dX7_loudest_32 ⟨Nat.le_of_ble_eq_true rfl, Nat.le_of_ble_eq_true rfl, rfl, rfl⟩ ⟨Nat.le_of_ble_eq_true rfl, Nat.le_of_ble_eq_true rfl⟩) (wr := []) hP hD hS hA [0, 1, 2, 3, 4, 5, 6, 7] [] rfl rfl (by decide) (by decide) (fun r_9 u_10 H locs h hP hD hS => ?_)
          try dsimp only at h
          have hP : va_P D vwCl [((a0 0), .inr (6, [.ref (a0 1), .ref (a0 2), .int (u_10.1 0), .ref (a0 3), .ref (a0 5), .ref (a0 4), .long u_10.2.1, .int (u_10.1 1), .int (u_10.1 2), .ref (a0 6), .int (u_10.1 3), .int (u_10.1 4), .ref (a0 7), .int (u_10.1 5), .int (u_10.1 6), .int (u_10.1 7), .int (u_10.1 8), .int (u_10.1 9), .int (u_10.1 10), .int (u_10.1 11), .int (u_10.1 12), .int (u_10.1 13), .int (u_10.1 14)])), ((a0 1), .inl (q 1, 6896, .inr (.inl (u_10.2.2.1 0)))), ((a0 2), .inl (q 1, 68960, .inr (.inl (u_10.2.2.1 1)))), ((a0 3), .inl (q 1, 13792, .inr (.inl (u_10.2.2.1 2)))), ((a0 4), .inl (q 1, 6896, .inr (.inl (u_10.2.2.1 3)))), ((a0 5), .inl (q 3, 2, .inl (u_10.2.2.2 0))), ((a0 6), .inl (q 0, 40, .inl (u_10.2.2.2 1))), ((a0 7), .inl (q 2, 400, .inl (u_10.2.2.2 2)))] H := hP
          have hD : va_D _ [((a0 0), .inr (6, [.ref (a0 1), .ref (a0 2), .int (u_10.1 0), .ref (a0 3), .ref (a0 5), .ref (a0 4), .long u_10.2.1, .int (u_10.1 1), .int (u_10.1 2), .ref (a0 6), .int (u_10.1 3), .int (u_10.1 4), .ref (a0 7), .int (u_10.1 5), .int (u_10.1 6), .int (u_10.1 7), .int (u_10.1 8), .int (u_10.1 9), .int (u_10.1 10), .int (u_10.1 11), .int (u_10.1 12), .int (u_10.1 13), .int (u_10.1 14)])), ((a0 1), .inl (q 1, 6896, .inr (.inl (u_10.2.2.1 0)))), ((a0 2), .inl (q 1, 68960, .inr (.inl (u_10.2.2.1 1)))), ((a0 3), .inl (q 1, 13792, .inr (.inl (u_10.2.2.1 2)))), ((a0 4), .inl (q 1, 6896, .inr (.inl (u_10.2.2.1 3)))), ((a0 5), .inl (q 3, 2, .inl (u_10.2.2.2 0))), ((a0 6), .inl (q 0, 40, .inl (u_10.2.2.2 1))), ((a0 7), .inl (q 2, 400, .inl (u_10.2.2.2 2)))] := hD
          refine lv_if_le (tgt := 63) hx hb dX7_loudest_35 (by decide) (fun c_11 => ?_) (fun c_11 => ?_)
          · replace h := h.1 c_11
            exact k63 _ _ _ _ _ _ _ ls h (hP.sub (ws' := md_v a0 q u_10) [0, 1, 2, 3, 4, 5, 6, 7] rfl) (hD.sub (ws' := md_v a0 q u_10) [0, 1, 2, 3, 4, 5, 6, 7] (by decide) rfl) hS (lv_sub hl [0, 1, 2, 3, 4] rfl)
          · replace h := h.2 c_11
            refine lv_aload_n hx hb dX7_loudest_38 rfl (lv_at hl 4 rfl) ?_
            refine fl_get (C := RX7) (T := TX7) (N := 23) (ci := 6) (v := .int (u_10.1 1)) hx hb ht in_X7 hown hK hP 0 rfl rfl 7 (by decide) mw_1137 rfl dX7_loudest_39 ?_
            refine lv_iload_n hx hb dX7_loudest_42 rfl (lv_at hl 2 rfl) ?_
            refine lv_icmp_gt (tgt := 49) hx hb dX7_loudest_43 (by decide) (fun c_12 => ?_) (fun c_12 => ?_)
            · replace h := h.1 c_12
              refine lv_iload hx hb dX7_loudest_49 (lv_at hl 3 rfl) ?_
              refine lv_istore_n (lv' := [(2, .int z4), (1, .int z1), (3, .int z3), (4, .int z4), (0, .ref (a0 0))]) hx hb dX7_loudest_51 rfl hl (by decide) rfl (fun ls hl => ?_)
              refine lv_aload_n hx hb dX7_loudest_52 rfl (lv_at hl 4 rfl) ?_
              refine fl_get (C := RX7) (T := TX7) (N := 23) (ci := 6) (v := .int (u_10.1 1)) hx hb ht in_X7 hown hK hP 0 rfl rfl 7 (by decide) mw_1137 rfl dX7_loudest_53 ?_
              refine lv_istore_n (lv' := [(3, .int (u_10.1 1)), (2, .int z4), (1, .int z1), (4, .int z4), (0, .ref (a0 0))]) hx hb dX7_loudest_56 rfl hl (by decide) rfl (fun ls hl => ?_)
              refine lv_iinc (v := (z4 + 1)) (lv' := [(4, .int (z4 + 1)), (3, .int (u_10.1 1)), (2, .int z4), (1, .int z1), (0, .ref (a0 0))]) hx hb dX7_loudest_57 hl (k := 3) rfl rfl (by decide) rfl (fun ls hl => ?_)
              refine lv_goto (tgt := 31) hx hb dX7_loudest_60 (by decide) ?_
              exact ih _ _ _ _ _ _ _ ls h (hP.sub (ws' := md_v a0 q u_10) [0, 1, 2, 3, 4, 5, 6, 7] rfl) (hD.sub (ws' := md_v a0 q u_10) [0, 1, 2, 3, 4, 5, 6, 7] (by decide) rfl) hS (lv_sub hl [3, 2, 1, 0, 4] rfl)
            · replace h := h.2 c_12
              refine lv_goto (tgt := 57) hx hb dX7_loudest_46 (by decide) ?_
              refine lv_iinc (v := (z4 + 1)) (lv' := [(4, .int (z4 + 1)), (1, .int z1), (2, .int z2), (3, .int z3), (0, .ref (a0 0))]) hx hb dX7_loudest_57 hl (k := 3) rfl rfl (by decide) rfl (fun ls hl => ?_)
              refine lv_goto (tgt := 31) hx hb dX7_loudest_60 (by decide) ?_
              exact ih _ _ _ _ _ _ _ ls h (hP.sub (ws' := md_v a0 q u_10) [0, 1, 2, 3, 4, 5, 6, 7] rfl) (hD.sub (ws' := md_v a0 q u_10) [0, 1, 2, 3, 4, 5, 6, 7] (by decide) rfl) hS (lv_sub hl [1, 2, 3, 0, 4] rfl)
      obtain ⟨n31, h⟩ := h
      refine lp31 _ ?_ n31 _ _ _ _ _ _ _ ls h (hP.sub (ws' := md_v a0 q u_8) [0, 1, 2, 3, 4, 5, 6, 7] rfl) (hD.sub (ws' := md_v a0 q u_8) [0, 1, 2, 3, 4, 5, 6, 7] (by decide) rfl) hS (lv_sub hl [4, 2, 1, 0, 3] rfl)
      · intro t0 z1 z2 z3 z4 H locs ls h hP hD hS hl
        try dsimp only at h
        have hP : va_P D vwCl [((a0 0), .inr (6, [.ref (a0 1), .ref (a0 2), .int (t0.1 0), .ref (a0 3), .ref (a0 5), .ref (a0 4), .long t0.2.1, .int (t0.1 1), .int (t0.1 2), .ref (a0 6), .int (t0.1 3), .int (t0.1 4), .ref (a0 7), .int (t0.1 5), .int (t0.1 6), .int (t0.1 7), .int (t0.1 8), .int (t0.1 9), .int (t0.1 10), .int (t0.1 11), .int (t0.1 12), .int (t0.1 13), .int (t0.1 14)])), ((a0 1), .inl (q 1, 6896, .inr (.inl (t0.2.2.1 0)))), ((a0 2), .inl (q 1, 68960, .inr (.inl (t0.2.2.1 1)))), ((a0 3), .inl (q 1, 13792, .inr (.inl (t0.2.2.1 2)))), ((a0 4), .inl (q 1, 6896, .inr (.inl (t0.2.2.1 3)))), ((a0 5), .inl (q 3, 2, .inl (t0.2.2.2 0))), ((a0 6), .inl (q 0, 40, .inl (t0.2.2.2 1))), ((a0 7), .inl (q 2, 400, .inl (t0.2.2.2 2)))] H := hP
        have hD : va_D _ [((a0 0), .inr (6, [.ref (a0 1), .ref (a0 2), .int (t0.1 0), .ref (a0 3), .ref (a0 5), .ref (a0 4), .long t0.2.1, .int (t0.1 1), .int (t0.1 2), .ref (a0 6), .int (t0.1 3), .int (t0.1 4), .ref (a0 7), .int (t0.1 5), .int (t0.1 6), .int (t0.1 7), .int (t0.1 8), .int (t0.1 9), .int (t0.1 10), .int (t0.1 11), .int (t0.1 12), .int (t0.1 13), .int (t0.1 14)])), ((a0 1), .inl (q 1, 6896, .inr (.inl (t0.2.2.1 0)))), ((a0 2), .inl (q 1, 68960, .inr (.inl (t0.2.2.1 1)))), ((a0 3), .inl (q 1, 13792, .inr (.inl (t0.2.2.1 2)))), ((a0 4), .inl (q 1, 6896, .inr (.inl (t0.2.2.1 3)))), ((a0 5), .inl (q 3, 2, .inl (t0.2.2.2 0))), ((a0 6), .inl (q 0, 40, .inl (t0.2.2.2 1))), ((a0 7), .inl (q 2, 400, .inl (t0.2.2.2 2)))] := hD
        refine lv_aload_n hx hb dX7_loudest_63 rfl (lv_at hl 4 rfl) ?_
        refine mt_gov (mt_wV (wc := md_v a0 q t0) (As := []) (rest := []) hx hb hml hown ht (c2_X7_takesBack h) wd_X7_takesBack mw_1457 hQ hV hS hA (hP.sub [0, 1, 2, 3, 4, 5, 6, 7] rfl) (hD.sub [0, 1, 2, 3, 4, 5, 6, 7] (by decide) rfl) rfl rfl rfl hl.1 rfl (Nat.le_of_ble_eq_true rfl) dX7_loudest_64 ⟨Nat.le_of_ble_eq_true rfl, Nat.le_of_ble_eq_true rfl, rfl, rfl⟩ ⟨Nat.le_of_ble_eq_true rfl, Nat.le_of_ble_eq_true rfl⟩) (wr := []) hP hD hS hA [0, 1, 2, 3, 4, 5, 6, 7] [] rfl rfl (by decide) (by decide) (fun u_14 H locs h hP hD hS => ?_)
        try dsimp only at h
        have hP : va_P D vwCl [((a0 0), .inr (6, [.ref (a0 1), .ref (a0 2), .int (u_14.1 0), .ref (a0 3), .ref (a0 5), .ref (a0 4), .long u_14.2.1, .int (u_14.1 1), .int (u_14.1 2), .ref (a0 6), .int (u_14.1 3), .int (u_14.1 4), .ref (a0 7), .int (u_14.1 5), .int (u_14.1 6), .int (u_14.1 7), .int (u_14.1 8), .int (u_14.1 9), .int (u_14.1 10), .int (u_14.1 11), .int (u_14.1 12), .int (u_14.1 13), .int (u_14.1 14)])), ((a0 1), .inl (q 1, 6896, .inr (.inl (u_14.2.2.1 0)))), ((a0 2), .inl (q 1, 68960, .inr (.inl (u_14.2.2.1 1)))), ((a0 3), .inl (q 1, 13792, .inr (.inl (u_14.2.2.1 2)))), ((a0 4), .inl (q 1, 6896, .inr (.inl (u_14.2.2.1 3)))), ((a0 5), .inl (q 3, 2, .inl (u_14.2.2.2 0))), ((a0 6), .inl (q 0, 40, .inl (u_14.2.2.2 1))), ((a0 7), .inl (q 2, 400, .inl (u_14.2.2.2 2)))] H := hP
        have hD : va_D _ [((a0 0), .inr (6, [.ref (a0 1), .ref (a0 2), .int (u_14.1 0), .ref (a0 3), .ref (a0 5), .ref (a0 4), .long u_14.2.1, .int (u_14.1 1), .int (u_14.1 2), .ref (a0 6), .int (u_14.1 3), .int (u_14.1 4), .ref (a0 7), .int (u_14.1 5), .int (u_14.1 6), .int (u_14.1 7), .int (u_14.1 8), .int (u_14.1 9), .int (u_14.1 10), .int (u_14.1 11), .int (u_14.1 12), .int (u_14.1 13), .int (u_14.1 14)])), ((a0 1), .inl (q 1, 6896, .inr (.inl (u_14.2.2.1 0)))), ((a0 2), .inl (q 1, 68960, .inr (.inl (u_14.2.2.1 1)))), ((a0 3), .inl (q 1, 13792, .inr (.inl (u_14.2.2.1 2)))), ((a0 4), .inl (q 1, 6896, .inr (.inl (u_14.2.2.1 3)))), ((a0 5), .inl (q 3, 2, .inl (u_14.2.2.2 0))), ((a0 6), .inl (q 0, 40, .inl (u_14.2.2.2 1))), ((a0 7), .inl (q 2, 400, .inl (u_14.2.2.2 2)))] := hD
        refine lv_iload_n hx hb dX7_loudest_67 rfl (lv_at hl 1 rfl) ?_
        refine lv_bipush (v := (-2)) hx hb dX7_loudest_68 (by decide) ?_
        refine lv_icmp_eq (tgt := 77) hx hb dX7_loudest_70 (by decide) (fun c_15 => ?_) (fun c_15 => ?_)
        · replace h := h.1 c_15
          refine lv_iload_n hx hb dX7_loudest_77 rfl (lv_at hl 1 rfl) ?_
          refine lv_goto (tgt := 84) hx hb dX7_loudest_78 (by decide) ?_
          exact mt_iret u_14 hx hb hr hk h (hP.sub (ws' := md_v a0 q u_14) [0, 1, 2, 3, 4, 5, 6, 7] rfl) (hD.sub (ws' := md_v a0 q u_14) [0, 1, 2, 3, 4, 5, 6, 7] (by decide) rfl) hS dX7_loudest_84
        · replace h := h.2 c_15
          refine lv_iload_n hx hb dX7_loudest_73 rfl (lv_at hl 0 rfl) ?_
          refine lv_if_ne (tgt := 81) hx hb dX7_loudest_74 (by decide) (fun c_16 => ?_) (fun c_16 => ?_)
          · replace h := h.1 c_16
            refine lv_iload_n hx hb dX7_loudest_81 rfl (lv_at hl 2 rfl) ?_
            refine lv_iload_n hx hb dX7_loudest_82 rfl (lv_at hl 2 rfl) ?_
            refine lv_imul hx hb dX7_loudest_83 ?_
            exact mt_iret u_14 hx hb hr hk h (hP.sub (ws' := md_v a0 q u_14) [0, 1, 2, 3, 4, 5, 6, 7] rfl) (hD.sub (ws' := md_v a0 q u_14) [0, 1, 2, 3, 4, 5, 6, 7] (by decide) rfl) hS dX7_loudest_84
          · replace h := h.2 c_16
            refine lv_iload_n hx hb dX7_loudest_77 rfl (lv_at hl 1 rfl) ?_
            refine lv_goto (tgt := 84) hx hb dX7_loudest_78 (by decide) ?_
            exact mt_iret u_14 hx hb hr hk h (hP.sub (ws' := md_v a0 q u_14) [0, 1, 2, 3, 4, 5, 6, 7] rfl) (hD.sub (ws' := md_v a0 q u_14) [0, 1, 2, 3, 4, 5, 6, 7] (by decide) rfl) hS dX7_loudest_84
    · replace h := h.2 c_6
      refine lv_iconst (v := (-1)) hx hb dX7_loudest_17 (by decide) ?_
      exact mt_iret s0 hx hb hr hk h (hP.sub (ws' := md_v a0 q s0) [0, 1, 2, 3, 4, 5, 6, 7] rfl) (hD.sub (ws' := md_v a0 q s0) [0, 1, 2, 3, 4, 5, 6, 7] (by decide) rfl) hS dX7_loudest_18

def wp_X7_usual_L29 (s0 : Md) (post : Int32 → Prop) (e74 : Int32 → Int32 → Int32 → Int32 → Int32 → Prop) : Nat → Int32 → Int32 → Int32 → Int32 → Int32 → Prop
  | 0, _, _, _, _, _ => False
  | n29 + 1, z1, z2, z3, z4, z5 => wp_X7_flapsOf (fun r_7 => ((r_7 ≤ z5 → e74 z1 z2 z3 z4 z5) ∧ (¬ r_7 ≤ z5 → wp_X7_often (fun r_10 => ((z4 < r_10 → wp_X7_often (fun r_13 => wp_X7_usual_L29 s0 post e74 n29 z1 z2 z5 r_13 (z5 + 1)) s0 z1 z5 (1 : Int32)) ∧ (¬ z4 < r_10 → wp_X7_usual_L29 s0 post e74 n29 z1 z2 z3 z4 (z5 + 1)))) s0 z1 z5 (1 : Int32)))) s0 z1
def wp_X7_usual (post : Int32 → Prop) (s0 : Md) (x1 : Int32) (x2 : Int32) : Prop := wp_X7_isDrum (fun r_1 => ((r_1 = 0 → post (-1)) ∧ (¬ r_1 = 0 → wp_X7_in (fun r_4 => ((¬ r_4 = 0 → (∃ n29, wp_X7_usual_L29 s0 post (fun z1 z2 z3 z4 z5 => ((z3 = (-2) → post z3) ∧ (¬ z3 = (-2) → ((¬ z2 = 0 → post z4) ∧ (z2 = 0 → post z3))))) n29 x1 x2 (-2) 0 0)) ∧ (r_4 = 0 → post (-1)))) (Int32.toInt64 x2) (0 : Int64) (1 : Int64)))) s0 x1
set_option maxHeartbeats 4000000 in
set_option maxRecDepth 100000 in
theorem c2_X7_usual {l : Launch} {D : va_G} {q : Nat → ClassId} {a0 : Nat → Nat} {s0 : Md} {x1 : Int32} {x2 : Int32} {post : Int32 → Prop} (h : wp_X7_usual post s0 x1 x2) : Met l yX7_usual (Cond.code yX7_usual cX7_usual 6 (some .int) :: w_all) ({ frames := 3, cells := 0, slots := 0, locals := 71 } : Room) (rd_P D q [.ref (a0 0), .int x1, .int x2] (md_v a0 q s0)) (vp_Si post) 0 0 (fun _ => False) := by
  refine rd_start (by decide) (Nat.le_of_ble_eq_true rfl) ?_
  intro p e s m below meth c ls hx hb hr hml hown ht hk hP hQ hV hl
  have hK := hQ.1
  have hown : s.vm.findClass RX7 = some m.cls := hown
  have hl : lv_has ls 6 [(0, .ref (a0 0)), (1, .int x1), (2, .int x2)] := hl
  have hP : va_P D vwCl [((a0 0), .inr (6, [.ref (a0 1), .ref (a0 2), .int (s0.1 0), .ref (a0 3), .ref (a0 5), .ref (a0 4), .long s0.2.1, .int (s0.1 1), .int (s0.1 2), .ref (a0 6), .int (s0.1 3), .int (s0.1 4), .ref (a0 7), .int (s0.1 5), .int (s0.1 6), .int (s0.1 7), .int (s0.1 8), .int (s0.1 9), .int (s0.1 10), .int (s0.1 11), .int (s0.1 12), .int (s0.1 13), .int (s0.1 14)])), ((a0 1), .inl (q 1, 6896, .inr (.inl (s0.2.2.1 0)))), ((a0 2), .inl (q 1, 68960, .inr (.inl (s0.2.2.1 1)))), ((a0 3), .inl (q 1, 13792, .inr (.inl (s0.2.2.1 2)))), ((a0 4), .inl (q 1, 6896, .inr (.inl (s0.2.2.1 3)))), ((a0 5), .inl (q 3, 2, .inl (s0.2.2.2 0))), ((a0 6), .inl (q 0, 40, .inl (s0.2.2.2 1))), ((a0 7), .inl (q 2, 400, .inl (s0.2.2.2 2)))] s.heap := hP
  unfold wp_X7_usual at h
  refine lv_aload_n hx hb dX7_usual_0 rfl (lv_at hl 0 rfl) ?_
  refine lv_iload_n hx hb dX7_usual_1 rfl (lv_at hl 1 rfl) ?_
  refine vp_callSi (rd_wV (wc := md_v a0 q s0) (As := [.int x1]) (rest := []) hx hb hml hown ht (c2_X7_isDrum h) wd_X7_isDrum mw_1373 hQ hV va_S.rf (hP.sub [0, 1, 2, 3, 4, 5, 6, 7] rfl) rfl rfl rfl hl.1 rfl (Nat.le_of_ble_eq_true rfl) dX7_usual_2 ⟨Nat.le_of_ble_eq_true rfl, Nat.le_of_ble_eq_true rfl, rfl, rfl⟩ ⟨Nat.le_of_ble_eq_true rfl, Nat.le_of_ble_eq_true rfl⟩) (fun r_1 h => ?_)
  try dsimp only at h
  refine lv_if_eq (tgt := 18) hx hb dX7_usual_5 (by decide) (fun c_3 => ?_) (fun c_3 => ?_)
  · replace h := h.1 c_3
    refine lv_iconst (v := (-1)) hx hb dX7_usual_18 (by decide) ?_
    exact rd_iret hx hb hr hk h dX7_usual_19
  · replace h := h.2 c_3
    refine lv_iload_n hx hb dX7_usual_8 rfl (lv_at hl 2 rfl) ?_
    refine lv_i2l (v := (Int32.toInt64 x2)) hx hb dX7_usual_9 rfl ?_
    refine lv_lconst (v := 0) hx hb dX7_usual_10 (by decide) ?_
    refine lv_lconst (v := 1) hx hb dX7_usual_11 (by decide) ?_
    refine vp_callSi (rd_wS (wc := ([] : va_W)) (As := [.long (Int32.toInt64 x2), .long 0, .long 1]) (rest := []) hx hb hml hown ht (c2_X7_in h) wd_X7_in mw_1213 hQ hV va_S.rf (hP.sub [] rfl) rfl hl.1 rfl (Nat.le_of_ble_eq_true rfl) dX7_usual_12 ⟨Nat.le_of_ble_eq_true rfl, Nat.le_of_ble_eq_true rfl, rfl, rfl⟩ ⟨Nat.le_of_ble_eq_true rfl, Nat.le_of_ble_eq_true rfl⟩) (fun r_4 h => ?_)
    try dsimp only at h
    refine lv_if_ne (tgt := 20) hx hb dX7_usual_15 (by decide) (fun c_6 => ?_) (fun c_6 => ?_)
    · replace h := h.1 c_6
      refine lv_bipush (v := (-2)) hx hb dX7_usual_20 (by decide) ?_
      refine lv_istore_n (lv' := [(3, .int (-2)), (0, .ref (a0 0)), (1, .int x1), (2, .int x2)]) hx hb dX7_usual_22 rfl hl (by decide) rfl (fun ls hl => ?_)
      refine lv_iconst (v := 0) hx hb dX7_usual_23 (by decide) ?_
      refine lv_istore (lv' := [(4, .int 0), (3, .int (-2)), (0, .ref (a0 0)), (1, .int x1), (2, .int x2)]) hx hb dX7_usual_24 hl (by decide) rfl (fun ls hl => ?_)
      refine lv_iconst (v := 0) hx hb dX7_usual_26 (by decide) ?_
      refine lv_istore (lv' := [(5, .int 0), (4, .int 0), (3, .int (-2)), (0, .ref (a0 0)), (1, .int x1), (2, .int x2)]) hx hb dX7_usual_27 hl (by decide) rfl (fun ls hl => ?_)
      have lp29 : ∀ (e74 : Int32 → Int32 → Int32 → Int32 → Int32 → Prop) (k74 : ∀ (z1 : Int32) (z2 : Int32) (z3 : Int32) (z4 : Int32) (z5 : Int32) (ls : Array Slot), e74 z1 z2 z3 z4 z5 → lv_has ls 6 [(1, .int z1), (2, .int z2), (3, .int z3), (4, .int z4), (5, .int z5), (0, .ref (a0 0))] → W p l e ({ frames := 3, cells := 0, slots := 0, locals := 71 } : Room) s m [.ref (a0 0), .int x1, .int x2].toArray below meth c s.heap [] 0 0 (MQ below (vp_Si post) [.ref (a0 0), .int x1, .int x2].toArray s 0 0 (fun _ => False)) (F0 m 74 ls [])) (n : Nat) (z1 : Int32) (z2 : Int32) (z3 : Int32) (z4 : Int32) (z5 : Int32) (ls : Array Slot), wp_X7_usual_L29 s0 post e74 n z1 z2 z3 z4 z5 → lv_has ls 6 [(1, .int z1), (2, .int z2), (3, .int z3), (4, .int z4), (5, .int z5), (0, .ref (a0 0))] → W p l e ({ frames := 3, cells := 0, slots := 0, locals := 71 } : Room) s m [.ref (a0 0), .int x1, .int x2].toArray below meth c s.heap [] 0 0 (MQ below (vp_Si post) [.ref (a0 0), .int x1, .int x2].toArray s 0 0 (fun _ => False)) (F0 m 29 ls []) := by
        intro e74 k74 n
        induction n with
        | zero =>
          intro z1 z2 z3 z4 z5 ls h
          exact h.elim
        | succ n ih =>
          intro z1 z2 z3 z4 z5 ls h hl
          unfold wp_X7_usual_L29 at h
          refine lv_iload hx hb dX7_usual_29 (lv_at hl 4 rfl) ?_
          refine lv_aload_n hx hb dX7_usual_31 rfl (lv_at hl 5 rfl) ?_
          refine lv_iload_n hx hb dX7_usual_32 rfl (lv_at hl 0 rfl) ?_
          refine vp_callSi (rd_wV (wc := md_v a0 q s0) (As := [.int z1]) (rest := [.int z5]) hx hb hml hown ht (c2_X7_flapsOf h) wd_X7_flapsOf mw_1253 hQ hV va_S.rf (hP.sub [0, 1, 2, 3, 4, 5, 6, 7] rfl) rfl rfl rfl hl.1 rfl (Nat.le_of_ble_eq_true rfl) dX7_usual_33 ⟨Nat.le_of_ble_eq_true rfl, Nat.le_of_ble_eq_true rfl, rfl, rfl⟩ ⟨Nat.le_of_ble_eq_true rfl, Nat.le_of_ble_eq_true rfl⟩) (fun r_7 h => ?_)
          try dsimp only at h
          refine lv_icmp_ge (tgt := 74) hx hb dX7_usual_36 (by decide) (fun c_9 => ?_) (fun c_9 => ?_)
          · replace h := h.1 c_9
            exact k74 _ _ _ _ _ ls h (lv_sub hl [0, 1, 2, 3, 4, 5] rfl)
          · replace h := h.2 c_9
            refine lv_aload_n hx hb dX7_usual_39 rfl (lv_at hl 5 rfl) ?_
            refine lv_iload_n hx hb dX7_usual_40 rfl (lv_at hl 0 rfl) ?_
            refine lv_iload hx hb dX7_usual_41 (lv_at hl 4 rfl) ?_
            refine lv_iconst (v := 1) hx hb dX7_usual_43 (by decide) ?_
            refine vp_callSi (rd_wV (wc := md_v a0 q s0) (As := [.int z1, .int z5, .int 1]) (rest := []) hx hb hml hown ht (c2_X7_often h) wd_X7_often mw_1704 hQ hV va_S.rf (hP.sub [0, 1, 2, 3, 4, 5, 6, 7] rfl) rfl rfl rfl hl.1 rfl (Nat.le_of_ble_eq_true rfl) dX7_usual_44 ⟨Nat.le_of_ble_eq_true rfl, Nat.le_of_ble_eq_true rfl, rfl, rfl⟩ ⟨Nat.le_of_ble_eq_true rfl, Nat.le_of_ble_eq_true rfl⟩) (fun r_10 h => ?_)
            try dsimp only at h
            refine lv_iload hx hb dX7_usual_47 (lv_at hl 3 rfl) ?_
            refine lv_icmp_gt (tgt := 55) hx hb dX7_usual_49 (by decide) (fun c_12 => ?_) (fun c_12 => ?_)
            · replace h := h.1 c_12
              refine lv_iload hx hb dX7_usual_55 (lv_at hl 4 rfl) ?_
              refine lv_istore_n (lv' := [(3, .int z5), (1, .int z1), (2, .int z2), (4, .int z4), (5, .int z5), (0, .ref (a0 0))]) hx hb dX7_usual_57 rfl hl (by decide) rfl (fun ls hl => ?_)
              refine lv_aload_n hx hb dX7_usual_58 rfl (lv_at hl 5 rfl) ?_
              refine lv_iload_n hx hb dX7_usual_59 rfl (lv_at hl 1 rfl) ?_
              refine lv_iload hx hb dX7_usual_60 (lv_at hl 4 rfl) ?_
              refine lv_iconst (v := 1) hx hb dX7_usual_62 (by decide) ?_
              refine vp_callSi (rd_wV (wc := md_v a0 q s0) (As := [.int z1, .int z5, .int 1]) (rest := []) hx hb hml hown ht (c2_X7_often h) wd_X7_often mw_1704 hQ hV va_S.rf (hP.sub [0, 1, 2, 3, 4, 5, 6, 7] rfl) rfl rfl rfl hl.1 rfl (Nat.le_of_ble_eq_true rfl) dX7_usual_63 ⟨Nat.le_of_ble_eq_true rfl, Nat.le_of_ble_eq_true rfl, rfl, rfl⟩ ⟨Nat.le_of_ble_eq_true rfl, Nat.le_of_ble_eq_true rfl⟩) (fun r_13 h => ?_)
              try dsimp only at h
              refine lv_istore (lv' := [(4, .int r_13), (3, .int z5), (1, .int z1), (2, .int z2), (5, .int z5), (0, .ref (a0 0))]) hx hb dX7_usual_66 hl (by decide) rfl (fun ls hl => ?_)
              refine lv_iinc (v := (z5 + 1)) (lv' := [(5, .int (z5 + 1)), (4, .int r_13), (3, .int z5), (1, .int z1), (2, .int z2), (0, .ref (a0 0))]) hx hb dX7_usual_68 hl (k := 4) rfl rfl (by decide) rfl (fun ls hl => ?_)
              refine lv_goto (tgt := 29) hx hb dX7_usual_71 (by decide) ?_
              exact ih _ _ _ _ _ ls h (lv_sub hl [3, 4, 2, 1, 0, 5] rfl)
            · replace h := h.2 c_12
              refine lv_goto (tgt := 68) hx hb dX7_usual_52 (by decide) ?_
              refine lv_iinc (v := (z5 + 1)) (lv' := [(5, .int (z5 + 1)), (1, .int z1), (2, .int z2), (3, .int z3), (4, .int z4), (0, .ref (a0 0))]) hx hb dX7_usual_68 hl (k := 4) rfl rfl (by decide) rfl (fun ls hl => ?_)
              refine lv_goto (tgt := 29) hx hb dX7_usual_71 (by decide) ?_
              exact ih _ _ _ _ _ ls h (lv_sub hl [1, 2, 3, 4, 0, 5] rfl)
      obtain ⟨n29, h⟩ := h
      refine lp29 _ ?_ n29 _ _ _ _ _ ls h (lv_sub hl [4, 5, 2, 1, 0, 3] rfl)
      · intro z1 z2 z3 z4 z5 ls h hl
        try dsimp only at h
        refine lv_iload_n hx hb dX7_usual_74 rfl (lv_at hl 2 rfl) ?_
        refine lv_bipush (v := (-2)) hx hb dX7_usual_75 (by decide) ?_
        refine lv_icmp_eq (tgt := 84) hx hb dX7_usual_77 (by decide) (fun c_15 => ?_) (fun c_15 => ?_)
        · replace h := h.1 c_15
          refine lv_iload_n hx hb dX7_usual_84 rfl (lv_at hl 2 rfl) ?_
          refine lv_goto (tgt := 90) hx hb dX7_usual_85 (by decide) ?_
          exact rd_iret hx hb hr hk h dX7_usual_90
        · replace h := h.2 c_15
          refine lv_iload_n hx hb dX7_usual_80 rfl (lv_at hl 1 rfl) ?_
          refine lv_if_ne (tgt := 88) hx hb dX7_usual_81 (by decide) (fun c_16 => ?_) (fun c_16 => ?_)
          · replace h := h.1 c_16
            refine lv_iload hx hb dX7_usual_88 (lv_at hl 3 rfl) ?_
            exact rd_iret hx hb hr hk h dX7_usual_90
          · replace h := h.2 c_16
            refine lv_iload_n hx hb dX7_usual_84 rfl (lv_at hl 2 rfl) ?_
            refine lv_goto (tgt := 90) hx hb dX7_usual_85 (by decide) ?_
            exact rd_iret hx hb hr hk h dX7_usual_90
    · replace h := h.2 c_6
      refine lv_iconst (v := (-1)) hx hb dX7_usual_18 (by decide) ?_
      exact rd_iret hx hb hr hk h dX7_usual_19
