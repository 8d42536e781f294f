def wp_X7_total (post : Int32 → Prop) (s0 : Md) (x1 : Int32) : Prop := wp_X7_isBoard (fun r_1 => ((r_1 = 0 → post (-1)) ∧ (¬ r_1 = 0 → wp_X7_in (fun r_4 => ((r_4 = 0 → post (-1)) ∧ (¬ r_4 = 0 → vp_in (4 + x1) 6896 ∧ post (Int64.toInt32 ((s0.2.2.1 0) (Int32.toNatClampNeg (4 + x1))))))) (Int32.toInt64 x1) (0 : Int64) (3 : Int64)))) s0
set_option maxHeartbeats 4000000 in
set_option maxRecDepth 100000 in
theorem c2_X7_total {l : Launch} {D : va_G} {q : Nat → ClassId} {a0 : Nat → Nat} {s0 : Md} {x1 : Int32} {post : Int32 → Prop} (h : wp_X7_total post s0 x1) : Met l yX7_total (Cond.code yX7_total cX7_total 2 (some .int) :: w_all) ({ frames := 2, cells := 0, slots := 0, locals := 40 } : Room) (rd_P D q [.ref (a0 0), .int x1] (md_v a0 q s0)) (vp_Si post) 0 0 (fun _ => False) := by
  refine rd_start (by decide) (Nat.le_of_ble_eq_true rfl) ?_
  intro p e s m below meth c ls hx hb hr hml hown ht hk hP hQ hV hl
  have hK := hQ.1
  have hown : s.vm.findClass RX7 = some m.cls := hown
  have hl : lv_has ls 2 [(0, .ref (a0 0)), (1, .int x1)] := hl
  have hP : va_P D vwCl [((a0 0), .inr (6, [.ref (a0 1), .ref (a0 2), .int (s0.1 0), .ref (a0 3), .ref (a0 5), .ref (a0 4), .long s0.2.1, .int (s0.1 1), .int (s0.1 2), .ref (a0 6), .int (s0.1 3), .int (s0.1 4), .ref (a0 7), .int (s0.1 5), .int (s0.1 6), .int (s0.1 7), .int (s0.1 8), .int (s0.1 9), .int (s0.1 10), .int (s0.1 11), .int (s0.1 12), .int (s0.1 13), .int (s0.1 14)])), ((a0 1), .inl (q 1, 6896, .inr (.inl (s0.2.2.1 0)))), ((a0 2), .inl (q 1, 68960, .inr (.inl (s0.2.2.1 1)))), ((a0 3), .inl (q 1, 13792, .inr (.inl (s0.2.2.1 2)))), ((a0 4), .inl (q 1, 6896, .inr (.inl (s0.2.2.1 3)))), ((a0 5), .inl (q 3, 2, .inl (s0.2.2.2 0))), ((a0 6), .inl (q 0, 40, .inl (s0.2.2.2 1))), ((a0 7), .inl (q 2, 400, .inl (s0.2.2.2 2)))] s.heap := hP
  unfold wp_X7_total at h
  refine lv_aload_n hx hb dX7_total_0 rfl (lv_at hl 0 rfl) ?_
  refine vp_callSi (rd_wV (wc := md_v a0 q s0) (As := []) (rest := []) hx hb hml hown ht (c2_X7_isBoard h) wd_X7_isBoard mw_1283 hQ hV va_S.rf (hP.sub [0, 1, 2, 3, 4, 5, 6, 7] rfl) rfl rfl rfl hl.1 rfl (Nat.le_of_ble_eq_true rfl) dX7_total_1 ⟨Nat.le_of_ble_eq_true rfl, Nat.le_of_ble_eq_true rfl, rfl, rfl⟩ ⟨Nat.le_of_ble_eq_true rfl, Nat.le_of_ble_eq_true rfl⟩) (fun r_1 h => ?_)
  try dsimp only at h
  refine lv_if_eq (tgt := 31) hx hb dX7_total_4 (by decide) (fun c_3 => ?_) (fun c_3 => ?_)
  · replace h := h.1 c_3
    refine lv_iconst (v := (-1)) hx hb dX7_total_31 (by decide) ?_
    exact rd_iret hx hb hr hk h dX7_total_32
  · replace h := h.2 c_3
    refine lv_iload_n hx hb dX7_total_7 rfl (lv_at hl 1 rfl) ?_
    refine lv_i2l (v := (Int32.toInt64 x1)) hx hb dX7_total_8 rfl ?_
    refine lv_lconst (v := 0) hx hb dX7_total_9 (by decide) ?_
    refine lv_ldc2 (v := 3) hx hb hown (ht _ mw_1443) dX7_total_10 ?_
    refine vp_callSi (rd_wS (wc := ([] : va_W)) (As := [.long (Int32.toInt64 x1), .long 0, .long 3]) (rest := []) hx hb hml hown ht (c2_X7_in h) wd_X7_in mw_1213 hQ hV va_S.rf (hP.sub [] rfl) rfl hl.1 rfl (Nat.le_of_ble_eq_true rfl) dX7_total_13 ⟨Nat.le_of_ble_eq_true rfl, Nat.le_of_ble_eq_true rfl, rfl, rfl⟩ ⟨Nat.le_of_ble_eq_true rfl, Nat.le_of_ble_eq_true rfl⟩) (fun r_4 h => ?_)
    try dsimp only at h
    refine lv_if_eq (tgt := 31) hx hb dX7_total_16 (by decide) (fun c_6 => ?_) (fun c_6 => ?_)
    · replace h := h.1 c_6
      refine lv_iconst (v := (-1)) hx hb dX7_total_31 (by decide) ?_
      exact rd_iret hx hb hr hk h dX7_total_32
    · replace h := h.2 c_6
      refine lv_aload_n hx hb dX7_total_19 rfl (lv_at hl 0 rfl) ?_
      refine fl_get (C := RX7) (T := TX7) (N := 23) (ci := 6) (v := .ref (a0 1)) hx hb ht in_X7 hown hK hP 0 rfl rfl 0 (by decide) mw_1130 rfl dX7_total_20 ?_
      refine lv_iconst (v := 4) hx hb dX7_total_23 (by decide) ?_
      refine lv_iload_n hx hb dX7_total_24 rfl (lv_at hl 1 rfl) ?_
      refine lv_iadd hx hb dX7_total_25 ?_
      obtain ⟨g_7, h⟩ := h
      refine va_lald hx hb hK hP 1 1 rfl rfl g_7 dX7_total_26 ?_
      refine lv_l2i (v := (Int64.toInt32 ((s0.2.2.1 0) (Int32.toNatClampNeg (4 + x1))))) hx hb dX7_total_27 rfl ?_
      refine lv_goto (tgt := 32) hx hb dX7_total_28 (by decide) ?_
      exact rd_iret hx hb hr hk h dX7_total_32

def wp_X7_rests_L16 (post : Int32 → Md → Prop) (e44 : Md → Int32 → Int32 → Prop) : Nat → Md → Int32 → Int32 → Prop
  | 0, _, _, _ => False
  | n16 + 1, t0, z1, z2 => wp_X7_leftOf (fun r_6 => ((r_6 ≤ 0 → e44 t0 z1 z2) ∧ (¬ r_6 ≤ 0 → ((9999 < z2 → e44 t0 z1 z2) ∧ (¬ 9999 < z2 → wp_X7_ticks (fun r_10 u_11 => ((r_10 ≤ 0 → e44 u_11 z1 z2) ∧ (¬ r_10 ≤ 0 → wp_X7_rests_L16 post e44 n16 u_11 z1 (z2 + 1)))) t0))))) t0 z1
def wp_X7_rests (post : Int32 → Md → Prop) (s0 : Md) (x1 : Int32) : Prop := wp_X7_isCell (fun r_1 => ((¬ r_1 = 0 → wp_X7_putsAside (fun u_5 => (∃ n16, wp_X7_rests_L16 post (fun t0 z1 z2 => wp_X7_leftOf (fun r_13 => ((0 < r_13 → wp_X7_takesBack (fun u_17 => post (-2) u_17) t0) ∧ (¬ 0 < r_13 → ((z2 ≤ 9999 → wp_X7_takesBack (fun u_20 => post z2 u_20) t0) ∧ (¬ z2 ≤ 9999 → wp_X7_takesBack (fun u_22 => post (-2) u_22) t0))))) t0 z1) n16 u_5 x1 0)) s0) ∧ (r_1 = 0 → post (-1) s0))) s0 x1
set_option maxHeartbeats 4000000 in
set_option maxRecDepth 100000 in
theorem c2_X7_rests {l : Launch} {D : va_G} {q : Nat → ClassId} {sz : Nat} {a0 : Nat → Nat} {s0 : Md} {x1 : Int32} {post : Int32 → Md → Prop} (h : wp_X7_rests post s0 x1) : Met l yX7_rests (Cond.code yX7_rests cX7_rests 4 (some .int) :: w_all) ({ frames := 5, cells := 0, slots := 0, locals := 110 } : Room) (mt_P D q [.ref (a0 0), .int x1] (md_v a0 q s0) sz) (va_Qi (fun r (u : Md) => post r u) (mt_B D (md_v a0 q s0) sz (fun u : Md => md_v a0 q u)) (va_A (md_v a0 q s0) sz)) 0 0 (va_A (md_v a0 q s0) sz) := by
  refine mt_start (by decide) (Nat.le_of_ble_eq_true rfl) ?_
  intro p e s m below meth c ls hx hb hr hml hown ht hk hin hP hQ hD hA hS hV hl
  have hK := hQ.1
  have hown : s.vm.findClass RX7 = some m.cls := hown
  have hl : lv_has ls 4 [(0, .ref (a0 0)), (1, .int x1)] := hl
  have hP : va_P D vwCl [((a0 0), .inr (6, [.ref (a0 1), .ref (a0 2), .int (s0.1 0), .ref (a0 3), .ref (a0 5), .ref (a0 4), .long s0.2.1, .int (s0.1 1), .int (s0.1 2), .ref (a0 6), .int (s0.1 3), .int (s0.1 4), .ref (a0 7), .int (s0.1 5), .int (s0.1 6), .int (s0.1 7), .int (s0.1 8), .int (s0.1 9), .int (s0.1 10), .int (s0.1 11), .int (s0.1 12), .int (s0.1 13), .int (s0.1 14)])), ((a0 1), .inl (q 1, 6896, .inr (.inl (s0.2.2.1 0)))), ((a0 2), .inl (q 1, 68960, .inr (.inl (s0.2.2.1 1)))), ((a0 3), .inl (q 1, 13792, .inr (.inl (s0.2.2.1 2)))), ((a0 4), .inl (q 1, 6896, .inr (.inl (s0.2.2.1 3)))), ((a0 5), .inl (q 3, 2, .inl (s0.2.2.2 0))), ((a0 6), .inl (q 0, 40, .inl (s0.2.2.2 1))), ((a0 7), .inl (q 2, 400, .inl (s0.2.2.2 2)))] s.heap := hP
  have hD : va_D _ [((a0 0), .inr (6, [.ref (a0 1), .ref (a0 2), .int (s0.1 0), .ref (a0 3), .ref (a0 5), .ref (a0 4), .long s0.2.1, .int (s0.1 1), .int (s0.1 2), .ref (a0 6), .int (s0.1 3), .int (s0.1 4), .ref (a0 7), .int (s0.1 5), .int (s0.1 6), .int (s0.1 7), .int (s0.1 8), .int (s0.1 9), .int (s0.1 10), .int (s0.1 11), .int (s0.1 12), .int (s0.1 13), .int (s0.1 14)])), ((a0 1), .inl (q 1, 6896, .inr (.inl (s0.2.2.1 0)))), ((a0 2), .inl (q 1, 68960, .inr (.inl (s0.2.2.1 1)))), ((a0 3), .inl (q 1, 13792, .inr (.inl (s0.2.2.1 2)))), ((a0 4), .inl (q 1, 6896, .inr (.inl (s0.2.2.1 3)))), ((a0 5), .inl (q 3, 2, .inl (s0.2.2.2 0))), ((a0 6), .inl (q 0, 40, .inl (s0.2.2.2 1))), ((a0 7), .inl (q 2, 400, .inl (s0.2.2.2 2)))] := hD
  unfold wp_X7_rests at h
  refine lv_aload_n hx hb dX7_rests_0 rfl (lv_at hl 0 rfl) ?_
  refine lv_iload_n hx hb dX7_rests_1 rfl (lv_at hl 1 rfl) ?_
  refine vp_callSi (rd_wV (wc := md_v a0 q s0) (As := [.int x1]) (rest := []) hx hb hml hown ht (c2_X7_isCell h) wd_X7_isCell mw_1340 hQ hV hS (hP.sub [0, 1, 2, 3, 4, 5, 6, 7] rfl) rfl rfl rfl hl.1 rfl (Nat.le_of_ble_eq_true rfl) dX7_rests_2 ⟨Nat.le_of_ble_eq_true rfl, Nat.le_of_ble_eq_true rfl, rfl, rfl⟩ ⟨Nat.le_of_ble_eq_true rfl, Nat.le_of_ble_eq_true rfl⟩) (fun r_1 h => ?_)
  try dsimp only at h
  refine lv_if_ne (tgt := 10) hx hb dX7_rests_5 (by decide) (fun c_3 => ?_) (fun c_3 => ?_)
  · replace h := h.1 c_3
    refine lv_aload_n hx hb dX7_rests_10 rfl (lv_at hl 0 rfl) ?_
    refine mt_gov (mt_wV (wc := md_v a0 q s0) (As := []) (rest := []) hx hb hml hown ht (c2_X7_putsAside h) wd_X7_putsAside mw_1449 hQ hV hS hA (hP.sub [0, 1, 2, 3, 4, 5, 6, 7] rfl) (hD.sub [0, 1, 2, 3, 4, 5, 6, 7] (by decide) rfl) rfl rfl rfl hl.1 rfl (Nat.le_of_ble_eq_true rfl) dX7_rests_11 ⟨Nat.le_of_ble_eq_true rfl, Nat.le_of_ble_eq_true rfl, rfl, rfl⟩ ⟨Nat.le_of_ble_eq_true rfl, Nat.le_of_ble_eq_true rfl⟩) (wr := []) hP hD hS hA [0, 1, 2, 3, 4, 5, 6, 7] [] rfl rfl (by decide) (by decide) (fun u_5 H locs h hP hD hS => ?_)
    try dsimp only at h
    have hP : va_P D vwCl [((a0 0), .inr (6, [.ref (a0 1), .ref (a0 2), .int (u_5.1 0), .ref (a0 3), .ref (a0 5), .ref (a0 4), .long u_5.2.1, .int (u_5.1 1), .int (u_5.1 2), .ref (a0 6), .int (u_5.1 3), .int (u_5.1 4), .ref (a0 7), .int (u_5.1 5), .int (u_5.1 6), .int (u_5.1 7), .int (u_5.1 8), .int (u_5.1 9), .int (u_5.1 10), .int (u_5.1 11), .int (u_5.1 12), .int (u_5.1 13), .int (u_5.1 14)])), ((a0 1), .inl (q 1, 6896, .inr (.inl (u_5.2.2.1 0)))), ((a0 2), .inl (q 1, 68960, .inr (.inl (u_5.2.2.1 1)))), ((a0 3), .inl (q 1, 13792, .inr (.inl (u_5.2.2.1 2)))), ((a0 4), .inl (q 1, 6896, .inr (.inl (u_5.2.2.1 3)))), ((a0 5), .inl (q 3, 2, .inl (u_5.2.2.2 0))), ((a0 6), .inl (q 0, 40, .inl (u_5.2.2.2 1))), ((a0 7), .inl (q 2, 400, .inl (u_5.2.2.2 2)))] H := hP
    have hD : va_D _ [((a0 0), .inr (6, [.ref (a0 1), .ref (a0 2), .int (u_5.1 0), .ref (a0 3), .ref (a0 5), .ref (a0 4), .long u_5.2.1, .int (u_5.1 1), .int (u_5.1 2), .ref (a0 6), .int (u_5.1 3), .int (u_5.1 4), .ref (a0 7), .int (u_5.1 5), .int (u_5.1 6), .int (u_5.1 7), .int (u_5.1 8), .int (u_5.1 9), .int (u_5.1 10), .int (u_5.1 11), .int (u_5.1 12), .int (u_5.1 13), .int (u_5.1 14)])), ((a0 1), .inl (q 1, 6896, .inr (.inl (u_5.2.2.1 0)))), ((a0 2), .inl (q 1, 68960, .inr (.inl (u_5.2.2.1 1)))), ((a0 3), .inl (q 1, 13792, .inr (.inl (u_5.2.2.1 2)))), ((a0 4), .inl (q 1, 6896, .inr (.inl (u_5.2.2.1 3)))), ((a0 5), .inl (q 3, 2, .inl (u_5.2.2.2 0))), ((a0 6), .inl (q 0, 40, .inl (u_5.2.2.2 1))), ((a0 7), .inl (q 2, 400, .inl (u_5.2.2.2 2)))] := hD
    refine lv_iconst (v := 0) hx hb dX7_rests_14 (by decide) ?_
    refine lv_istore_n (lv' := [(2, .int 0), (0, .ref (a0 0)), (1, .int x1)]) hx hb dX7_rests_15 rfl hl (by decide) rfl (fun ls hl => ?_)
    have lp16 : ∀ (e44 : Md → Int32 → Int32 → Prop) (k44 : ∀ (t0 : Md) (z1 : Int32) (z2 : Int32) (H : Heap) (locs : List Loc) (ls : Array Slot), e44 t0 z1 z2 → va_P D vwCl (md_v a0 q t0) H → va_D (va_A (md_v a0 q s0) sz) (md_v a0 q t0) → va_S (va_A (md_v a0 q s0) sz) s.heap H locs → lv_has ls 4 [(1, .int z1), (2, .int z2), (0, .ref (a0 0))] → W p l e ({ frames := 5, cells := 0, slots := 0, locals := 110 } : Room) s m [.ref (a0 0), .int x1].toArray below meth c H locs 0 0 (MQ below (va_Qi (fun r (u : Md) => post r u) (mt_B D (md_v a0 q s0) sz (fun u : Md => md_v a0 q u)) (va_A (md_v a0 q s0) sz)) [.ref (a0 0), .int x1].toArray s 0 0 (va_A (md_v a0 q s0) sz)) (F0 m 44 ls [])) (n : Nat) (t0 : Md) (z1 : Int32) (z2 : Int32) (H : Heap) (locs : List Loc) (ls : Array Slot), wp_X7_rests_L16 post e44 n t0 z1 z2 → va_P D vwCl (md_v a0 q t0) H → va_D (va_A (md_v a0 q s0) sz) (md_v a0 q t0) → va_S (va_A (md_v a0 q s0) sz) s.heap H locs → lv_has ls 4 [(1, .int z1), (2, .int z2), (0, .ref (a0 0))] → W p l e ({ frames := 5, cells := 0, slots := 0, locals := 110 } : Room) s m [.ref (a0 0), .int x1].toArray below meth c H locs 0 0 (MQ below (va_Qi (fun r (u : Md) => post r u) (mt_B D (md_v a0 q s0) sz (fun u : Md => md_v a0 q u)) (va_A (md_v a0 q s0) sz)) [.ref (a0 0), .int x1].toArray s 0 0 (va_A (md_v a0 q s0) sz)) (F0 m 16 ls []) := by
      intro e44 k44 n
      induction n with
      | zero =>
        intro t0 z1 z2 H locs ls h
        exact h.elim
      | succ n ih =>
        intro t0 z1 z2 H locs ls h hP hD hS hl
        have hP : va_P D vwCl [((a0 0), .inr (6, [.ref (a0 1), .ref (a0 2), .int (t0.1 0), .ref (a0 3), .ref (a0 5), .ref (a0 4), .long t0.2.1, .int (t0.1 1), .int (t0.1 2), .ref (a0 6), .int (t0.1 3), .int (t0.1 4), .ref (a0 7), .int (t0.1 5), .int (t0.1 6), .int (t0.1 7), .int (t0.1 8), .int (t0.1 9), .int (t0.1 10), .int (t0.1 11), .int (t0.1 12), .int (t0.1 13), .int (t0.1 14)])), ((a0 1), .inl (q 1, 6896, .inr (.inl (t0.2.2.1 0)))), ((a0 2), .inl (q 1, 68960, .inr (.inl (t0.2.2.1 1)))), ((a0 3), .inl (q 1, 13792, .inr (.inl (t0.2.2.1 2)))), ((a0 4), .inl (q 1, 6896, .inr (.inl (t0.2.2.1 3)))), ((a0 5), .inl (q 3, 2, .inl (t0.2.2.2 0))), ((a0 6), .inl (q 0, 40, .inl (t0.2.2.2 1))), ((a0 7), .inl (q 2, 400, .inl (t0.2.2.2 2)))] H := hP
        have hD : va_D _ [((a0 0), .inr (6, [.ref (a0 1), .ref (a0 2), .int (t0.1 0), .ref (a0 3), .ref (a0 5), .ref (a0 4), .long t0.2.1, .int (t0.1 1), .int (t0.1 2), .ref (a0 6), .int (t0.1 3), .int (t0.1 4), .ref (a0 7), .int (t0.1 5), .int (t0.1 6), .int (t0.1 7), .int (t0.1 8), .int (t0.1 9), .int (t0.1 10), .int (t0.1 11), .int (t0.1 12), .int (t0.1 13), .int (t0.1 14)])), ((a0 1), .inl (q 1, 6896, .inr (.inl (t0.2.2.1 0)))), ((a0 2), .inl (q 1, 68960, .inr (.inl (t0.2.2.1 1)))), ((a0 3), .inl (q 1, 13792, .inr (.inl (t0.2.2.1 2)))), ((a0 4), .inl (q 1, 6896, .inr (.inl (t0.2.2.1 3)))), ((a0 5), .inl (q 3, 2, .inl (t0.2.2.2 0))), ((a0 6), .inl (q 0, 40, .inl (t0.2.2.2 1))), ((a0 7), .inl (q 2, 400, .inl (t0.2.2.2 2)))] := hD
        unfold wp_X7_rests_L16 at h
        refine lv_aload_n hx hb dX7_rests_16 rfl (lv_at hl 2 rfl) ?_
        refine lv_iload_n hx hb dX7_rests_17 rfl (lv_at hl 0 rfl) ?_
        refine vp_callSi (rd_wV (wc := md_v a0 q t0) (As := [.int z1]) (rest := []) hx hb hml hown ht (c2_X7_leftOf h) wd_X7_leftOf mw_1312 hQ hV hS (hP.sub [0, 1, 2, 3, 4, 5, 6, 7] rfl) rfl rfl rfl hl.1 rfl (Nat.le_of_ble_eq_true rfl) dX7_rests_18 ⟨Nat.le_of_ble_eq_true rfl, Nat.le_of_ble_eq_true rfl, rfl, rfl⟩ ⟨Nat.le_of_ble_eq_true rfl, Nat.le_of_ble_eq_true rfl⟩) (fun r_6 h => ?_)
        try dsimp only at h
        refine lv_if_le (tgt := 44) hx hb dX7_rests_21 (by decide) (fun c_8 => ?_) (fun c_8 => ?_)
        · replace h := h.1 c_8
          exact k44 _ _ _ _ _ ls h (hP.sub (ws' := md_v a0 q t0) [0, 1, 2, 3, 4, 5, 6, 7] rfl) (hD.sub (ws' := md_v a0 q t0) [0, 1, 2, 3, 4, 5, 6, 7] (by decide) rfl) hS (lv_sub hl [0, 1, 2] rfl)
        · replace h := h.2 c_8
          refine lv_iload_n hx hb dX7_rests_24 rfl (lv_at hl 1 rfl) ?_
          refine lv_sipush (v := 9999) hx hb dX7_rests_25 (by decide) ?_
          refine lv_icmp_gt (tgt := 44) hx hb dX7_rests_28 (by decide) (fun c_9 => ?_) (fun c_9 => ?_)
          · replace h := h.1 c_9
            exact k44 _ _ _ _ _ ls h (hP.sub (ws' := md_v a0 q t0) [0, 1, 2, 3, 4, 5, 6, 7] rfl) (hD.sub (ws' := md_v a0 q t0) [0, 1, 2, 3, 4, 5, 6, 7] (by decide) rfl) hS (lv_sub hl [0, 1, 2] rfl)
          · replace h := h.2 c_9
            refine lv_aload_n hx hb dX7_rests_31 rfl (lv_at hl 2 rfl) ?_
            refine mt_goi (mt_wV (wc := md_v a0 q t0) (As := []) (rest := []) hx hb hml hown ht (c2_X7_ticks h) wd_X7_ticks mw_1304 hQ hV hS hA (hP.sub [0, 1, 2, 3, 4, 5, 6, 7] rfl) (hD.sub [0, 1, 2, 3, 4, 5, 6, 7] (by decide) rfl) rfl rfl rfl hl.1 rfl (Nat.le_of_ble_eq_true rfl) dX7_rests_32 ⟨Nat.le_of_ble_eq_true rfl, Nat.le_of_ble_eq_true rfl, rfl, rfl⟩ ⟨Nat.le_of_ble_eq_true rfl, Nat.le_of_ble_eq_true rfl⟩) (wr := []) hP hD hS hA [0, 1, 2, 3, 4, 5, 6, 7] [] rfl rfl (by decide) (by decide) (fun r_10 u_11 H locs h hP hD hS => ?_)
            try dsimp only at h
            have hP : va_P D vwCl [((a0 0), .inr (6, [.ref (a0 1), .ref (a0 2), .int (u_11.1 0), .ref (a0 3), .ref (a0 5), .ref (a0 4), .long u_11.2.1, .int (u_11.1 1), .int (u_11.1 2), .ref (a0 6), .int (u_11.1 3), .int (u_11.1 4), .ref (a0 7), .int (u_11.1 5), .int (u_11.1 6), .int (u_11.1 7), .int (u_11.1 8), .int (u_11.1 9), .int (u_11.1 10), .int (u_11.1 11), .int (u_11.1 12), .int (u_11.1 13), .int (u_11.1 14)])), ((a0 1), .inl (q 1, 6896, .inr (.inl (u_11.2.2.1 0)))), ((a0 2), .inl (q 1, 68960, .inr (.inl (u_11.2.2.1 1)))), ((a0 3), .inl (q 1, 13792, .inr (.inl (u_11.2.2.1 2)))), ((a0 4), .inl (q 1, 6896, .inr (.inl (u_11.2.2.1 3)))), ((a0 5), .inl (q 3, 2, .inl (u_11.2.2.2 0))), ((a0 6), .inl (q 0, 40, .inl (u_11.2.2.2 1))), ((a0 7), .inl (q 2, 400, .inl (u_11.2.2.2 2)))] H := hP
            have hD : va_D _ [((a0 0), .inr (6, [.ref (a0 1), .ref (a0 2), .int (u_11.1 0), .ref (a0 3), .ref (a0 5), .ref (a0 4), .long u_11.2.1, .int (u_11.1 1), .int (u_11.1 2), .ref (a0 6), .int (u_11.1 3), .int (u_11.1 4), .ref (a0 7), .int (u_11.1 5), .int (u_11.1 6), .int (u_11.1 7), .int (u_11.1 8), .int (u_11.1 9), .int (u_11.1 10), .int (u_11.1 11), .int (u_11.1 12), .int (u_11.1 13), .int (u_11.1 14)])), ((a0 1), .inl (q 1, 6896, .inr (.inl (u_11.2.2.1 0)))), ((a0 2), .inl (q 1, 68960, .inr (.inl (u_11.2.2.1 1)))), ((a0 3), .inl (q 1, 13792, .inr (.inl (u_11.2.2.1 2)))), ((a0 4), .inl (q 1, 6896, .inr (.inl (u_11.2.2.1 3)))), ((a0 5), .inl (q 3, 2, .inl (u_11.2.2.2 0))), ((a0 6), .inl (q 0, 40, .inl (u_11.2.2.2 1))), ((a0 7), .inl (q 2, 400, .inl (u_11.2.2.2 2)))] := hD
            refine lv_if_le (tgt := 44) hx hb dX7_rests_35 (by decide) (fun c_12 => ?_) (fun c_12 => ?_)
            · replace h := h.1 c_12
              exact k44 _ _ _ _ _ ls h (hP.sub (ws' := md_v a0 q u_11) [0, 1, 2, 3, 4, 5, 6, 7] rfl) (hD.sub (ws' := md_v a0 q u_11) [0, 1, 2, 3, 4, 5, 6, 7] (by decide) rfl) hS (lv_sub hl [0, 1, 2] rfl)
            · replace h := h.2 c_12
              refine lv_iinc (v := (z2 + 1)) (lv' := [(2, .int (z2 + 1)), (1, .int z1), (0, .ref (a0 0))]) hx hb dX7_rests_38 hl (k := 1) rfl rfl (by decide) rfl (fun ls hl => ?_)
              refine lv_goto (tgt := 16) hx hb dX7_rests_41 (by decide) ?_
              exact ih _ _ _ _ _ ls h (hP.sub (ws' := md_v a0 q u_11) [0, 1, 2, 3, 4, 5, 6, 7] rfl) (hD.sub (ws' := md_v a0 q u_11) [0, 1, 2, 3, 4, 5, 6, 7] (by decide) rfl) hS (lv_sub hl [1, 0, 2] rfl)
    obtain ⟨n16, h⟩ := h
    refine lp16 _ ?_ n16 _ _ _ _ _ ls h (hP.sub (ws' := md_v a0 q u_5) [0, 1, 2, 3, 4, 5, 6, 7] rfl) (hD.sub (ws' := md_v a0 q u_5) [0, 1, 2, 3, 4, 5, 6, 7] (by decide) rfl) hS (lv_sub hl [2, 0, 1] rfl)
    · intro t0 z1 z2 H locs ls h hP hD hS hl
      try dsimp only at h
      have hP : va_P D vwCl [((a0 0), .inr (6, [.ref (a0 1), .ref (a0 2), .int (t0.1 0), .ref (a0 3), .ref (a0 5), .ref (a0 4), .long t0.2.1, .int (t0.1 1), .int (t0.1 2), .ref (a0 6), .int (t0.1 3), .int (t0.1 4), .ref (a0 7), .int (t0.1 5), .int (t0.1 6), .int (t0.1 7), .int (t0.1 8), .int (t0.1 9), .int (t0.1 10), .int (t0.1 11), .int (t0.1 12), .int (t0.1 13), .int (t0.1 14)])), ((a0 1), .inl (q 1, 6896, .inr (.inl (t0.2.2.1 0)))), ((a0 2), .inl (q 1, 68960, .inr (.inl (t0.2.2.1 1)))), ((a0 3), .inl (q 1, 13792, .inr (.inl (t0.2.2.1 2)))), ((a0 4), .inl (q 1, 6896, .inr (.inl (t0.2.2.1 3)))), ((a0 5), .inl (q 3, 2, .inl (t0.2.2.2 0))), ((a0 6), .inl (q 0, 40, .inl (t0.2.2.2 1))), ((a0 7), .inl (q 2, 400, .inl (t0.2.2.2 2)))] H := hP
      have hD : va_D _ [((a0 0), .inr (6, [.ref (a0 1), .ref (a0 2), .int (t0.1 0), .ref (a0 3), .ref (a0 5), .ref (a0 4), .long t0.2.1, .int (t0.1 1), .int (t0.1 2), .ref (a0 6), .int (t0.1 3), .int (t0.1 4), .ref (a0 7), .int (t0.1 5), .int (t0.1 6), .int (t0.1 7), .int (t0.1 8), .int (t0.1 9), .int (t0.1 10), .int (t0.1 11), .int (t0.1 12), .int (t0.1 13), .int (t0.1 14)])), ((a0 1), .inl (q 1, 6896, .inr (.inl (t0.2.2.1 0)))), ((a0 2), .inl (q 1, 68960, .inr (.inl (t0.2.2.1 1)))), ((a0 3), .inl (q 1, 13792, .inr (.inl (t0.2.2.1 2)))), ((a0 4), .inl (q 1, 6896, .inr (.inl (t0.2.2.1 3)))), ((a0 5), .inl (q 3, 2, .inl (t0.2.2.2 0))), ((a0 6), .inl (q 0, 40, .inl (t0.2.2.2 1))), ((a0 7), .inl (q 2, 400, .inl (t0.2.2.2 2)))] := hD
      refine lv_aload_n hx hb dX7_rests_44 rfl (lv_at hl 2 rfl) ?_
      refine lv_iload_n hx hb dX7_rests_45 rfl (lv_at hl 0 rfl) ?_
      refine vp_callSi (rd_wV (wc := md_v a0 q t0) (As := [.int z1]) (rest := []) hx hb hml hown ht (c2_X7_leftOf h) wd_X7_leftOf mw_1312 hQ hV hS (hP.sub [0, 1, 2, 3, 4, 5, 6, 7] rfl) rfl rfl rfl hl.1 rfl (Nat.le_of_ble_eq_true rfl) dX7_rests_46 ⟨Nat.le_of_ble_eq_true rfl, Nat.le_of_ble_eq_true rfl, rfl, rfl⟩ ⟨Nat.le_of_ble_eq_true rfl, Nat.le_of_ble_eq_true rfl⟩) (fun r_13 h => ?_)
      try dsimp only at h
      refine lv_if_gt (tgt := 59) hx hb dX7_rests_49 (by decide) (fun c_15 => ?_) (fun c_15 => ?_)
      · replace h := h.1 c_15
        refine lv_bipush (v := (-2)) hx hb dX7_rests_59 (by decide) ?_
        refine lv_goto (tgt := 65) hx hb dX7_rests_61 (by decide) ?_
        refine lv_istore_n (lv' := [(3, .int (-2)), (1, .int z1), (2, .int z2), (0, .ref (a0 0))]) hx hb dX7_rests_65 rfl hl (by decide) rfl (fun ls hl => ?_)
        refine lv_aload_n hx hb dX7_rests_66 rfl (lv_at hl 3 rfl) ?_
        refine mt_gov (mt_wV (wc := md_v a0 q t0) (As := []) (rest := []) hx hb hml hown ht (c2_X7_takesBack h) wd_X7_takesBack mw_1457 hQ hV hS hA (hP.sub [0, 1, 2, 3, 4, 5, 6, 7] rfl) (hD.sub [0, 1, 2, 3, 4, 5, 6, 7] (by decide) rfl) rfl rfl rfl hl.1 rfl (Nat.le_of_ble_eq_true rfl) dX7_rests_67 ⟨Nat.le_of_ble_eq_true rfl, Nat.le_of_ble_eq_true rfl, rfl, rfl⟩ ⟨Nat.le_of_ble_eq_true rfl, Nat.le_of_ble_eq_true rfl⟩) (wr := []) hP hD hS hA [0, 1, 2, 3, 4, 5, 6, 7] [] rfl rfl (by decide) (by decide) (fun u_17 H locs h hP hD hS => ?_)
        try dsimp only at h
        have hP : va_P D vwCl [((a0 0), .inr (6, [.ref (a0 1), .ref (a0 2), .int (u_17.1 0), .ref (a0 3), .ref (a0 5), .ref (a0 4), .long u_17.2.1, .int (u_17.1 1), .int (u_17.1 2), .ref (a0 6), .int (u_17.1 3), .int (u_17.1 4), .ref (a0 7), .int (u_17.1 5), .int (u_17.1 6), .int (u_17.1 7), .int (u_17.1 8), .int (u_17.1 9), .int (u_17.1 10), .int (u_17.1 11), .int (u_17.1 12), .int (u_17.1 13), .int (u_17.1 14)])), ((a0 1), .inl (q 1, 6896, .inr (.inl (u_17.2.2.1 0)))), ((a0 2), .inl (q 1, 68960, .inr (.inl (u_17.2.2.1 1)))), ((a0 3), .inl (q 1, 13792, .inr (.inl (u_17.2.2.1 2)))), ((a0 4), .inl (q 1, 6896, .inr (.inl (u_17.2.2.1 3)))), ((a0 5), .inl (q 3, 2, .inl (u_17.2.2.2 0))), ((a0 6), .inl (q 0, 40, .inl (u_17.2.2.2 1))), ((a0 7), .inl (q 2, 400, .inl (u_17.2.2.2 2)))] H := hP
        have hD : va_D _ [((a0 0), .inr (6, [.ref (a0 1), .ref (a0 2), .int (u_17.1 0), .ref (a0 3), .ref (a0 5), .ref (a0 4), .long u_17.2.1, .int (u_17.1 1), .int (u_17.1 2), .ref (a0 6), .int (u_17.1 3), .int (u_17.1 4), .ref (a0 7), .int (u_17.1 5), .int (u_17.1 6), .int (u_17.1 7), .int (u_17.1 8), .int (u_17.1 9), .int (u_17.1 10), .int (u_17.1 11), .int (u_17.1 12), .int (u_17.1 13), .int (u_17.1 14)])), ((a0 1), .inl (q 1, 6896, .inr (.inl (u_17.2.2.1 0)))), ((a0 2), .inl (q 1, 68960, .inr (.inl (u_17.2.2.1 1)))), ((a0 3), .inl (q 1, 13792, .inr (.inl (u_17.2.2.1 2)))), ((a0 4), .inl (q 1, 6896, .inr (.inl (u_17.2.2.1 3)))), ((a0 5), .inl (q 3, 2, .inl (u_17.2.2.2 0))), ((a0 6), .inl (q 0, 40, .inl (u_17.2.2.2 1))), ((a0 7), .inl (q 2, 400, .inl (u_17.2.2.2 2)))] := hD
        refine lv_iload_n hx hb dX7_rests_70 rfl (lv_at hl 0 rfl) ?_
        exact mt_iret u_17 hx hb hr hk h (hP.sub (ws' := md_v a0 q u_17) [0, 1, 2, 3, 4, 5, 6, 7] rfl) (hD.sub (ws' := md_v a0 q u_17) [0, 1, 2, 3, 4, 5, 6, 7] (by decide) rfl) hS dX7_rests_71
      · replace h := h.2 c_15
        refine lv_iload_n hx hb dX7_rests_52 rfl (lv_at hl 1 rfl) ?_
        refine lv_sipush (v := 9999) hx hb dX7_rests_53 (by decide) ?_
        refine lv_icmp_le (tgt := 64) hx hb dX7_rests_56 (by decide) (fun c_18 => ?_) (fun c_18 => ?_)
        · replace h := h.1 c_18
          refine lv_iload_n hx hb dX7_rests_64 rfl (lv_at hl 1 rfl) ?_
          refine lv_istore_n (lv' := [(3, .int z2), (1, .int z1), (2, .int z2), (0, .ref (a0 0))]) hx hb dX7_rests_65 rfl hl (by decide) rfl (fun ls hl => ?_)
          refine lv_aload_n hx hb dX7_rests_66 rfl (lv_at hl 3 rfl) ?_
          refine mt_gov (mt_wV (wc := md_v a0 q t0) (As := []) (rest := []) hx hb hml hown ht (c2_X7_takesBack h) wd_X7_takesBack mw_1457 hQ hV hS hA (hP.sub [0, 1, 2, 3, 4, 5, 6, 7] rfl) (hD.sub [0, 1, 2, 3, 4, 5, 6, 7] (by decide) rfl) rfl rfl rfl hl.1 rfl (Nat.le_of_ble_eq_true rfl) dX7_rests_67 ⟨Nat.le_of_ble_eq_true rfl, Nat.le_of_ble_eq_true rfl, rfl, rfl⟩ ⟨Nat.le_of_ble_eq_true rfl, Nat.le_of_ble_eq_true rfl⟩) (wr := []) hP hD hS hA [0, 1, 2, 3, 4, 5, 6, 7] [] rfl rfl (by decide) (by decide) (fun u_20 H locs h hP hD hS => ?_)
          try dsimp only at h
          have hP : va_P D vwCl [((a0 0), .inr (6, [.ref (a0 1), .ref (a0 2), .int (u_20.1 0), .ref (a0 3), .ref (a0 5), .ref (a0 4), .long u_20.2.1, .int (u_20.1 1), .int (u_20.1 2), .ref (a0 6), .int (u_20.1 3), .int (u_20.1 4), .ref (a0 7), .int (u_20.1 5), .int (u_20.1 6), .int (u_20.1 7), .int (u_20.1 8), .int (u_20.1 9), .int (u_20.1 10), .int (u_20.1 11), .int (u_20.1 12), .int (u_20.1 13), .int (u_20.1 14)])), ((a0 1), .inl (q 1, 6896, .inr (.inl (u_20.2.2.1 0)))), ((a0 2), .inl (q 1, 68960, .inr (.inl (u_20.2.2.1 1)))), ((a0 3), .inl (q 1, 13792, .inr (.inl (u_20.2.2.1 2)))), ((a0 4), .inl (q 1, 6896, .inr (.inl (u_20.2.2.1 3)))), ((a0 5), .inl (q 3, 2, .inl (u_20.2.2.2 0))), ((a0 6), .inl (q 0, 40, .inl (u_20.2.2.2 1))), ((a0 7), .inl (q 2, 400, .inl (u_20.2.2.2 2)))] H := hP
          have hD : va_D _ [((a0 0), .inr (6, [.ref (a0 1), .ref (a0 2), .int (u_20.1 0), .ref (a0 3), .ref (a0 5), .ref (a0 4), .long u_20.2.1, .int (u_20.1 1), .int (u_20.1 2), .ref (a0 6), .int (u_20.1 3), .int (u_20.1 4), .ref (a0 7), .int (u_20.1 5), .int (u_20.1 6), .int (u_20.1 7), .int (u_20.1 8), .int (u_20.1 9), .int (u_20.1 10), .int (u_20.1 11), .int (u_20.1 12), .int (u_20.1 13), .int (u_20.1 14)])), ((a0 1), .inl (q 1, 6896, .inr (.inl (u_20.2.2.1 0)))), ((a0 2), .inl (q 1, 68960, .inr (.inl (u_20.2.2.1 1)))), ((a0 3), .inl (q 1, 13792, .inr (.inl (u_20.2.2.1 2)))), ((a0 4), .inl (q 1, 6896, .inr (.inl (u_20.2.2.1 3)))), ((a0 5), .inl (q 3, 2, .inl (u_20.2.2.2 0))), ((a0 6), .inl (q 0, 40, .inl (u_20.2.2.2 1))), ((a0 7), .inl (q 2, 400, .inl (u_20.2.2.2 2)))] := hD
          refine lv_iload_n hx hb dX7_rests_70 rfl (lv_at hl 0 rfl) ?_
          exact mt_iret u_20 hx hb hr hk h (hP.sub (ws' := md_v a0 q u_20) [0, 1, 2, 3, 4, 5, 6, 7] rfl) (hD.sub (ws' := md_v a0 q u_20) [0, 1, 2, 3, 4, 5, 6, 7] (by decide) rfl) hS dX7_rests_71
        · replace h := h.2 c_18
          refine lv_bipush (v := (-2)) hx hb dX7_rests_59 (by decide) ?_
          refine lv_goto (tgt := 65) hx hb dX7_rests_61 (by decide) ?_
          refine lv_istore_n (lv' := [(3, .int (-2)), (1, .int z1), (2, .int z2), (0, .ref (a0 0))]) hx hb dX7_rests_65 rfl hl (by decide) rfl (fun ls hl => ?_)
          refine lv_aload_n hx hb dX7_rests_66 rfl (lv_at hl 3 rfl) ?_
          refine mt_gov (mt_wV (wc := md_v a0 q t0) (As := []) (rest := []) hx hb hml hown ht (c2_X7_takesBack h) wd_X7_takesBack mw_1457 hQ hV hS hA (hP.sub [0, 1, 2, 3, 4, 5, 6, 7] rfl) (hD.sub [0, 1, 2, 3, 4, 5, 6, 7] (by decide) rfl) rfl rfl rfl hl.1 rfl (Nat.le_of_ble_eq_true rfl) dX7_rests_67 ⟨Nat.le_of_ble_eq_true rfl, Nat.le_of_ble_eq_true rfl, rfl, rfl⟩ ⟨Nat.le_of_ble_eq_true rfl, Nat.le_of_ble_eq_true rfl⟩) (wr := []) hP hD hS hA [0, 1, 2, 3, 4, 5, 6, 7] [] rfl rfl (by decide) (by decide) (fun u_22 H locs h hP hD hS => ?_)
          try dsimp only at h
          have hP : va_P D vwCl [((a0 0), .inr (6, [.ref (a0 1), .ref (a0 2), .int (u_22.1 0), .ref (a0 3), .ref (a0 5), .ref (a0 4), .long u_22.2.1, .int (u_22.1 1), .int (u_22.1 2), .ref (a0 6), .int (u_22.1 3), .int (u_22.1 4), .ref (a0 7), .int (u_22.1 5), .int (u_22.1 6), .int (u_22.1 7), .int (u_22.1 8), .int (u_22.1 9), .int (u_22.1 10), .int (u_22.1 11), .int (u_22.1 12), .int (u_22.1 13), .int (u_22.1 14)])), ((a0 1), .inl (q 1, 6896, .inr (.inl (u_22.2.2.1 0)))), ((a0 2), .inl (q 1, 68960, .inr (.inl (u_22.2.2.1 1)))), ((a0 3), .inl (q 1, 13792, .inr (.inl (u_22.2.2.1 2)))), ((a0 4), .inl (q 1, 6896, .inr (.inl (u_22.2.2.1 3)))), ((a0 5), .inl (q 3, 2, .inl (u_22.2.2.2 0))), ((a0 6), .inl (q 0, 40, .inl (u_22.2.2.2 1))), ((a0 7), .inl (q 2, 400, .inl (u_22.2.2.2 2)))] H := hP
          have hD : va_D _ [((a0 0), .inr (6, [.ref (a0 1), .ref (a0 2), .int (u_22.1 0), .ref (a0 3), .ref (a0 5), .ref (a0 4), .long u_22.2.1, .int (u_22.1 1), .int (u_22.1 2), .ref (a0 6), .int (u_22.1 3), .int (u_22.1 4), .ref (a0 7), .int (u_22.1 5), .int (u_22.1 6), .int (u_22.1 7), .int (u_22.1 8), .int (u_22.1 9), .int (u_22.1 10), .int (u_22.1 11), .int (u_22.1 12), .int (u_22.1 13), .int (u_22.1 14)])), ((a0 1), .inl (q 1, 6896, .inr (.inl (u_22.2.2.1 0)))), ((a0 2), .inl (q 1, 68960, .inr (.inl (u_22.2.2.1 1)))), ((a0 3), .inl (q 1, 13792, .inr (.inl (u_22.2.2.1 2)))), ((a0 4), .inl (q 1, 6896, .inr (.inl (u_22.2.2.1 3)))), ((a0 5), .inl (q 3, 2, .inl (u_22.2.2.2 0))), ((a0 6), .inl (q 0, 40, .inl (u_22.2.2.2 1))), ((a0 7), .inl (q 2, 400, .inl (u_22.2.2.2 2)))] := hD
          refine lv_iload_n hx hb dX7_rests_70 rfl (lv_at hl 0 rfl) ?_
          exact mt_iret u_22 hx hb hr hk h (hP.sub (ws' := md_v a0 q u_22) [0, 1, 2, 3, 4, 5, 6, 7] rfl) (hD.sub (ws' := md_v a0 q u_22) [0, 1, 2, 3, 4, 5, 6, 7] (by decide) rfl) hS dX7_rests_71
  · replace h := h.2 c_3
    refine lv_iconst (v := (-1)) hx hb dX7_rests_8 (by decide) ?_
    exact mt_iret s0 hx hb hr hk h (hP.sub (ws' := md_v a0 q s0) [0, 1, 2, 3, 4, 5, 6, 7] rfl) (hD.sub (ws' := md_v a0 q s0) [0, 1, 2, 3, 4, 5, 6, 7] (by decide) rfl) hS dX7_rests_9

def wp_X7_unlike_L28 (s0 : Md) (post : Int32 → Prop) (e82 : Int32 → Int32 → Int32 → Int32 → Prop) : Nat → Int32 → Int32 → Int32 → Int32 → Prop
  | 0, _, _, _, _ => False
  | n28 + 1, z1, z2, z3, z4 => wp_X7_wide (fun r_8 => ((r_8 ≤ z4 → e82 z1 z2 z3 z4) ∧ (¬ r_8 ≤ z4 → wp_X7_wide (fun r_11 => wp_X7_signAt (fun r_13 => wp_X7_wide (fun r_15 => wp_X7_signAt (fun r_17 => ((r_13 = r_17 → wp_X7_unlike_L28 s0 post e82 n28 z1 z2 (z3 + 0) (z4 + 1)) ∧ (¬ r_13 = r_17 → wp_X7_unlike_L28 s0 post e82 n28 z1 z2 (z3 + 1) (z4 + 1)))) s0 ((r_15 * z2) + z4) (2 : Int32)) s0) s0 ((r_11 * z1) + z4) (2 : Int32)) s0))) s0
def wp_X7_unlike (post : Int32 → Prop) (s0 : Md) (x1 : Int32) (x2 : Int32) : Prop := wp_X7_isRow (fun r_1 => ((r_1 = 0 → post (-1)) ∧ (¬ r_1 = 0 → wp_X7_isRow (fun r_4 => ((r_4 = 0 → post (-1)) ∧ (¬ r_4 = 0 → ((¬ x1 = x2 → (∃ n28, wp_X7_unlike_L28 s0 post (fun z1 z2 z3 z4 => post z3) n28 x1 x2 0 0)) ∧ (x1 = x2 → post (-1)))))) s0 x2))) s0 x1
set_option maxHeartbeats 4000000 in
set_option maxRecDepth 100000 in
theorem c2_X7_unlike {l : Launch} {D : va_G} {q : Nat → ClassId} {a0 : Nat → Nat} {s0 : Md} {x1 : Int32} {x2 : Int32} {post : Int32 → Prop} (h : wp_X7_unlike post s0 x1 x2) : Met l yX7_unlike (Cond.code yX7_unlike cX7_unlike 5 (some .int) :: w_all) ({ frames := 2, cells := 0, slots := 0, locals := 46 } : Room) (rd_P D q [.ref (a0 0), .int x1, .int x2] (md_v a0 q s0)) (vp_Si post) 0 0 (fun _ => False) := by
  refine rd_start (by decide) (Nat.le_of_ble_eq_true rfl) ?_
  intro p e s m below meth c ls hx hb hr hml hown ht hk hP hQ hV hl
  have hK := hQ.1
  have hown : s.vm.findClass RX7 = some m.cls := hown
  have hl : lv_has ls 5 [(0, .ref (a0 0)), (1, .int x1), (2, .int x2)] := hl
  have hP : va_P D vwCl [((a0 0), .inr (6, [.ref (a0 1), .ref (a0 2), .int (s0.1 0), .ref (a0 3), .ref (a0 5), .ref (a0 4), .long s0.2.1, .int (s0.1 1), .int (s0.1 2), .ref (a0 6), .int (s0.1 3), .int (s0.1 4), .ref (a0 7), .int (s0.1 5), .int (s0.1 6), .int (s0.1 7), .int (s0.1 8), .int (s0.1 9), .int (s0.1 10), .int (s0.1 11), .int (s0.1 12), .int (s0.1 13), .int (s0.1 14)])), ((a0 1), .inl (q 1, 6896, .inr (.inl (s0.2.2.1 0)))), ((a0 2), .inl (q 1, 68960, .inr (.inl (s0.2.2.1 1)))), ((a0 3), .inl (q 1, 13792, .inr (.inl (s0.2.2.1 2)))), ((a0 4), .inl (q 1, 6896, .inr (.inl (s0.2.2.1 3)))), ((a0 5), .inl (q 3, 2, .inl (s0.2.2.2 0))), ((a0 6), .inl (q 0, 40, .inl (s0.2.2.2 1))), ((a0 7), .inl (q 2, 400, .inl (s0.2.2.2 2)))] s.heap := hP
  unfold wp_X7_unlike at h
  refine lv_aload_n hx hb dX7_unlike_0 rfl (lv_at hl 0 rfl) ?_
  refine lv_iload_n hx hb dX7_unlike_1 rfl (lv_at hl 1 rfl) ?_
  refine vp_callSi (rd_wV (wc := md_v a0 q s0) (As := [.int x1]) (rest := []) hx hb hml hown ht (c2_X7_isRow h) wd_X7_isRow mw_1205 hQ hV va_S.rf (hP.sub [0, 1, 2, 3, 4, 5, 6, 7] rfl) rfl rfl rfl hl.1 rfl (Nat.le_of_ble_eq_true rfl) dX7_unlike_2 ⟨Nat.le_of_ble_eq_true rfl, Nat.le_of_ble_eq_true rfl, rfl, rfl⟩ ⟨Nat.le_of_ble_eq_true rfl, Nat.le_of_ble_eq_true rfl⟩) (fun r_1 h => ?_)
  try dsimp only at h
  refine lv_if_eq (tgt := 21) hx hb dX7_unlike_5 (by decide) (fun c_3 => ?_) (fun c_3 => ?_)
  · replace h := h.1 c_3
    refine lv_iconst (v := (-1)) hx hb dX7_unlike_21 (by decide) ?_
    exact rd_iret hx hb hr hk h dX7_unlike_22
  · replace h := h.2 c_3
    refine lv_aload_n hx hb dX7_unlike_8 rfl (lv_at hl 0 rfl) ?_
    refine lv_iload_n hx hb dX7_unlike_9 rfl (lv_at hl 2 rfl) ?_
    refine vp_callSi (rd_wV (wc := md_v a0 q s0) (As := [.int x2]) (rest := []) hx hb hml hown ht (c2_X7_isRow h) wd_X7_isRow mw_1205 hQ hV va_S.rf (hP.sub [0, 1, 2, 3, 4, 5, 6, 7] rfl) rfl rfl rfl hl.1 rfl (Nat.le_of_ble_eq_true rfl) dX7_unlike_10 ⟨Nat.le_of_ble_eq_true rfl, Nat.le_of_ble_eq_true rfl, rfl, rfl⟩ ⟨Nat.le_of_ble_eq_true rfl, Nat.le_of_ble_eq_true rfl⟩) (fun r_4 h => ?_)
    try dsimp only at h
    refine lv_if_eq (tgt := 21) hx hb dX7_unlike_13 (by decide) (fun c_6 => ?_) (fun c_6 => ?_)
    · replace h := h.1 c_6
      refine lv_iconst (v := (-1)) hx hb dX7_unlike_21 (by decide) ?_
      exact rd_iret hx hb hr hk h dX7_unlike_22
    · replace h := h.2 c_6
      refine lv_iload_n hx hb dX7_unlike_16 rfl (lv_at hl 1 rfl) ?_
      refine lv_iload_n hx hb dX7_unlike_17 rfl (lv_at hl 2 rfl) ?_
      refine lv_icmp_ne (tgt := 23) hx hb dX7_unlike_18 (by decide) (fun c_7 => ?_) (fun c_7 => ?_)
      · replace h := h.1 c_7
        refine lv_iconst (v := 0) hx hb dX7_unlike_23 (by decide) ?_
        refine lv_istore_n (lv' := [(3, .int 0), (0, .ref (a0 0)), (1, .int x1), (2, .int x2)]) hx hb dX7_unlike_24 rfl hl (by decide) rfl (fun ls hl => ?_)
        refine lv_iconst (v := 0) hx hb dX7_unlike_25 (by decide) ?_
        refine lv_istore (lv' := [(4, .int 0), (3, .int 0), (0, .ref (a0 0)), (1, .int x1), (2, .int x2)]) hx hb dX7_unlike_26 hl (by decide) rfl (fun ls hl => ?_)
        have lp28 : ∀ (e82 : Int32 → Int32 → Int32 → Int32 → Prop) (k82 : ∀ (z1 : Int32) (z2 : Int32) (z3 : Int32) (z4 : Int32) (ls : Array Slot), e82 z1 z2 z3 z4 → lv_has ls 5 [(1, .int z1), (2, .int z2), (3, .int z3), (4, .int z4), (0, .ref (a0 0))] → W p l e ({ frames := 2, cells := 0, slots := 0, locals := 46 } : Room) s m [.ref (a0 0), .int x1, .int x2].toArray below meth c s.heap [] 0 0 (MQ below (vp_Si post) [.ref (a0 0), .int x1, .int x2].toArray s 0 0 (fun _ => False)) (F0 m 82 ls [])) (n : Nat) (z1 : Int32) (z2 : Int32) (z3 : Int32) (z4 : Int32) (ls : Array Slot), wp_X7_unlike_L28 s0 post e82 n z1 z2 z3 z4 → lv_has ls 5 [(1, .int z1), (2, .int z2), (3, .int z3), (4, .int z4), (0, .ref (a0 0))] → W p l e ({ frames := 2, cells := 0, slots := 0, locals := 46 } : Room) s m [.ref (a0 0), .int x1, .int x2].toArray below meth c s.heap [] 0 0 (MQ below (vp_Si post) [.ref (a0 0), .int x1, .int x2].toArray s 0 0 (fun _ => False)) (F0 m 28 ls []) := by
          intro e82 k82 n
          induction n with
          | zero =>
            intro z1 z2 z3 z4 ls h
            exact h.elim
          | succ n ih =>
            intro z1 z2 z3 z4 ls h hl
            unfold wp_X7_unlike_L28 at h
            refine lv_iload hx hb dX7_unlike_28 (lv_at hl 3 rfl) ?_
            refine lv_aload_n hx hb dX7_unlike_30 rfl (lv_at hl 4 rfl) ?_
            refine vp_callSi (rd_wV (wc := md_v a0 q s0) (As := []) (rest := [.int z4]) hx hb hml hown ht (c2_X7_wide h) wd_X7_wide mw_1220 hQ hV va_S.rf (hP.sub [0, 1, 2, 3, 4, 5, 6, 7] rfl) rfl rfl rfl hl.1 rfl (Nat.le_of_ble_eq_true rfl) dX7_unlike_31 ⟨Nat.le_of_ble_eq_true rfl, Nat.le_of_ble_eq_true rfl, rfl, rfl⟩ ⟨Nat.le_of_ble_eq_true rfl, Nat.le_of_ble_eq_true rfl⟩) (fun r_8 h => ?_)
            try dsimp only at h
            refine lv_icmp_ge (tgt := 82) hx hb dX7_unlike_34 (by decide) (fun c_10 => ?_) (fun c_10 => ?_)
            · replace h := h.1 c_10
              exact k82 _ _ _ _ ls h (lv_sub hl [0, 1, 2, 3, 4] rfl)
            · replace h := h.2 c_10
              refine lv_iload_n hx hb dX7_unlike_37 rfl (lv_at hl 2 rfl) ?_
              refine lv_aload_n hx hb dX7_unlike_38 rfl (lv_at hl 4 rfl) ?_
              refine lv_aload_n hx hb dX7_unlike_39 rfl (lv_at hl 4 rfl) ?_
              refine vp_callSi (rd_wV (wc := md_v a0 q s0) (As := []) (rest := [.ref (a0 0), .int z3]) hx hb hml hown ht (c2_X7_wide h) wd_X7_wide mw_1220 hQ hV va_S.rf (hP.sub [0, 1, 2, 3, 4, 5, 6, 7] rfl) rfl rfl rfl hl.1 rfl (Nat.le_of_ble_eq_true rfl) dX7_unlike_40 ⟨Nat.le_of_ble_eq_true rfl, Nat.le_of_ble_eq_true rfl, rfl, rfl⟩ ⟨Nat.le_of_ble_eq_true rfl, Nat.le_of_ble_eq_true rfl⟩) (fun r_11 h => ?_)
              try dsimp only at h
              refine lv_iload_n hx hb dX7_unlike_43 rfl (lv_at hl 0 rfl) ?_
              refine lv_imul hx hb dX7_unlike_44 ?_
              refine lv_iload hx hb dX7_unlike_45 (lv_at hl 3 rfl) ?_
              refine lv_iadd hx hb dX7_unlike_47 ?_
              refine lv_iconst (v := 2) hx hb dX7_unlike_48 (by decide) ?_
              refine vp_callSi (rd_wV (wc := md_v a0 q s0) (As := [.int ((r_11 * z1) + z4), .int 2]) (rest := [.int z3]) hx hb hml hown ht (c2_X7_signAt h) wd_X7_signAt mw_1422 hQ hV va_S.rf (hP.sub [0, 1, 2, 3, 4, 5, 6, 7] rfl) rfl rfl rfl hl.1 rfl (Nat.le_of_ble_eq_true rfl) dX7_unlike_49 ⟨Nat.le_of_ble_eq_true rfl, Nat.le_of_ble_eq_true rfl, rfl, rfl⟩ ⟨Nat.le_of_ble_eq_true rfl, Nat.le_of_ble_eq_true rfl⟩) (fun r_13 h => ?_)
              try dsimp only at h
              refine lv_aload_n hx hb dX7_unlike_52 rfl (lv_at hl 4 rfl) ?_
              refine lv_aload_n hx hb dX7_unlike_53 rfl (lv_at hl 4 rfl) ?_
              refine vp_callSi (rd_wV (wc := md_v a0 q s0) (As := []) (rest := [.ref (a0 0), .int r_13, .int z3]) hx hb hml hown ht (c2_X7_wide h) wd_X7_wide mw_1220 hQ hV va_S.rf (hP.sub [0, 1, 2, 3, 4, 5, 6, 7] rfl) rfl rfl rfl hl.1 rfl (Nat.le_of_ble_eq_true rfl) dX7_unlike_54 ⟨Nat.le_of_ble_eq_true rfl, Nat.le_of_ble_eq_true rfl, rfl, rfl⟩ ⟨Nat.le_of_ble_eq_true rfl, Nat.le_of_ble_eq_true rfl⟩) (fun r_15 h => ?_)
              try dsimp only at h
              refine lv_iload_n hx hb dX7_unlike_57 rfl (lv_at hl 1 rfl) ?_
              refine lv_imul hx hb dX7_unlike_58 ?_
              refine lv_iload hx hb dX7_unlike_59 (lv_at hl 3 rfl) ?_
              refine lv_iadd hx hb dX7_unlike_61 ?_
              refine lv_iconst (v := 2) hx hb dX7_unlike_62 (by decide) ?_
              refine vp_callSi (rd_wV (wc := md_v a0 q s0) (As := [.int ((r_15 * z2) + z4), .int 2]) (rest := [.int r_13, .int z3]) hx hb hml hown ht (c2_X7_signAt h) wd_X7_signAt mw_1422 hQ hV va_S.rf (hP.sub [0, 1, 2, 3, 4, 5, 6, 7] rfl) rfl rfl rfl hl.1 rfl (Nat.le_of_ble_eq_true rfl) dX7_unlike_63 ⟨Nat.le_of_ble_eq_true rfl, Nat.le_of_ble_eq_true rfl, rfl, rfl⟩ ⟨Nat.le_of_ble_eq_true rfl, Nat.le_of_ble_eq_true rfl⟩) (fun r_17 h => ?_)
              try dsimp only at h
              refine lv_icmp_eq (tgt := 73) hx hb dX7_unlike_66 (by decide) (fun c_19 => ?_) (fun c_19 => ?_)
              · replace h := h.1 c_19
                refine lv_iconst (v := 0) hx hb dX7_unlike_73 (by decide) ?_
                refine lv_iadd hx hb dX7_unlike_74 ?_
                refine lv_istore_n (lv' := [(3, .int (z3 + 0)), (1, .int z1), (2, .int z2), (4, .int z4), (0, .ref (a0 0))]) hx hb dX7_unlike_75 rfl hl (by decide) rfl (fun ls hl => ?_)
                refine lv_iinc (v := (z4 + 1)) (lv' := [(4, .int (z4 + 1)), (3, .int (z3 + 0)), (1, .int z1), (2, .int z2), (0, .ref (a0 0))]) hx hb dX7_unlike_76 hl (k := 3) rfl rfl (by decide) rfl (fun ls hl => ?_)
                refine lv_goto (tgt := 28) hx hb dX7_unlike_79 (by decide) ?_
                exact ih _ _ _ _ ls h (lv_sub hl [2, 3, 1, 0, 4] rfl)
              · replace h := h.2 c_19
                refine lv_iconst (v := 1) hx hb dX7_unlike_69 (by decide) ?_
                refine lv_goto (tgt := 74) hx hb dX7_unlike_70 (by decide) ?_
                refine lv_iadd hx hb dX7_unlike_74 ?_
                refine lv_istore_n (lv' := [(3, .int (z3 + 1)), (1, .int z1), (2, .int z2), (4, .int z4), (0, .ref (a0 0))]) hx hb dX7_unlike_75 rfl hl (by decide) rfl (fun ls hl => ?_)
                refine lv_iinc (v := (z4 + 1)) (lv' := [(4, .int (z4 + 1)), (3, .int (z3 + 1)), (1, .int z1), (2, .int z2), (0, .ref (a0 0))]) hx hb dX7_unlike_76 hl (k := 3) rfl rfl (by decide) rfl (fun ls hl => ?_)
                refine lv_goto (tgt := 28) hx hb dX7_unlike_79 (by decide) ?_
                exact ih _ _ _ _ ls h (lv_sub hl [2, 3, 1, 0, 4] rfl)
        obtain ⟨n28, h⟩ := h
        refine lp28 _ ?_ n28 _ _ _ _ ls h (lv_sub hl [3, 4, 1, 0, 2] rfl)
        · intro z1 z2 z3 z4 ls h hl
          try dsimp only at h
          refine lv_iload_n hx hb dX7_unlike_82 rfl (lv_at hl 2 rfl) ?_
          exact rd_iret hx hb hr hk h dX7_unlike_83
      · replace h := h.2 c_7
        refine lv_iconst (v := (-1)) hx hb dX7_unlike_21 (by decide) ?_
        exact rd_iret hx hb hr hk h dX7_unlike_22

def wp_X7_digest_L17 (s0 : Md) (post : Int64 → Prop) (e44 : Int64 → Int32 → Int32 → Prop) : Nat → Int64 → Int32 → Int32 → Prop
  | 0, _, _, _ => False
  | n17 + 1, w1, z3, z4 => ((4 < z4 → e44 w1 z3 z4) ∧ (¬ 4 < z4 → wp_X7_of (fun r_5 => wp_X7_digest_L17 s0 post e44 n17 ((31 * w1) + (Int32.toInt64 r_5)) z3 (z4 + 1)) s0 z3 z4))
def wp_X7_digest_L6 (s0 : Md) (post : Int64 → Prop) (e62 : Int64 → Int32 → Prop) : Nat → Int64 → Int32 → Prop
  | 0, _, _ => False
  | n6 + 1, w1, z3 => wp_X7_cells (fun r_1 => ((r_1 ≤ z3 → e62 w1 z3) ∧ (¬ r_1 ≤ z3 → (∃ n17, wp_X7_digest_L17 s0 post (fun w1 z3 z4 => wp_X7_wornOf (fun r_7 => wp_X7_digest_L6 s0 post e62 n6 ((31 * w1) + r_7) (z3 + 1)) s0 z3) n17 w1 z3 0)))) s0
def wp_X7_digest (post : Int64 → Prop) (s0 : Md) : Prop := (∃ n6, wp_X7_digest_L6 s0 post (fun w1 z3 => post w1) n6 17 0)
set_option maxHeartbeats 4000000 in
set_option maxRecDepth 100000 in
theorem c2_X7_digest {l : Launch} {D : va_G} {q : Nat → ClassId} {a0 : Nat → Nat} {s0 : Md} {post : Int64 → Prop} (h : wp_X7_digest post s0) : Met l yX7_digest (Cond.code yX7_digest cX7_digest 5 (some .long) :: w_all) ({ frames := 2, cells := 0, slots := 0, locals := 40 } : Room) (rd_P D q [.ref (a0 0)] (md_v a0 q s0)) (vp_Sl post) 0 0 (fun _ => False) := by
  refine rd_start (by decide) (Nat.le_of_ble_eq_true rfl) ?_
  intro p e s m below meth c ls hx hb hr hml hown ht hk hP hQ hV hl
  have hK := hQ.1
  have hown : s.vm.findClass RX7 = some m.cls := hown
  have hl : lv_has ls 5 [(0, .ref (a0 0))] := hl
  have hP : va_P D vwCl [((a0 0), .inr (6, [.ref (a0 1), .ref (a0 2), .int (s0.1 0), .ref (a0 3), .ref (a0 5), .ref (a0 4), .long s0.2.1, .int (s0.1 1), .int (s0.1 2), .ref (a0 6), .int (s0.1 3), .int (s0.1 4), .ref (a0 7), .int (s0.1 5), .int (s0.1 6), .int (s0.1 7), .int (s0.1 8), .int (s0.1 9), .int (s0.1 10), .int (s0.1 11), .int (s0.1 12), .int (s0.1 13), .int (s0.1 14)])), ((a0 1), .inl (q 1, 6896, .inr (.inl (s0.2.2.1 0)))), ((a0 2), .inl (q 1, 68960, .inr (.inl (s0.2.2.1 1)))), ((a0 3), .inl (q 1, 13792, .inr (.inl (s0.2.2.1 2)))), ((a0 4), .inl (q 1, 6896, .inr (.inl (s0.2.2.1 3)))), ((a0 5), .inl (q 3, 2, .inl (s0.2.2.2 0))), ((a0 6), .inl (q 0, 40, .inl (s0.2.2.2 1))), ((a0 7), .inl (q 2, 400, .inl (s0.2.2.2 2)))] s.heap := hP
  unfold wp_X7_digest at h
  refine lv_ldc2 (v := 17) hx hb hown (ht _ mw_1477) dX7_digest_0 ?_
  refine lv_lstore_n (lv' := [(1, .long 17), (0, .ref (a0 0))]) hx hb dX7_digest_3 rfl hl (by decide) rfl (fun ls hl => ?_)
  refine lv_iconst (v := 0) hx hb dX7_digest_4 (by decide) ?_
  refine lv_istore_n (lv' := [(3, .int 0), (1, .long 17), (0, .ref (a0 0))]) hx hb dX7_digest_5 rfl hl (by decide) rfl (fun ls hl => ?_)
  have lp6 : ∀ (e62 : Int64 → Int32 → Prop) (k62 : ∀ (w1 : Int64) (z3 : Int32) (ls : Array Slot), e62 w1 z3 → lv_has ls 5 [(1, .long w1), (3, .int z3), (0, .ref (a0 0))] → W p l e ({ frames := 2, cells := 0, slots := 0, locals := 40 } : Room) s m [.ref (a0 0)].toArray below meth c s.heap [] 0 0 (MQ below (vp_Sl post) [.ref (a0 0)].toArray s 0 0 (fun _ => False)) (F0 m 62 ls [])) (n : Nat) (w1 : Int64) (z3 : Int32) (ls : Array Slot), wp_X7_digest_L6 s0 post e62 n w1 z3 → lv_has ls 5 [(1, .long w1), (3, .int z3), (0, .ref (a0 0))] → W p l e ({ frames := 2, cells := 0, slots := 0, locals := 40 } : Room) s m [.ref (a0 0)].toArray below meth c s.heap [] 0 0 (MQ below (vp_Sl post) [.ref (a0 0)].toArray s 0 0 (fun _ => False)) (F0 m 6 ls []) := by
    intro e62 k62 n
    induction n with
    | zero =>
      intro w1 z3 ls h
      exact h.elim
    | succ n ih =>
      intro w1 z3 ls h hl
      unfold wp_X7_digest_L6 at h
      refine lv_iload_n hx hb dX7_digest_6 rfl (lv_at hl 1 rfl) ?_
      refine lv_aload_n hx hb dX7_digest_7 rfl (lv_at hl 2 rfl) ?_
      refine vp_callSi (rd_wV (wc := md_v a0 q s0) (As := []) (rest := [.int z3]) hx hb hml hown ht (c2_X7_cells h) wd_X7_cells mw_1295 hQ hV va_S.rf (hP.sub [0, 1, 2, 3, 4, 5, 6, 7] rfl) rfl rfl rfl hl.1 rfl (Nat.le_of_ble_eq_true rfl) dX7_digest_8 ⟨Nat.le_of_ble_eq_true rfl, Nat.le_of_ble_eq_true rfl, rfl, rfl⟩ ⟨Nat.le_of_ble_eq_true rfl, Nat.le_of_ble_eq_true rfl⟩) (fun r_1 h => ?_)
      try dsimp only at h
      refine lv_icmp_ge (tgt := 62) hx hb dX7_digest_11 (by decide) (fun c_3 => ?_) (fun c_3 => ?_)
      · replace h := h.1 c_3
        exact k62 _ _ ls h (lv_sub hl [0, 1, 2] rfl)
      · replace h := h.2 c_3
        refine lv_iconst (v := 0) hx hb dX7_digest_14 (by decide) ?_
        refine lv_istore (lv' := [(4, .int 0), (1, .long w1), (3, .int z3), (0, .ref (a0 0))]) hx hb dX7_digest_15 hl (by decide) rfl (fun ls hl => ?_)
        have lp17 : ∀ (e44 : Int64 → Int32 → Int32 → Prop) (k44 : ∀ (w1 : Int64) (z3 : Int32) (z4 : Int32) (ls : Array Slot), e44 w1 z3 z4 → lv_has ls 5 [(1, .long w1), (3, .int z3), (4, .int z4), (0, .ref (a0 0))] → W p l e ({ frames := 2, cells := 0, slots := 0, locals := 40 } : Room) s m [.ref (a0 0)].toArray below meth c s.heap [] 0 0 (MQ below (vp_Sl post) [.ref (a0 0)].toArray s 0 0 (fun _ => False)) (F0 m 44 ls [])) (n : Nat) (w1 : Int64) (z3 : Int32) (z4 : Int32) (ls : Array Slot), wp_X7_digest_L17 s0 post e44 n w1 z3 z4 → lv_has ls 5 [(1, .long w1), (3, .int z3), (4, .int z4), (0, .ref (a0 0))] → W p l e ({ frames := 2, cells := 0, slots := 0, locals := 40 } : Room) s m [.ref (a0 0)].toArray below meth c s.heap [] 0 0 (MQ below (vp_Sl post) [.ref (a0 0)].toArray s 0 0 (fun _ => False)) (F0 m 17 ls []) := by
          intro e44 k44 n
          induction n with
          | zero =>
            intro w1 z3 z4 ls h
            exact h.elim
          | succ n ih =>
            intro w1 z3 z4 ls h hl
            unfold wp_X7_digest_L17 at h
            refine lv_iload hx hb dX7_digest_17 (lv_at hl 2 rfl) ?_
            refine lv_iconst (v := 4) hx hb dX7_digest_19 (by decide) ?_
            refine lv_icmp_gt (tgt := 44) hx hb dX7_digest_20 (by decide) (fun c_4 => ?_) (fun c_4 => ?_)
            · replace h := h.1 c_4
              exact k44 _ _ _ ls h (lv_sub hl [0, 1, 2, 3] rfl)
            · replace h := h.2 c_4
              refine lv_ldc2 (v := 31) hx hb hown (ht _ mw_1478) dX7_digest_23 ?_
              refine lv_lload_n hx hb dX7_digest_26 rfl (lv_at hl 0 rfl) ?_
              refine lv_lmul hx hb dX7_digest_27 ?_
              refine lv_aload_n hx hb dX7_digest_28 rfl (lv_at hl 3 rfl) ?_
              refine lv_iload_n hx hb dX7_digest_29 rfl (lv_at hl 1 rfl) ?_
              refine lv_iload hx hb dX7_digest_30 (lv_at hl 2 rfl) ?_
              refine vp_callSi (rd_wV (wc := md_v a0 q s0) (As := [.int z3, .int z4]) (rest := [.long (31 * w1)]) hx hb hml hown ht (c2_X7_of h) wd_X7_of mw_1249 hQ hV va_S.rf (hP.sub [0, 1, 2, 3, 4, 5, 6, 7] rfl) rfl rfl rfl hl.1 rfl (Nat.le_of_ble_eq_true rfl) dX7_digest_32 ⟨Nat.le_of_ble_eq_true rfl, Nat.le_of_ble_eq_true rfl, rfl, rfl⟩ ⟨Nat.le_of_ble_eq_true rfl, Nat.le_of_ble_eq_true rfl⟩) (fun r_5 h => ?_)
              try dsimp only at h
              refine lv_i2l (v := (Int32.toInt64 r_5)) hx hb dX7_digest_35 rfl ?_
              refine lv_ladd hx hb dX7_digest_36 ?_
              refine lv_lstore_n (lv' := [(1, .long ((31 * w1) + (Int32.toInt64 r_5))), (3, .int z3), (4, .int z4), (0, .ref (a0 0))]) hx hb dX7_digest_37 rfl hl (by decide) rfl (fun ls hl => ?_)
              refine lv_iinc (v := (z4 + 1)) (lv' := [(4, .int (z4 + 1)), (1, .long ((31 * w1) + (Int32.toInt64 r_5))), (3, .int z3), (0, .ref (a0 0))]) hx hb dX7_digest_38 hl (k := 2) rfl rfl (by decide) rfl (fun ls hl => ?_)
              refine lv_goto (tgt := 17) hx hb dX7_digest_41 (by decide) ?_
              exact ih _ _ _ ls h (lv_sub hl [1, 2, 0, 3] rfl)
        obtain ⟨n17, h⟩ := h
        refine lp17 _ ?_ n17 _ _ _ ls h (lv_sub hl [1, 2, 0, 3] rfl)
        · intro w1 z3 z4 ls h hl
          try dsimp only at h
          refine lv_ldc2 (v := 31) hx hb hown (ht _ mw_1478) dX7_digest_44 ?_
          refine lv_lload_n hx hb dX7_digest_47 rfl (lv_at hl 0 rfl) ?_
          refine lv_lmul hx hb dX7_digest_48 ?_
          refine lv_aload_n hx hb dX7_digest_49 rfl (lv_at hl 3 rfl) ?_
          refine lv_iload_n hx hb dX7_digest_50 rfl (lv_at hl 1 rfl) ?_
          refine vp_callSl (rd_wV (wc := md_v a0 q s0) (As := [.int z3]) (rest := [.long (31 * w1)]) hx hb hml hown ht (c2_X7_wornOf h) wd_X7_wornOf mw_1261 hQ hV va_S.rf (hP.sub [0, 1, 2, 3, 4, 5, 6, 7] rfl) rfl rfl rfl hl.1 rfl (Nat.le_of_ble_eq_true rfl) dX7_digest_51 ⟨Nat.le_of_ble_eq_true rfl, Nat.le_of_ble_eq_true rfl, rfl, rfl⟩ ⟨Nat.le_of_ble_eq_true rfl, Nat.le_of_ble_eq_true rfl⟩) (fun r_7 h => ?_)
          try dsimp only at h
          refine lv_ladd hx hb dX7_digest_54 ?_
          refine lv_lstore_n (lv' := [(1, .long ((31 * w1) + r_7)), (3, .int z3), (4, .int z4), (0, .ref (a0 0))]) hx hb dX7_digest_55 rfl hl (by decide) rfl (fun ls hl => ?_)
          refine lv_iinc (v := (z3 + 1)) (lv' := [(3, .int (z3 + 1)), (1, .long ((31 * w1) + r_7)), (4, .int z4), (0, .ref (a0 0))]) hx hb dX7_digest_56 hl (k := 1) rfl rfl (by decide) rfl (fun ls hl => ?_)
          refine lv_goto (tgt := 6) hx hb dX7_digest_59 (by decide) ?_
          exact ih _ _ ls h (lv_sub hl [1, 0, 3] rfl)
  obtain ⟨n6, h⟩ := h
  refine lp6 _ ?_ n6 _ _ ls h (lv_sub hl [1, 0, 2] rfl)
  · intro w1 z3 ls h hl
    try dsimp only at h
    refine lv_lload_n hx hb dX7_digest_62 rfl (lv_at hl 0 rfl) ?_
    exact rd_lret hx hb hr hk h dX7_digest_63

def wp_X7_letter (post : Int32 → Prop) (s0 : Md) (x1 : Int32) (x2 : Int32) : Prop := wp_X7_in (fun r_1 => ((r_1 = 0 → post (-1)) ∧ (¬ r_1 = 0 → (((-1) ≤ x2 → wp_X7_cells (fun r_5 => ((¬ r_5 = 0 → wp_X7_wide (fun r_8 => wp_X7_rows (fun r_10 => ((¬ x2 = (-1) → ((x2 < (((r_8 + 1) * r_10) - 1) → wp_X7_wide (fun r_14 => ¬ (r_14 + 1) = 0 ∧ wp_X7_wide (fun r_17 => ((¬ (x2 - x2 / (r_14 + 1) * (r_14 + 1)) = r_17 → wp_X7_wide (fun r_20 => ¬ (r_20 + 1) = 0 ∧ wp_X7_wide (fun r_23 => wp_X7_signAt (fun r_25 => post r_25) s0 (((x2 / (r_20 + 1)) * r_23) + (x2 - x2 / (r_14 + 1) * (r_14 + 1))) (2 * x1)) s0) s0) ∧ ((x2 - x2 / (r_14 + 1) * (r_14 + 1)) = r_17 → post 47))) s0) s0) ∧ (¬ x2 < (((r_8 + 1) * r_10) - 1) → post (-2)))) ∧ (x2 = (-1) → post (((r_8 + 1) * r_10) - 1)))) s0) s0) ∧ (r_5 = 0 → ((¬ x2 = (-1) → ((x2 < 0 → wp_X7_wide (fun r_29 => ¬ (r_29 + 1) = 0 ∧ wp_X7_wide (fun r_32 => ((¬ (x2 - x2 / (r_29 + 1) * (r_29 + 1)) = r_32 → wp_X7_wide (fun r_35 => ¬ (r_35 + 1) = 0 ∧ wp_X7_wide (fun r_38 => wp_X7_signAt (fun r_40 => post r_40) s0 (((x2 / (r_35 + 1)) * r_38) + (x2 - x2 / (r_29 + 1) * (r_29 + 1))) (2 * x1)) s0) s0) ∧ ((x2 - x2 / (r_29 + 1) * (r_29 + 1)) = r_32 → post 47))) s0) s0) ∧ (¬ x2 < 0 → post (-2)))) ∧ (x2 = (-1) → post 0))))) s0) ∧ (¬ (-1) ≤ x2 → post (-1)))))) (Int32.toInt64 x1) (0 : Int64) (1 : Int64)
set_option maxHeartbeats 4000000 in
set_option maxRecDepth 100000 in
theorem c2_X7_letter {l : Launch} {D : va_G} {q : Nat → ClassId} {a0 : Nat → Nat} {s0 : Md} {x1 : Int32} {x2 : Int32} {post : Int32 → Prop} (h : wp_X7_letter post s0 x1 x2) : Met l yX7_letter (Cond.code yX7_letter cX7_letter 5 (some .int) :: w_all) ({ frames := 2, cells := 0, slots := 0, locals := 44 } : Room) (rd_P D q [.ref (a0 0), .int x1, .int x2] (md_v a0 q s0)) (vp_Si post) 0 0 (fun _ => False) := by
  refine rd_start (by decide) (Nat.le_of_ble_eq_true rfl) ?_
  intro p e s m below meth c ls hx hb hr hml hown ht hk hP hQ hV hl
  have hK := hQ.1
  have hown : s.vm.findClass RX7 = some m.cls := hown
  have hl : lv_has ls 5 [(0, .ref (a0 0)), (1, .int x1), (2, .int x2)] := hl
  have hP : va_P D vwCl [((a0 0), .inr (6, [.ref (a0 1), .ref (a0 2), .int (s0.1 0), .ref (a0 3), .ref (a0 5), .ref (a0 4), .long s0.2.1, .int (s0.1 1), .int (s0.1 2), .ref (a0 6), .int (s0.1 3), .int (s0.1 4), .ref (a0 7), .int (s0.1 5), .int (s0.1 6), .int (s0.1 7), .int (s0.1 8), .int (s0.1 9), .int (s0.1 10), .int (s0.1 11), .int (s0.1 12), .int (s0.1 13), .int (s0.1 14)])), ((a0 1), .inl (q 1, 6896, .inr (.inl (s0.2.2.1 0)))), ((a0 2), .inl (q 1, 68960, .inr (.inl (s0.2.2.1 1)))), ((a0 3), .inl (q 1, 13792, .inr (.inl (s0.2.2.1 2)))), ((a0 4), .inl (q 1, 6896, .inr (.inl (s0.2.2.1 3)))), ((a0 5), .inl (q 3, 2, .inl (s0.2.2.2 0))), ((a0 6), .inl (q 0, 40, .inl (s0.2.2.2 1))), ((a0 7), .inl (q 2, 400, .inl (s0.2.2.2 2)))] s.heap := hP
  unfold wp_X7_letter at h
  refine lv_iload_n hx hb dX7_letter_0 rfl (lv_at hl 1 rfl) ?_
  refine lv_i2l (v := (Int32.toInt64 x1)) hx hb dX7_letter_1 rfl ?_
  refine lv_lconst (v := 0) hx hb dX7_letter_2 (by decide) ?_
  refine lv_lconst (v := 1) hx hb dX7_letter_3 (by decide) ?_
  refine vp_callSi (rd_wS (wc := ([] : va_W)) (As := [.long (Int32.toInt64 x1), .long 0, .long 1]) (rest := []) hx hb hml hown ht (c2_X7_in h) wd_X7_in mw_1213 hQ hV va_S.rf (hP.sub [] rfl) rfl hl.1 rfl (Nat.le_of_ble_eq_true rfl) dX7_letter_4 ⟨Nat.le_of_ble_eq_true rfl, Nat.le_of_ble_eq_true rfl, rfl, rfl⟩ ⟨Nat.le_of_ble_eq_true rfl, Nat.le_of_ble_eq_true rfl⟩) (fun r_1 h => ?_)
  try dsimp only at h
  refine lv_if_eq (tgt := 15) hx hb dX7_letter_7 (by decide) (fun c_3 => ?_) (fun c_3 => ?_)
  · replace h := h.1 c_3
    refine lv_iconst (v := (-1)) hx hb dX7_letter_15 (by decide) ?_
    exact rd_iret hx hb hr hk h dX7_letter_16
  · replace h := h.2 c_3
    refine lv_iload_n hx hb dX7_letter_10 rfl (lv_at hl 2 rfl) ?_
    refine lv_iconst (v := (-1)) hx hb dX7_letter_11 (by decide) ?_
    refine lv_icmp_ge (tgt := 17) hx hb dX7_letter_12 (by decide) (fun c_4 => ?_) (fun c_4 => ?_)
    · replace h := h.1 c_4
      refine lv_aload_n hx hb dX7_letter_17 rfl (lv_at hl 0 rfl) ?_
      refine vp_callSi (rd_wV (wc := md_v a0 q s0) (As := []) (rest := []) hx hb hml hown ht (c2_X7_cells h) wd_X7_cells mw_1295 hQ hV va_S.rf (hP.sub [0, 1, 2, 3, 4, 5, 6, 7] rfl) rfl rfl rfl hl.1 rfl (Nat.le_of_ble_eq_true rfl) dX7_letter_18 ⟨Nat.le_of_ble_eq_true rfl, Nat.le_of_ble_eq_true rfl, rfl, rfl⟩ ⟨Nat.le_of_ble_eq_true rfl, Nat.le_of_ble_eq_true rfl⟩) (fun r_5 h => ?_)
      try dsimp only at h
      refine lv_if_ne (tgt := 28) hx hb dX7_letter_21 (by decide) (fun c_7 => ?_) (fun c_7 => ?_)
      · replace h := h.1 c_7
        refine lv_aload_n hx hb dX7_letter_28 rfl (lv_at hl 0 rfl) ?_
        refine vp_callSi (rd_wV (wc := md_v a0 q s0) (As := []) (rest := []) hx hb hml hown ht (c2_X7_wide h) wd_X7_wide mw_1220 hQ hV va_S.rf (hP.sub [0, 1, 2, 3, 4, 5, 6, 7] rfl) rfl rfl rfl hl.1 rfl (Nat.le_of_ble_eq_true rfl) dX7_letter_29 ⟨Nat.le_of_ble_eq_true rfl, Nat.le_of_ble_eq_true rfl, rfl, rfl⟩ ⟨Nat.le_of_ble_eq_true rfl, Nat.le_of_ble_eq_true rfl⟩) (fun r_8 h => ?_)
        try dsimp only at h
        refine lv_iconst (v := 1) hx hb dX7_letter_32 (by decide) ?_
        refine lv_iadd hx hb dX7_letter_33 ?_
        refine lv_aload_n hx hb dX7_letter_34 rfl (lv_at hl 0 rfl) ?_
        refine vp_callSi (rd_wV (wc := md_v a0 q s0) (As := []) (rest := [.int (r_8 + 1)]) hx hb hml hown ht (c2_X7_rows h) wd_X7_rows mw_1209 hQ hV va_S.rf (hP.sub [0, 1, 2, 3, 4, 5, 6, 7] rfl) rfl rfl rfl hl.1 rfl (Nat.le_of_ble_eq_true rfl) dX7_letter_35 ⟨Nat.le_of_ble_eq_true rfl, Nat.le_of_ble_eq_true rfl, rfl, rfl⟩ ⟨Nat.le_of_ble_eq_true rfl, Nat.le_of_ble_eq_true rfl⟩) (fun r_10 h => ?_)
        try dsimp only at h
        refine lv_imul hx hb dX7_letter_38 ?_
        refine lv_iconst (v := 1) hx hb dX7_letter_39 (by decide) ?_
        refine lv_isub hx hb dX7_letter_40 ?_
        refine lv_istore_n (lv' := [(3, .int (((r_8 + 1) * r_10) - 1)), (0, .ref (a0 0)), (1, .int x1), (2, .int x2)]) hx hb dX7_letter_41 rfl hl (by decide) rfl (fun ls hl => ?_)
        refine lv_iload_n hx hb dX7_letter_42 rfl (lv_at hl 3 rfl) ?_
        refine lv_iconst (v := (-1)) hx hb dX7_letter_43 (by decide) ?_
        refine lv_icmp_ne (tgt := 49) hx hb dX7_letter_44 (by decide) (fun c_12 => ?_) (fun c_12 => ?_)
        · replace h := h.1 c_12
          refine lv_iload_n hx hb dX7_letter_49 rfl (lv_at hl 3 rfl) ?_
          refine lv_iload_n hx hb dX7_letter_50 rfl (lv_at hl 0 rfl) ?_
          refine lv_icmp_lt (tgt := 57) hx hb dX7_letter_51 (by decide) (fun c_13 => ?_) (fun c_13 => ?_)
          · replace h := h.1 c_13
            refine lv_iload_n hx hb dX7_letter_57 rfl (lv_at hl 3 rfl) ?_
            refine lv_aload_n hx hb dX7_letter_58 rfl (lv_at hl 1 rfl) ?_
            refine vp_callSi (rd_wV (wc := md_v a0 q s0) (As := []) (rest := [.int x2]) hx hb hml hown ht (c2_X7_wide h) wd_X7_wide mw_1220 hQ hV va_S.rf (hP.sub [0, 1, 2, 3, 4, 5, 6, 7] rfl) rfl rfl rfl hl.1 rfl (Nat.le_of_ble_eq_true rfl) dX7_letter_59 ⟨Nat.le_of_ble_eq_true rfl, Nat.le_of_ble_eq_true rfl, rfl, rfl⟩ ⟨Nat.le_of_ble_eq_true rfl, Nat.le_of_ble_eq_true rfl⟩) (fun r_14 h => ?_)
            try dsimp only at h
            refine lv_iconst (v := 1) hx hb dX7_letter_62 (by decide) ?_
            refine lv_iadd hx hb dX7_letter_63 ?_
            obtain ⟨g_16, h⟩ := h
            refine lv_irem hx hb dX7_letter_64 g_16 ?_
            refine lv_istore (lv' := [(4, .int (x2 - x2 / (r_14 + 1) * (r_14 + 1))), (3, .int (((r_8 + 1) * r_10) - 1)), (0, .ref (a0 0)), (1, .int x1), (2, .int x2)]) hx hb dX7_letter_65 hl (by decide) rfl (fun ls hl => ?_)
            refine lv_iload hx hb dX7_letter_67 (lv_at hl 0 rfl) ?_
            refine lv_aload_n hx hb dX7_letter_69 rfl (lv_at hl 2 rfl) ?_
            refine vp_callSi (rd_wV (wc := md_v a0 q s0) (As := []) (rest := [.int (x2 - x2 / (r_14 + 1) * (r_14 + 1))]) hx hb hml hown ht (c2_X7_wide h) wd_X7_wide mw_1220 hQ hV va_S.rf (hP.sub [0, 1, 2, 3, 4, 5, 6, 7] rfl) rfl rfl rfl hl.1 rfl (Nat.le_of_ble_eq_true rfl) dX7_letter_70 ⟨Nat.le_of_ble_eq_true rfl, Nat.le_of_ble_eq_true rfl, rfl, rfl⟩ ⟨Nat.le_of_ble_eq_true rfl, Nat.le_of_ble_eq_true rfl⟩) (fun r_17 h => ?_)
            try dsimp only at h
            refine lv_icmp_ne (tgt := 81) hx hb dX7_letter_73 (by decide) (fun c_19 => ?_) (fun c_19 => ?_)
            · replace h := h.1 c_19
              refine lv_aload_n hx hb dX7_letter_81 rfl (lv_at hl 2 rfl) ?_
              refine lv_iload_n hx hb dX7_letter_82 rfl (lv_at hl 4 rfl) ?_
              refine lv_aload_n hx hb dX7_letter_83 rfl (lv_at hl 2 rfl) ?_
              refine vp_callSi (rd_wV (wc := md_v a0 q s0) (As := []) (rest := [.int x2, .ref (a0 0)]) hx hb hml hown ht (c2_X7_wide h) wd_X7_wide mw_1220 hQ hV va_S.rf (hP.sub [0, 1, 2, 3, 4, 5, 6, 7] rfl) rfl rfl rfl hl.1 rfl (Nat.le_of_ble_eq_true rfl) dX7_letter_84 ⟨Nat.le_of_ble_eq_true rfl, Nat.le_of_ble_eq_true rfl, rfl, rfl⟩ ⟨Nat.le_of_ble_eq_true rfl, Nat.le_of_ble_eq_true rfl⟩) (fun r_20 h => ?_)
              try dsimp only at h
              refine lv_iconst (v := 1) hx hb dX7_letter_87 (by decide) ?_
              refine lv_iadd hx hb dX7_letter_88 ?_
              obtain ⟨g_22, h⟩ := h
              refine lv_idiv hx hb dX7_letter_89 g_22 ?_
              refine lv_aload_n hx hb dX7_letter_90 rfl (lv_at hl 2 rfl) ?_
              refine vp_callSi (rd_wV (wc := md_v a0 q s0) (As := []) (rest := [.int (x2 / (r_20 + 1)), .ref (a0 0)]) hx hb hml hown ht (c2_X7_wide h) wd_X7_wide mw_1220 hQ hV va_S.rf (hP.sub [0, 1, 2, 3, 4, 5, 6, 7] rfl) rfl rfl rfl hl.1 rfl (Nat.le_of_ble_eq_true rfl) dX7_letter_91 ⟨Nat.le_of_ble_eq_true rfl, Nat.le_of_ble_eq_true rfl, rfl, rfl⟩ ⟨Nat.le_of_ble_eq_true rfl, Nat.le_of_ble_eq_true rfl⟩) (fun r_23 h => ?_)
              try dsimp only at h
              refine lv_imul hx hb dX7_letter_94 ?_
              refine lv_iload hx hb dX7_letter_95 (lv_at hl 0 rfl) ?_
              refine lv_iadd hx hb dX7_letter_97 ?_
              refine lv_iconst (v := 2) hx hb dX7_letter_98 (by decide) ?_
              refine lv_iload_n hx hb dX7_letter_99 rfl (lv_at hl 3 rfl) ?_
              refine lv_imul hx hb dX7_letter_100 ?_
              refine vp_callSi (rd_wV (wc := md_v a0 q s0) (As := [.int (((x2 / (r_20 + 1)) * r_23) + (x2 - x2 / (r_14 + 1) * (r_14 + 1))), .int (2 * x1)]) (rest := []) hx hb hml hown ht (c2_X7_signAt h) wd_X7_signAt mw_1422 hQ hV va_S.rf (hP.sub [0, 1, 2, 3, 4, 5, 6, 7] rfl) rfl rfl rfl hl.1 rfl (Nat.le_of_ble_eq_true rfl) dX7_letter_101 ⟨Nat.le_of_ble_eq_true rfl, Nat.le_of_ble_eq_true rfl, rfl, rfl⟩ ⟨Nat.le_of_ble_eq_true rfl, Nat.le_of_ble_eq_true rfl⟩) (fun r_25 h => ?_)
              try dsimp only at h
              exact rd_iret hx hb hr hk h dX7_letter_104
            · replace h := h.2 c_19
              refine lv_bipush (v := 47) hx hb dX7_letter_76 (by decide) ?_
              refine lv_goto (tgt := 104) hx hb dX7_letter_78 (by decide) ?_
              exact rd_iret hx hb hr hk h dX7_letter_104
          · replace h := h.2 c_13
            refine lv_bipush (v := (-2)) hx hb dX7_letter_54 (by decide) ?_
            exact rd_iret hx hb hr hk h dX7_letter_56
        · replace h := h.2 c_12
          refine lv_iload_n hx hb dX7_letter_47 rfl (lv_at hl 0 rfl) ?_
          exact rd_iret hx hb hr hk h dX7_letter_48
      · replace h := h.2 c_7
        refine lv_iconst (v := 0) hx hb dX7_letter_24 (by decide) ?_
        refine lv_goto (tgt := 41) hx hb dX7_letter_25 (by decide) ?_
        refine lv_istore_n (lv' := [(3, .int 0), (0, .ref (a0 0)), (1, .int x1), (2, .int x2)]) hx hb dX7_letter_41 rfl hl (by decide) rfl (fun ls hl => ?_)
        refine lv_iload_n hx hb dX7_letter_42 rfl (lv_at hl 3 rfl) ?_
        refine lv_iconst (v := (-1)) hx hb dX7_letter_43 (by decide) ?_
        refine lv_icmp_ne (tgt := 49) hx hb dX7_letter_44 (by decide) (fun c_27 => ?_) (fun c_27 => ?_)
        · replace h := h.1 c_27
          refine lv_iload_n hx hb dX7_letter_49 rfl (lv_at hl 3 rfl) ?_
          refine lv_iload_n hx hb dX7_letter_50 rfl (lv_at hl 0 rfl) ?_
          refine lv_icmp_lt (tgt := 57) hx hb dX7_letter_51 (by decide) (fun c_28 => ?_) (fun c_28 => ?_)
          · replace h := h.1 c_28
            refine lv_iload_n hx hb dX7_letter_57 rfl (lv_at hl 3 rfl) ?_
            refine lv_aload_n hx hb dX7_letter_58 rfl (lv_at hl 1 rfl) ?_
            refine vp_callSi (rd_wV (wc := md_v a0 q s0) (As := []) (rest := [.int x2]) hx hb hml hown ht (c2_X7_wide h) wd_X7_wide mw_1220 hQ hV va_S.rf (hP.sub [0, 1, 2, 3, 4, 5, 6, 7] rfl) rfl rfl rfl hl.1 rfl (Nat.le_of_ble_eq_true rfl) dX7_letter_59 ⟨Nat.le_of_ble_eq_true rfl, Nat.le_of_ble_eq_true rfl, rfl, rfl⟩ ⟨Nat.le_of_ble_eq_true rfl, Nat.le_of_ble_eq_true rfl⟩) (fun r_29 h => ?_)
            try dsimp only at h
            refine lv_iconst (v := 1) hx hb dX7_letter_62 (by decide) ?_
            refine lv_iadd hx hb dX7_letter_63 ?_
            obtain ⟨g_31, h⟩ := h
            refine lv_irem hx hb dX7_letter_64 g_31 ?_
            refine lv_istore (lv' := [(4, .int (x2 - x2 / (r_29 + 1) * (r_29 + 1))), (3, .int 0), (0, .ref (a0 0)), (1, .int x1), (2, .int x2)]) hx hb dX7_letter_65 hl (by decide) rfl (fun ls hl => ?_)
            refine lv_iload hx hb dX7_letter_67 (lv_at hl 0 rfl) ?_
            refine lv_aload_n hx hb dX7_letter_69 rfl (lv_at hl 2 rfl) ?_
            refine vp_callSi (rd_wV (wc := md_v a0 q s0) (As := []) (rest := [.int (x2 - x2 / (r_29 + 1) * (r_29 + 1))]) hx hb hml hown ht (c2_X7_wide h) wd_X7_wide mw_1220 hQ hV va_S.rf (hP.sub [0, 1, 2, 3, 4, 5, 6, 7] rfl) rfl rfl rfl hl.1 rfl (Nat.le_of_ble_eq_true rfl) dX7_letter_70 ⟨Nat.le_of_ble_eq_true rfl, Nat.le_of_ble_eq_true rfl, rfl, rfl⟩ ⟨Nat.le_of_ble_eq_true rfl, Nat.le_of_ble_eq_true rfl⟩) (fun r_32 h => ?_)
            try dsimp only at h
            refine lv_icmp_ne (tgt := 81) hx hb dX7_letter_73 (by decide) (fun c_34 => ?_) (fun c_34 => ?_)
            · replace h := h.1 c_34
              refine lv_aload_n hx hb dX7_letter_81 rfl (lv_at hl 2 rfl) ?_
              refine lv_iload_n hx hb dX7_letter_82 rfl (lv_at hl 4 rfl) ?_
              refine lv_aload_n hx hb dX7_letter_83 rfl (lv_at hl 2 rfl) ?_
              refine vp_callSi (rd_wV (wc := md_v a0 q s0) (As := []) (rest := [.int x2, .ref (a0 0)]) hx hb hml hown ht (c2_X7_wide h) wd_X7_wide mw_1220 hQ hV va_S.rf (hP.sub [0, 1, 2, 3, 4, 5, 6, 7] rfl) rfl rfl rfl hl.1 rfl (Nat.le_of_ble_eq_true rfl) dX7_letter_84 ⟨Nat.le_of_ble_eq_true rfl, Nat.le_of_ble_eq_true rfl, rfl, rfl⟩ ⟨Nat.le_of_ble_eq_true rfl, Nat.le_of_ble_eq_true rfl⟩) (fun r_35 h => ?_)
              try dsimp only at h
              refine lv_iconst (v := 1) hx hb dX7_letter_87 (by decide) ?_
              refine lv_iadd hx hb dX7_letter_88 ?_
              obtain ⟨g_37, h⟩ := h
              refine lv_idiv hx hb dX7_letter_89 g_37 ?_
              refine lv_aload_n hx hb dX7_letter_90 rfl (lv_at hl 2 rfl) ?_
              refine vp_callSi (rd_wV (wc := md_v a0 q s0) (As := []) (rest := [.int (x2 / (r_35 + 1)), .ref (a0 0)]) hx hb hml hown ht (c2_X7_wide h) wd_X7_wide mw_1220 hQ hV va_S.rf (hP.sub [0, 1, 2, 3, 4, 5, 6, 7] rfl) rfl rfl rfl hl.1 rfl (Nat.le_of_ble_eq_true rfl) dX7_letter_91 ⟨Nat.le_of_ble_eq_true rfl, Nat.le_of_ble_eq_true rfl, rfl, rfl⟩ ⟨Nat.le_of_ble_eq_true rfl, Nat.le_of_ble_eq_true rfl⟩) (fun r_38 h => ?_)
              try dsimp only at h
              refine lv_imul hx hb dX7_letter_94 ?_
              refine lv_iload hx hb dX7_letter_95 (lv_at hl 0 rfl) ?_
              refine lv_iadd hx hb dX7_letter_97 ?_
              refine lv_iconst (v := 2) hx hb dX7_letter_98 (by decide) ?_
              refine lv_iload_n hx hb dX7_letter_99 rfl (lv_at hl 3 rfl) ?_
              refine lv_imul hx hb dX7_letter_100 ?_
              refine vp_callSi (rd_wV (wc := md_v a0 q s0) (As := [.int (((x2 / (r_35 + 1)) * r_38) + (x2 - x2 / (r_29 + 1) * (r_29 + 1))), .int (2 * x1)]) (rest := []) hx hb hml hown ht (c2_X7_signAt h) wd_X7_signAt mw_1422 hQ hV va_S.rf (hP.sub [0, 1, 2, 3, 4, 5, 6, 7] rfl) rfl rfl rfl hl.1 rfl (Nat.le_of_ble_eq_true rfl) dX7_letter_101 ⟨Nat.le_of_ble_eq_true rfl, Nat.le_of_ble_eq_true rfl, rfl, rfl⟩ ⟨Nat.le_of_ble_eq_true rfl, Nat.le_of_ble_eq_true rfl⟩) (fun r_40 h => ?_)
              try dsimp only at h
              exact rd_iret hx hb hr hk h dX7_letter_104
            · replace h := h.2 c_34
              refine lv_bipush (v := 47) hx hb dX7_letter_76 (by decide) ?_
              refine lv_goto (tgt := 104) hx hb dX7_letter_78 (by decide) ?_
              exact rd_iret hx hb hr hk h dX7_letter_104
          · replace h := h.2 c_28
            refine lv_bipush (v := (-2)) hx hb dX7_letter_54 (by decide) ?_
            exact rd_iret hx hb hr hk h dX7_letter_56
        · replace h := h.2 c_27
          refine lv_iload_n hx hb dX7_letter_47 rfl (lv_at hl 0 rfl) ?_
          exact rd_iret hx hb hr hk h dX7_letter_48
    · replace h := h.2 c_4
      refine lv_iconst (v := (-1)) hx hb dX7_letter_15 (by decide) ?_
      exact rd_iret hx hb hr hk h dX7_letter_16

def wp_X7_count (post : Int32 → Md → Prop) (s0 : Md) (x1 : Int32) : Prop := ((x1 = 0 → wp_X7_rows (fun r_2 => post r_2 s0) s0) ∧ (¬ x1 = 0 → ((x1 = 1 → wp_X7_wide (fun r_5 => post r_5 s0) s0) ∧ (¬ x1 = 1 → ((x1 = 2 → wp_X7_cells (fun r_8 => post r_8 s0) s0) ∧ (¬ x1 = 2 → ((x1 = 3 → post (Int64.toInt32 ((s0.2.2.1 0) (Int32.toNatClampNeg 2))) s0) ∧ (¬ x1 = 3 → ((x1 = 4 → wp_X7_drums (fun r_12 => post r_12 s0) s0) ∧ (¬ x1 = 4 → ((x1 = 5 → post (s0.1 0) s0) ∧ (¬ x1 = 5 → ((x1 = 6 → post (s0.1 5) s0) ∧ (¬ x1 = 6 → ((x1 = 7 → ((((s0.2.2.2 0) (Int32.toNatClampNeg 0)) = 0 → ((((s0.2.2.2 0) (Int32.toNatClampNeg 1)) = 0 → post 0 s0) ∧ (¬ ((s0.2.2.2 0) (Int32.toNatClampNeg 1)) = 0 → post 2 s0))) ∧ (¬ ((s0.2.2.2 0) (Int32.toNatClampNeg 0)) = 0 → ((((s0.2.2.2 0) (Int32.toNatClampNeg 1)) = 0 → post 1 s0) ∧ (¬ ((s0.2.2.2 0) (Int32.toNatClampNeg 1)) = 0 → post 3 s0))))) ∧ (¬ x1 = 7 → ((x1 = 8 → wp_X7_findsTurning (fun u_22 => post (u_22.1 1) u_22) s0) ∧ (¬ x1 = 8 → post (-1) s0))))))))))))))))))
set_option maxHeartbeats 4000000 in
set_option maxRecDepth 100000 in
theorem c2_X7_count {l : Launch} {D : va_G} {q : Nat → ClassId} {sz : Nat} {a0 : Nat → Nat} {s0 : Md} {x1 : Int32} {post : Int32 → Md → Prop} (h : wp_X7_count post s0 x1) : Met l yX7_count (Cond.code yX7_count cX7_count 2 (some .int) :: w_all) ({ frames := 4, cells := 0, slots := 0, locals := 89 } : Room) (mt_P D q [.ref (a0 0), .int x1] (md_v a0 q s0) sz) (va_Qi (fun r (u : Md) => post r u) (mt_B D (md_v a0 q s0) sz (fun u : Md => md_v a0 q u)) (va_A (md_v a0 q s0) sz)) 0 0 (va_A (md_v a0 q s0) sz) := by
  refine mt_start (by decide) (Nat.le_of_ble_eq_true rfl) ?_
  intro p e s m below meth c ls hx hb hr hml hown ht hk hin hP hQ hD hA hS hV hl
  have hK := hQ.1
  have hown : s.vm.findClass RX7 = some m.cls := hown
  have hl : lv_has ls 2 [(0, .ref (a0 0)), (1, .int x1)] := hl
  have hP : va_P D vwCl [((a0 0), .inr (6, [.ref (a0 1), .ref (a0 2), .int (s0.1 0), .ref (a0 3), .ref (a0 5), .ref (a0 4), .long s0.2.1, .int (s0.1 1), .int (s0.1 2), .ref (a0 6), .int (s0.1 3), .int (s0.1 4), .ref (a0 7), .int (s0.1 5), .int (s0.1 6), .int (s0.1 7), .int (s0.1 8), .int (s0.1 9), .int (s0.1 10), .int (s0.1 11), .int (s0.1 12), .int (s0.1 13), .int (s0.1 14)])), ((a0 1), .inl (q 1, 6896, .inr (.inl (s0.2.2.1 0)))), ((a0 2), .inl (q 1, 68960, .inr (.inl (s0.2.2.1 1)))), ((a0 3), .inl (q 1, 13792, .inr (.inl (s0.2.2.1 2)))), ((a0 4), .inl (q 1, 6896, .inr (.inl (s0.2.2.1 3)))), ((a0 5), .inl (q 3, 2, .inl (s0.2.2.2 0))), ((a0 6), .inl (q 0, 40, .inl (s0.2.2.2 1))), ((a0 7), .inl (q 2, 400, .inl (s0.2.2.2 2)))] s.heap := hP
  have hD : va_D _ [((a0 0), .inr (6, [.ref (a0 1), .ref (a0 2), .int (s0.1 0), .ref (a0 3), .ref (a0 5), .ref (a0 4), .long s0.2.1, .int (s0.1 1), .int (s0.1 2), .ref (a0 6), .int (s0.1 3), .int (s0.1 4), .ref (a0 7), .int (s0.1 5), .int (s0.1 6), .int (s0.1 7), .int (s0.1 8), .int (s0.1 9), .int (s0.1 10), .int (s0.1 11), .int (s0.1 12), .int (s0.1 13), .int (s0.1 14)])), ((a0 1), .inl (q 1, 6896, .inr (.inl (s0.2.2.1 0)))), ((a0 2), .inl (q 1, 68960, .inr (.inl (s0.2.2.1 1)))), ((a0 3), .inl (q 1, 13792, .inr (.inl (s0.2.2.1 2)))), ((a0 4), .inl (q 1, 6896, .inr (.inl (s0.2.2.1 3)))), ((a0 5), .inl (q 3, 2, .inl (s0.2.2.2 0))), ((a0 6), .inl (q 0, 40, .inl (s0.2.2.2 1))), ((a0 7), .inl (q 2, 400, .inl (s0.2.2.2 2)))] := hD
  unfold wp_X7_count at h
  refine lv_iload_n hx hb dX7_count_0 rfl (lv_at hl 1 rfl) ?_
  by_cases k_1 : x1 = 0
  · replace h := h.1 k_1
    refine lv_tableIn (tgt := 52) hx hb dX7_count_1 (by rw [k_1]; decide) (by rw [k_1]; decide) (by rw [k_1]; rfl) (by decide) ?_
    refine lv_aload_n hx hb dX7_count_52 rfl (lv_at hl 0 rfl) ?_
    refine vp_callSi (rd_wV (wc := md_v a0 q s0) (As := []) (rest := []) hx hb hml hown ht (c2_X7_rows h) wd_X7_rows mw_1209 hQ hV hS (hP.sub [0, 1, 2, 3, 4, 5, 6, 7] rfl) rfl rfl rfl hl.1 rfl (Nat.le_of_ble_eq_true rfl) dX7_count_53 ⟨Nat.le_of_ble_eq_true rfl, Nat.le_of_ble_eq_true rfl, rfl, rfl⟩ ⟨Nat.le_of_ble_eq_true rfl, Nat.le_of_ble_eq_true rfl⟩) (fun r_2 h => ?_)
    try dsimp only at h
    exact mt_iret s0 hx hb hr hk h (hP.sub (ws' := md_v a0 q s0) [0, 1, 2, 3, 4, 5, 6, 7] rfl) (hD.sub (ws' := md_v a0 q s0) [0, 1, 2, 3, 4, 5, 6, 7] (by decide) rfl) hS dX7_count_56
  replace h := h.2 k_1
  by_cases k_4 : x1 = 1
  · replace h := h.1 k_4
    refine lv_tableIn (tgt := 57) hx hb dX7_count_1 (by rw [k_4]; decide) (by rw [k_4]; decide) (by rw [k_4]; rfl) (by decide) ?_
    refine lv_aload_n hx hb dX7_count_57 rfl (lv_at hl 0 rfl) ?_
    refine vp_callSi (rd_wV (wc := md_v a0 q s0) (As := []) (rest := []) hx hb hml hown ht (c2_X7_wide h) wd_X7_wide mw_1220 hQ hV hS (hP.sub [0, 1, 2, 3, 4, 5, 6, 7] rfl) rfl rfl rfl hl.1 rfl (Nat.le_of_ble_eq_true rfl) dX7_count_58 ⟨Nat.le_of_ble_eq_true rfl, Nat.le_of_ble_eq_true rfl, rfl, rfl⟩ ⟨Nat.le_of_ble_eq_true rfl, Nat.le_of_ble_eq_true rfl⟩) (fun r_5 h => ?_)
    try dsimp only at h
    exact mt_iret s0 hx hb hr hk h (hP.sub (ws' := md_v a0 q s0) [0, 1, 2, 3, 4, 5, 6, 7] rfl) (hD.sub (ws' := md_v a0 q s0) [0, 1, 2, 3, 4, 5, 6, 7] (by decide) rfl) hS dX7_count_61
  replace h := h.2 k_4
  by_cases k_7 : x1 = 2
  · replace h := h.1 k_7
    refine lv_tableIn (tgt := 62) hx hb dX7_count_1 (by rw [k_7]; decide) (by rw [k_7]; decide) (by rw [k_7]; rfl) (by decide) ?_
    refine lv_aload_n hx hb dX7_count_62 rfl (lv_at hl 0 rfl) ?_
    refine vp_callSi (rd_wV (wc := md_v a0 q s0) (As := []) (rest := []) hx hb hml hown ht (c2_X7_cells h) wd_X7_cells mw_1295 hQ hV hS (hP.sub [0, 1, 2, 3, 4, 5, 6, 7] rfl) rfl rfl rfl hl.1 rfl (Nat.le_of_ble_eq_true rfl) dX7_count_63 ⟨Nat.le_of_ble_eq_true rfl, Nat.le_of_ble_eq_true rfl, rfl, rfl⟩ ⟨Nat.le_of_ble_eq_true rfl, Nat.le_of_ble_eq_true rfl⟩) (fun r_8 h => ?_)
    try dsimp only at h
    exact mt_iret s0 hx hb hr hk h (hP.sub (ws' := md_v a0 q s0) [0, 1, 2, 3, 4, 5, 6, 7] rfl) (hD.sub (ws' := md_v a0 q s0) [0, 1, 2, 3, 4, 5, 6, 7] (by decide) rfl) hS dX7_count_66
  replace h := h.2 k_7
  by_cases k_10 : x1 = 3
  · replace h := h.1 k_10
    refine lv_tableIn (tgt := 67) hx hb dX7_count_1 (by rw [k_10]; decide) (by rw [k_10]; decide) (by rw [k_10]; rfl) (by decide) ?_
    refine lv_aload_n hx hb dX7_count_67 rfl (lv_at hl 0 rfl) ?_
    refine fl_get (C := RX7) (T := TX7) (N := 23) (ci := 6) (v := .ref (a0 1)) hx hb ht in_X7 hown hK hP 0 rfl rfl 0 (by decide) mw_1130 rfl dX7_count_68 ?_
    refine lv_iconst (v := 2) hx hb dX7_count_71 (by decide) ?_
    refine va_lald hx hb hK hP 1 1 rfl rfl (in_c rfl) dX7_count_72 ?_
    refine lv_l2i (v := (Int64.toInt32 ((s0.2.2.1 0) (Int32.toNatClampNeg 2)))) hx hb dX7_count_73 rfl ?_
    exact mt_iret s0 hx hb hr hk h (hP.sub (ws' := md_v a0 q s0) [0, 1, 2, 3, 4, 5, 6, 7] rfl) (hD.sub (ws' := md_v a0 q s0) [0, 1, 2, 3, 4, 5, 6, 7] (by decide) rfl) hS dX7_count_74
  replace h := h.2 k_10
  by_cases k_11 : x1 = 4
  · replace h := h.1 k_11
    refine lv_tableIn (tgt := 75) hx hb dX7_count_1 (by rw [k_11]; decide) (by rw [k_11]; decide) (by rw [k_11]; rfl) (by decide) ?_
    refine lv_aload_n hx hb dX7_count_75 rfl (lv_at hl 0 rfl) ?_
    refine vp_callSi (rd_wV (wc := md_v a0 q s0) (As := []) (rest := []) hx hb hml hown ht (c2_X7_drums h) wd_X7_drums mw_1287 hQ hV hS (hP.sub [0, 1, 2, 3, 4, 5, 6, 7] rfl) rfl rfl rfl hl.1 rfl (Nat.le_of_ble_eq_true rfl) dX7_count_76 ⟨Nat.le_of_ble_eq_true rfl, Nat.le_of_ble_eq_true rfl, rfl, rfl⟩ ⟨Nat.le_of_ble_eq_true rfl, Nat.le_of_ble_eq_true rfl⟩) (fun r_12 h => ?_)
    try dsimp only at h
    exact mt_iret s0 hx hb hr hk h (hP.sub (ws' := md_v a0 q s0) [0, 1, 2, 3, 4, 5, 6, 7] rfl) (hD.sub (ws' := md_v a0 q s0) [0, 1, 2, 3, 4, 5, 6, 7] (by decide) rfl) hS dX7_count_79
  replace h := h.2 k_11
  by_cases k_14 : x1 = 5
  · replace h := h.1 k_14
    refine lv_tableIn (tgt := 80) hx hb dX7_count_1 (by rw [k_14]; decide) (by rw [k_14]; decide) (by rw [k_14]; rfl) (by decide) ?_
    refine lv_aload_n hx hb dX7_count_80 rfl (lv_at hl 0 rfl) ?_
    refine fl_get (C := RX7) (T := TX7) (N := 23) (ci := 6) (v := .int (s0.1 0)) hx hb ht in_X7 hown hK hP 0 rfl rfl 2 (by decide) mw_1132 rfl dX7_count_81 ?_
    exact mt_iret s0 hx hb hr hk h (hP.sub (ws' := md_v a0 q s0) [0, 1, 2, 3, 4, 5, 6, 7] rfl) (hD.sub (ws' := md_v a0 q s0) [0, 1, 2, 3, 4, 5, 6, 7] (by decide) rfl) hS dX7_count_84
  replace h := h.2 k_14
  by_cases k_15 : x1 = 6
  · replace h := h.1 k_15
    refine lv_tableIn (tgt := 85) hx hb dX7_count_1 (by rw [k_15]; decide) (by rw [k_15]; decide) (by rw [k_15]; rfl) (by decide) ?_
    refine lv_aload_n hx hb dX7_count_85 rfl (lv_at hl 0 rfl) ?_
    refine fl_get (C := RX7) (T := TX7) (N := 23) (ci := 6) (v := .int (s0.1 5)) hx hb ht in_X7 hown hK hP 0 rfl rfl 13 (by decide) mw_1143 rfl dX7_count_86 ?_
    exact mt_iret s0 hx hb hr hk h (hP.sub (ws' := md_v a0 q s0) [0, 1, 2, 3, 4, 5, 6, 7] rfl) (hD.sub (ws' := md_v a0 q s0) [0, 1, 2, 3, 4, 5, 6, 7] (by decide) rfl) hS dX7_count_89
  replace h := h.2 k_15
  by_cases k_16 : x1 = 7
  · replace h := h.1 k_16
    refine lv_tableIn (tgt := 90) hx hb dX7_count_1 (by rw [k_16]; decide) (by rw [k_16]; decide) (by rw [k_16]; rfl) (by decide) ?_
    refine lv_aload_n hx hb dX7_count_90 rfl (lv_at hl 0 rfl) ?_
    refine fl_get (C := RX7) (T := TX7) (N := 23) (ci := 6) (v := .ref (a0 5)) hx hb ht in_X7 hown hK hP 0 rfl rfl 4 (by decide) mw_1134 rfl dX7_count_91 ?_
    refine lv_iconst (v := 0) hx hb dX7_count_94 (by decide) ?_
    refine va_zald hx hb hK hP 5 3 rfl rfl (in_c rfl) dX7_count_95 ?_
    refine lv_if_eq (tgt := 103) hx hb dX7_count_96 (by decide) (fun c_17 => ?_) (fun c_17 => ?_)
    · replace h := h.1 c_17
      refine lv_iconst (v := 0) hx hb dX7_count_103 (by decide) ?_
      refine lv_aload_n hx hb dX7_count_104 rfl (lv_at hl 0 rfl) ?_
      refine fl_get (C := RX7) (T := TX7) (N := 23) (ci := 6) (v := .ref (a0 5)) hx hb ht in_X7 hown hK hP 0 rfl rfl 4 (by decide) mw_1134 rfl dX7_count_105 ?_
      refine lv_iconst (v := 1) hx hb dX7_count_108 (by decide) ?_
      refine va_zald hx hb hK hP 5 3 rfl rfl (in_c rfl) dX7_count_109 ?_
      refine lv_if_eq (tgt := 117) hx hb dX7_count_110 (by decide) (fun c_18 => ?_) (fun c_18 => ?_)
      · replace h := h.1 c_18
        refine lv_iconst (v := 0) hx hb dX7_count_117 (by decide) ?_
        refine lv_iadd hx hb dX7_count_118 ?_
        refine ab_i (v := 0) (by decide) ?_
        exact mt_iret s0 hx hb hr hk h (hP.sub (ws' := md_v a0 q s0) [0, 1, 2, 3, 4, 5, 6, 7] rfl) (hD.sub (ws' := md_v a0 q s0) [0, 1, 2, 3, 4, 5, 6, 7] (by decide) rfl) hS dX7_count_119
      · replace h := h.2 c_18
        refine lv_iconst (v := 2) hx hb dX7_count_113 (by decide) ?_
        refine lv_goto (tgt := 118) hx hb dX7_count_114 (by decide) ?_
        refine lv_iadd hx hb dX7_count_118 ?_
        refine ab_i (v := 2) (by decide) ?_
        exact mt_iret s0 hx hb hr hk h (hP.sub (ws' := md_v a0 q s0) [0, 1, 2, 3, 4, 5, 6, 7] rfl) (hD.sub (ws' := md_v a0 q s0) [0, 1, 2, 3, 4, 5, 6, 7] (by decide) rfl) hS dX7_count_119
    · replace h := h.2 c_17
      refine lv_iconst (v := 1) hx hb dX7_count_99 (by decide) ?_
      refine lv_goto (tgt := 104) hx hb dX7_count_100 (by decide) ?_
      refine lv_aload_n hx hb dX7_count_104 rfl (lv_at hl 0 rfl) ?_
      refine fl_get (C := RX7) (T := TX7) (N := 23) (ci := 6) (v := .ref (a0 5)) hx hb ht in_X7 hown hK hP 0 rfl rfl 4 (by decide) mw_1134 rfl dX7_count_105 ?_
      refine lv_iconst (v := 1) hx hb dX7_count_108 (by decide) ?_
      refine va_zald hx hb hK hP 5 3 rfl rfl (in_c rfl) dX7_count_109 ?_
      refine lv_if_eq (tgt := 117) hx hb dX7_count_110 (by decide) (fun c_19 => ?_) (fun c_19 => ?_)
      · replace h := h.1 c_19
        refine lv_iconst (v := 0) hx hb dX7_count_117 (by decide) ?_
        refine lv_iadd hx hb dX7_count_118 ?_
        refine ab_i (v := 1) (by decide) ?_
        exact mt_iret s0 hx hb hr hk h (hP.sub (ws' := md_v a0 q s0) [0, 1, 2, 3, 4, 5, 6, 7] rfl) (hD.sub (ws' := md_v a0 q s0) [0, 1, 2, 3, 4, 5, 6, 7] (by decide) rfl) hS dX7_count_119
      · replace h := h.2 c_19
        refine lv_iconst (v := 2) hx hb dX7_count_113 (by decide) ?_
        refine lv_goto (tgt := 118) hx hb dX7_count_114 (by decide) ?_
        refine lv_iadd hx hb dX7_count_118 ?_
        refine ab_i (v := 3) (by decide) ?_
        exact mt_iret s0 hx hb hr hk h (hP.sub (ws' := md_v a0 q s0) [0, 1, 2, 3, 4, 5, 6, 7] rfl) (hD.sub (ws' := md_v a0 q s0) [0, 1, 2, 3, 4, 5, 6, 7] (by decide) rfl) hS dX7_count_119
  replace h := h.2 k_16
  by_cases k_20 : x1 = 8
  · replace h := h.1 k_20
    refine lv_tableIn (tgt := 120) hx hb dX7_count_1 (by rw [k_20]; decide) (by rw [k_20]; decide) (by rw [k_20]; rfl) (by decide) ?_
    refine lv_aload_n hx hb dX7_count_120 rfl (lv_at hl 0 rfl) ?_
    refine mt_gov (mt_wV (wc := md_v a0 q s0) (As := []) (rest := []) hx hb hml hown ht (c2_X7_findsTurning h) wd_X7_findsTurning mw_1308 hQ hV hS hA (hP.sub [0, 1, 2, 3, 4, 5, 6, 7] rfl) (hD.sub [0, 1, 2, 3, 4, 5, 6, 7] (by decide) rfl) rfl rfl rfl hl.1 rfl (Nat.le_of_ble_eq_true rfl) dX7_count_121 ⟨Nat.le_of_ble_eq_true rfl, Nat.le_of_ble_eq_true rfl, rfl, rfl⟩ ⟨Nat.le_of_ble_eq_true rfl, Nat.le_of_ble_eq_true rfl⟩) (wr := []) hP hD hS hA [0, 1, 2, 3, 4, 5, 6, 7] [] rfl rfl (by decide) (by decide) (fun u_22 H locs h hP hD hS => ?_)
    try dsimp only at h
    have hP : va_P D vwCl [((a0 0), .inr (6, [.ref (a0 1), .ref (a0 2), .int (u_22.1 0), .ref (a0 3), .ref (a0 5), .ref (a0 4), .long u_22.2.1, .int (u_22.1 1), .int (u_22.1 2), .ref (a0 6), .int (u_22.1 3), .int (u_22.1 4), .ref (a0 7), .int (u_22.1 5), .int (u_22.1 6), .int (u_22.1 7), .int (u_22.1 8), .int (u_22.1 9), .int (u_22.1 10), .int (u_22.1 11), .int (u_22.1 12), .int (u_22.1 13), .int (u_22.1 14)])), ((a0 1), .inl (q 1, 6896, .inr (.inl (u_22.2.2.1 0)))), ((a0 2), .inl (q 1, 68960, .inr (.inl (u_22.2.2.1 1)))), ((a0 3), .inl (q 1, 13792, .inr (.inl (u_22.2.2.1 2)))), ((a0 4), .inl (q 1, 6896, .inr (.inl (u_22.2.2.1 3)))), ((a0 5), .inl (q 3, 2, .inl (u_22.2.2.2 0))), ((a0 6), .inl (q 0, 40, .inl (u_22.2.2.2 1))), ((a0 7), .inl (q 2, 400, .inl (u_22.2.2.2 2)))] H := hP
    have hD : va_D _ [((a0 0), .inr (6, [.ref (a0 1), .ref (a0 2), .int (u_22.1 0), .ref (a0 3), .ref (a0 5), .ref (a0 4), .long u_22.2.1, .int (u_22.1 1), .int (u_22.1 2), .ref (a0 6), .int (u_22.1 3), .int (u_22.1 4), .ref (a0 7), .int (u_22.1 5), .int (u_22.1 6), .int (u_22.1 7), .int (u_22.1 8), .int (u_22.1 9), .int (u_22.1 10), .int (u_22.1 11), .int (u_22.1 12), .int (u_22.1 13), .int (u_22.1 14)])), ((a0 1), .inl (q 1, 6896, .inr (.inl (u_22.2.2.1 0)))), ((a0 2), .inl (q 1, 68960, .inr (.inl (u_22.2.2.1 1)))), ((a0 3), .inl (q 1, 13792, .inr (.inl (u_22.2.2.1 2)))), ((a0 4), .inl (q 1, 6896, .inr (.inl (u_22.2.2.1 3)))), ((a0 5), .inl (q 3, 2, .inl (u_22.2.2.2 0))), ((a0 6), .inl (q 0, 40, .inl (u_22.2.2.2 1))), ((a0 7), .inl (q 2, 400, .inl (u_22.2.2.2 2)))] := hD
    refine lv_aload_n hx hb dX7_count_124 rfl (lv_at hl 0 rfl) ?_
    refine fl_get (C := RX7) (T := TX7) (N := 23) (ci := 6) (v := .int (u_22.1 1)) hx hb ht in_X7 hown hK hP 0 rfl rfl 7 (by decide) mw_1137 rfl dX7_count_125 ?_
    exact mt_iret u_22 hx hb hr hk h (hP.sub (ws' := md_v a0 q u_22) [0, 1, 2, 3, 4, 5, 6, 7] rfl) (hD.sub (ws' := md_v a0 q u_22) [0, 1, 2, 3, 4, 5, 6, 7] (by decide) rfl) hS dX7_count_128
  replace h := h.2 k_20
  refine lv_tableOut (tgt := 129) hx hb dX7_count_1 (by have g0 := k_1; have g1 := k_4; have g2 := k_7; have g3 := k_10; have g4 := k_11; have g5 := k_14; have g6 := k_15; have g7 := k_16; have g8 := k_20; (try simp only [lg_cmp_ge, lg_cmp_le, lg_cmp_gt, lg_cmp_lt, lg_cmp_eq] at g0 g1 g2 g3 g4 g5 g6 g7 g8); (try simp only [Int32.lt_iff_toInt_lt, Int32.le_iff_toInt_le, ← Int32.toInt_inj, Int32.reduceToInt, Int64.lt_iff_toInt_lt, Int64.le_iff_toInt_le, ← Int64.toInt_inj, Int64.reduceToInt, Int32.toInt_toInt64] at g0 g1 g2 g3 g4 g5 g6 g7 g8); omega) (by decide) ?_
  refine lv_iconst (v := (-1)) hx hb dX7_count_129 (by decide) ?_
  exact mt_iret s0 hx hb hr hk h (hP.sub (ws' := md_v a0 q s0) [0, 1, 2, 3, 4, 5, 6, 7] rfl) (hD.sub (ws' := md_v a0 q s0) [0, 1, 2, 3, 4, 5, 6, 7] (by decide) rfl) hS dX7_count_130

def wp_X7_asks_L13 (post : Md → Prop) (e135 : Md → Int32 → Int32 → Int32 → Int32 → Int32 → Prop) : Nat → Md → Int32 → Int32 → Int32 → Int32 → Int32 → Prop
  | 0, _, _, _, _, _, _ => False
  | n13 + 1, t0, z1, z2, z3, z4, z5 => wp_X7_wide (fun r_1 => ((r_1 ≤ z5 → e135 t0 z1 z2 z3 z4 z5) ∧ (¬ r_1 ≤ z5 → wp_X7_wide (fun r_4 => ((z5 < z2 → wp_X7_of (fun r_7 => wp_X7_flaps (fun r_9 => wp_X7_on (fun r_11 => wp_X7_asks_L13 post e135 n13 ((va_up t0.1 3 ((t0.1 3) + r_11)), t0.2.1, t0.2.2.1, t0.2.2.2) z1 z2 z3 z4 (z5 + 1)) r_7 (0 : Int32) r_9) t0 ((r_4 * z1) + z5)) t0 ((r_4 * z1) + z5) (2 : Int32)) ∧ (¬ z5 < z2 → (((z2 + z4) ≤ z5 → wp_X7_of (fun r_14 => wp_X7_flaps (fun r_16 => wp_X7_on (fun r_18 => wp_X7_asks_L13 post e135 n13 ((va_up t0.1 3 ((t0.1 3) + r_18)), t0.2.1, t0.2.2.1, t0.2.2.2) z1 z2 z3 z4 (z5 + 1)) r_14 (0 : Int32) r_16) t0 ((r_4 * z1) + z5)) t0 ((r_4 * z1) + z5) (2 : Int32)) ∧ (¬ (z2 + z4) ≤ z5 → vp_in ((z3 + z5) - z2) 400 ∧ wp_X7_flapFor (fun r_21 => ((¬ r_21 = (-1) → wp_X7_of (fun r_24 => wp_X7_flaps (fun r_26 => wp_X7_on (fun r_28 => wp_X7_asks_L13 post e135 n13 ((va_up t0.1 3 ((t0.1 3) + r_28)), t0.2.1, t0.2.2.1, t0.2.2.2) z1 z2 z3 z4 (z5 + 1)) r_24 r_21 r_26) t0 ((r_4 * z1) + z5)) t0 ((r_4 * z1) + z5) (2 : Int32)) ∧ (r_21 = (-1) → wp_X7_asks_L13 post e135 n13 ((va_up t0.1 4 ((t0.1 4) + 1)), t0.2.1, t0.2.2.1, t0.2.2.2) z1 z2 z3 z4 (z5 + 1)))) t0 ((r_4 * z1) + z5) ((t0.2.2.2 2) (Int32.toNatClampNeg ((z3 + z5) - z2)))))))) t0))) t0
def wp_X7_asks (post : Md → Prop) (s0 : Md) (x1 : Int32) (x2 : Int32) (x3 : Int32) (x4 : Int32) : Prop := (∃ n13, wp_X7_asks_L13 post (fun t0 z1 z2 z3 z4 z5 => post t0) n13 ((va_up (va_up s0.1 3 0) 4 0), s0.2.1, s0.2.2.1, s0.2.2.2) x1 x2 x3 x4 0)
set_option maxHeartbeats 4000000 in
set_option maxRecDepth 100000 in
theorem c2_X7_asks {l : Launch} {D : va_G} {q : Nat → ClassId} {sz : Nat} {a0 : Nat → Nat} {s0 : Md} {x1 : Int32} {x2 : Int32} {x3 : Int32} {x4 : Int32} {post : Md → Prop} (h : wp_X7_asks post s0 x1 x2 x3 x4) : Met l yX7_asks (Cond.code yX7_asks cX7_asks 9 none :: w_all) ({ frames := 3, cells := 0, slots := 0, locals := 67 } : Room) (mt_P D q [.ref (a0 0), .int x1, .int x2, .int x3, .int x4] (md_v a0 q s0) sz) (va_Qv (fun u : Md => post u) (mt_B D (md_v a0 q s0) sz (fun u : Md => md_v a0 q u)) (va_A (md_v a0 q s0) sz)) 0 0 (va_A (md_v a0 q s0) sz) := by
  refine mt_start (by decide) (Nat.le_of_ble_eq_true rfl) ?_
  intro p e s m below meth c ls hx hb hr hml hown ht hk hin hP hQ hD hA hS hV hl
  have hK := hQ.1
  have hown : s.vm.findClass RX7 = some m.cls := hown
  have hl : lv_has ls 9 [(0, .ref (a0 0)), (1, .int x1), (2, .int x2), (3, .int x3), (4, .int x4)] := hl
  have hP : va_P D vwCl [((a0 0), .inr (6, [.ref (a0 1), .ref (a0 2), .int (s0.1 0), .ref (a0 3), .ref (a0 5), .ref (a0 4), .long s0.2.1, .int (s0.1 1), .int (s0.1 2), .ref (a0 6), .int (s0.1 3), .int (s0.1 4), .ref (a0 7), .int (s0.1 5), .int (s0.1 6), .int (s0.1 7), .int (s0.1 8), .int (s0.1 9), .int (s0.1 10), .int (s0.1 11), .int (s0.1 12), .int (s0.1 13), .int (s0.1 14)])), ((a0 1), .inl (q 1, 6896, .inr (.inl (s0.2.2.1 0)))), ((a0 2), .inl (q 1, 68960, .inr (.inl (s0.2.2.1 1)))), ((a0 3), .inl (q 1, 13792, .inr (.inl (s0.2.2.1 2)))), ((a0 4), .inl (q 1, 6896, .inr (.inl (s0.2.2.1 3)))), ((a0 5), .inl (q 3, 2, .inl (s0.2.2.2 0))), ((a0 6), .inl (q 0, 40, .inl (s0.2.2.2 1))), ((a0 7), .inl (q 2, 400, .inl (s0.2.2.2 2)))] s.heap := hP
  have hD : va_D _ [((a0 0), .inr (6, [.ref (a0 1), .ref (a0 2), .int (s0.1 0), .ref (a0 3), .ref (a0 5), .ref (a0 4), .long s0.2.1, .int (s0.1 1), .int (s0.1 2), .ref (a0 6), .int (s0.1 3), .int (s0.1 4), .ref (a0 7), .int (s0.1 5), .int (s0.1 6), .int (s0.1 7), .int (s0.1 8), .int (s0.1 9), .int (s0.1 10), .int (s0.1 11), .int (s0.1 12), .int (s0.1 13), .int (s0.1 14)])), ((a0 1), .inl (q 1, 6896, .inr (.inl (s0.2.2.1 0)))), ((a0 2), .inl (q 1, 68960, .inr (.inl (s0.2.2.1 1)))), ((a0 3), .inl (q 1, 13792, .inr (.inl (s0.2.2.1 2)))), ((a0 4), .inl (q 1, 6896, .inr (.inl (s0.2.2.1 3)))), ((a0 5), .inl (q 3, 2, .inl (s0.2.2.2 0))), ((a0 6), .inl (q 0, 40, .inl (s0.2.2.2 1))), ((a0 7), .inl (q 2, 400, .inl (s0.2.2.2 2)))] := hD
  unfold wp_X7_asks at h
  refine lv_aload_n hx hb dX7_asks_0 rfl (lv_at hl 0 rfl) ?_
  refine lv_iconst (v := 0) hx hb dX7_asks_1 (by decide) ?_
  refine fl_put (C := RX7) (T := TX7) (N := 23) (ci := 6) (v := .int 0) (ws2 := [((a0 0), .inr (6, [.ref (a0 1), .ref (a0 2), .int (s0.1 0), .ref (a0 3), .ref (a0 5), .ref (a0 4), .long s0.2.1, .int (s0.1 1), .int (s0.1 2), .ref (a0 6), .int 0, .int (s0.1 4), .ref (a0 7), .int (s0.1 5), .int (s0.1 6), .int (s0.1 7), .int (s0.1 8), .int (s0.1 9), .int (s0.1 10), .int (s0.1 11), .int (s0.1 12), .int (s0.1 13), .int (s0.1 14)])), ((a0 1), .inl (q 1, 6896, .inr (.inl (s0.2.2.1 0)))), ((a0 2), .inl (q 1, 68960, .inr (.inl (s0.2.2.1 1)))), ((a0 3), .inl (q 1, 13792, .inr (.inl (s0.2.2.1 2)))), ((a0 4), .inl (q 1, 6896, .inr (.inl (s0.2.2.1 3)))), ((a0 5), .inl (q 3, 2, .inl (s0.2.2.2 0))), ((a0 6), .inl (q 0, 40, .inl (s0.2.2.2 1))), ((a0 7), .inl (q 2, 400, .inl (s0.2.2.2 2)))]) hx hb ht in_X7 tyX7_ok nmX7 hown hK hP hD hS 0 rfl rfl 10 (by decide) mw_1140 rfl rfl rfl (Nat.le_of_ble_eq_true rfl) dX7_asks_2 rfl (fun H locs hP hD hS => ?_)
  refine lv_aload_n hx hb dX7_asks_5 rfl (lv_at hl 0 rfl) ?_
  refine lv_iconst (v := 0) hx hb dX7_asks_6 (by decide) ?_
  refine fl_put (C := RX7) (T := TX7) (N := 23) (ci := 6) (v := .int 0) (ws2 := [((a0 0), .inr (6, [.ref (a0 1), .ref (a0 2), .int (s0.1 0), .ref (a0 3), .ref (a0 5), .ref (a0 4), .long s0.2.1, .int (s0.1 1), .int (s0.1 2), .ref (a0 6), .int 0, .int 0, .ref (a0 7), .int (s0.1 5), .int (s0.1 6), .int (s0.1 7), .int (s0.1 8), .int (s0.1 9), .int (s0.1 10), .int (s0.1 11), .int (s0.1 12), .int (s0.1 13), .int (s0.1 14)])), ((a0 1), .inl (q 1, 6896, .inr (.inl (s0.2.2.1 0)))), ((a0 2), .inl (q 1, 68960, .inr (.inl (s0.2.2.1 1)))), ((a0 3), .inl (q 1, 13792, .inr (.inl (s0.2.2.1 2)))), ((a0 4), .inl (q 1, 6896, .inr (.inl (s0.2.2.1 3)))), ((a0 5), .inl (q 3, 2, .inl (s0.2.2.2 0))), ((a0 6), .inl (q 0, 40, .inl (s0.2.2.2 1))), ((a0 7), .inl (q 2, 400, .inl (s0.2.2.2 2)))]) hx hb ht in_X7 tyX7_ok nmX7 hown hK hP hD hS 0 rfl rfl 11 (by decide) mw_1141 rfl rfl rfl (Nat.le_of_ble_eq_true rfl) dX7_asks_7 rfl (fun H locs hP hD hS => ?_)
  refine lv_iconst (v := 0) hx hb dX7_asks_10 (by decide) ?_
  refine lv_istore (lv' := [(5, .int 0), (0, .ref (a0 0)), (1, .int x1), (2, .int x2), (3, .int x3), (4, .int x4)]) hx hb dX7_asks_11 hl (by decide) rfl (fun ls hl => ?_)
  have lp13 : ∀ (e135 : Md → Int32 → Int32 → Int32 → Int32 → Int32 → Prop) (k135 : ∀ (t0 : Md) (z1 : Int32) (z2 : Int32) (z3 : Int32) (z4 : Int32) (z5 : Int32) (H : Heap) (locs : List Loc) (ls : Array Slot), e135 t0 z1 z2 z3 z4 z5 → va_P D vwCl (md_v a0 q t0) H → va_D (va_A (md_v a0 q s0) sz) (md_v a0 q t0) → va_S (va_A (md_v a0 q s0) sz) s.heap H locs → lv_has ls 9 [(1, .int z1), (2, .int z2), (3, .int z3), (4, .int z4), (5, .int z5), (0, .ref (a0 0))] → W p l e ({ frames := 3, cells := 0, slots := 0, locals := 67 } : Room) s m [.ref (a0 0), .int x1, .int x2, .int x3, .int x4].toArray below meth c H locs 0 0 (MQ below (va_Qv (fun u : Md => post u) (mt_B D (md_v a0 q s0) sz (fun u : Md => md_v a0 q u)) (va_A (md_v a0 q s0) sz)) [.ref (a0 0), .int x1, .int x2, .int x3, .int x4].toArray s 0 0 (va_A (md_v a0 q s0) sz)) (F0 m 135 ls [])) (n : Nat) (t0 : Md) (z1 : Int32) (z2 : Int32) (z3 : Int32) (z4 : Int32) (z5 : Int32) (H : Heap) (locs : List Loc) (ls : Array Slot), wp_X7_asks_L13 post e135 n t0 z1 z2 z3 z4 z5 → va_P D vwCl (md_v a0 q t0) H → va_D (va_A (md_v a0 q s0) sz) (md_v a0 q t0) → va_S (va_A (md_v a0 q s0) sz) s.heap H locs → lv_has ls 9 [(1, .int z1), (2, .int z2), (3, .int z3), (4, .int z4), (5, .int z5), (0, .ref (a0 0))] → W p l e ({ frames := 3, cells := 0, slots := 0, locals := 67 } : Room) s m [.ref (a0 0), .int x1, .int x2, .int x3, .int x4].toArray below meth c H locs 0 0 (MQ below (va_Qv (fun u : Md => post u) (mt_B D (md_v a0 q s0) sz (fun u : Md => md_v a0 q u)) (va_A (md_v a0 q s0) sz)) [.ref (a0 0), .int x1, .int x2, .int x3, .int x4].toArray s 0 0 (va_A (md_v a0 q s0) sz)) (F0 m 13 ls []) := by
    intro e135 k135 n
    induction n with
    | zero =>
      intro t0 z1 z2 z3 z4 z5 H locs ls h
      exact h.elim
    | succ n ih =>
      intro t0 z1 z2 z3 z4 z5 H locs ls h hP hD hS hl
      have hP : va_P D vwCl [((a0 0), .inr (6, [.ref (a0 1), .ref (a0 2), .int (t0.1 0), .ref (a0 3), .ref (a0 5), .ref (a0 4), .long t0.2.1, .int (t0.1 1), .int (t0.1 2), .ref (a0 6), .int (t0.1 3), .int (t0.1 4), .ref (a0 7), .int (t0.1 5), .int (t0.1 6), .int (t0.1 7), .int (t0.1 8), .int (t0.1 9), .int (t0.1 10), .int (t0.1 11), .int (t0.1 12), .int (t0.1 13), .int (t0.1 14)])), ((a0 1), .inl (q 1, 6896, .inr (.inl (t0.2.2.1 0)))), ((a0 2), .inl (q 1, 68960, .inr (.inl (t0.2.2.1 1)))), ((a0 3), .inl (q 1, 13792, .inr (.inl (t0.2.2.1 2)))), ((a0 4), .inl (q 1, 6896, .inr (.inl (t0.2.2.1 3)))), ((a0 5), .inl (q 3, 2, .inl (t0.2.2.2 0))), ((a0 6), .inl (q 0, 40, .inl (t0.2.2.2 1))), ((a0 7), .inl (q 2, 400, .inl (t0.2.2.2 2)))] H := hP
      have hD : va_D _ [((a0 0), .inr (6, [.ref (a0 1), .ref (a0 2), .int (t0.1 0), .ref (a0 3), .ref (a0 5), .ref (a0 4), .long t0.2.1, .int (t0.1 1), .int (t0.1 2), .ref (a0 6), .int (t0.1 3), .int (t0.1 4), .ref (a0 7), .int (t0.1 5), .int (t0.1 6), .int (t0.1 7), .int (t0.1 8), .int (t0.1 9), .int (t0.1 10), .int (t0.1 11), .int (t0.1 12), .int (t0.1 13), .int (t0.1 14)])), ((a0 1), .inl (q 1, 6896, .inr (.inl (t0.2.2.1 0)))), ((a0 2), .inl (q 1, 68960, .inr (.inl (t0.2.2.1 1)))), ((a0 3), .inl (q 1, 13792, .inr (.inl (t0.2.2.1 2)))), ((a0 4), .inl (q 1, 6896, .inr (.inl (t0.2.2.1 3)))), ((a0 5), .inl (q 3, 2, .inl (t0.2.2.2 0))), ((a0 6), .inl (q 0, 40, .inl (t0.2.2.2 1))), ((a0 7), .inl (q 2, 400, .inl (t0.2.2.2 2)))] := hD
      unfold wp_X7_asks_L13 at h
      refine lv_iload hx hb dX7_asks_13 (lv_at hl 4 rfl) ?_
      refine lv_aload_n hx hb dX7_asks_15 rfl (lv_at hl 5 rfl) ?_
      refine vp_callSi (rd_wV (wc := md_v a0 q t0) (As := []) (rest := [.int z5]) hx hb hml hown ht (c2_X7_wide h) wd_X7_wide mw_1220 hQ hV hS (hP.sub [0, 1, 2, 3, 4, 5, 6, 7] rfl) rfl rfl rfl hl.1 rfl (Nat.le_of_ble_eq_true rfl) dX7_asks_16 ⟨Nat.le_of_ble_eq_true rfl, Nat.le_of_ble_eq_true rfl, rfl, rfl⟩ ⟨Nat.le_of_ble_eq_true rfl, Nat.le_of_ble_eq_true rfl⟩) (fun r_1 h => ?_)
      try dsimp only at h
      refine lv_icmp_ge (tgt := 135) hx hb dX7_asks_19 (by decide) (fun c_3 => ?_) (fun c_3 => ?_)
      · replace h := h.1 c_3
        exact k135 _ _ _ _ _ _ _ _ ls h (hP.sub (ws' := md_v a0 q t0) [0, 1, 2, 3, 4, 5, 6, 7] rfl) (hD.sub (ws' := md_v a0 q t0) [0, 1, 2, 3, 4, 5, 6, 7] (by decide) rfl) hS (lv_sub hl [0, 1, 2, 3, 4, 5] rfl)
      · replace h := h.2 c_3
        refine lv_aload_n hx hb dX7_asks_22 rfl (lv_at hl 5 rfl) ?_
        refine vp_callSi (rd_wV (wc := md_v a0 q t0) (As := []) (rest := []) hx hb hml hown ht (c2_X7_wide h) wd_X7_wide mw_1220 hQ hV hS (hP.sub [0, 1, 2, 3, 4, 5, 6, 7] rfl) rfl rfl rfl hl.1 rfl (Nat.le_of_ble_eq_true rfl) dX7_asks_23 ⟨Nat.le_of_ble_eq_true rfl, Nat.le_of_ble_eq_true rfl, rfl, rfl⟩ ⟨Nat.le_of_ble_eq_true rfl, Nat.le_of_ble_eq_true rfl⟩) (fun r_4 h => ?_)
        try dsimp only at h
        refine lv_iload_n hx hb dX7_asks_26 rfl (lv_at hl 0 rfl) ?_
        refine lv_imul hx hb dX7_asks_27 ?_
        refine lv_iload hx hb dX7_asks_28 (lv_at hl 4 rfl) ?_
        refine lv_iadd hx hb dX7_asks_30 ?_
        refine lv_istore (lv' := [(6, .int ((r_4 * z1) + z5)), (1, .int z1), (2, .int z2), (3, .int z3), (4, .int z4), (5, .int z5), (0, .ref (a0 0))]) hx hb dX7_asks_31 hl (by decide) rfl (fun ls hl => ?_)
        refine lv_iload hx hb dX7_asks_33 (lv_at hl 5 rfl) ?_
        refine lv_iload_n hx hb dX7_asks_35 rfl (lv_at hl 2 rfl) ?_
        refine lv_icmp_lt (tgt := 52) hx hb dX7_asks_36 (by decide) (fun c_6 => ?_) (fun c_6 => ?_)
        · replace h := h.1 c_6
          refine lv_iconst (v := 0) hx hb dX7_asks_52 (by decide) ?_
          refine lv_istore (lv' := [(7, .int 0), (6, .int ((r_4 * z1) + z5)), (1, .int z1), (2, .int z2), (3, .int z3), (4, .int z4), (5, .int z5), (0, .ref (a0 0))]) hx hb dX7_asks_53 hl (by decide) rfl (fun ls hl => ?_)
          refine lv_iload hx hb dX7_asks_55 (lv_at hl 0 rfl) ?_
          refine lv_if_eq (tgt := 80) hx hb dX7_asks_57 (by decide) (fun _ => ?_) (fun c9 => absurd (by decide) c9)
          refine lv_iconst (v := 0) hx hb dX7_asks_80 (by decide) ?_
          refine lv_istore (lv' := [(8, .int 0), (7, .int 0), (6, .int ((r_4 * z1) + z5)), (1, .int z1), (2, .int z2), (3, .int z3), (4, .int z4), (5, .int z5), (0, .ref (a0 0))]) hx hb dX7_asks_81 hl (by decide) rfl (fun ls hl => ?_)
          refine lv_iload hx hb dX7_asks_83 (lv_at hl 0 rfl) ?_
          refine lv_iconst (v := (-1)) hx hb dX7_asks_85 (by decide) ?_
          refine lv_icmp_ne (tgt := 102) hx hb dX7_asks_86 (by decide) (fun _ => ?_) (fun c9 => absurd c9 (by decide))
          refine lv_aload_n hx hb dX7_asks_102 rfl (lv_at hl 8 rfl) ?_
          refine lv_dup hx hb dX7_asks_103 rfl ?_
          refine fl_get (C := RX7) (T := TX7) (N := 23) (ci := 6) (v := .int (t0.1 3)) hx hb ht in_X7 hown hK hP 0 rfl rfl 10 (by decide) mw_1140 rfl dX7_asks_104 ?_
          refine lv_aload_n hx hb dX7_asks_107 rfl (lv_at hl 8 rfl) ?_
          refine lv_iload hx hb dX7_asks_108 (lv_at hl 2 rfl) ?_
          refine lv_iconst (v := 2) hx hb dX7_asks_110 (by decide) ?_
          refine vp_callSi (rd_wV (wc := md_v a0 q t0) (As := [.int ((r_4 * z1) + z5), .int 2]) (rest := [.int (t0.1 3), .ref (a0 0)]) hx hb hml hown ht (c2_X7_of h) wd_X7_of mw_1249 hQ hV hS (hP.sub [0, 1, 2, 3, 4, 5, 6, 7] rfl) rfl rfl rfl hl.1 rfl (Nat.le_of_ble_eq_true rfl) dX7_asks_111 ⟨Nat.le_of_ble_eq_true rfl, Nat.le_of_ble_eq_true rfl, rfl, rfl⟩ ⟨Nat.le_of_ble_eq_true rfl, Nat.le_of_ble_eq_true rfl⟩) (fun r_7 h => ?_)
          try dsimp only at h
          refine lv_iload hx hb dX7_asks_114 (lv_at hl 0 rfl) ?_
          refine lv_aload_n hx hb dX7_asks_116 rfl (lv_at hl 8 rfl) ?_
          refine lv_iload hx hb dX7_asks_117 (lv_at hl 2 rfl) ?_
          refine vp_callSi (rd_wV (wc := md_v a0 q t0) (As := [.int ((r_4 * z1) + z5)]) (rest := [.int 0, .int r_7, .int (t0.1 3), .ref (a0 0)]) hx hb hml hown ht (c2_X7_flaps h) wd_X7_flaps mw_1245 hQ hV hS (hP.sub [0, 1, 2, 3, 4, 5, 6, 7] rfl) rfl rfl rfl hl.1 rfl (Nat.le_of_ble_eq_true rfl) dX7_asks_119 ⟨Nat.le_of_ble_eq_true rfl, Nat.le_of_ble_eq_true rfl, rfl, rfl⟩ ⟨Nat.le_of_ble_eq_true rfl, Nat.le_of_ble_eq_true rfl⟩) (fun r_9 h => ?_)
          try dsimp only at h
          refine vp_callSi (rd_wS (wc := ([] : va_W)) (As := [.int r_7, .int 0, .int r_9]) (rest := [.int (t0.1 3), .ref (a0 0)]) hx hb hml hown ht (c2_X7_on h) wd_X7_on mw_1268 hQ hV hS (hP.sub [] rfl) rfl hl.1 rfl (Nat.le_of_ble_eq_true rfl) dX7_asks_122 ⟨Nat.le_of_ble_eq_true rfl, Nat.le_of_ble_eq_true rfl, rfl, rfl⟩ ⟨Nat.le_of_ble_eq_true rfl, Nat.le_of_ble_eq_true rfl⟩) (fun r_11 h => ?_)
          try dsimp only at h
          refine lv_iadd hx hb dX7_asks_125 ?_
          refine fl_put (C := RX7) (T := TX7) (N := 23) (ci := 6) (v := .int ((t0.1 3) + r_11)) (ws2 := [((a0 0), .inr (6, [.ref (a0 1), .ref (a0 2), .int (t0.1 0), .ref (a0 3), .ref (a0 5), .ref (a0 4), .long t0.2.1, .int (t0.1 1), .int (t0.1 2), .ref (a0 6), .int ((t0.1 3) + r_11), .int (t0.1 4), .ref (a0 7), .int (t0.1 5), .int (t0.1 6), .int (t0.1 7), .int (t0.1 8), .int (t0.1 9), .int (t0.1 10), .int (t0.1 11), .int (t0.1 12), .int (t0.1 13), .int (t0.1 14)])), ((a0 1), .inl (q 1, 6896, .inr (.inl (t0.2.2.1 0)))), ((a0 2), .inl (q 1, 68960, .inr (.inl (t0.2.2.1 1)))), ((a0 3), .inl (q 1, 13792, .inr (.inl (t0.2.2.1 2)))), ((a0 4), .inl (q 1, 6896, .inr (.inl (t0.2.2.1 3)))), ((a0 5), .inl (q 3, 2, .inl (t0.2.2.2 0))), ((a0 6), .inl (q 0, 40, .inl (t0.2.2.2 1))), ((a0 7), .inl (q 2, 400, .inl (t0.2.2.2 2)))]) hx hb ht in_X7 tyX7_ok nmX7 hown hK hP hD hS 0 rfl rfl 10 (by decide) mw_1140 rfl rfl rfl (Nat.le_of_ble_eq_true rfl) dX7_asks_126 rfl (fun H locs hP hD hS => ?_)
          refine lv_iinc (v := (z5 + 1)) (lv' := [(5, .int (z5 + 1)), (8, .int 0), (7, .int 0), (6, .int ((r_4 * z1) + z5)), (1, .int z1), (2, .int z2), (3, .int z3), (4, .int z4), (0, .ref (a0 0))]) hx hb dX7_asks_129 hl (k := 7) rfl rfl (by decide) rfl (fun ls hl => ?_)
          refine lv_goto (tgt := 13) hx hb dX7_asks_132 (by decide) ?_
          exact ih _ _ _ _ _ _ _ _ ls h (hP.sub (ws' := md_v a0 q ((va_up t0.1 3 ((t0.1 3) + r_11)), t0.2.1, t0.2.2.1, t0.2.2.2)) [0, 1, 2, 3, 4, 5, 6, 7] rfl) (hD.sub (ws' := md_v a0 q ((va_up t0.1 3 ((t0.1 3) + r_11)), t0.2.1, t0.2.2.1, t0.2.2.2)) [0, 1, 2, 3, 4, 5, 6, 7] (by decide) rfl) hS (lv_sub hl [4, 5, 6, 7, 0, 8] rfl)
        · replace h := h.2 c_6
          refine lv_iload hx hb dX7_asks_39 (lv_at hl 5 rfl) ?_
          refine lv_iload_n hx hb dX7_asks_41 rfl (lv_at hl 2 rfl) ?_
          refine lv_iload hx hb dX7_asks_42 (lv_at hl 4 rfl) ?_
          refine lv_iadd hx hb dX7_asks_44 ?_
          refine lv_icmp_ge (tgt := 52) hx hb dX7_asks_45 (by decide) (fun c_13 => ?_) (fun c_13 => ?_)
          · replace h := h.1 c_13
            refine lv_iconst (v := 0) hx hb dX7_asks_52 (by decide) ?_
            refine lv_istore (lv' := [(7, .int 0), (6, .int ((r_4 * z1) + z5)), (1, .int z1), (2, .int z2), (3, .int z3), (4, .int z4), (5, .int z5), (0, .ref (a0 0))]) hx hb dX7_asks_53 hl (by decide) rfl (fun ls hl => ?_)
            refine lv_iload hx hb dX7_asks_55 (lv_at hl 0 rfl) ?_
            refine lv_if_eq (tgt := 80) hx hb dX7_asks_57 (by decide) (fun _ => ?_) (fun c9 => absurd (by decide) c9)
            refine lv_iconst (v := 0) hx hb dX7_asks_80 (by decide) ?_
            refine lv_istore (lv' := [(8, .int 0), (7, .int 0), (6, .int ((r_4 * z1) + z5)), (1, .int z1), (2, .int z2), (3, .int z3), (4, .int z4), (5, .int z5), (0, .ref (a0 0))]) hx hb dX7_asks_81 hl (by decide) rfl (fun ls hl => ?_)
            refine lv_iload hx hb dX7_asks_83 (lv_at hl 0 rfl) ?_
            refine lv_iconst (v := (-1)) hx hb dX7_asks_85 (by decide) ?_
            refine lv_icmp_ne (tgt := 102) hx hb dX7_asks_86 (by decide) (fun _ => ?_) (fun c9 => absurd c9 (by decide))
            refine lv_aload_n hx hb dX7_asks_102 rfl (lv_at hl 8 rfl) ?_
            refine lv_dup hx hb dX7_asks_103 rfl ?_
            refine fl_get (C := RX7) (T := TX7) (N := 23) (ci := 6) (v := .int (t0.1 3)) hx hb ht in_X7 hown hK hP 0 rfl rfl 10 (by decide) mw_1140 rfl dX7_asks_104 ?_
            refine lv_aload_n hx hb dX7_asks_107 rfl (lv_at hl 8 rfl) ?_
            refine lv_iload hx hb dX7_asks_108 (lv_at hl 2 rfl) ?_
            refine lv_iconst (v := 2) hx hb dX7_asks_110 (by decide) ?_
            refine vp_callSi (rd_wV (wc := md_v a0 q t0) (As := [.int ((r_4 * z1) + z5), .int 2]) (rest := [.int (t0.1 3), .ref (a0 0)]) hx hb hml hown ht (c2_X7_of h) wd_X7_of mw_1249 hQ hV hS (hP.sub [0, 1, 2, 3, 4, 5, 6, 7] rfl) rfl rfl rfl hl.1 rfl (Nat.le_of_ble_eq_true rfl) dX7_asks_111 ⟨Nat.le_of_ble_eq_true rfl, Nat.le_of_ble_eq_true rfl, rfl, rfl⟩ ⟨Nat.le_of_ble_eq_true rfl, Nat.le_of_ble_eq_true rfl⟩) (fun r_14 h => ?_)
            try dsimp only at h
            refine lv_iload hx hb dX7_asks_114 (lv_at hl 0 rfl) ?_
            refine lv_aload_n hx hb dX7_asks_116 rfl (lv_at hl 8 rfl) ?_
            refine lv_iload hx hb dX7_asks_117 (lv_at hl 2 rfl) ?_
            refine vp_callSi (rd_wV (wc := md_v a0 q t0) (As := [.int ((r_4 * z1) + z5)]) (rest := [.int 0, .int r_14, .int (t0.1 3), .ref (a0 0)]) hx hb hml hown ht (c2_X7_flaps h) wd_X7_flaps mw_1245 hQ hV hS (hP.sub [0, 1, 2, 3, 4, 5, 6, 7] rfl) rfl rfl rfl hl.1 rfl (Nat.le_of_ble_eq_true rfl) dX7_asks_119 ⟨Nat.le_of_ble_eq_true rfl, Nat.le_of_ble_eq_true rfl, rfl, rfl⟩ ⟨Nat.le_of_ble_eq_true rfl, Nat.le_of_ble_eq_true rfl⟩) (fun r_16 h => ?_)
            try dsimp only at h
            refine vp_callSi (rd_wS (wc := ([] : va_W)) (As := [.int r_14, .int 0, .int r_16]) (rest := [.int (t0.1 3), .ref (a0 0)]) hx hb hml hown ht (c2_X7_on h) wd_X7_on mw_1268 hQ hV hS (hP.sub [] rfl) rfl hl.1 rfl (Nat.le_of_ble_eq_true rfl) dX7_asks_122 ⟨Nat.le_of_ble_eq_true rfl, Nat.le_of_ble_eq_true rfl, rfl, rfl⟩ ⟨Nat.le_of_ble_eq_true rfl, Nat.le_of_ble_eq_true rfl⟩) (fun r_18 h => ?_)
            try dsimp only at h
            refine lv_iadd hx hb dX7_asks_125 ?_
            refine fl_put (C := RX7) (T := TX7) (N := 23) (ci := 6) (v := .int ((t0.1 3) + r_18)) (ws2 := [((a0 0), .inr (6, [.ref (a0 1), .ref (a0 2), .int (t0.1 0), .ref (a0 3), .ref (a0 5), .ref (a0 4), .long t0.2.1, .int (t0.1 1), .int (t0.1 2), .ref (a0 6), .int ((t0.1 3) + r_18), .int (t0.1 4), .ref (a0 7), .int (t0.1 5), .int (t0.1 6), .int (t0.1 7), .int (t0.1 8), .int (t0.1 9), .int (t0.1 10), .int (t0.1 11), .int (t0.1 12), .int (t0.1 13), .int (t0.1 14)])), ((a0 1), .inl (q 1, 6896, .inr (.inl (t0.2.2.1 0)))), ((a0 2), .inl (q 1, 68960, .inr (.inl (t0.2.2.1 1)))), ((a0 3), .inl (q 1, 13792, .inr (.inl (t0.2.2.1 2)))), ((a0 4), .inl (q 1, 6896, .inr (.inl (t0.2.2.1 3)))), ((a0 5), .inl (q 3, 2, .inl (t0.2.2.2 0))), ((a0 6), .inl (q 0, 40, .inl (t0.2.2.2 1))), ((a0 7), .inl (q 2, 400, .inl (t0.2.2.2 2)))]) hx hb ht in_X7 tyX7_ok nmX7 hown hK hP hD hS 0 rfl rfl 10 (by decide) mw_1140 rfl rfl rfl (Nat.le_of_ble_eq_true rfl) dX7_asks_126 rfl (fun H locs hP hD hS => ?_)
            refine lv_iinc (v := (z5 + 1)) (lv' := [(5, .int (z5 + 1)), (8, .int 0), (7, .int 0), (6, .int ((r_4 * z1) + z5)), (1, .int z1), (2, .int z2), (3, .int z3), (4, .int z4), (0, .ref (a0 0))]) hx hb dX7_asks_129 hl (k := 7) rfl rfl (by decide) rfl (fun ls hl => ?_)
            refine lv_goto (tgt := 13) hx hb dX7_asks_132 (by decide) ?_
            exact ih _ _ _ _ _ _ _ _ ls h (hP.sub (ws' := md_v a0 q ((va_up t0.1 3 ((t0.1 3) + r_18)), t0.2.1, t0.2.2.1, t0.2.2.2)) [0, 1, 2, 3, 4, 5, 6, 7] rfl) (hD.sub (ws' := md_v a0 q ((va_up t0.1 3 ((t0.1 3) + r_18)), t0.2.1, t0.2.2.1, t0.2.2.2)) [0, 1, 2, 3, 4, 5, 6, 7] (by decide) rfl) hS (lv_sub hl [4, 5, 6, 7, 0, 8] rfl)
          · replace h := h.2 c_13
            refine lv_iconst (v := 1) hx hb dX7_asks_48 (by decide) ?_
            refine lv_goto (tgt := 53) hx hb dX7_asks_49 (by decide) ?_
            refine lv_istore (lv' := [(7, .int 1), (6, .int ((r_4 * z1) + z5)), (1, .int z1), (2, .int z2), (3, .int z3), (4, .int z4), (5, .int z5), (0, .ref (a0 0))]) hx hb dX7_asks_53 hl (by decide) rfl (fun ls hl => ?_)
            refine lv_iload hx hb dX7_asks_55 (lv_at hl 0 rfl) ?_
            refine lv_if_eq (tgt := 80) hx hb dX7_asks_57 (by decide) (fun c9 => absurd c9 (by decide)) (fun _ => ?_)
            refine lv_aload_n hx hb dX7_asks_60 rfl (lv_at hl 7 rfl) ?_
            refine lv_iload hx hb dX7_asks_61 (lv_at hl 1 rfl) ?_
            refine lv_aload_n hx hb dX7_asks_63 rfl (lv_at hl 7 rfl) ?_
            refine fl_get (C := RX7) (T := TX7) (N := 23) (ci := 6) (v := .ref (a0 7)) hx hb ht in_X7 hown hK hP 0 rfl rfl 12 (by decide) mw_1142 rfl dX7_asks_64 ?_
            refine lv_iload_n hx hb dX7_asks_67 rfl (lv_at hl 4 rfl) ?_
            refine lv_iload hx hb dX7_asks_68 (lv_at hl 6 rfl) ?_
            refine lv_iadd hx hb dX7_asks_70 ?_
            refine lv_iload_n hx hb dX7_asks_71 rfl (lv_at hl 3 rfl) ?_
            refine lv_isub hx hb dX7_asks_72 ?_
            obtain ⟨g_20, h⟩ := h
            refine va_bald hx hb hK hP 7 2 rfl rfl g_20 dX7_asks_73 ?_
            refine vp_callSi (rd_wV (wc := md_v a0 q t0) (As := [.int ((r_4 * z1) + z5), .int ((t0.2.2.2 2) (Int32.toNatClampNeg ((z3 + z5) - z2)))]) (rest := []) hx hb hml hown ht (c2_X7_flapFor h) wd_X7_flapFor mw_1241 hQ hV hS (hP.sub [0, 1, 2, 3, 4, 5, 6, 7] rfl) rfl rfl rfl hl.1 rfl (Nat.le_of_ble_eq_true rfl) dX7_asks_74 ⟨Nat.le_of_ble_eq_true rfl, Nat.le_of_ble_eq_true rfl, rfl, rfl⟩ ⟨Nat.le_of_ble_eq_true rfl, Nat.le_of_ble_eq_true rfl⟩) (fun r_21 h => ?_)
            try dsimp only at h
            refine lv_goto (tgt := 81) hx hb dX7_asks_77 (by decide) ?_
            refine lv_istore (lv' := [(8, .int r_21), (7, .int 1), (6, .int ((r_4 * z1) + z5)), (1, .int z1), (2, .int z2), (3, .int z3), (4, .int z4), (5, .int z5), (0, .ref (a0 0))]) hx hb dX7_asks_81 hl (by decide) rfl (fun ls hl => ?_)
            refine lv_iload hx hb dX7_asks_83 (lv_at hl 0 rfl) ?_
            refine lv_iconst (v := (-1)) hx hb dX7_asks_85 (by decide) ?_
            refine lv_icmp_ne (tgt := 102) hx hb dX7_asks_86 (by decide) (fun c_23 => ?_) (fun c_23 => ?_)
            · replace h := h.1 c_23
              refine lv_aload_n hx hb dX7_asks_102 rfl (lv_at hl 8 rfl) ?_
              refine lv_dup hx hb dX7_asks_103 rfl ?_
              refine fl_get (C := RX7) (T := TX7) (N := 23) (ci := 6) (v := .int (t0.1 3)) hx hb ht in_X7 hown hK hP 0 rfl rfl 10 (by decide) mw_1140 rfl dX7_asks_104 ?_
              refine lv_aload_n hx hb dX7_asks_107 rfl (lv_at hl 8 rfl) ?_
              refine lv_iload hx hb dX7_asks_108 (lv_at hl 2 rfl) ?_
              refine lv_iconst (v := 2) hx hb dX7_asks_110 (by decide) ?_
              refine vp_callSi (rd_wV (wc := md_v a0 q t0) (As := [.int ((r_4 * z1) + z5), .int 2]) (rest := [.int (t0.1 3), .ref (a0 0)]) hx hb hml hown ht (c2_X7_of h) wd_X7_of mw_1249 hQ hV hS (hP.sub [0, 1, 2, 3, 4, 5, 6, 7] rfl) rfl rfl rfl hl.1 rfl (Nat.le_of_ble_eq_true rfl) dX7_asks_111 ⟨Nat.le_of_ble_eq_true rfl, Nat.le_of_ble_eq_true rfl, rfl, rfl⟩ ⟨Nat.le_of_ble_eq_true rfl, Nat.le_of_ble_eq_true rfl⟩) (fun r_24 h => ?_)
              try dsimp only at h
              refine lv_iload hx hb dX7_asks_114 (lv_at hl 0 rfl) ?_
              refine lv_aload_n hx hb dX7_asks_116 rfl (lv_at hl 8 rfl) ?_
              refine lv_iload hx hb dX7_asks_117 (lv_at hl 2 rfl) ?_
              refine vp_callSi (rd_wV (wc := md_v a0 q t0) (As := [.int ((r_4 * z1) + z5)]) (rest := [.int r_21, .int r_24, .int (t0.1 3), .ref (a0 0)]) hx hb hml hown ht (c2_X7_flaps h) wd_X7_flaps mw_1245 hQ hV hS (hP.sub [0, 1, 2, 3, 4, 5, 6, 7] rfl) rfl rfl rfl hl.1 rfl (Nat.le_of_ble_eq_true rfl) dX7_asks_119 ⟨Nat.le_of_ble_eq_true rfl, Nat.le_of_ble_eq_true rfl, rfl, rfl⟩ ⟨Nat.le_of_ble_eq_true rfl, Nat.le_of_ble_eq_true rfl⟩) (fun r_26 h => ?_)
              try dsimp only at h
              refine vp_callSi (rd_wS (wc := ([] : va_W)) (As := [.int r_24, .int r_21, .int r_26]) (rest := [.int (t0.1 3), .ref (a0 0)]) hx hb hml hown ht (c2_X7_on h) wd_X7_on mw_1268 hQ hV hS (hP.sub [] rfl) rfl hl.1 rfl (Nat.le_of_ble_eq_true rfl) dX7_asks_122 ⟨Nat.le_of_ble_eq_true rfl, Nat.le_of_ble_eq_true rfl, rfl, rfl⟩ ⟨Nat.le_of_ble_eq_true rfl, Nat.le_of_ble_eq_true rfl⟩) (fun r_28 h => ?_)
              try dsimp only at h
              refine lv_iadd hx hb dX7_asks_125 ?_
              refine fl_put (C := RX7) (T := TX7) (N := 23) (ci := 6) (v := .int ((t0.1 3) + r_28)) (ws2 := [((a0 0), .inr (6, [.ref (a0 1), .ref (a0 2), .int (t0.1 0), .ref (a0 3), .ref (a0 5), .ref (a0 4), .long t0.2.1, .int (t0.1 1), .int (t0.1 2), .ref (a0 6), .int ((t0.1 3) + r_28), .int (t0.1 4), .ref (a0 7), .int (t0.1 5), .int (t0.1 6), .int (t0.1 7), .int (t0.1 8), .int (t0.1 9), .int (t0.1 10), .int (t0.1 11), .int (t0.1 12), .int (t0.1 13), .int (t0.1 14)])), ((a0 1), .inl (q 1, 6896, .inr (.inl (t0.2.2.1 0)))), ((a0 2), .inl (q 1, 68960, .inr (.inl (t0.2.2.1 1)))), ((a0 3), .inl (q 1, 13792, .inr (.inl (t0.2.2.1 2)))), ((a0 4), .inl (q 1, 6896, .inr (.inl (t0.2.2.1 3)))), ((a0 5), .inl (q 3, 2, .inl (t0.2.2.2 0))), ((a0 6), .inl (q 0, 40, .inl (t0.2.2.2 1))), ((a0 7), .inl (q 2, 400, .inl (t0.2.2.2 2)))]) hx hb ht in_X7 tyX7_ok nmX7 hown hK hP hD hS 0 rfl rfl 10 (by decide) mw_1140 rfl rfl rfl (Nat.le_of_ble_eq_true rfl) dX7_asks_126 rfl (fun H locs hP hD hS => ?_)
              refine lv_iinc (v := (z5 + 1)) (lv' := [(5, .int (z5 + 1)), (8, .int r_21), (7, .int 1), (6, .int ((r_4 * z1) + z5)), (1, .int z1), (2, .int z2), (3, .int z3), (4, .int z4), (0, .ref (a0 0))]) hx hb dX7_asks_129 hl (k := 7) rfl rfl (by decide) rfl (fun ls hl => ?_)
              refine lv_goto (tgt := 13) hx hb dX7_asks_132 (by decide) ?_
              exact ih _ _ _ _ _ _ _ _ ls h (hP.sub (ws' := md_v a0 q ((va_up t0.1 3 ((t0.1 3) + r_28)), t0.2.1, t0.2.2.1, t0.2.2.2)) [0, 1, 2, 3, 4, 5, 6, 7] rfl) (hD.sub (ws' := md_v a0 q ((va_up t0.1 3 ((t0.1 3) + r_28)), t0.2.1, t0.2.2.1, t0.2.2.2)) [0, 1, 2, 3, 4, 5, 6, 7] (by decide) rfl) hS (lv_sub hl [4, 5, 6, 7, 0, 8] rfl)
            · replace h := h.2 c_23
              refine lv_aload_n hx hb dX7_asks_89 rfl (lv_at hl 8 rfl) ?_
              refine lv_dup hx hb dX7_asks_90 rfl ?_
              refine fl_get (C := RX7) (T := TX7) (N := 23) (ci := 6) (v := .int (t0.1 4)) hx hb ht in_X7 hown hK hP 0 rfl rfl 11 (by decide) mw_1141 rfl dX7_asks_91 ?_
              refine lv_iconst (v := 1) hx hb dX7_asks_94 (by decide) ?_
              refine lv_iadd hx hb dX7_asks_95 ?_
              refine fl_put (C := RX7) (T := TX7) (N := 23) (ci := 6) (v := .int ((t0.1 4) + 1)) (ws2 := [((a0 0), .inr (6, [.ref (a0 1), .ref (a0 2), .int (t0.1 0), .ref (a0 3), .ref (a0 5), .ref (a0 4), .long t0.2.1, .int (t0.1 1), .int (t0.1 2), .ref (a0 6), .int (t0.1 3), .int ((t0.1 4) + 1), .ref (a0 7), .int (t0.1 5), .int (t0.1 6), .int (t0.1 7), .int (t0.1 8), .int (t0.1 9), .int (t0.1 10), .int (t0.1 11), .int (t0.1 12), .int (t0.1 13), .int (t0.1 14)])), ((a0 1), .inl (q 1, 6896, .inr (.inl (t0.2.2.1 0)))), ((a0 2), .inl (q 1, 68960, .inr (.inl (t0.2.2.1 1)))), ((a0 3), .inl (q 1, 13792, .inr (.inl (t0.2.2.1 2)))), ((a0 4), .inl (q 1, 6896, .inr (.inl (t0.2.2.1 3)))), ((a0 5), .inl (q 3, 2, .inl (t0.2.2.2 0))), ((a0 6), .inl (q 0, 40, .inl (t0.2.2.2 1))), ((a0 7), .inl (q 2, 400, .inl (t0.2.2.2 2)))]) hx hb ht in_X7 tyX7_ok nmX7 hown hK hP hD hS 0 rfl rfl 11 (by decide) mw_1141 rfl rfl rfl (Nat.le_of_ble_eq_true rfl) dX7_asks_96 rfl (fun H locs hP hD hS => ?_)
              refine lv_goto (tgt := 129) hx hb dX7_asks_99 (by decide) ?_
              refine lv_iinc (v := (z5 + 1)) (lv' := [(5, .int (z5 + 1)), (8, .int r_21), (7, .int 1), (6, .int ((r_4 * z1) + z5)), (1, .int z1), (2, .int z2), (3, .int z3), (4, .int z4), (0, .ref (a0 0))]) hx hb dX7_asks_129 hl (k := 7) rfl rfl (by decide) rfl (fun ls hl => ?_)
              refine lv_goto (tgt := 13) hx hb dX7_asks_132 (by decide) ?_
              exact ih _ _ _ _ _ _ _ _ ls h (hP.sub (ws' := md_v a0 q ((va_up t0.1 4 ((t0.1 4) + 1)), t0.2.1, t0.2.2.1, t0.2.2.2)) [0, 1, 2, 3, 4, 5, 6, 7] rfl) (hD.sub (ws' := md_v a0 q ((va_up t0.1 4 ((t0.1 4) + 1)), t0.2.1, t0.2.2.1, t0.2.2.2)) [0, 1, 2, 3, 4, 5, 6, 7] (by decide) rfl) hS (lv_sub hl [4, 5, 6, 7, 0, 8] rfl)
  obtain ⟨n13, h⟩ := h
  refine lp13 _ ?_ n13 _ _ _ _ _ _ _ _ ls h (hP.sub (ws' := md_v a0 q ((va_up (va_up s0.1 3 0) 4 0), s0.2.1, s0.2.2.1, s0.2.2.2)) [0, 1, 2, 3, 4, 5, 6, 7] rfl) (hD.sub (ws' := md_v a0 q ((va_up (va_up s0.1 3 0) 4 0), s0.2.1, s0.2.2.1, s0.2.2.2)) [0, 1, 2, 3, 4, 5, 6, 7] (by decide) rfl) hS (lv_sub hl [2, 3, 4, 5, 0, 1] rfl)
  · intro t0 z1 z2 z3 z4 z5 H locs ls h hP hD hS hl
    try dsimp only at h
    have hP : va_P D vwCl [((a0 0), .inr (6, [.ref (a0 1), .ref (a0 2), .int (t0.1 0), .ref (a0 3), .ref (a0 5), .ref (a0 4), .long t0.2.1, .int (t0.1 1), .int (t0.1 2), .ref (a0 6), .int (t0.1 3), .int (t0.1 4), .ref (a0 7), .int (t0.1 5), .int (t0.1 6), .int (t0.1 7), .int (t0.1 8), .int (t0.1 9), .int (t0.1 10), .int (t0.1 11), .int (t0.1 12), .int (t0.1 13), .int (t0.1 14)])), ((a0 1), .inl (q 1, 6896, .inr (.inl (t0.2.2.1 0)))), ((a0 2), .inl (q 1, 68960, .inr (.inl (t0.2.2.1 1)))), ((a0 3), .inl (q 1, 13792, .inr (.inl (t0.2.2.1 2)))), ((a0 4), .inl (q 1, 6896, .inr (.inl (t0.2.2.1 3)))), ((a0 5), .inl (q 3, 2, .inl (t0.2.2.2 0))), ((a0 6), .inl (q 0, 40, .inl (t0.2.2.2 1))), ((a0 7), .inl (q 2, 400, .inl (t0.2.2.2 2)))] H := hP
    have hD : va_D _ [((a0 0), .inr (6, [.ref (a0 1), .ref (a0 2), .int (t0.1 0), .ref (a0 3), .ref (a0 5), .ref (a0 4), .long t0.2.1, .int (t0.1 1), .int (t0.1 2), .ref (a0 6), .int (t0.1 3), .int (t0.1 4), .ref (a0 7), .int (t0.1 5), .int (t0.1 6), .int (t0.1 7), .int (t0.1 8), .int (t0.1 9), .int (t0.1 10), .int (t0.1 11), .int (t0.1 12), .int (t0.1 13), .int (t0.1 14)])), ((a0 1), .inl (q 1, 6896, .inr (.inl (t0.2.2.1 0)))), ((a0 2), .inl (q 1, 68960, .inr (.inl (t0.2.2.1 1)))), ((a0 3), .inl (q 1, 13792, .inr (.inl (t0.2.2.1 2)))), ((a0 4), .inl (q 1, 6896, .inr (.inl (t0.2.2.1 3)))), ((a0 5), .inl (q 3, 2, .inl (t0.2.2.2 0))), ((a0 6), .inl (q 0, 40, .inl (t0.2.2.2 1))), ((a0 7), .inl (q 2, 400, .inl (t0.2.2.2 2)))] := hD
    exact mt_vret t0 hx hb hr hk h (hP.sub (ws' := md_v a0 q t0) [0, 1, 2, 3, 4, 5, 6, 7] rfl) (hD.sub (ws' := md_v a0 q t0) [0, 1, 2, 3, 4, 5, 6, 7] (by decide) rfl) hS dX7_asks_135
