def wp_X7_cost (post : Int32 → Md → Prop) (s0 : Md) (x1 : Int32) : Prop := wp_X7_isRow (fun r_1 => ((¬ r_1 = 0 → wp_X7_isRowText (fun r_4 => ((¬ r_4 = 0 → wp_X7_asks (fun u_8 => post (u_8.1 3) u_8) s0 x1 (0 : Int32) (0 : Int32) (s0.1 5)) ∧ (r_4 = 0 → post (-2) s0))) s0 (s0.1 5)) ∧ (r_1 = 0 → post (-1) s0))) s0 x1
set_option maxHeartbeats 4000000 in
set_option maxRecDepth 100000 in
theorem c2_X7_cost {l : Launch} {D : va_G} {q : Nat → ClassId} {sz : Nat} {a0 : Nat → Nat} {s0 : Md} {x1 : Int32} {post : Int32 → Md → Prop} (h : wp_X7_cost post s0 x1) : Met l yX7_cost (Cond.code yX7_cost cX7_cost 2 (some .int) :: w_all) ({ frames := 4, cells := 0, slots := 0, locals := 95 } : Room) (mt_P D q [.ref (a0 0), .int x1] (md_v a0 q s0) sz) (va_Qi (fun r (u : Md) => post r u) (mt_B D (md_v a0 q s0) sz (fun u : Md => md_v a0 q u)) (va_A (md_v a0 q s0) sz)) 0 0 (va_A (md_v a0 q s0) sz) := by
  refine mt_start (by decide) (Nat.le_of_ble_eq_true rfl) ?_
  intro p e s m below meth c ls hx hb hr hml hown ht hk hin hP hQ hD hA hS hV hl
  have hK := hQ.1
  have hown : s.vm.findClass RX7 = some m.cls := hown
  have hl : lv_has ls 2 [(0, .ref (a0 0)), (1, .int x1)] := hl
  have hP : va_P D vwCl [((a0 0), .inr (6, [.ref (a0 1), .ref (a0 2), .int (s0.1 0), .ref (a0 3), .ref (a0 5), .ref (a0 4), .long s0.2.1, .int (s0.1 1), .int (s0.1 2), .ref (a0 6), .int (s0.1 3), .int (s0.1 4), .ref (a0 7), .int (s0.1 5), .int (s0.1 6), .int (s0.1 7), .int (s0.1 8), .int (s0.1 9), .int (s0.1 10), .int (s0.1 11), .int (s0.1 12), .int (s0.1 13), .int (s0.1 14)])), ((a0 1), .inl (q 1, 6896, .inr (.inl (s0.2.2.1 0)))), ((a0 2), .inl (q 1, 68960, .inr (.inl (s0.2.2.1 1)))), ((a0 3), .inl (q 1, 13792, .inr (.inl (s0.2.2.1 2)))), ((a0 4), .inl (q 1, 6896, .inr (.inl (s0.2.2.1 3)))), ((a0 5), .inl (q 3, 2, .inl (s0.2.2.2 0))), ((a0 6), .inl (q 0, 40, .inl (s0.2.2.2 1))), ((a0 7), .inl (q 2, 400, .inl (s0.2.2.2 2)))] s.heap := hP
  have hD : va_D _ [((a0 0), .inr (6, [.ref (a0 1), .ref (a0 2), .int (s0.1 0), .ref (a0 3), .ref (a0 5), .ref (a0 4), .long s0.2.1, .int (s0.1 1), .int (s0.1 2), .ref (a0 6), .int (s0.1 3), .int (s0.1 4), .ref (a0 7), .int (s0.1 5), .int (s0.1 6), .int (s0.1 7), .int (s0.1 8), .int (s0.1 9), .int (s0.1 10), .int (s0.1 11), .int (s0.1 12), .int (s0.1 13), .int (s0.1 14)])), ((a0 1), .inl (q 1, 6896, .inr (.inl (s0.2.2.1 0)))), ((a0 2), .inl (q 1, 68960, .inr (.inl (s0.2.2.1 1)))), ((a0 3), .inl (q 1, 13792, .inr (.inl (s0.2.2.1 2)))), ((a0 4), .inl (q 1, 6896, .inr (.inl (s0.2.2.1 3)))), ((a0 5), .inl (q 3, 2, .inl (s0.2.2.2 0))), ((a0 6), .inl (q 0, 40, .inl (s0.2.2.2 1))), ((a0 7), .inl (q 2, 400, .inl (s0.2.2.2 2)))] := hD
  unfold wp_X7_cost at h
  refine lv_aload_n hx hb dX7_cost_0 rfl (lv_at hl 0 rfl) ?_
  refine lv_iload_n hx hb dX7_cost_1 rfl (lv_at hl 1 rfl) ?_
  refine vp_callSi (rd_wV (wc := md_v a0 q s0) (As := [.int x1]) (rest := []) hx hb hml hown ht (c2_X7_isRow h) wd_X7_isRow mw_1205 hQ hV hS (hP.sub [0, 1, 2, 3, 4, 5, 6, 7] rfl) rfl rfl rfl hl.1 rfl (Nat.le_of_ble_eq_true rfl) dX7_cost_2 ⟨Nat.le_of_ble_eq_true rfl, Nat.le_of_ble_eq_true rfl, rfl, rfl⟩ ⟨Nat.le_of_ble_eq_true rfl, Nat.le_of_ble_eq_true rfl⟩) (fun r_1 h => ?_)
  try dsimp only at h
  refine lv_if_ne (tgt := 10) hx hb dX7_cost_5 (by decide) (fun c_3 => ?_) (fun c_3 => ?_)
  · replace h := h.1 c_3
    refine lv_aload_n hx hb dX7_cost_10 rfl (lv_at hl 0 rfl) ?_
    refine lv_aload_n hx hb dX7_cost_11 rfl (lv_at hl 0 rfl) ?_
    refine fl_get (C := RX7) (T := TX7) (N := 23) (ci := 6) (v := .int (s0.1 5)) hx hb ht in_X7 hown hK hP 0 rfl rfl 13 (by decide) mw_1143 rfl dX7_cost_12 ?_
    refine vp_callSi (rd_wV (wc := md_v a0 q s0) (As := [.int (s0.1 5)]) (rest := []) hx hb hml hown ht (c2_X7_isRowText h) wd_X7_isRowText mw_1216 hQ hV hS (hP.sub [0, 1, 2, 3, 4, 5, 6, 7] rfl) rfl rfl rfl hl.1 rfl (Nat.le_of_ble_eq_true rfl) dX7_cost_15 ⟨Nat.le_of_ble_eq_true rfl, Nat.le_of_ble_eq_true rfl, rfl, rfl⟩ ⟨Nat.le_of_ble_eq_true rfl, Nat.le_of_ble_eq_true rfl⟩) (fun r_4 h => ?_)
    try dsimp only at h
    refine lv_if_ne (tgt := 24) hx hb dX7_cost_18 (by decide) (fun c_6 => ?_) (fun c_6 => ?_)
    · replace h := h.1 c_6
      refine lv_aload_n hx hb dX7_cost_24 rfl (lv_at hl 0 rfl) ?_
      refine lv_iload_n hx hb dX7_cost_25 rfl (lv_at hl 1 rfl) ?_
      refine lv_iconst (v := 0) hx hb dX7_cost_26 (by decide) ?_
      refine lv_iconst (v := 0) hx hb dX7_cost_27 (by decide) ?_
      refine lv_aload_n hx hb dX7_cost_28 rfl (lv_at hl 0 rfl) ?_
      refine fl_get (C := RX7) (T := TX7) (N := 23) (ci := 6) (v := .int (s0.1 5)) hx hb ht in_X7 hown hK hP 0 rfl rfl 13 (by decide) mw_1143 rfl dX7_cost_29 ?_
      refine mt_gov (mt_wV (wc := md_v a0 q s0) (As := [.int x1, .int 0, .int 0, .int (s0.1 5)]) (rest := []) hx hb hml hown ht (c2_X7_asks h) wd_X7_asks mw_1491 hQ hV hS hA (hP.sub [0, 1, 2, 3, 4, 5, 6, 7] rfl) (hD.sub [0, 1, 2, 3, 4, 5, 6, 7] (by decide) rfl) rfl rfl rfl hl.1 rfl (Nat.le_of_ble_eq_true rfl) dX7_cost_32 ⟨Nat.le_of_ble_eq_true rfl, Nat.le_of_ble_eq_true rfl, rfl, rfl⟩ ⟨Nat.le_of_ble_eq_true rfl, Nat.le_of_ble_eq_true rfl⟩) (wr := []) hP hD hS hA [0, 1, 2, 3, 4, 5, 6, 7] [] rfl rfl (by decide) (by decide) (fun u_8 H locs h hP hD hS => ?_)
      try dsimp only at h
      have hP : va_P D vwCl [((a0 0), .inr (6, [.ref (a0 1), .ref (a0 2), .int (u_8.1 0), .ref (a0 3), .ref (a0 5), .ref (a0 4), .long u_8.2.1, .int (u_8.1 1), .int (u_8.1 2), .ref (a0 6), .int (u_8.1 3), .int (u_8.1 4), .ref (a0 7), .int (u_8.1 5), .int (u_8.1 6), .int (u_8.1 7), .int (u_8.1 8), .int (u_8.1 9), .int (u_8.1 10), .int (u_8.1 11), .int (u_8.1 12), .int (u_8.1 13), .int (u_8.1 14)])), ((a0 1), .inl (q 1, 6896, .inr (.inl (u_8.2.2.1 0)))), ((a0 2), .inl (q 1, 68960, .inr (.inl (u_8.2.2.1 1)))), ((a0 3), .inl (q 1, 13792, .inr (.inl (u_8.2.2.1 2)))), ((a0 4), .inl (q 1, 6896, .inr (.inl (u_8.2.2.1 3)))), ((a0 5), .inl (q 3, 2, .inl (u_8.2.2.2 0))), ((a0 6), .inl (q 0, 40, .inl (u_8.2.2.2 1))), ((a0 7), .inl (q 2, 400, .inl (u_8.2.2.2 2)))] H := hP
      have hD : va_D _ [((a0 0), .inr (6, [.ref (a0 1), .ref (a0 2), .int (u_8.1 0), .ref (a0 3), .ref (a0 5), .ref (a0 4), .long u_8.2.1, .int (u_8.1 1), .int (u_8.1 2), .ref (a0 6), .int (u_8.1 3), .int (u_8.1 4), .ref (a0 7), .int (u_8.1 5), .int (u_8.1 6), .int (u_8.1 7), .int (u_8.1 8), .int (u_8.1 9), .int (u_8.1 10), .int (u_8.1 11), .int (u_8.1 12), .int (u_8.1 13), .int (u_8.1 14)])), ((a0 1), .inl (q 1, 6896, .inr (.inl (u_8.2.2.1 0)))), ((a0 2), .inl (q 1, 68960, .inr (.inl (u_8.2.2.1 1)))), ((a0 3), .inl (q 1, 13792, .inr (.inl (u_8.2.2.1 2)))), ((a0 4), .inl (q 1, 6896, .inr (.inl (u_8.2.2.1 3)))), ((a0 5), .inl (q 3, 2, .inl (u_8.2.2.2 0))), ((a0 6), .inl (q 0, 40, .inl (u_8.2.2.2 1))), ((a0 7), .inl (q 2, 400, .inl (u_8.2.2.2 2)))] := hD
      refine lv_aload_n hx hb dX7_cost_35 rfl (lv_at hl 0 rfl) ?_
      refine fl_get (C := RX7) (T := TX7) (N := 23) (ci := 6) (v := .int (u_8.1 3)) hx hb ht in_X7 hown hK hP 0 rfl rfl 10 (by decide) mw_1140 rfl dX7_cost_36 ?_
      exact mt_iret u_8 hx hb hr hk h (hP.sub (ws' := md_v a0 q u_8) [0, 1, 2, 3, 4, 5, 6, 7] rfl) (hD.sub (ws' := md_v a0 q u_8) [0, 1, 2, 3, 4, 5, 6, 7] (by decide) rfl) hS dX7_cost_39
    · replace h := h.2 c_6
      refine lv_bipush (v := (-2)) hx hb dX7_cost_21 (by decide) ?_
      exact mt_iret s0 hx hb hr hk h (hP.sub (ws' := md_v a0 q s0) [0, 1, 2, 3, 4, 5, 6, 7] rfl) (hD.sub (ws' := md_v a0 q s0) [0, 1, 2, 3, 4, 5, 6, 7] (by decide) rfl) hS dX7_cost_23
  · replace h := h.2 c_3
    refine lv_iconst (v := (-1)) hx hb dX7_cost_8 (by decide) ?_
    exact mt_iret s0 hx hb hr hk h (hP.sub (ws' := md_v a0 q s0) [0, 1, 2, 3, 4, 5, 6, 7] rfl) (hD.sub (ws' := md_v a0 q s0) [0, 1, 2, 3, 4, 5, 6, 7] (by decide) rfl) hS dX7_cost_9

def wp_X7_endOf_L2 (s0 : Md) (post : Int32 → Prop) (e27 : Int32 → Int32 → Prop) : Nat → Int32 → Int32 → Prop
  | 0, _, _ => False
  | n2 + 1, z1, z2 => (((s0.1 5) ≤ z2 → e27 z1 z2) ∧ (¬ (s0.1 5) ≤ z2 → vp_in z2 400 ∧ ((((s0.2.2.2 2) (Int32.toNatClampNeg z2)) = 47 → e27 z1 z2) ∧ (¬ ((s0.2.2.2 2) (Int32.toNatClampNeg z2)) = 47 → wp_X7_endOf_L2 s0 post e27 n2 z1 (z2 + 1)))))
def wp_X7_endOf (post : Int32 → Prop) (s0 : Md) (x1 : Int32) : Prop := (∃ n2, wp_X7_endOf_L2 s0 post (fun z1 z2 => post z2) n2 x1 x1)
set_option maxHeartbeats 4000000 in
set_option maxRecDepth 100000 in
theorem c2_X7_endOf {l : Launch} {D : va_G} {q : Nat → ClassId} {a0 : Nat → Nat} {s0 : Md} {x1 : Int32} {post : Int32 → Prop} (h : wp_X7_endOf post s0 x1) : Met l yX7_endOf (Cond.code yX7_endOf cX7_endOf 3 (some .int) :: w_all) ({ frames := 0, cells := 0, slots := 0, locals := 0 } : Room) (rd_P D q [.ref (a0 0), .int x1] (md_v a0 q s0)) (vp_Si post) 0 0 (fun _ => False) := by
  refine rd_start (by decide) (Nat.le_of_ble_eq_true rfl) ?_
  intro p e s m below meth c ls hx hb hr hml hown ht hk hP hQ hV hl
  have hK := hQ.1
  have hown : s.vm.findClass RX7 = some m.cls := hown
  have hl : lv_has ls 3 [(0, .ref (a0 0)), (1, .int x1)] := hl
  have hP : va_P D vwCl [((a0 0), .inr (6, [.ref (a0 1), .ref (a0 2), .int (s0.1 0), .ref (a0 3), .ref (a0 5), .ref (a0 4), .long s0.2.1, .int (s0.1 1), .int (s0.1 2), .ref (a0 6), .int (s0.1 3), .int (s0.1 4), .ref (a0 7), .int (s0.1 5), .int (s0.1 6), .int (s0.1 7), .int (s0.1 8), .int (s0.1 9), .int (s0.1 10), .int (s0.1 11), .int (s0.1 12), .int (s0.1 13), .int (s0.1 14)])), ((a0 1), .inl (q 1, 6896, .inr (.inl (s0.2.2.1 0)))), ((a0 2), .inl (q 1, 68960, .inr (.inl (s0.2.2.1 1)))), ((a0 3), .inl (q 1, 13792, .inr (.inl (s0.2.2.1 2)))), ((a0 4), .inl (q 1, 6896, .inr (.inl (s0.2.2.1 3)))), ((a0 5), .inl (q 3, 2, .inl (s0.2.2.2 0))), ((a0 6), .inl (q 0, 40, .inl (s0.2.2.2 1))), ((a0 7), .inl (q 2, 400, .inl (s0.2.2.2 2)))] s.heap := hP
  unfold wp_X7_endOf at h
  refine lv_iload_n hx hb dX7_endOf_0 rfl (lv_at hl 1 rfl) ?_
  refine lv_istore_n (lv' := [(2, .int x1), (0, .ref (a0 0)), (1, .int x1)]) hx hb dX7_endOf_1 rfl hl (by decide) rfl (fun ls hl => ?_)
  have lp2 : ∀ (e27 : Int32 → Int32 → Prop) (k27 : ∀ (z1 : Int32) (z2 : Int32) (ls : Array Slot), e27 z1 z2 → lv_has ls 3 [(1, .int z1), (2, .int z2), (0, .ref (a0 0))] → W p l e ({ frames := 0, cells := 0, slots := 0, locals := 0 } : Room) s m [.ref (a0 0), .int x1].toArray below meth c s.heap [] 0 0 (MQ below (vp_Si post) [.ref (a0 0), .int x1].toArray s 0 0 (fun _ => False)) (F0 m 27 ls [])) (n : Nat) (z1 : Int32) (z2 : Int32) (ls : Array Slot), wp_X7_endOf_L2 s0 post e27 n z1 z2 → lv_has ls 3 [(1, .int z1), (2, .int z2), (0, .ref (a0 0))] → W p l e ({ frames := 0, cells := 0, slots := 0, locals := 0 } : Room) s m [.ref (a0 0), .int x1].toArray below meth c s.heap [] 0 0 (MQ below (vp_Si post) [.ref (a0 0), .int x1].toArray s 0 0 (fun _ => False)) (F0 m 2 ls []) := by
    intro e27 k27 n
    induction n with
    | zero =>
      intro z1 z2 ls h
      exact h.elim
    | succ n ih =>
      intro z1 z2 ls h hl
      unfold wp_X7_endOf_L2 at h
      refine lv_iload_n hx hb dX7_endOf_2 rfl (lv_at hl 1 rfl) ?_
      refine lv_aload_n hx hb dX7_endOf_3 rfl (lv_at hl 2 rfl) ?_
      refine fl_get (C := RX7) (T := TX7) (N := 23) (ci := 6) (v := .int (s0.1 5)) hx hb ht in_X7 hown hK hP 0 rfl rfl 13 (by decide) mw_1143 rfl dX7_endOf_4 ?_
      refine lv_icmp_ge (tgt := 27) hx hb dX7_endOf_7 (by decide) (fun c_1 => ?_) (fun c_1 => ?_)
      · replace h := h.1 c_1
        exact k27 _ _ ls h (lv_sub hl [0, 1, 2] rfl)
      · replace h := h.2 c_1
        refine lv_aload_n hx hb dX7_endOf_10 rfl (lv_at hl 2 rfl) ?_
        refine fl_get (C := RX7) (T := TX7) (N := 23) (ci := 6) (v := .ref (a0 7)) hx hb ht in_X7 hown hK hP 0 rfl rfl 12 (by decide) mw_1142 rfl dX7_endOf_11 ?_
        refine lv_iload_n hx hb dX7_endOf_14 rfl (lv_at hl 1 rfl) ?_
        obtain ⟨g_2, h⟩ := h
        refine va_bald hx hb hK hP 7 2 rfl rfl g_2 dX7_endOf_15 ?_
        refine lv_bipush (v := 47) hx hb dX7_endOf_16 (by decide) ?_
        refine lv_icmp_eq (tgt := 27) hx hb dX7_endOf_18 (by decide) (fun c_3 => ?_) (fun c_3 => ?_)
        · replace h := h.1 c_3
          exact k27 _ _ ls h (lv_sub hl [0, 1, 2] rfl)
        · replace h := h.2 c_3
          refine lv_iinc (v := (z2 + 1)) (lv' := [(2, .int (z2 + 1)), (1, .int z1), (0, .ref (a0 0))]) hx hb dX7_endOf_21 hl (k := 1) rfl rfl (by decide) rfl (fun ls hl => ?_)
          refine lv_goto (tgt := 2) hx hb dX7_endOf_24 (by decide) ?_
          exact ih _ _ ls h (lv_sub hl [1, 0, 2] rfl)
  obtain ⟨n2, h⟩ := h
  refine lp2 _ ?_ n2 _ _ ls h (lv_sub hl [2, 0, 1] rfl)
  · intro z1 z2 ls h hl
    try dsimp only at h
    refine lv_iload_n hx hb dX7_endOf_27 rfl (lv_at hl 1 rfl) ?_
    exact rd_iret hx hb hr hk h dX7_endOf_28

def wp_X7_best_L36 (post : Int32 → Md → Prop) (e152 : Md → Int32 → Int32 → Int32 → Int32 → Int32 → Int32 → Int32 → Prop) : Nat → Md → Int32 → Int32 → Int32 → Int32 → Int32 → Int32 → Int32 → Prop
  | 0, _, _, _, _, _, _, _, _ => False
  | n36 + 1, t0, z1, z2, z3, z4, z5, z6, z7 => (((t0.1 5) < z7 → e152 t0 z1 z2 z3 z4 z5 z6 z7) ∧ (¬ (t0.1 5) < z7 → wp_X7_endOf (fun r_8 => wp_X7_wide (fun r_10 => ((r_10 < (r_8 - z7) → post (-2) t0) ∧ (¬ r_10 < (r_8 - z7) → wp_X7_areSigns (fun r_13 => ((¬ r_13 = 0 → wp_X7_asks (fun u_17 => ((z3 = (-1) → wp_X7_endOf (fun r_19 => wp_X7_best_L36 post e152 n36 u_17 z1 z2 z6 (u_17.1 3) (u_17.1 4) (z6 + 1) (r_19 + 1)) u_17 z7) ∧ (¬ z3 = (-1) → (((u_17.1 3) < z4 → wp_X7_endOf (fun r_22 => wp_X7_best_L36 post e152 n36 u_17 z1 z2 z6 (u_17.1 3) (u_17.1 4) (z6 + 1) (r_22 + 1)) u_17 z7) ∧ (¬ (u_17.1 3) < z4 → ((¬ (u_17.1 3) = z4 → wp_X7_endOf (fun r_25 => wp_X7_best_L36 post e152 n36 u_17 z1 z2 z3 z4 z5 (z6 + 1) (r_25 + 1)) u_17 z7) ∧ ((u_17.1 3) = z4 → ((z5 ≤ (u_17.1 4) → wp_X7_endOf (fun r_28 => wp_X7_best_L36 post e152 n36 u_17 z1 z2 z3 z4 z5 (z6 + 1) (r_28 + 1)) u_17 z7) ∧ (¬ z5 ≤ (u_17.1 4) → wp_X7_endOf (fun r_30 => wp_X7_best_L36 post e152 n36 u_17 z1 z2 z6 (u_17.1 3) (u_17.1 4) (z6 + 1) (r_30 + 1)) u_17 z7))))))))) t0 z1 (0 : Int32) z7 (r_8 - z7)) ∧ (r_13 = 0 → post (-2) t0))) t0 z7 (r_8 - z7)))) t0) t0 z7))
def wp_X7_best (post : Int32 → Md → Prop) (s0 : Md) (x1 : Int32) (x2 : Int32) : Prop := wp_X7_isRow (fun r_1 => ((r_1 = 0 → post (-1) s0) ∧ (¬ r_1 = 0 → wp_X7_in (fun r_4 => ((¬ r_4 = 0 → (∃ n36, wp_X7_best_L36 post (fun t0 z1 z2 z3 z4 z5 z6 z7 => ((¬ z2 = 0 → ((¬ z2 = 1 → post z5 t0) ∧ (z2 = 1 → post z4 t0))) ∧ (z2 = 0 → post z3 t0))) n36 s0 x1 x2 (-1) 0 0 0 0)) ∧ (r_4 = 0 → post (-1) s0))) (Int32.toInt64 x2) (0 : Int64) (2 : Int64)))) s0 x1
set_option maxHeartbeats 4000000 in
set_option maxRecDepth 100000 in
theorem c2_X7_best {l : Launch} {D : va_G} {q : Nat → ClassId} {sz : Nat} {a0 : Nat → Nat} {s0 : Md} {x1 : Int32} {x2 : Int32} {post : Int32 → Md → Prop} (h : wp_X7_best post s0 x1 x2) : Met l yX7_best (Cond.code yX7_best cX7_best 9 (some .int) :: w_all) ({ frames := 4, cells := 0, slots := 0, locals := 95 } : Room) (mt_P D q [.ref (a0 0), .int x1, .int x2] (md_v a0 q s0) sz) (va_Qi (fun r (u : Md) => post r u) (mt_B D (md_v a0 q s0) sz (fun u : Md => md_v a0 q u)) (va_A (md_v a0 q s0) sz)) 0 0 (va_A (md_v a0 q s0) sz) := by
  refine mt_start (by decide) (Nat.le_of_ble_eq_true rfl) ?_
  intro p e s m below meth c ls hx hb hr hml hown ht hk hin hP hQ hD hA hS hV hl
  have hK := hQ.1
  have hown : s.vm.findClass RX7 = some m.cls := hown
  have hl : lv_has ls 9 [(0, .ref (a0 0)), (1, .int x1), (2, .int x2)] := hl
  have hP : va_P D vwCl [((a0 0), .inr (6, [.ref (a0 1), .ref (a0 2), .int (s0.1 0), .ref (a0 3), .ref (a0 5), .ref (a0 4), .long s0.2.1, .int (s0.1 1), .int (s0.1 2), .ref (a0 6), .int (s0.1 3), .int (s0.1 4), .ref (a0 7), .int (s0.1 5), .int (s0.1 6), .int (s0.1 7), .int (s0.1 8), .int (s0.1 9), .int (s0.1 10), .int (s0.1 11), .int (s0.1 12), .int (s0.1 13), .int (s0.1 14)])), ((a0 1), .inl (q 1, 6896, .inr (.inl (s0.2.2.1 0)))), ((a0 2), .inl (q 1, 68960, .inr (.inl (s0.2.2.1 1)))), ((a0 3), .inl (q 1, 13792, .inr (.inl (s0.2.2.1 2)))), ((a0 4), .inl (q 1, 6896, .inr (.inl (s0.2.2.1 3)))), ((a0 5), .inl (q 3, 2, .inl (s0.2.2.2 0))), ((a0 6), .inl (q 0, 40, .inl (s0.2.2.2 1))), ((a0 7), .inl (q 2, 400, .inl (s0.2.2.2 2)))] s.heap := hP
  have hD : va_D _ [((a0 0), .inr (6, [.ref (a0 1), .ref (a0 2), .int (s0.1 0), .ref (a0 3), .ref (a0 5), .ref (a0 4), .long s0.2.1, .int (s0.1 1), .int (s0.1 2), .ref (a0 6), .int (s0.1 3), .int (s0.1 4), .ref (a0 7), .int (s0.1 5), .int (s0.1 6), .int (s0.1 7), .int (s0.1 8), .int (s0.1 9), .int (s0.1 10), .int (s0.1 11), .int (s0.1 12), .int (s0.1 13), .int (s0.1 14)])), ((a0 1), .inl (q 1, 6896, .inr (.inl (s0.2.2.1 0)))), ((a0 2), .inl (q 1, 68960, .inr (.inl (s0.2.2.1 1)))), ((a0 3), .inl (q 1, 13792, .inr (.inl (s0.2.2.1 2)))), ((a0 4), .inl (q 1, 6896, .inr (.inl (s0.2.2.1 3)))), ((a0 5), .inl (q 3, 2, .inl (s0.2.2.2 0))), ((a0 6), .inl (q 0, 40, .inl (s0.2.2.2 1))), ((a0 7), .inl (q 2, 400, .inl (s0.2.2.2 2)))] := hD
  unfold wp_X7_best at h
  refine lv_aload_n hx hb dX7_best_0 rfl (lv_at hl 0 rfl) ?_
  refine lv_iload_n hx hb dX7_best_1 rfl (lv_at hl 1 rfl) ?_
  refine vp_callSi (rd_wV (wc := md_v a0 q s0) (As := [.int x1]) (rest := []) hx hb hml hown ht (c2_X7_isRow h) wd_X7_isRow mw_1205 hQ hV hS (hP.sub [0, 1, 2, 3, 4, 5, 6, 7] rfl) rfl rfl rfl hl.1 rfl (Nat.le_of_ble_eq_true rfl) dX7_best_2 ⟨Nat.le_of_ble_eq_true rfl, Nat.le_of_ble_eq_true rfl, rfl, rfl⟩ ⟨Nat.le_of_ble_eq_true rfl, Nat.le_of_ble_eq_true rfl⟩) (fun r_1 h => ?_)
  try dsimp only at h
  refine lv_if_eq (tgt := 20) hx hb dX7_best_5 (by decide) (fun c_3 => ?_) (fun c_3 => ?_)
  · replace h := h.1 c_3
    refine lv_iconst (v := (-1)) hx hb dX7_best_20 (by decide) ?_
    exact mt_iret s0 hx hb hr hk h (hP.sub (ws' := md_v a0 q s0) [0, 1, 2, 3, 4, 5, 6, 7] rfl) (hD.sub (ws' := md_v a0 q s0) [0, 1, 2, 3, 4, 5, 6, 7] (by decide) rfl) hS dX7_best_21
  · replace h := h.2 c_3
    refine lv_iload_n hx hb dX7_best_8 rfl (lv_at hl 2 rfl) ?_
    refine lv_i2l (v := (Int32.toInt64 x2)) hx hb dX7_best_9 rfl ?_
    refine lv_lconst (v := 0) hx hb dX7_best_10 (by decide) ?_
    refine lv_ldc2 (v := 2) hx hb hown (ht _ mw_1421) dX7_best_11 ?_
    refine vp_callSi (rd_wS (wc := ([] : va_W)) (As := [.long (Int32.toInt64 x2), .long 0, .long 2]) (rest := []) hx hb hml hown ht (c2_X7_in h) wd_X7_in mw_1213 hQ hV hS (hP.sub [] rfl) rfl hl.1 rfl (Nat.le_of_ble_eq_true rfl) dX7_best_14 ⟨Nat.le_of_ble_eq_true rfl, Nat.le_of_ble_eq_true rfl, rfl, rfl⟩ ⟨Nat.le_of_ble_eq_true rfl, Nat.le_of_ble_eq_true rfl⟩) (fun r_4 h => ?_)
    try dsimp only at h
    refine lv_if_ne (tgt := 22) hx hb dX7_best_17 (by decide) (fun c_6 => ?_) (fun c_6 => ?_)
    · replace h := h.1 c_6
      refine lv_iconst (v := (-1)) hx hb dX7_best_22 (by decide) ?_
      refine lv_istore_n (lv' := [(3, .int (-1)), (0, .ref (a0 0)), (1, .int x1), (2, .int x2)]) hx hb dX7_best_23 rfl hl (by decide) rfl (fun ls hl => ?_)
      refine lv_iconst (v := 0) hx hb dX7_best_24 (by decide) ?_
      refine lv_istore (lv' := [(4, .int 0), (3, .int (-1)), (0, .ref (a0 0)), (1, .int x1), (2, .int x2)]) hx hb dX7_best_25 hl (by decide) rfl (fun ls hl => ?_)
      refine lv_iconst (v := 0) hx hb dX7_best_27 (by decide) ?_
      refine lv_istore (lv' := [(5, .int 0), (4, .int 0), (3, .int (-1)), (0, .ref (a0 0)), (1, .int x1), (2, .int x2)]) hx hb dX7_best_28 hl (by decide) rfl (fun ls hl => ?_)
      refine lv_iconst (v := 0) hx hb dX7_best_30 (by decide) ?_
      refine lv_istore (lv' := [(6, .int 0), (5, .int 0), (4, .int 0), (3, .int (-1)), (0, .ref (a0 0)), (1, .int x1), (2, .int x2)]) hx hb dX7_best_31 hl (by decide) rfl (fun ls hl => ?_)
      refine lv_iconst (v := 0) hx hb dX7_best_33 (by decide) ?_
      refine lv_istore (lv' := [(7, .int 0), (6, .int 0), (5, .int 0), (4, .int 0), (3, .int (-1)), (0, .ref (a0 0)), (1, .int x1), (2, .int x2)]) hx hb dX7_best_34 hl (by decide) rfl (fun ls hl => ?_)
      have lp36 : ∀ (e152 : Md → Int32 → Int32 → Int32 → Int32 → Int32 → Int32 → Int32 → Prop) (k152 : ∀ (t0 : Md) (z1 : Int32) (z2 : Int32) (z3 : Int32) (z4 : Int32) (z5 : Int32) (z6 : Int32) (z7 : Int32) (H : Heap) (locs : List Loc) (ls : Array Slot), e152 t0 z1 z2 z3 z4 z5 z6 z7 → va_P D vwCl (md_v a0 q t0) H → va_D (va_A (md_v a0 q s0) sz) (md_v a0 q t0) → va_S (va_A (md_v a0 q s0) sz) s.heap H locs → lv_has ls 9 [(1, .int z1), (2, .int z2), (3, .int z3), (4, .int z4), (5, .int z5), (6, .int z6), (7, .int z7), (0, .ref (a0 0))] → W p l e ({ frames := 4, cells := 0, slots := 0, locals := 95 } : Room) s m [.ref (a0 0), .int x1, .int x2].toArray below meth c H locs 0 0 (MQ below (va_Qi (fun r (u : Md) => post r u) (mt_B D (md_v a0 q s0) sz (fun u : Md => md_v a0 q u)) (va_A (md_v a0 q s0) sz)) [.ref (a0 0), .int x1, .int x2].toArray s 0 0 (va_A (md_v a0 q s0) sz)) (F0 m 152 ls [])) (n : Nat) (t0 : Md) (z1 : Int32) (z2 : Int32) (z3 : Int32) (z4 : Int32) (z5 : Int32) (z6 : Int32) (z7 : Int32) (H : Heap) (locs : List Loc) (ls : Array Slot), wp_X7_best_L36 post e152 n t0 z1 z2 z3 z4 z5 z6 z7 → va_P D vwCl (md_v a0 q t0) H → va_D (va_A (md_v a0 q s0) sz) (md_v a0 q t0) → va_S (va_A (md_v a0 q s0) sz) s.heap H locs → lv_has ls 9 [(1, .int z1), (2, .int z2), (3, .int z3), (4, .int z4), (5, .int z5), (6, .int z6), (7, .int z7), (0, .ref (a0 0))] → W p l e ({ frames := 4, cells := 0, slots := 0, locals := 95 } : Room) s m [.ref (a0 0), .int x1, .int x2].toArray below meth c H locs 0 0 (MQ below (va_Qi (fun r (u : Md) => post r u) (mt_B D (md_v a0 q s0) sz (fun u : Md => md_v a0 q u)) (va_A (md_v a0 q s0) sz)) [.ref (a0 0), .int x1, .int x2].toArray s 0 0 (va_A (md_v a0 q s0) sz)) (F0 m 36 ls []) := by
        intro e152 k152 n
        induction n with
        | zero =>
          intro t0 z1 z2 z3 z4 z5 z6 z7 H locs ls h
          exact h.elim
        | succ n ih =>
          intro t0 z1 z2 z3 z4 z5 z6 z7 H locs ls h hP hD hS hl
          have hP : va_P D vwCl [((a0 0), .inr (6, [.ref (a0 1), .ref (a0 2), .int (t0.1 0), .ref (a0 3), .ref (a0 5), .ref (a0 4), .long t0.2.1, .int (t0.1 1), .int (t0.1 2), .ref (a0 6), .int (t0.1 3), .int (t0.1 4), .ref (a0 7), .int (t0.1 5), .int (t0.1 6), .int (t0.1 7), .int (t0.1 8), .int (t0.1 9), .int (t0.1 10), .int (t0.1 11), .int (t0.1 12), .int (t0.1 13), .int (t0.1 14)])), ((a0 1), .inl (q 1, 6896, .inr (.inl (t0.2.2.1 0)))), ((a0 2), .inl (q 1, 68960, .inr (.inl (t0.2.2.1 1)))), ((a0 3), .inl (q 1, 13792, .inr (.inl (t0.2.2.1 2)))), ((a0 4), .inl (q 1, 6896, .inr (.inl (t0.2.2.1 3)))), ((a0 5), .inl (q 3, 2, .inl (t0.2.2.2 0))), ((a0 6), .inl (q 0, 40, .inl (t0.2.2.2 1))), ((a0 7), .inl (q 2, 400, .inl (t0.2.2.2 2)))] H := hP
          have hD : va_D _ [((a0 0), .inr (6, [.ref (a0 1), .ref (a0 2), .int (t0.1 0), .ref (a0 3), .ref (a0 5), .ref (a0 4), .long t0.2.1, .int (t0.1 1), .int (t0.1 2), .ref (a0 6), .int (t0.1 3), .int (t0.1 4), .ref (a0 7), .int (t0.1 5), .int (t0.1 6), .int (t0.1 7), .int (t0.1 8), .int (t0.1 9), .int (t0.1 10), .int (t0.1 11), .int (t0.1 12), .int (t0.1 13), .int (t0.1 14)])), ((a0 1), .inl (q 1, 6896, .inr (.inl (t0.2.2.1 0)))), ((a0 2), .inl (q 1, 68960, .inr (.inl (t0.2.2.1 1)))), ((a0 3), .inl (q 1, 13792, .inr (.inl (t0.2.2.1 2)))), ((a0 4), .inl (q 1, 6896, .inr (.inl (t0.2.2.1 3)))), ((a0 5), .inl (q 3, 2, .inl (t0.2.2.2 0))), ((a0 6), .inl (q 0, 40, .inl (t0.2.2.2 1))), ((a0 7), .inl (q 2, 400, .inl (t0.2.2.2 2)))] := hD
          unfold wp_X7_best_L36 at h
          refine lv_iload hx hb dX7_best_36 (lv_at hl 6 rfl) ?_
          refine lv_aload_n hx hb dX7_best_38 rfl (lv_at hl 7 rfl) ?_
          refine fl_get (C := RX7) (T := TX7) (N := 23) (ci := 6) (v := .int (t0.1 5)) hx hb ht in_X7 hown hK hP 0 rfl rfl 13 (by decide) mw_1143 rfl dX7_best_39 ?_
          refine lv_icmp_gt (tgt := 152) hx hb dX7_best_42 (by decide) (fun c_7 => ?_) (fun c_7 => ?_)
          · replace h := h.1 c_7
            exact k152 _ _ _ _ _ _ _ _ _ _ ls h (hP.sub (ws' := md_v a0 q t0) [0, 1, 2, 3, 4, 5, 6, 7] rfl) (hD.sub (ws' := md_v a0 q t0) [0, 1, 2, 3, 4, 5, 6, 7] (by decide) rfl) hS (lv_sub hl [0, 1, 2, 3, 4, 5, 6, 7] rfl)
          · replace h := h.2 c_7
            refine lv_aload_n hx hb dX7_best_45 rfl (lv_at hl 7 rfl) ?_
            refine lv_iload hx hb dX7_best_46 (lv_at hl 6 rfl) ?_
            refine vp_callSi (rd_wV (wc := md_v a0 q t0) (As := [.int z7]) (rest := []) hx hb hml hown ht (c2_X7_endOf h) wd_X7_endOf mw_1499 hQ hV hS (hP.sub [0, 1, 2, 3, 4, 5, 6, 7] rfl) rfl rfl rfl hl.1 rfl (Nat.le_of_ble_eq_true rfl) dX7_best_48 ⟨Nat.le_of_ble_eq_true rfl, Nat.le_of_ble_eq_true rfl, rfl, rfl⟩ ⟨Nat.le_of_ble_eq_true rfl, Nat.le_of_ble_eq_true rfl⟩) (fun r_8 h => ?_)
            try dsimp only at h
            refine lv_iload hx hb dX7_best_51 (lv_at hl 6 rfl) ?_
            refine lv_isub hx hb dX7_best_53 ?_
            refine lv_istore (lv' := [(8, .int (r_8 - z7)), (1, .int z1), (2, .int z2), (3, .int z3), (4, .int z4), (5, .int z5), (6, .int z6), (7, .int z7), (0, .ref (a0 0))]) hx hb dX7_best_54 hl (by decide) rfl (fun ls hl => ?_)
            refine lv_iload hx hb dX7_best_56 (lv_at hl 0 rfl) ?_
            refine lv_aload_n hx hb dX7_best_58 rfl (lv_at hl 8 rfl) ?_
            refine vp_callSi (rd_wV (wc := md_v a0 q t0) (As := []) (rest := [.int (r_8 - z7)]) hx hb hml hown ht (c2_X7_wide h) wd_X7_wide mw_1220 hQ hV hS (hP.sub [0, 1, 2, 3, 4, 5, 6, 7] rfl) rfl rfl rfl hl.1 rfl (Nat.le_of_ble_eq_true rfl) dX7_best_59 ⟨Nat.le_of_ble_eq_true rfl, Nat.le_of_ble_eq_true rfl, rfl, rfl⟩ ⟨Nat.le_of_ble_eq_true rfl, Nat.le_of_ble_eq_true rfl⟩) (fun r_10 h => ?_)
            try dsimp only at h
            refine lv_icmp_gt (tgt := 76) hx hb dX7_best_62 (by decide) (fun c_12 => ?_) (fun c_12 => ?_)
            · replace h := h.1 c_12
              refine lv_bipush (v := (-2)) hx hb dX7_best_76 (by decide) ?_
              exact mt_iret t0 hx hb hr hk h (hP.sub (ws' := md_v a0 q t0) [0, 1, 2, 3, 4, 5, 6, 7] rfl) (hD.sub (ws' := md_v a0 q t0) [0, 1, 2, 3, 4, 5, 6, 7] (by decide) rfl) hS dX7_best_78
            · replace h := h.2 c_12
              refine lv_aload_n hx hb dX7_best_65 rfl (lv_at hl 8 rfl) ?_
              refine lv_iload hx hb dX7_best_66 (lv_at hl 7 rfl) ?_
              refine lv_iload hx hb dX7_best_68 (lv_at hl 0 rfl) ?_
              refine vp_callSi (rd_wV (wc := md_v a0 q t0) (As := [.int z7, .int (r_8 - z7)]) (rest := []) hx hb hml hown ht (c2_X7_areSigns h) wd_X7_areSigns mw_1224 hQ hV hS (hP.sub [0, 1, 2, 3, 4, 5, 6, 7] rfl) rfl rfl rfl hl.1 rfl (Nat.le_of_ble_eq_true rfl) dX7_best_70 ⟨Nat.le_of_ble_eq_true rfl, Nat.le_of_ble_eq_true rfl, rfl, rfl⟩ ⟨Nat.le_of_ble_eq_true rfl, Nat.le_of_ble_eq_true rfl⟩) (fun r_13 h => ?_)
              try dsimp only at h
              refine lv_if_ne (tgt := 79) hx hb dX7_best_73 (by decide) (fun c_15 => ?_) (fun c_15 => ?_)
              · replace h := h.1 c_15
                refine lv_aload_n hx hb dX7_best_79 rfl (lv_at hl 8 rfl) ?_
                refine lv_iload_n hx hb dX7_best_80 rfl (lv_at hl 1 rfl) ?_
                refine lv_iconst (v := 0) hx hb dX7_best_81 (by decide) ?_
                refine lv_iload hx hb dX7_best_82 (lv_at hl 7 rfl) ?_
                refine lv_iload hx hb dX7_best_84 (lv_at hl 0 rfl) ?_
                refine mt_gov (mt_wV (wc := md_v a0 q t0) (As := [.int z1, .int 0, .int z7, .int (r_8 - z7)]) (rest := []) hx hb hml hown ht (c2_X7_asks h) wd_X7_asks mw_1491 hQ hV hS hA (hP.sub [0, 1, 2, 3, 4, 5, 6, 7] rfl) (hD.sub [0, 1, 2, 3, 4, 5, 6, 7] (by decide) rfl) rfl rfl rfl hl.1 rfl (Nat.le_of_ble_eq_true rfl) dX7_best_86 ⟨Nat.le_of_ble_eq_true rfl, Nat.le_of_ble_eq_true rfl, rfl, rfl⟩ ⟨Nat.le_of_ble_eq_true rfl, Nat.le_of_ble_eq_true rfl⟩) (wr := []) hP hD hS hA [0, 1, 2, 3, 4, 5, 6, 7] [] rfl rfl (by decide) (by decide) (fun u_17 H locs h hP hD hS => ?_)
                try dsimp only at h
                have hP : va_P D vwCl [((a0 0), .inr (6, [.ref (a0 1), .ref (a0 2), .int (u_17.1 0), .ref (a0 3), .ref (a0 5), .ref (a0 4), .long u_17.2.1, .int (u_17.1 1), .int (u_17.1 2), .ref (a0 6), .int (u_17.1 3), .int (u_17.1 4), .ref (a0 7), .int (u_17.1 5), .int (u_17.1 6), .int (u_17.1 7), .int (u_17.1 8), .int (u_17.1 9), .int (u_17.1 10), .int (u_17.1 11), .int (u_17.1 12), .int (u_17.1 13), .int (u_17.1 14)])), ((a0 1), .inl (q 1, 6896, .inr (.inl (u_17.2.2.1 0)))), ((a0 2), .inl (q 1, 68960, .inr (.inl (u_17.2.2.1 1)))), ((a0 3), .inl (q 1, 13792, .inr (.inl (u_17.2.2.1 2)))), ((a0 4), .inl (q 1, 6896, .inr (.inl (u_17.2.2.1 3)))), ((a0 5), .inl (q 3, 2, .inl (u_17.2.2.2 0))), ((a0 6), .inl (q 0, 40, .inl (u_17.2.2.2 1))), ((a0 7), .inl (q 2, 400, .inl (u_17.2.2.2 2)))] H := hP
                have hD : va_D _ [((a0 0), .inr (6, [.ref (a0 1), .ref (a0 2), .int (u_17.1 0), .ref (a0 3), .ref (a0 5), .ref (a0 4), .long u_17.2.1, .int (u_17.1 1), .int (u_17.1 2), .ref (a0 6), .int (u_17.1 3), .int (u_17.1 4), .ref (a0 7), .int (u_17.1 5), .int (u_17.1 6), .int (u_17.1 7), .int (u_17.1 8), .int (u_17.1 9), .int (u_17.1 10), .int (u_17.1 11), .int (u_17.1 12), .int (u_17.1 13), .int (u_17.1 14)])), ((a0 1), .inl (q 1, 6896, .inr (.inl (u_17.2.2.1 0)))), ((a0 2), .inl (q 1, 68960, .inr (.inl (u_17.2.2.1 1)))), ((a0 3), .inl (q 1, 13792, .inr (.inl (u_17.2.2.1 2)))), ((a0 4), .inl (q 1, 6896, .inr (.inl (u_17.2.2.1 3)))), ((a0 5), .inl (q 3, 2, .inl (u_17.2.2.2 0))), ((a0 6), .inl (q 0, 40, .inl (u_17.2.2.2 1))), ((a0 7), .inl (q 2, 400, .inl (u_17.2.2.2 2)))] := hD
                refine lv_iload_n hx hb dX7_best_89 rfl (lv_at hl 3 rfl) ?_
                refine lv_iconst (v := (-1)) hx hb dX7_best_90 (by decide) ?_
                refine lv_icmp_eq (tgt := 121) hx hb dX7_best_91 (by decide) (fun c_18 => ?_) (fun c_18 => ?_)
                · replace h := h.1 c_18
                  refine lv_iload hx hb dX7_best_121 (lv_at hl 6 rfl) ?_
                  refine lv_istore_n (lv' := [(3, .int z6), (8, .int (r_8 - z7)), (1, .int z1), (2, .int z2), (4, .int z4), (5, .int z5), (6, .int z6), (7, .int z7), (0, .ref (a0 0))]) hx hb dX7_best_123 rfl hl (by decide) rfl (fun ls hl => ?_)
                  refine lv_aload_n hx hb dX7_best_124 rfl (lv_at hl 8 rfl) ?_
                  refine fl_get (C := RX7) (T := TX7) (N := 23) (ci := 6) (v := .int (u_17.1 3)) hx hb ht in_X7 hown hK hP 0 rfl rfl 10 (by decide) mw_1140 rfl dX7_best_125 ?_
                  refine lv_istore (lv' := [(4, .int (u_17.1 3)), (3, .int z6), (8, .int (r_8 - z7)), (1, .int z1), (2, .int z2), (5, .int z5), (6, .int z6), (7, .int z7), (0, .ref (a0 0))]) hx hb dX7_best_128 hl (by decide) rfl (fun ls hl => ?_)
                  refine lv_aload_n hx hb dX7_best_130 rfl (lv_at hl 8 rfl) ?_
                  refine fl_get (C := RX7) (T := TX7) (N := 23) (ci := 6) (v := .int (u_17.1 4)) hx hb ht in_X7 hown hK hP 0 rfl rfl 11 (by decide) mw_1141 rfl dX7_best_131 ?_
                  refine lv_istore (lv' := [(5, .int (u_17.1 4)), (4, .int (u_17.1 3)), (3, .int z6), (8, .int (r_8 - z7)), (1, .int z1), (2, .int z2), (6, .int z6), (7, .int z7), (0, .ref (a0 0))]) hx hb dX7_best_134 hl (by decide) rfl (fun ls hl => ?_)
                  refine lv_iinc (v := (z6 + 1)) (lv' := [(6, .int (z6 + 1)), (5, .int (u_17.1 4)), (4, .int (u_17.1 3)), (3, .int z6), (8, .int (r_8 - z7)), (1, .int z1), (2, .int z2), (7, .int z7), (0, .ref (a0 0))]) hx hb dX7_best_136 hl (k := 6) rfl rfl (by decide) rfl (fun ls hl => ?_)
                  refine lv_aload_n hx hb dX7_best_139 rfl (lv_at hl 8 rfl) ?_
                  refine lv_iload hx hb dX7_best_140 (lv_at hl 7 rfl) ?_
                  refine vp_callSi (rd_wV (wc := md_v a0 q u_17) (As := [.int z7]) (rest := []) hx hb hml hown ht (c2_X7_endOf h) wd_X7_endOf mw_1499 hQ hV hS (hP.sub [0, 1, 2, 3, 4, 5, 6, 7] rfl) rfl rfl rfl hl.1 rfl (Nat.le_of_ble_eq_true rfl) dX7_best_142 ⟨Nat.le_of_ble_eq_true rfl, Nat.le_of_ble_eq_true rfl, rfl, rfl⟩ ⟨Nat.le_of_ble_eq_true rfl, Nat.le_of_ble_eq_true rfl⟩) (fun r_19 h => ?_)
                  try dsimp only at h
                  refine lv_iconst (v := 1) hx hb dX7_best_145 (by decide) ?_
                  refine lv_iadd hx hb dX7_best_146 ?_
                  refine lv_istore (lv' := [(7, .int (r_19 + 1)), (6, .int (z6 + 1)), (5, .int (u_17.1 4)), (4, .int (u_17.1 3)), (3, .int z6), (8, .int (r_8 - z7)), (1, .int z1), (2, .int z2), (0, .ref (a0 0))]) hx hb dX7_best_147 hl (by decide) rfl (fun ls hl => ?_)
                  refine lv_goto (tgt := 36) hx hb dX7_best_149 (by decide) ?_
                  exact ih _ _ _ _ _ _ _ _ _ _ ls h (hP.sub (ws' := md_v a0 q u_17) [0, 1, 2, 3, 4, 5, 6, 7] rfl) (hD.sub (ws' := md_v a0 q u_17) [0, 1, 2, 3, 4, 5, 6, 7] (by decide) rfl) hS (lv_sub hl [6, 7, 4, 3, 2, 1, 0, 8] rfl)
                · replace h := h.2 c_18
                  refine lv_aload_n hx hb dX7_best_94 rfl (lv_at hl 8 rfl) ?_
                  refine fl_get (C := RX7) (T := TX7) (N := 23) (ci := 6) (v := .int (u_17.1 3)) hx hb ht in_X7 hown hK hP 0 rfl rfl 10 (by decide) mw_1140 rfl dX7_best_95 ?_
                  refine lv_iload hx hb dX7_best_98 (lv_at hl 4 rfl) ?_
                  refine lv_icmp_lt (tgt := 121) hx hb dX7_best_100 (by decide) (fun c_21 => ?_) (fun c_21 => ?_)
                  · replace h := h.1 c_21
                    refine lv_iload hx hb dX7_best_121 (lv_at hl 6 rfl) ?_
                    refine lv_istore_n (lv' := [(3, .int z6), (8, .int (r_8 - z7)), (1, .int z1), (2, .int z2), (4, .int z4), (5, .int z5), (6, .int z6), (7, .int z7), (0, .ref (a0 0))]) hx hb dX7_best_123 rfl hl (by decide) rfl (fun ls hl => ?_)
                    refine lv_aload_n hx hb dX7_best_124 rfl (lv_at hl 8 rfl) ?_
                    refine fl_get (C := RX7) (T := TX7) (N := 23) (ci := 6) (v := .int (u_17.1 3)) hx hb ht in_X7 hown hK hP 0 rfl rfl 10 (by decide) mw_1140 rfl dX7_best_125 ?_
                    refine lv_istore (lv' := [(4, .int (u_17.1 3)), (3, .int z6), (8, .int (r_8 - z7)), (1, .int z1), (2, .int z2), (5, .int z5), (6, .int z6), (7, .int z7), (0, .ref (a0 0))]) hx hb dX7_best_128 hl (by decide) rfl (fun ls hl => ?_)
                    refine lv_aload_n hx hb dX7_best_130 rfl (lv_at hl 8 rfl) ?_
                    refine fl_get (C := RX7) (T := TX7) (N := 23) (ci := 6) (v := .int (u_17.1 4)) hx hb ht in_X7 hown hK hP 0 rfl rfl 11 (by decide) mw_1141 rfl dX7_best_131 ?_
                    refine lv_istore (lv' := [(5, .int (u_17.1 4)), (4, .int (u_17.1 3)), (3, .int z6), (8, .int (r_8 - z7)), (1, .int z1), (2, .int z2), (6, .int z6), (7, .int z7), (0, .ref (a0 0))]) hx hb dX7_best_134 hl (by decide) rfl (fun ls hl => ?_)
                    refine lv_iinc (v := (z6 + 1)) (lv' := [(6, .int (z6 + 1)), (5, .int (u_17.1 4)), (4, .int (u_17.1 3)), (3, .int z6), (8, .int (r_8 - z7)), (1, .int z1), (2, .int z2), (7, .int z7), (0, .ref (a0 0))]) hx hb dX7_best_136 hl (k := 6) rfl rfl (by decide) rfl (fun ls hl => ?_)
                    refine lv_aload_n hx hb dX7_best_139 rfl (lv_at hl 8 rfl) ?_
                    refine lv_iload hx hb dX7_best_140 (lv_at hl 7 rfl) ?_
                    refine vp_callSi (rd_wV (wc := md_v a0 q u_17) (As := [.int z7]) (rest := []) hx hb hml hown ht (c2_X7_endOf h) wd_X7_endOf mw_1499 hQ hV hS (hP.sub [0, 1, 2, 3, 4, 5, 6, 7] rfl) rfl rfl rfl hl.1 rfl (Nat.le_of_ble_eq_true rfl) dX7_best_142 ⟨Nat.le_of_ble_eq_true rfl, Nat.le_of_ble_eq_true rfl, rfl, rfl⟩ ⟨Nat.le_of_ble_eq_true rfl, Nat.le_of_ble_eq_true rfl⟩) (fun r_22 h => ?_)
                    try dsimp only at h
                    refine lv_iconst (v := 1) hx hb dX7_best_145 (by decide) ?_
                    refine lv_iadd hx hb dX7_best_146 ?_
                    refine lv_istore (lv' := [(7, .int (r_22 + 1)), (6, .int (z6 + 1)), (5, .int (u_17.1 4)), (4, .int (u_17.1 3)), (3, .int z6), (8, .int (r_8 - z7)), (1, .int z1), (2, .int z2), (0, .ref (a0 0))]) hx hb dX7_best_147 hl (by decide) rfl (fun ls hl => ?_)
                    refine lv_goto (tgt := 36) hx hb dX7_best_149 (by decide) ?_
                    exact ih _ _ _ _ _ _ _ _ _ _ ls h (hP.sub (ws' := md_v a0 q u_17) [0, 1, 2, 3, 4, 5, 6, 7] rfl) (hD.sub (ws' := md_v a0 q u_17) [0, 1, 2, 3, 4, 5, 6, 7] (by decide) rfl) hS (lv_sub hl [6, 7, 4, 3, 2, 1, 0, 8] rfl)
                  · replace h := h.2 c_21
                    refine lv_aload_n hx hb dX7_best_103 rfl (lv_at hl 8 rfl) ?_
                    refine fl_get (C := RX7) (T := TX7) (N := 23) (ci := 6) (v := .int (u_17.1 3)) hx hb ht in_X7 hown hK hP 0 rfl rfl 10 (by decide) mw_1140 rfl dX7_best_104 ?_
                    refine lv_iload hx hb dX7_best_107 (lv_at hl 4 rfl) ?_
                    refine lv_icmp_ne (tgt := 136) hx hb dX7_best_109 (by decide) (fun c_24 => ?_) (fun c_24 => ?_)
                    · replace h := h.1 c_24
                      refine lv_iinc (v := (z6 + 1)) (lv' := [(6, .int (z6 + 1)), (8, .int (r_8 - z7)), (1, .int z1), (2, .int z2), (3, .int z3), (4, .int z4), (5, .int z5), (7, .int z7), (0, .ref (a0 0))]) hx hb dX7_best_136 hl (k := 6) rfl rfl (by decide) rfl (fun ls hl => ?_)
                      refine lv_aload_n hx hb dX7_best_139 rfl (lv_at hl 8 rfl) ?_
                      refine lv_iload hx hb dX7_best_140 (lv_at hl 7 rfl) ?_
                      refine vp_callSi (rd_wV (wc := md_v a0 q u_17) (As := [.int z7]) (rest := []) hx hb hml hown ht (c2_X7_endOf h) wd_X7_endOf mw_1499 hQ hV hS (hP.sub [0, 1, 2, 3, 4, 5, 6, 7] rfl) rfl rfl rfl hl.1 rfl (Nat.le_of_ble_eq_true rfl) dX7_best_142 ⟨Nat.le_of_ble_eq_true rfl, Nat.le_of_ble_eq_true rfl, rfl, rfl⟩ ⟨Nat.le_of_ble_eq_true rfl, Nat.le_of_ble_eq_true rfl⟩) (fun r_25 h => ?_)
                      try dsimp only at h
                      refine lv_iconst (v := 1) hx hb dX7_best_145 (by decide) ?_
                      refine lv_iadd hx hb dX7_best_146 ?_
                      refine lv_istore (lv' := [(7, .int (r_25 + 1)), (6, .int (z6 + 1)), (8, .int (r_8 - z7)), (1, .int z1), (2, .int z2), (3, .int z3), (4, .int z4), (5, .int z5), (0, .ref (a0 0))]) hx hb dX7_best_147 hl (by decide) rfl (fun ls hl => ?_)
                      refine lv_goto (tgt := 36) hx hb dX7_best_149 (by decide) ?_
                      exact ih _ _ _ _ _ _ _ _ _ _ ls h (hP.sub (ws' := md_v a0 q u_17) [0, 1, 2, 3, 4, 5, 6, 7] rfl) (hD.sub (ws' := md_v a0 q u_17) [0, 1, 2, 3, 4, 5, 6, 7] (by decide) rfl) hS (lv_sub hl [3, 4, 5, 6, 7, 1, 0, 8] rfl)
                    · replace h := h.2 c_24
                      refine lv_aload_n hx hb dX7_best_112 rfl (lv_at hl 8 rfl) ?_
                      refine fl_get (C := RX7) (T := TX7) (N := 23) (ci := 6) (v := .int (u_17.1 4)) hx hb ht in_X7 hown hK hP 0 rfl rfl 11 (by decide) mw_1141 rfl dX7_best_113 ?_
                      refine lv_iload hx hb dX7_best_116 (lv_at hl 5 rfl) ?_
                      refine lv_icmp_ge (tgt := 136) hx hb dX7_best_118 (by decide) (fun c_27 => ?_) (fun c_27 => ?_)
                      · replace h := h.1 c_27
                        refine lv_iinc (v := (z6 + 1)) (lv' := [(6, .int (z6 + 1)), (8, .int (r_8 - z7)), (1, .int z1), (2, .int z2), (3, .int z3), (4, .int z4), (5, .int z5), (7, .int z7), (0, .ref (a0 0))]) hx hb dX7_best_136 hl (k := 6) rfl rfl (by decide) rfl (fun ls hl => ?_)
                        refine lv_aload_n hx hb dX7_best_139 rfl (lv_at hl 8 rfl) ?_
                        refine lv_iload hx hb dX7_best_140 (lv_at hl 7 rfl) ?_
                        refine vp_callSi (rd_wV (wc := md_v a0 q u_17) (As := [.int z7]) (rest := []) hx hb hml hown ht (c2_X7_endOf h) wd_X7_endOf mw_1499 hQ hV hS (hP.sub [0, 1, 2, 3, 4, 5, 6, 7] rfl) rfl rfl rfl hl.1 rfl (Nat.le_of_ble_eq_true rfl) dX7_best_142 ⟨Nat.le_of_ble_eq_true rfl, Nat.le_of_ble_eq_true rfl, rfl, rfl⟩ ⟨Nat.le_of_ble_eq_true rfl, Nat.le_of_ble_eq_true rfl⟩) (fun r_28 h => ?_)
                        try dsimp only at h
                        refine lv_iconst (v := 1) hx hb dX7_best_145 (by decide) ?_
                        refine lv_iadd hx hb dX7_best_146 ?_
                        refine lv_istore (lv' := [(7, .int (r_28 + 1)), (6, .int (z6 + 1)), (8, .int (r_8 - z7)), (1, .int z1), (2, .int z2), (3, .int z3), (4, .int z4), (5, .int z5), (0, .ref (a0 0))]) hx hb dX7_best_147 hl (by decide) rfl (fun ls hl => ?_)
                        refine lv_goto (tgt := 36) hx hb dX7_best_149 (by decide) ?_
                        exact ih _ _ _ _ _ _ _ _ _ _ ls h (hP.sub (ws' := md_v a0 q u_17) [0, 1, 2, 3, 4, 5, 6, 7] rfl) (hD.sub (ws' := md_v a0 q u_17) [0, 1, 2, 3, 4, 5, 6, 7] (by decide) rfl) hS (lv_sub hl [3, 4, 5, 6, 7, 1, 0, 8] rfl)
                      · replace h := h.2 c_27
                        refine lv_iload hx hb dX7_best_121 (lv_at hl 6 rfl) ?_
                        refine lv_istore_n (lv' := [(3, .int z6), (8, .int (r_8 - z7)), (1, .int z1), (2, .int z2), (4, .int z4), (5, .int z5), (6, .int z6), (7, .int z7), (0, .ref (a0 0))]) hx hb dX7_best_123 rfl hl (by decide) rfl (fun ls hl => ?_)
                        refine lv_aload_n hx hb dX7_best_124 rfl (lv_at hl 8 rfl) ?_
                        refine fl_get (C := RX7) (T := TX7) (N := 23) (ci := 6) (v := .int (u_17.1 3)) hx hb ht in_X7 hown hK hP 0 rfl rfl 10 (by decide) mw_1140 rfl dX7_best_125 ?_
                        refine lv_istore (lv' := [(4, .int (u_17.1 3)), (3, .int z6), (8, .int (r_8 - z7)), (1, .int z1), (2, .int z2), (5, .int z5), (6, .int z6), (7, .int z7), (0, .ref (a0 0))]) hx hb dX7_best_128 hl (by decide) rfl (fun ls hl => ?_)
                        refine lv_aload_n hx hb dX7_best_130 rfl (lv_at hl 8 rfl) ?_
                        refine fl_get (C := RX7) (T := TX7) (N := 23) (ci := 6) (v := .int (u_17.1 4)) hx hb ht in_X7 hown hK hP 0 rfl rfl 11 (by decide) mw_1141 rfl dX7_best_131 ?_
                        refine lv_istore (lv' := [(5, .int (u_17.1 4)), (4, .int (u_17.1 3)), (3, .int z6), (8, .int (r_8 - z7)), (1, .int z1), (2, .int z2), (6, .int z6), (7, .int z7), (0, .ref (a0 0))]) hx hb dX7_best_134 hl (by decide) rfl (fun ls hl => ?_)
                        refine lv_iinc (v := (z6 + 1)) (lv' := [(6, .int (z6 + 1)), (5, .int (u_17.1 4)), (4, .int (u_17.1 3)), (3, .int z6), (8, .int (r_8 - z7)), (1, .int z1), (2, .int z2), (7, .int z7), (0, .ref (a0 0))]) hx hb dX7_best_136 hl (k := 6) rfl rfl (by decide) rfl (fun ls hl => ?_)
                        refine lv_aload_n hx hb dX7_best_139 rfl (lv_at hl 8 rfl) ?_
                        refine lv_iload hx hb dX7_best_140 (lv_at hl 7 rfl) ?_
                        refine vp_callSi (rd_wV (wc := md_v a0 q u_17) (As := [.int z7]) (rest := []) hx hb hml hown ht (c2_X7_endOf h) wd_X7_endOf mw_1499 hQ hV hS (hP.sub [0, 1, 2, 3, 4, 5, 6, 7] rfl) rfl rfl rfl hl.1 rfl (Nat.le_of_ble_eq_true rfl) dX7_best_142 ⟨Nat.le_of_ble_eq_true rfl, Nat.le_of_ble_eq_true rfl, rfl, rfl⟩ ⟨Nat.le_of_ble_eq_true rfl, Nat.le_of_ble_eq_true rfl⟩) (fun r_30 h => ?_)
                        try dsimp only at h
                        refine lv_iconst (v := 1) hx hb dX7_best_145 (by decide) ?_
                        refine lv_iadd hx hb dX7_best_146 ?_
                        refine lv_istore (lv' := [(7, .int (r_30 + 1)), (6, .int (z6 + 1)), (5, .int (u_17.1 4)), (4, .int (u_17.1 3)), (3, .int z6), (8, .int (r_8 - z7)), (1, .int z1), (2, .int z2), (0, .ref (a0 0))]) hx hb dX7_best_147 hl (by decide) rfl (fun ls hl => ?_)
                        refine lv_goto (tgt := 36) hx hb dX7_best_149 (by decide) ?_
                        exact ih _ _ _ _ _ _ _ _ _ _ ls h (hP.sub (ws' := md_v a0 q u_17) [0, 1, 2, 3, 4, 5, 6, 7] rfl) (hD.sub (ws' := md_v a0 q u_17) [0, 1, 2, 3, 4, 5, 6, 7] (by decide) rfl) hS (lv_sub hl [6, 7, 4, 3, 2, 1, 0, 8] rfl)
              · replace h := h.2 c_15
                refine lv_bipush (v := (-2)) hx hb dX7_best_76 (by decide) ?_
                exact mt_iret t0 hx hb hr hk h (hP.sub (ws' := md_v a0 q t0) [0, 1, 2, 3, 4, 5, 6, 7] rfl) (hD.sub (ws' := md_v a0 q t0) [0, 1, 2, 3, 4, 5, 6, 7] (by decide) rfl) hS dX7_best_78
      obtain ⟨n36, h⟩ := h
      refine lp36 _ ?_ n36 _ _ _ _ _ _ _ _ _ _ ls h (hP.sub (ws' := md_v a0 q s0) [0, 1, 2, 3, 4, 5, 6, 7] rfl) (hD.sub (ws' := md_v a0 q s0) [0, 1, 2, 3, 4, 5, 6, 7] (by decide) rfl) hS (lv_sub hl [6, 7, 4, 3, 2, 1, 0, 5] rfl)
      · intro t0 z1 z2 z3 z4 z5 z6 z7 H locs ls h hP hD hS hl
        try dsimp only at h
        have hP : va_P D vwCl [((a0 0), .inr (6, [.ref (a0 1), .ref (a0 2), .int (t0.1 0), .ref (a0 3), .ref (a0 5), .ref (a0 4), .long t0.2.1, .int (t0.1 1), .int (t0.1 2), .ref (a0 6), .int (t0.1 3), .int (t0.1 4), .ref (a0 7), .int (t0.1 5), .int (t0.1 6), .int (t0.1 7), .int (t0.1 8), .int (t0.1 9), .int (t0.1 10), .int (t0.1 11), .int (t0.1 12), .int (t0.1 13), .int (t0.1 14)])), ((a0 1), .inl (q 1, 6896, .inr (.inl (t0.2.2.1 0)))), ((a0 2), .inl (q 1, 68960, .inr (.inl (t0.2.2.1 1)))), ((a0 3), .inl (q 1, 13792, .inr (.inl (t0.2.2.1 2)))), ((a0 4), .inl (q 1, 6896, .inr (.inl (t0.2.2.1 3)))), ((a0 5), .inl (q 3, 2, .inl (t0.2.2.2 0))), ((a0 6), .inl (q 0, 40, .inl (t0.2.2.2 1))), ((a0 7), .inl (q 2, 400, .inl (t0.2.2.2 2)))] H := hP
        have hD : va_D _ [((a0 0), .inr (6, [.ref (a0 1), .ref (a0 2), .int (t0.1 0), .ref (a0 3), .ref (a0 5), .ref (a0 4), .long t0.2.1, .int (t0.1 1), .int (t0.1 2), .ref (a0 6), .int (t0.1 3), .int (t0.1 4), .ref (a0 7), .int (t0.1 5), .int (t0.1 6), .int (t0.1 7), .int (t0.1 8), .int (t0.1 9), .int (t0.1 10), .int (t0.1 11), .int (t0.1 12), .int (t0.1 13), .int (t0.1 14)])), ((a0 1), .inl (q 1, 6896, .inr (.inl (t0.2.2.1 0)))), ((a0 2), .inl (q 1, 68960, .inr (.inl (t0.2.2.1 1)))), ((a0 3), .inl (q 1, 13792, .inr (.inl (t0.2.2.1 2)))), ((a0 4), .inl (q 1, 6896, .inr (.inl (t0.2.2.1 3)))), ((a0 5), .inl (q 3, 2, .inl (t0.2.2.2 0))), ((a0 6), .inl (q 0, 40, .inl (t0.2.2.2 1))), ((a0 7), .inl (q 2, 400, .inl (t0.2.2.2 2)))] := hD
        refine lv_iload_n hx hb dX7_best_152 rfl (lv_at hl 1 rfl) ?_
        refine lv_if_ne (tgt := 160) hx hb dX7_best_153 (by decide) (fun c_32 => ?_) (fun c_32 => ?_)
        · replace h := h.1 c_32
          refine lv_iload_n hx hb dX7_best_160 rfl (lv_at hl 1 rfl) ?_
          refine lv_iconst (v := 1) hx hb dX7_best_161 (by decide) ?_
          refine lv_icmp_ne (tgt := 170) hx hb dX7_best_162 (by decide) (fun c_33 => ?_) (fun c_33 => ?_)
          · replace h := h.1 c_33
            refine lv_iload hx hb dX7_best_170 (lv_at hl 4 rfl) ?_
            exact mt_iret t0 hx hb hr hk h (hP.sub (ws' := md_v a0 q t0) [0, 1, 2, 3, 4, 5, 6, 7] rfl) (hD.sub (ws' := md_v a0 q t0) [0, 1, 2, 3, 4, 5, 6, 7] (by decide) rfl) hS dX7_best_172
          · replace h := h.2 c_33
            refine lv_iload hx hb dX7_best_165 (lv_at hl 3 rfl) ?_
            refine lv_goto (tgt := 172) hx hb dX7_best_167 (by decide) ?_
            exact mt_iret t0 hx hb hr hk h (hP.sub (ws' := md_v a0 q t0) [0, 1, 2, 3, 4, 5, 6, 7] rfl) (hD.sub (ws' := md_v a0 q t0) [0, 1, 2, 3, 4, 5, 6, 7] (by decide) rfl) hS dX7_best_172
        · replace h := h.2 c_32
          refine lv_iload_n hx hb dX7_best_156 rfl (lv_at hl 2 rfl) ?_
          refine lv_goto (tgt := 172) hx hb dX7_best_157 (by decide) ?_
          exact mt_iret t0 hx hb hr hk h (hP.sub (ws' := md_v a0 q t0) [0, 1, 2, 3, 4, 5, 6, 7] rfl) (hD.sub (ws' := md_v a0 q t0) [0, 1, 2, 3, 4, 5, 6, 7] (by decide) rfl) hS dX7_best_172
    · replace h := h.2 c_6
      refine lv_iconst (v := (-1)) hx hb dX7_best_20 (by decide) ?_
      exact mt_iret s0 hx hb hr hk h (hP.sub (ws' := md_v a0 q s0) [0, 1, 2, 3, 4, 5, 6, 7] rfl) (hD.sub (ws' := md_v a0 q s0) [0, 1, 2, 3, 4, 5, 6, 7] (by decide) rfl) hS dX7_best_21

def wp_X7_place_L52 (post : Int32 → Md → Prop) (e134 : Md → Int32 → Int32 → Int32 → Int32 → Int32 → Int32 → Prop) : Nat → Md → Int32 → Int32 → Int32 → Int32 → Int32 → Int32 → Prop
  | 0, _, _, _, _, _, _, _ => False
  | n52 + 1, t0, z1, z2, z3, z4, z5, z6 => wp_X7_wide (fun r_11 => ((r_11 < (z6 + (t0.1 5)) → e134 t0 z1 z2 z3 z4 z5 z6) ∧ (¬ r_11 < (z6 + (t0.1 5)) → wp_X7_asks (fun u_15 => ((z3 = (-1) → wp_X7_place_L52 post e134 n52 u_15 z1 z2 z6 (u_15.1 3) (u_15.1 4) (z6 + 1)) ∧ (¬ z3 = (-1) → ((z5 < (u_15.1 4) → wp_X7_place_L52 post e134 n52 u_15 z1 z2 z3 z4 z5 (z6 + 1)) ∧ (¬ z5 < (u_15.1 4) → ((¬ (u_15.1 4) = z5 → wp_X7_place_L52 post e134 n52 u_15 z1 z2 z6 (u_15.1 3) (u_15.1 4) (z6 + 1)) ∧ ((u_15.1 4) = z5 → (((u_15.1 3) < z4 → wp_X7_place_L52 post e134 n52 u_15 z1 z2 z6 (u_15.1 3) (u_15.1 4) (z6 + 1)) ∧ (¬ (u_15.1 3) < z4 → wp_X7_place_L52 post e134 n52 u_15 z1 z2 z3 z4 z5 (z6 + 1)))))))))) t0 z1 z6 (0 : Int32) (t0.1 5)))) t0
def wp_X7_place (post : Int32 → Md → Prop) (s0 : Md) (x1 : Int32) (x2 : Int32) : Prop := wp_X7_isRow (fun r_1 => ((r_1 = 0 → post (-1) s0) ∧ (¬ r_1 = 0 → wp_X7_in (fun r_4 => ((¬ r_4 = 0 → (((s0.1 5) = 0 → post (-2) s0) ∧ (¬ (s0.1 5) = 0 → wp_X7_isRowText (fun r_8 => ((¬ r_8 = 0 → (∃ n52, wp_X7_place_L52 post (fun t0 z1 z2 z3 z4 z5 z6 => ((¬ z2 = 0 → post z4 t0) ∧ (z2 = 0 → post z3 t0))) n52 s0 x1 x2 (-1) 0 0 0)) ∧ (r_8 = 0 → post (-2) s0))) s0 (s0.1 5)))) ∧ (r_4 = 0 → post (-1) s0))) (Int32.toInt64 x2) (0 : Int64) (1 : Int64)))) s0 x1
set_option maxHeartbeats 4000000 in
set_option maxRecDepth 100000 in
theorem c2_X7_place {l : Launch} {D : va_G} {q : Nat → ClassId} {sz : Nat} {a0 : Nat → Nat} {s0 : Md} {x1 : Int32} {x2 : Int32} {post : Int32 → Md → Prop} (h : wp_X7_place post s0 x1 x2) : Met l yX7_place (Cond.code yX7_place cX7_place 7 (some .int) :: w_all) ({ frames := 4, cells := 0, slots := 0, locals := 95 } : Room) (mt_P D q [.ref (a0 0), .int x1, .int x2] (md_v a0 q s0) sz) (va_Qi (fun r (u : Md) => post r u) (mt_B D (md_v a0 q s0) sz (fun u : Md => md_v a0 q u)) (va_A (md_v a0 q s0) sz)) 0 0 (va_A (md_v a0 q s0) sz) := by
  refine mt_start (by decide) (Nat.le_of_ble_eq_true rfl) ?_
  intro p e s m below meth c ls hx hb hr hml hown ht hk hin hP hQ hD hA hS hV hl
  have hK := hQ.1
  have hown : s.vm.findClass RX7 = some m.cls := hown
  have hl : lv_has ls 7 [(0, .ref (a0 0)), (1, .int x1), (2, .int x2)] := hl
  have hP : va_P D vwCl [((a0 0), .inr (6, [.ref (a0 1), .ref (a0 2), .int (s0.1 0), .ref (a0 3), .ref (a0 5), .ref (a0 4), .long s0.2.1, .int (s0.1 1), .int (s0.1 2), .ref (a0 6), .int (s0.1 3), .int (s0.1 4), .ref (a0 7), .int (s0.1 5), .int (s0.1 6), .int (s0.1 7), .int (s0.1 8), .int (s0.1 9), .int (s0.1 10), .int (s0.1 11), .int (s0.1 12), .int (s0.1 13), .int (s0.1 14)])), ((a0 1), .inl (q 1, 6896, .inr (.inl (s0.2.2.1 0)))), ((a0 2), .inl (q 1, 68960, .inr (.inl (s0.2.2.1 1)))), ((a0 3), .inl (q 1, 13792, .inr (.inl (s0.2.2.1 2)))), ((a0 4), .inl (q 1, 6896, .inr (.inl (s0.2.2.1 3)))), ((a0 5), .inl (q 3, 2, .inl (s0.2.2.2 0))), ((a0 6), .inl (q 0, 40, .inl (s0.2.2.2 1))), ((a0 7), .inl (q 2, 400, .inl (s0.2.2.2 2)))] s.heap := hP
  have hD : va_D _ [((a0 0), .inr (6, [.ref (a0 1), .ref (a0 2), .int (s0.1 0), .ref (a0 3), .ref (a0 5), .ref (a0 4), .long s0.2.1, .int (s0.1 1), .int (s0.1 2), .ref (a0 6), .int (s0.1 3), .int (s0.1 4), .ref (a0 7), .int (s0.1 5), .int (s0.1 6), .int (s0.1 7), .int (s0.1 8), .int (s0.1 9), .int (s0.1 10), .int (s0.1 11), .int (s0.1 12), .int (s0.1 13), .int (s0.1 14)])), ((a0 1), .inl (q 1, 6896, .inr (.inl (s0.2.2.1 0)))), ((a0 2), .inl (q 1, 68960, .inr (.inl (s0.2.2.1 1)))), ((a0 3), .inl (q 1, 13792, .inr (.inl (s0.2.2.1 2)))), ((a0 4), .inl (q 1, 6896, .inr (.inl (s0.2.2.1 3)))), ((a0 5), .inl (q 3, 2, .inl (s0.2.2.2 0))), ((a0 6), .inl (q 0, 40, .inl (s0.2.2.2 1))), ((a0 7), .inl (q 2, 400, .inl (s0.2.2.2 2)))] := hD
  unfold wp_X7_place at h
  refine lv_aload_n hx hb dX7_place_0 rfl (lv_at hl 0 rfl) ?_
  refine lv_iload_n hx hb dX7_place_1 rfl (lv_at hl 1 rfl) ?_
  refine vp_callSi (rd_wV (wc := md_v a0 q s0) (As := [.int x1]) (rest := []) hx hb hml hown ht (c2_X7_isRow h) wd_X7_isRow mw_1205 hQ hV hS (hP.sub [0, 1, 2, 3, 4, 5, 6, 7] rfl) rfl rfl rfl hl.1 rfl (Nat.le_of_ble_eq_true rfl) dX7_place_2 ⟨Nat.le_of_ble_eq_true rfl, Nat.le_of_ble_eq_true rfl, rfl, rfl⟩ ⟨Nat.le_of_ble_eq_true rfl, Nat.le_of_ble_eq_true rfl⟩) (fun r_1 h => ?_)
  try dsimp only at h
  refine lv_if_eq (tgt := 18) hx hb dX7_place_5 (by decide) (fun c_3 => ?_) (fun c_3 => ?_)
  · replace h := h.1 c_3
    refine lv_iconst (v := (-1)) hx hb dX7_place_18 (by decide) ?_
    exact mt_iret s0 hx hb hr hk h (hP.sub (ws' := md_v a0 q s0) [0, 1, 2, 3, 4, 5, 6, 7] rfl) (hD.sub (ws' := md_v a0 q s0) [0, 1, 2, 3, 4, 5, 6, 7] (by decide) rfl) hS dX7_place_19
  · replace h := h.2 c_3
    refine lv_iload_n hx hb dX7_place_8 rfl (lv_at hl 2 rfl) ?_
    refine lv_i2l (v := (Int32.toInt64 x2)) hx hb dX7_place_9 rfl ?_
    refine lv_lconst (v := 0) hx hb dX7_place_10 (by decide) ?_
    refine lv_lconst (v := 1) hx hb dX7_place_11 (by decide) ?_
    refine vp_callSi (rd_wS (wc := ([] : va_W)) (As := [.long (Int32.toInt64 x2), .long 0, .long 1]) (rest := []) hx hb hml hown ht (c2_X7_in h) wd_X7_in mw_1213 hQ hV hS (hP.sub [] rfl) rfl hl.1 rfl (Nat.le_of_ble_eq_true rfl) dX7_place_12 ⟨Nat.le_of_ble_eq_true rfl, Nat.le_of_ble_eq_true rfl, rfl, rfl⟩ ⟨Nat.le_of_ble_eq_true rfl, Nat.le_of_ble_eq_true rfl⟩) (fun r_4 h => ?_)
    try dsimp only at h
    refine lv_if_ne (tgt := 20) hx hb dX7_place_15 (by decide) (fun c_6 => ?_) (fun c_6 => ?_)
    · replace h := h.1 c_6
      refine lv_aload_n hx hb dX7_place_20 rfl (lv_at hl 0 rfl) ?_
      refine fl_get (C := RX7) (T := TX7) (N := 23) (ci := 6) (v := .int (s0.1 5)) hx hb ht in_X7 hown hK hP 0 rfl rfl 13 (by decide) mw_1143 rfl dX7_place_21 ?_
      refine lv_if_eq (tgt := 38) hx hb dX7_place_24 (by decide) (fun c_7 => ?_) (fun c_7 => ?_)
      · replace h := h.1 c_7
        refine lv_bipush (v := (-2)) hx hb dX7_place_38 (by decide) ?_
        exact mt_iret s0 hx hb hr hk h (hP.sub (ws' := md_v a0 q s0) [0, 1, 2, 3, 4, 5, 6, 7] rfl) (hD.sub (ws' := md_v a0 q s0) [0, 1, 2, 3, 4, 5, 6, 7] (by decide) rfl) hS dX7_place_40
      · replace h := h.2 c_7
        refine lv_aload_n hx hb dX7_place_27 rfl (lv_at hl 0 rfl) ?_
        refine lv_aload_n hx hb dX7_place_28 rfl (lv_at hl 0 rfl) ?_
        refine fl_get (C := RX7) (T := TX7) (N := 23) (ci := 6) (v := .int (s0.1 5)) hx hb ht in_X7 hown hK hP 0 rfl rfl 13 (by decide) mw_1143 rfl dX7_place_29 ?_
        refine vp_callSi (rd_wV (wc := md_v a0 q s0) (As := [.int (s0.1 5)]) (rest := []) hx hb hml hown ht (c2_X7_isRowText h) wd_X7_isRowText mw_1216 hQ hV hS (hP.sub [0, 1, 2, 3, 4, 5, 6, 7] rfl) rfl rfl rfl hl.1 rfl (Nat.le_of_ble_eq_true rfl) dX7_place_32 ⟨Nat.le_of_ble_eq_true rfl, Nat.le_of_ble_eq_true rfl, rfl, rfl⟩ ⟨Nat.le_of_ble_eq_true rfl, Nat.le_of_ble_eq_true rfl⟩) (fun r_8 h => ?_)
        try dsimp only at h
        refine lv_if_ne (tgt := 41) hx hb dX7_place_35 (by decide) (fun c_10 => ?_) (fun c_10 => ?_)
        · replace h := h.1 c_10
          refine lv_iconst (v := (-1)) hx hb dX7_place_41 (by decide) ?_
          refine lv_istore_n (lv' := [(3, .int (-1)), (0, .ref (a0 0)), (1, .int x1), (2, .int x2)]) hx hb dX7_place_42 rfl hl (by decide) rfl (fun ls hl => ?_)
          refine lv_iconst (v := 0) hx hb dX7_place_43 (by decide) ?_
          refine lv_istore (lv' := [(4, .int 0), (3, .int (-1)), (0, .ref (a0 0)), (1, .int x1), (2, .int x2)]) hx hb dX7_place_44 hl (by decide) rfl (fun ls hl => ?_)
          refine lv_iconst (v := 0) hx hb dX7_place_46 (by decide) ?_
          refine lv_istore (lv' := [(5, .int 0), (4, .int 0), (3, .int (-1)), (0, .ref (a0 0)), (1, .int x1), (2, .int x2)]) hx hb dX7_place_47 hl (by decide) rfl (fun ls hl => ?_)
          refine lv_iconst (v := 0) hx hb dX7_place_49 (by decide) ?_
          refine lv_istore (lv' := [(6, .int 0), (5, .int 0), (4, .int 0), (3, .int (-1)), (0, .ref (a0 0)), (1, .int x1), (2, .int x2)]) hx hb dX7_place_50 hl (by decide) rfl (fun ls hl => ?_)
          have lp52 : ∀ (e134 : Md → Int32 → Int32 → Int32 → Int32 → Int32 → Int32 → Prop) (k134 : ∀ (t0 : Md) (z1 : Int32) (z2 : Int32) (z3 : Int32) (z4 : Int32) (z5 : Int32) (z6 : Int32) (H : Heap) (locs : List Loc) (ls : Array Slot), e134 t0 z1 z2 z3 z4 z5 z6 → va_P D vwCl (md_v a0 q t0) H → va_D (va_A (md_v a0 q s0) sz) (md_v a0 q t0) → va_S (va_A (md_v a0 q s0) sz) s.heap H locs → lv_has ls 7 [(1, .int z1), (2, .int z2), (3, .int z3), (4, .int z4), (5, .int z5), (6, .int z6), (0, .ref (a0 0))] → W p l e ({ frames := 4, cells := 0, slots := 0, locals := 95 } : Room) s m [.ref (a0 0), .int x1, .int x2].toArray below meth c H locs 0 0 (MQ below (va_Qi (fun r (u : Md) => post r u) (mt_B D (md_v a0 q s0) sz (fun u : Md => md_v a0 q u)) (va_A (md_v a0 q s0) sz)) [.ref (a0 0), .int x1, .int x2].toArray s 0 0 (va_A (md_v a0 q s0) sz)) (F0 m 134 ls [])) (n : Nat) (t0 : Md) (z1 : Int32) (z2 : Int32) (z3 : Int32) (z4 : Int32) (z5 : Int32) (z6 : Int32) (H : Heap) (locs : List Loc) (ls : Array Slot), wp_X7_place_L52 post e134 n t0 z1 z2 z3 z4 z5 z6 → va_P D vwCl (md_v a0 q t0) H → va_D (va_A (md_v a0 q s0) sz) (md_v a0 q t0) → va_S (va_A (md_v a0 q s0) sz) s.heap H locs → lv_has ls 7 [(1, .int z1), (2, .int z2), (3, .int z3), (4, .int z4), (5, .int z5), (6, .int z6), (0, .ref (a0 0))] → W p l e ({ frames := 4, cells := 0, slots := 0, locals := 95 } : Room) s m [.ref (a0 0), .int x1, .int x2].toArray below meth c H locs 0 0 (MQ below (va_Qi (fun r (u : Md) => post r u) (mt_B D (md_v a0 q s0) sz (fun u : Md => md_v a0 q u)) (va_A (md_v a0 q s0) sz)) [.ref (a0 0), .int x1, .int x2].toArray s 0 0 (va_A (md_v a0 q s0) sz)) (F0 m 52 ls []) := by
            intro e134 k134 n
            induction n with
            | zero =>
              intro t0 z1 z2 z3 z4 z5 z6 H locs ls h
              exact h.elim
            | succ n ih =>
              intro t0 z1 z2 z3 z4 z5 z6 H locs ls h hP hD hS hl
              have hP : va_P D vwCl [((a0 0), .inr (6, [.ref (a0 1), .ref (a0 2), .int (t0.1 0), .ref (a0 3), .ref (a0 5), .ref (a0 4), .long t0.2.1, .int (t0.1 1), .int (t0.1 2), .ref (a0 6), .int (t0.1 3), .int (t0.1 4), .ref (a0 7), .int (t0.1 5), .int (t0.1 6), .int (t0.1 7), .int (t0.1 8), .int (t0.1 9), .int (t0.1 10), .int (t0.1 11), .int (t0.1 12), .int (t0.1 13), .int (t0.1 14)])), ((a0 1), .inl (q 1, 6896, .inr (.inl (t0.2.2.1 0)))), ((a0 2), .inl (q 1, 68960, .inr (.inl (t0.2.2.1 1)))), ((a0 3), .inl (q 1, 13792, .inr (.inl (t0.2.2.1 2)))), ((a0 4), .inl (q 1, 6896, .inr (.inl (t0.2.2.1 3)))), ((a0 5), .inl (q 3, 2, .inl (t0.2.2.2 0))), ((a0 6), .inl (q 0, 40, .inl (t0.2.2.2 1))), ((a0 7), .inl (q 2, 400, .inl (t0.2.2.2 2)))] H := hP
              have hD : va_D _ [((a0 0), .inr (6, [.ref (a0 1), .ref (a0 2), .int (t0.1 0), .ref (a0 3), .ref (a0 5), .ref (a0 4), .long t0.2.1, .int (t0.1 1), .int (t0.1 2), .ref (a0 6), .int (t0.1 3), .int (t0.1 4), .ref (a0 7), .int (t0.1 5), .int (t0.1 6), .int (t0.1 7), .int (t0.1 8), .int (t0.1 9), .int (t0.1 10), .int (t0.1 11), .int (t0.1 12), .int (t0.1 13), .int (t0.1 14)])), ((a0 1), .inl (q 1, 6896, .inr (.inl (t0.2.2.1 0)))), ((a0 2), .inl (q 1, 68960, .inr (.inl (t0.2.2.1 1)))), ((a0 3), .inl (q 1, 13792, .inr (.inl (t0.2.2.1 2)))), ((a0 4), .inl (q 1, 6896, .inr (.inl (t0.2.2.1 3)))), ((a0 5), .inl (q 3, 2, .inl (t0.2.2.2 0))), ((a0 6), .inl (q 0, 40, .inl (t0.2.2.2 1))), ((a0 7), .inl (q 2, 400, .inl (t0.2.2.2 2)))] := hD
              unfold wp_X7_place_L52 at h
              refine lv_iload hx hb dX7_place_52 (lv_at hl 5 rfl) ?_
              refine lv_aload_n hx hb dX7_place_54 rfl (lv_at hl 6 rfl) ?_
              refine fl_get (C := RX7) (T := TX7) (N := 23) (ci := 6) (v := .int (t0.1 5)) hx hb ht in_X7 hown hK hP 0 rfl rfl 13 (by decide) mw_1143 rfl dX7_place_55 ?_
              refine lv_iadd hx hb dX7_place_58 ?_
              refine lv_aload_n hx hb dX7_place_59 rfl (lv_at hl 6 rfl) ?_
              refine vp_callSi (rd_wV (wc := md_v a0 q t0) (As := []) (rest := [.int (z6 + (t0.1 5))]) hx hb hml hown ht (c2_X7_wide h) wd_X7_wide mw_1220 hQ hV hS (hP.sub [0, 1, 2, 3, 4, 5, 6, 7] rfl) rfl rfl rfl hl.1 rfl (Nat.le_of_ble_eq_true rfl) dX7_place_60 ⟨Nat.le_of_ble_eq_true rfl, Nat.le_of_ble_eq_true rfl, rfl, rfl⟩ ⟨Nat.le_of_ble_eq_true rfl, Nat.le_of_ble_eq_true rfl⟩) (fun r_11 h => ?_)
              try dsimp only at h
              refine lv_icmp_gt (tgt := 134) hx hb dX7_place_63 (by decide) (fun c_13 => ?_) (fun c_13 => ?_)
              · replace h := h.1 c_13
                exact k134 _ _ _ _ _ _ _ _ _ ls h (hP.sub (ws' := md_v a0 q t0) [0, 1, 2, 3, 4, 5, 6, 7] rfl) (hD.sub (ws' := md_v a0 q t0) [0, 1, 2, 3, 4, 5, 6, 7] (by decide) rfl) hS (lv_sub hl [0, 1, 2, 3, 4, 5, 6] rfl)
              · replace h := h.2 c_13
                refine lv_aload_n hx hb dX7_place_66 rfl (lv_at hl 6 rfl) ?_
                refine lv_iload_n hx hb dX7_place_67 rfl (lv_at hl 0 rfl) ?_
                refine lv_iload hx hb dX7_place_68 (lv_at hl 5 rfl) ?_
                refine lv_iconst (v := 0) hx hb dX7_place_70 (by decide) ?_
                refine lv_aload_n hx hb dX7_place_71 rfl (lv_at hl 6 rfl) ?_
                refine fl_get (C := RX7) (T := TX7) (N := 23) (ci := 6) (v := .int (t0.1 5)) hx hb ht in_X7 hown hK hP 0 rfl rfl 13 (by decide) mw_1143 rfl dX7_place_72 ?_
                refine mt_gov (mt_wV (wc := md_v a0 q t0) (As := [.int z1, .int z6, .int 0, .int (t0.1 5)]) (rest := []) hx hb hml hown ht (c2_X7_asks h) wd_X7_asks mw_1491 hQ hV hS hA (hP.sub [0, 1, 2, 3, 4, 5, 6, 7] rfl) (hD.sub [0, 1, 2, 3, 4, 5, 6, 7] (by decide) rfl) rfl rfl rfl hl.1 rfl (Nat.le_of_ble_eq_true rfl) dX7_place_75 ⟨Nat.le_of_ble_eq_true rfl, Nat.le_of_ble_eq_true rfl, rfl, rfl⟩ ⟨Nat.le_of_ble_eq_true rfl, Nat.le_of_ble_eq_true rfl⟩) (wr := []) hP hD hS hA [0, 1, 2, 3, 4, 5, 6, 7] [] rfl rfl (by decide) (by decide) (fun u_15 H locs h hP hD hS => ?_)
                try dsimp only at h
                have hP : va_P D vwCl [((a0 0), .inr (6, [.ref (a0 1), .ref (a0 2), .int (u_15.1 0), .ref (a0 3), .ref (a0 5), .ref (a0 4), .long u_15.2.1, .int (u_15.1 1), .int (u_15.1 2), .ref (a0 6), .int (u_15.1 3), .int (u_15.1 4), .ref (a0 7), .int (u_15.1 5), .int (u_15.1 6), .int (u_15.1 7), .int (u_15.1 8), .int (u_15.1 9), .int (u_15.1 10), .int (u_15.1 11), .int (u_15.1 12), .int (u_15.1 13), .int (u_15.1 14)])), ((a0 1), .inl (q 1, 6896, .inr (.inl (u_15.2.2.1 0)))), ((a0 2), .inl (q 1, 68960, .inr (.inl (u_15.2.2.1 1)))), ((a0 3), .inl (q 1, 13792, .inr (.inl (u_15.2.2.1 2)))), ((a0 4), .inl (q 1, 6896, .inr (.inl (u_15.2.2.1 3)))), ((a0 5), .inl (q 3, 2, .inl (u_15.2.2.2 0))), ((a0 6), .inl (q 0, 40, .inl (u_15.2.2.2 1))), ((a0 7), .inl (q 2, 400, .inl (u_15.2.2.2 2)))] H := hP
                have hD : va_D _ [((a0 0), .inr (6, [.ref (a0 1), .ref (a0 2), .int (u_15.1 0), .ref (a0 3), .ref (a0 5), .ref (a0 4), .long u_15.2.1, .int (u_15.1 1), .int (u_15.1 2), .ref (a0 6), .int (u_15.1 3), .int (u_15.1 4), .ref (a0 7), .int (u_15.1 5), .int (u_15.1 6), .int (u_15.1 7), .int (u_15.1 8), .int (u_15.1 9), .int (u_15.1 10), .int (u_15.1 11), .int (u_15.1 12), .int (u_15.1 13), .int (u_15.1 14)])), ((a0 1), .inl (q 1, 6896, .inr (.inl (u_15.2.2.1 0)))), ((a0 2), .inl (q 1, 68960, .inr (.inl (u_15.2.2.1 1)))), ((a0 3), .inl (q 1, 13792, .inr (.inl (u_15.2.2.1 2)))), ((a0 4), .inl (q 1, 6896, .inr (.inl (u_15.2.2.1 3)))), ((a0 5), .inl (q 3, 2, .inl (u_15.2.2.2 0))), ((a0 6), .inl (q 0, 40, .inl (u_15.2.2.2 1))), ((a0 7), .inl (q 2, 400, .inl (u_15.2.2.2 2)))] := hD
                refine lv_iload_n hx hb dX7_place_78 rfl (lv_at hl 2 rfl) ?_
                refine lv_iconst (v := (-1)) hx hb dX7_place_79 (by decide) ?_
                refine lv_icmp_eq (tgt := 113) hx hb dX7_place_80 (by decide) (fun c_16 => ?_) (fun c_16 => ?_)
                · replace h := h.1 c_16
                  refine lv_iload hx hb dX7_place_113 (lv_at hl 5 rfl) ?_
                  refine lv_istore_n (lv' := [(3, .int z6), (1, .int z1), (2, .int z2), (4, .int z4), (5, .int z5), (6, .int z6), (0, .ref (a0 0))]) hx hb dX7_place_115 rfl hl (by decide) rfl (fun ls hl => ?_)
                  refine lv_aload_n hx hb dX7_place_116 rfl (lv_at hl 6 rfl) ?_
                  refine fl_get (C := RX7) (T := TX7) (N := 23) (ci := 6) (v := .int (u_15.1 3)) hx hb ht in_X7 hown hK hP 0 rfl rfl 10 (by decide) mw_1140 rfl dX7_place_117 ?_
                  refine lv_istore (lv' := [(4, .int (u_15.1 3)), (3, .int z6), (1, .int z1), (2, .int z2), (5, .int z5), (6, .int z6), (0, .ref (a0 0))]) hx hb dX7_place_120 hl (by decide) rfl (fun ls hl => ?_)
                  refine lv_aload_n hx hb dX7_place_122 rfl (lv_at hl 6 rfl) ?_
                  refine fl_get (C := RX7) (T := TX7) (N := 23) (ci := 6) (v := .int (u_15.1 4)) hx hb ht in_X7 hown hK hP 0 rfl rfl 11 (by decide) mw_1141 rfl dX7_place_123 ?_
                  refine lv_istore (lv' := [(5, .int (u_15.1 4)), (4, .int (u_15.1 3)), (3, .int z6), (1, .int z1), (2, .int z2), (6, .int z6), (0, .ref (a0 0))]) hx hb dX7_place_126 hl (by decide) rfl (fun ls hl => ?_)
                  refine lv_iinc (v := (z6 + 1)) (lv' := [(6, .int (z6 + 1)), (5, .int (u_15.1 4)), (4, .int (u_15.1 3)), (3, .int z6), (1, .int z1), (2, .int z2), (0, .ref (a0 0))]) hx hb dX7_place_128 hl (k := 5) rfl rfl (by decide) rfl (fun ls hl => ?_)
                  refine lv_goto (tgt := 52) hx hb dX7_place_131 (by decide) ?_
                  exact ih _ _ _ _ _ _ _ _ _ ls h (hP.sub (ws' := md_v a0 q u_15) [0, 1, 2, 3, 4, 5, 6, 7] rfl) (hD.sub (ws' := md_v a0 q u_15) [0, 1, 2, 3, 4, 5, 6, 7] (by decide) rfl) hS (lv_sub hl [4, 5, 3, 2, 1, 0, 6] rfl)
                · replace h := h.2 c_16
                  refine lv_aload_n hx hb dX7_place_83 rfl (lv_at hl 6 rfl) ?_
                  refine fl_get (C := RX7) (T := TX7) (N := 23) (ci := 6) (v := .int (u_15.1 4)) hx hb ht in_X7 hown hK hP 0 rfl rfl 11 (by decide) mw_1141 rfl dX7_place_84 ?_
                  refine lv_iload hx hb dX7_place_87 (lv_at hl 4 rfl) ?_
                  refine lv_icmp_gt (tgt := 128) hx hb dX7_place_89 (by decide) (fun c_17 => ?_) (fun c_17 => ?_)
                  · replace h := h.1 c_17
                    refine lv_iinc (v := (z6 + 1)) (lv' := [(6, .int (z6 + 1)), (1, .int z1), (2, .int z2), (3, .int z3), (4, .int z4), (5, .int z5), (0, .ref (a0 0))]) hx hb dX7_place_128 hl (k := 5) rfl rfl (by decide) rfl (fun ls hl => ?_)
                    refine lv_goto (tgt := 52) hx hb dX7_place_131 (by decide) ?_
                    exact ih _ _ _ _ _ _ _ _ _ ls h (hP.sub (ws' := md_v a0 q u_15) [0, 1, 2, 3, 4, 5, 6, 7] rfl) (hD.sub (ws' := md_v a0 q u_15) [0, 1, 2, 3, 4, 5, 6, 7] (by decide) rfl) hS (lv_sub hl [1, 2, 3, 4, 5, 0, 6] rfl)
                  · replace h := h.2 c_17
                    refine lv_aload_n hx hb dX7_place_92 rfl (lv_at hl 6 rfl) ?_
                    refine fl_get (C := RX7) (T := TX7) (N := 23) (ci := 6) (v := .int (u_15.1 4)) hx hb ht in_X7 hown hK hP 0 rfl rfl 11 (by decide) mw_1141 rfl dX7_place_93 ?_
                    refine lv_iload hx hb dX7_place_96 (lv_at hl 4 rfl) ?_
                    refine lv_icmp_ne (tgt := 113) hx hb dX7_place_98 (by decide) (fun c_18 => ?_) (fun c_18 => ?_)
                    · replace h := h.1 c_18
                      refine lv_iload hx hb dX7_place_113 (lv_at hl 5 rfl) ?_
                      refine lv_istore_n (lv' := [(3, .int z6), (1, .int z1), (2, .int z2), (4, .int z4), (5, .int z5), (6, .int z6), (0, .ref (a0 0))]) hx hb dX7_place_115 rfl hl (by decide) rfl (fun ls hl => ?_)
                      refine lv_aload_n hx hb dX7_place_116 rfl (lv_at hl 6 rfl) ?_
                      refine fl_get (C := RX7) (T := TX7) (N := 23) (ci := 6) (v := .int (u_15.1 3)) hx hb ht in_X7 hown hK hP 0 rfl rfl 10 (by decide) mw_1140 rfl dX7_place_117 ?_
                      refine lv_istore (lv' := [(4, .int (u_15.1 3)), (3, .int z6), (1, .int z1), (2, .int z2), (5, .int z5), (6, .int z6), (0, .ref (a0 0))]) hx hb dX7_place_120 hl (by decide) rfl (fun ls hl => ?_)
                      refine lv_aload_n hx hb dX7_place_122 rfl (lv_at hl 6 rfl) ?_
                      refine fl_get (C := RX7) (T := TX7) (N := 23) (ci := 6) (v := .int (u_15.1 4)) hx hb ht in_X7 hown hK hP 0 rfl rfl 11 (by decide) mw_1141 rfl dX7_place_123 ?_
                      refine lv_istore (lv' := [(5, .int (u_15.1 4)), (4, .int (u_15.1 3)), (3, .int z6), (1, .int z1), (2, .int z2), (6, .int z6), (0, .ref (a0 0))]) hx hb dX7_place_126 hl (by decide) rfl (fun ls hl => ?_)
                      refine lv_iinc (v := (z6 + 1)) (lv' := [(6, .int (z6 + 1)), (5, .int (u_15.1 4)), (4, .int (u_15.1 3)), (3, .int z6), (1, .int z1), (2, .int z2), (0, .ref (a0 0))]) hx hb dX7_place_128 hl (k := 5) rfl rfl (by decide) rfl (fun ls hl => ?_)
                      refine lv_goto (tgt := 52) hx hb dX7_place_131 (by decide) ?_
                      exact ih _ _ _ _ _ _ _ _ _ ls h (hP.sub (ws' := md_v a0 q u_15) [0, 1, 2, 3, 4, 5, 6, 7] rfl) (hD.sub (ws' := md_v a0 q u_15) [0, 1, 2, 3, 4, 5, 6, 7] (by decide) rfl) hS (lv_sub hl [4, 5, 3, 2, 1, 0, 6] rfl)
                    · replace h := h.2 c_18
                      refine lv_aload_n hx hb dX7_place_101 rfl (lv_at hl 6 rfl) ?_
                      refine fl_get (C := RX7) (T := TX7) (N := 23) (ci := 6) (v := .int (u_15.1 3)) hx hb ht in_X7 hown hK hP 0 rfl rfl 10 (by decide) mw_1140 rfl dX7_place_102 ?_
                      refine lv_iload hx hb dX7_place_105 (lv_at hl 3 rfl) ?_
                      refine lv_icmp_lt (tgt := 113) hx hb dX7_place_107 (by decide) (fun c_19 => ?_) (fun c_19 => ?_)
                      · replace h := h.1 c_19
                        refine lv_iload hx hb dX7_place_113 (lv_at hl 5 rfl) ?_
                        refine lv_istore_n (lv' := [(3, .int z6), (1, .int z1), (2, .int z2), (4, .int z4), (5, .int z5), (6, .int z6), (0, .ref (a0 0))]) hx hb dX7_place_115 rfl hl (by decide) rfl (fun ls hl => ?_)
                        refine lv_aload_n hx hb dX7_place_116 rfl (lv_at hl 6 rfl) ?_
                        refine fl_get (C := RX7) (T := TX7) (N := 23) (ci := 6) (v := .int (u_15.1 3)) hx hb ht in_X7 hown hK hP 0 rfl rfl 10 (by decide) mw_1140 rfl dX7_place_117 ?_
                        refine lv_istore (lv' := [(4, .int (u_15.1 3)), (3, .int z6), (1, .int z1), (2, .int z2), (5, .int z5), (6, .int z6), (0, .ref (a0 0))]) hx hb dX7_place_120 hl (by decide) rfl (fun ls hl => ?_)
                        refine lv_aload_n hx hb dX7_place_122 rfl (lv_at hl 6 rfl) ?_
                        refine fl_get (C := RX7) (T := TX7) (N := 23) (ci := 6) (v := .int (u_15.1 4)) hx hb ht in_X7 hown hK hP 0 rfl rfl 11 (by decide) mw_1141 rfl dX7_place_123 ?_
                        refine lv_istore (lv' := [(5, .int (u_15.1 4)), (4, .int (u_15.1 3)), (3, .int z6), (1, .int z1), (2, .int z2), (6, .int z6), (0, .ref (a0 0))]) hx hb dX7_place_126 hl (by decide) rfl (fun ls hl => ?_)
                        refine lv_iinc (v := (z6 + 1)) (lv' := [(6, .int (z6 + 1)), (5, .int (u_15.1 4)), (4, .int (u_15.1 3)), (3, .int z6), (1, .int z1), (2, .int z2), (0, .ref (a0 0))]) hx hb dX7_place_128 hl (k := 5) rfl rfl (by decide) rfl (fun ls hl => ?_)
                        refine lv_goto (tgt := 52) hx hb dX7_place_131 (by decide) ?_
                        exact ih _ _ _ _ _ _ _ _ _ ls h (hP.sub (ws' := md_v a0 q u_15) [0, 1, 2, 3, 4, 5, 6, 7] rfl) (hD.sub (ws' := md_v a0 q u_15) [0, 1, 2, 3, 4, 5, 6, 7] (by decide) rfl) hS (lv_sub hl [4, 5, 3, 2, 1, 0, 6] rfl)
                      · replace h := h.2 c_19
                        refine lv_goto (tgt := 128) hx hb dX7_place_110 (by decide) ?_
                        refine lv_iinc (v := (z6 + 1)) (lv' := [(6, .int (z6 + 1)), (1, .int z1), (2, .int z2), (3, .int z3), (4, .int z4), (5, .int z5), (0, .ref (a0 0))]) hx hb dX7_place_128 hl (k := 5) rfl rfl (by decide) rfl (fun ls hl => ?_)
                        refine lv_goto (tgt := 52) hx hb dX7_place_131 (by decide) ?_
                        exact ih _ _ _ _ _ _ _ _ _ ls h (hP.sub (ws' := md_v a0 q u_15) [0, 1, 2, 3, 4, 5, 6, 7] rfl) (hD.sub (ws' := md_v a0 q u_15) [0, 1, 2, 3, 4, 5, 6, 7] (by decide) rfl) hS (lv_sub hl [1, 2, 3, 4, 5, 0, 6] rfl)
          obtain ⟨n52, h⟩ := h
          refine lp52 _ ?_ n52 _ _ _ _ _ _ _ _ _ ls h (hP.sub (ws' := md_v a0 q s0) [0, 1, 2, 3, 4, 5, 6, 7] rfl) (hD.sub (ws' := md_v a0 q s0) [0, 1, 2, 3, 4, 5, 6, 7] (by decide) rfl) hS (lv_sub hl [5, 6, 3, 2, 1, 0, 4] rfl)
          · intro t0 z1 z2 z3 z4 z5 z6 H locs ls h hP hD hS hl
            try dsimp only at h
            have hP : va_P D vwCl [((a0 0), .inr (6, [.ref (a0 1), .ref (a0 2), .int (t0.1 0), .ref (a0 3), .ref (a0 5), .ref (a0 4), .long t0.2.1, .int (t0.1 1), .int (t0.1 2), .ref (a0 6), .int (t0.1 3), .int (t0.1 4), .ref (a0 7), .int (t0.1 5), .int (t0.1 6), .int (t0.1 7), .int (t0.1 8), .int (t0.1 9), .int (t0.1 10), .int (t0.1 11), .int (t0.1 12), .int (t0.1 13), .int (t0.1 14)])), ((a0 1), .inl (q 1, 6896, .inr (.inl (t0.2.2.1 0)))), ((a0 2), .inl (q 1, 68960, .inr (.inl (t0.2.2.1 1)))), ((a0 3), .inl (q 1, 13792, .inr (.inl (t0.2.2.1 2)))), ((a0 4), .inl (q 1, 6896, .inr (.inl (t0.2.2.1 3)))), ((a0 5), .inl (q 3, 2, .inl (t0.2.2.2 0))), ((a0 6), .inl (q 0, 40, .inl (t0.2.2.2 1))), ((a0 7), .inl (q 2, 400, .inl (t0.2.2.2 2)))] H := hP
            have hD : va_D _ [((a0 0), .inr (6, [.ref (a0 1), .ref (a0 2), .int (t0.1 0), .ref (a0 3), .ref (a0 5), .ref (a0 4), .long t0.2.1, .int (t0.1 1), .int (t0.1 2), .ref (a0 6), .int (t0.1 3), .int (t0.1 4), .ref (a0 7), .int (t0.1 5), .int (t0.1 6), .int (t0.1 7), .int (t0.1 8), .int (t0.1 9), .int (t0.1 10), .int (t0.1 11), .int (t0.1 12), .int (t0.1 13), .int (t0.1 14)])), ((a0 1), .inl (q 1, 6896, .inr (.inl (t0.2.2.1 0)))), ((a0 2), .inl (q 1, 68960, .inr (.inl (t0.2.2.1 1)))), ((a0 3), .inl (q 1, 13792, .inr (.inl (t0.2.2.1 2)))), ((a0 4), .inl (q 1, 6896, .inr (.inl (t0.2.2.1 3)))), ((a0 5), .inl (q 3, 2, .inl (t0.2.2.2 0))), ((a0 6), .inl (q 0, 40, .inl (t0.2.2.2 1))), ((a0 7), .inl (q 2, 400, .inl (t0.2.2.2 2)))] := hD
            refine lv_iload_n hx hb dX7_place_134 rfl (lv_at hl 1 rfl) ?_
            refine lv_if_ne (tgt := 142) hx hb dX7_place_135 (by decide) (fun c_20 => ?_) (fun c_20 => ?_)
            · replace h := h.1 c_20
              refine lv_iload hx hb dX7_place_142 (lv_at hl 3 rfl) ?_
              exact mt_iret t0 hx hb hr hk h (hP.sub (ws' := md_v a0 q t0) [0, 1, 2, 3, 4, 5, 6, 7] rfl) (hD.sub (ws' := md_v a0 q t0) [0, 1, 2, 3, 4, 5, 6, 7] (by decide) rfl) hS dX7_place_144
            · replace h := h.2 c_20
              refine lv_iload_n hx hb dX7_place_138 rfl (lv_at hl 2 rfl) ?_
              refine lv_goto (tgt := 144) hx hb dX7_place_139 (by decide) ?_
              exact mt_iret t0 hx hb hr hk h (hP.sub (ws' := md_v a0 q t0) [0, 1, 2, 3, 4, 5, 6, 7] rfl) (hD.sub (ws' := md_v a0 q t0) [0, 1, 2, 3, 4, 5, 6, 7] (by decide) rfl) hS dX7_place_144
        · replace h := h.2 c_10
          refine lv_bipush (v := (-2)) hx hb dX7_place_38 (by decide) ?_
          exact mt_iret s0 hx hb hr hk h (hP.sub (ws' := md_v a0 q s0) [0, 1, 2, 3, 4, 5, 6, 7] rfl) (hD.sub (ws' := md_v a0 q s0) [0, 1, 2, 3, 4, 5, 6, 7] (by decide) rfl) hS dX7_place_40
    · replace h := h.2 c_6
      refine lv_iconst (v := (-1)) hx hb dX7_place_18 (by decide) ?_
      exact mt_iret s0 hx hb hr hk h (hP.sub (ws' := md_v a0 q s0) [0, 1, 2, 3, 4, 5, 6, 7] rfl) (hD.sub (ws' := md_v a0 q s0) [0, 1, 2, 3, 4, 5, 6, 7] (by decide) rfl) hS dX7_place_19

def wp_X7_logged (post : Int32 → Prop) (s0 : Md) (x1 : Int32) (x2 : Int32) (x3 : Int32) : Prop := vp_in ((496 + (40 * ((40 * x1) + x2))) + x3) 6896 ∧ post (Int64.toInt32 ((s0.2.2.1 0) (Int32.toNatClampNeg ((496 + (40 * ((40 * x1) + x2))) + x3))))
set_option maxHeartbeats 4000000 in
set_option maxRecDepth 100000 in
theorem c2_X7_logged {l : Launch} {D : va_G} {q : Nat → ClassId} {a0 : Nat → Nat} {s0 : Md} {x1 : Int32} {x2 : Int32} {x3 : Int32} {post : Int32 → Prop} (h : wp_X7_logged post s0 x1 x2 x3) : Met l yX7_logged (Cond.code yX7_logged cX7_logged 4 (some .int) :: w_all) ({ frames := 0, cells := 0, slots := 0, locals := 0 } : Room) (rd_P D q [.ref (a0 0), .int x1, .int x2, .int x3] (md_v a0 q s0)) (vp_Si post) 0 0 (fun _ => False) := by
  refine rd_start (by decide) (Nat.le_of_ble_eq_true rfl) ?_
  intro p e s m below meth c ls hx hb hr hml hown ht hk hP hQ hV hl
  have hK := hQ.1
  have hown : s.vm.findClass RX7 = some m.cls := hown
  have hl : lv_has ls 4 [(0, .ref (a0 0)), (1, .int x1), (2, .int x2), (3, .int x3)] := hl
  have hP : va_P D vwCl [((a0 0), .inr (6, [.ref (a0 1), .ref (a0 2), .int (s0.1 0), .ref (a0 3), .ref (a0 5), .ref (a0 4), .long s0.2.1, .int (s0.1 1), .int (s0.1 2), .ref (a0 6), .int (s0.1 3), .int (s0.1 4), .ref (a0 7), .int (s0.1 5), .int (s0.1 6), .int (s0.1 7), .int (s0.1 8), .int (s0.1 9), .int (s0.1 10), .int (s0.1 11), .int (s0.1 12), .int (s0.1 13), .int (s0.1 14)])), ((a0 1), .inl (q 1, 6896, .inr (.inl (s0.2.2.1 0)))), ((a0 2), .inl (q 1, 68960, .inr (.inl (s0.2.2.1 1)))), ((a0 3), .inl (q 1, 13792, .inr (.inl (s0.2.2.1 2)))), ((a0 4), .inl (q 1, 6896, .inr (.inl (s0.2.2.1 3)))), ((a0 5), .inl (q 3, 2, .inl (s0.2.2.2 0))), ((a0 6), .inl (q 0, 40, .inl (s0.2.2.2 1))), ((a0 7), .inl (q 2, 400, .inl (s0.2.2.2 2)))] s.heap := hP
  unfold wp_X7_logged at h
  refine lv_aload_n hx hb dX7_logged_0 rfl (lv_at hl 0 rfl) ?_
  refine fl_get (C := RX7) (T := TX7) (N := 23) (ci := 6) (v := .ref (a0 1)) hx hb ht in_X7 hown hK hP 0 rfl rfl 0 (by decide) mw_1130 rfl dX7_logged_1 ?_
  refine lv_sipush (v := 496) hx hb dX7_logged_4 (by decide) ?_
  refine lv_bipush (v := 40) hx hb dX7_logged_7 (by decide) ?_
  refine lv_bipush (v := 40) hx hb dX7_logged_9 (by decide) ?_
  refine lv_iload_n hx hb dX7_logged_11 rfl (lv_at hl 1 rfl) ?_
  refine lv_imul hx hb dX7_logged_12 ?_
  refine lv_iload_n hx hb dX7_logged_13 rfl (lv_at hl 2 rfl) ?_
  refine lv_iadd hx hb dX7_logged_14 ?_
  refine lv_imul hx hb dX7_logged_15 ?_
  refine lv_iadd hx hb dX7_logged_16 ?_
  refine lv_iload_n hx hb dX7_logged_17 rfl (lv_at hl 3 rfl) ?_
  refine lv_iadd hx hb dX7_logged_18 ?_
  obtain ⟨g_1, h⟩ := h
  refine va_lald hx hb hK hP 1 1 rfl rfl g_1 dX7_logged_19 ?_
  refine lv_l2i (v := (Int64.toInt32 ((s0.2.2.1 0) (Int32.toNatClampNeg ((496 + (40 * ((40 * x1) + x2))) + x3))))) hx hb dX7_logged_20 rfl ?_
  exact rd_iret hx hb hr hk h dX7_logged_21

def wp_X7_moved (post : Int32 → Prop) (x0 : Int32) (x1 : Int32) (x2 : Int32) : Prop := ((¬ x0 = x1 → ((¬ x0 = x2 → post x0) ∧ (x0 = x2 → post x1))) ∧ (x0 = x1 → post x2))
set_option maxHeartbeats 4000000 in
set_option maxRecDepth 100000 in
theorem c2_X7_moved {l : Launch} {D : va_G} {q : Nat → ClassId} {x0 : Int32} {x1 : Int32} {x2 : Int32} {post : Int32 → Prop} (h : wp_X7_moved post x0 x1 x2) : Met l yX7_moved (Cond.code yX7_moved cX7_moved 3 (some .int) :: w_all) ({ frames := 0, cells := 0, slots := 0, locals := 0 } : Room) (rd_P D q [.int x0, .int x1, .int x2] (([] : va_W))) (vp_Si post) 0 0 (fun _ => False) := by
  refine rd_start (by decide) (Nat.le_of_ble_eq_true rfl) ?_
  intro p e s m below meth c ls hx hb hr hml hown ht hk hP hQ hV hl
  have hK := hQ.1
  have hown : s.vm.findClass RX7 = some m.cls := hown
  have hl : lv_has ls 3 [(0, .int x0), (1, .int x1), (2, .int x2)] := hl
  unfold wp_X7_moved at h
  refine lv_iload_n hx hb dX7_moved_0 rfl (lv_at hl 0 rfl) ?_
  refine lv_iload_n hx hb dX7_moved_1 rfl (lv_at hl 1 rfl) ?_
  refine lv_icmp_ne (tgt := 9) hx hb dX7_moved_2 (by decide) (fun c_1 => ?_) (fun c_1 => ?_)
  · replace h := h.1 c_1
    refine lv_iload_n hx hb dX7_moved_9 rfl (lv_at hl 0 rfl) ?_
    refine lv_iload_n hx hb dX7_moved_10 rfl (lv_at hl 2 rfl) ?_
    refine lv_icmp_ne (tgt := 18) hx hb dX7_moved_11 (by decide) (fun c_2 => ?_) (fun c_2 => ?_)
    · replace h := h.1 c_2
      refine lv_iload_n hx hb dX7_moved_18 rfl (lv_at hl 0 rfl) ?_
      exact rd_iret hx hb hr hk h dX7_moved_19
    · replace h := h.2 c_2
      refine lv_iload_n hx hb dX7_moved_14 rfl (lv_at hl 1 rfl) ?_
      refine lv_goto (tgt := 19) hx hb dX7_moved_15 (by decide) ?_
      exact rd_iret hx hb hr hk h dX7_moved_19
  · replace h := h.2 c_1
    refine lv_iload_n hx hb dX7_moved_5 rfl (lv_at hl 2 rfl) ?_
    refine lv_goto (tgt := 19) hx hb dX7_moved_6 (by decide) ?_
    exact rd_iret hx hb hr hk h dX7_moved_19

def wp_X7_journey_L23 (s0 : Md) (post : Int32 → Prop) (e82 : Int32 → Int32 → Int32 → Int32 → Int32 → Int32 → Int32 → Prop) : Nat → Int32 → Int32 → Int32 → Int32 → Int32 → Int32 → Int32 → Prop
  | 0, _, _, _, _, _, _, _ => False
  | n23 + 1, z1, z2, z3, z4, z5, z6, z7 => ((z4 ≤ z7 → e82 z1 z2 z3 z4 z5 z6 z7) ∧ (¬ z4 ≤ z7 → wp_X7_logged (fun r_5 => ((r_5 ≤ 0 → wp_X7_journey_L23 s0 post e82 n23 z1 z2 z3 z4 z5 z6 (z7 + 1)) ∧ (¬ r_5 ≤ 0 → wp_X7_logged (fun r_8 => wp_X7_moved (fun r_10 => wp_X7_moved (fun r_12 => wp_X7_on (fun r_14 => wp_X7_journey_L23 s0 post e82 n23 z1 z2 z3 z4 (z5 + (r_8 * r_14)) z6 (z7 + 1)) r_10 r_12 z4) z7 z2 z3) z6 z2 z3) s0 z1 z6 z7))) s0 z1 z6 z7))
def wp_X7_journey_L13 (s0 : Md) (post : Int32 → Prop) (e88 : Int32 → Int32 → Int32 → Int32 → Int32 → Int32 → Prop) : Nat → Int32 → Int32 → Int32 → Int32 → Int32 → Int32 → Prop
  | 0, _, _, _, _, _, _ => False
  | n13 + 1, z1, z2, z3, z4, z5, z6 => ((z4 ≤ z6 → e88 z1 z2 z3 z4 z5 z6) ∧ (¬ z4 ≤ z6 → (∃ n23, wp_X7_journey_L23 s0 post (fun z1 z2 z3 z4 z5 z6 z7 => wp_X7_journey_L13 s0 post e88 n13 z1 z2 z3 z4 z5 (z6 + 1)) n23 z1 z2 z3 z4 z5 z6 0)))
def wp_X7_journey (post : Int32 → Prop) (s0 : Md) (x1 : Int32) (x2 : Int32) (x3 : Int32) : Prop := wp_X7_flapsOf (fun r_1 => (∃ n13, wp_X7_journey_L13 s0 post (fun z1 z2 z3 z4 z5 z6 => post z5) n13 x1 x2 x3 r_1 0 0)) s0 x1
set_option maxHeartbeats 4000000 in
set_option maxRecDepth 100000 in
theorem c2_X7_journey {l : Launch} {D : va_G} {q : Nat → ClassId} {a0 : Nat → Nat} {s0 : Md} {x1 : Int32} {x2 : Int32} {x3 : Int32} {post : Int32 → Prop} (h : wp_X7_journey post s0 x1 x2 x3) : Met l yX7_journey (Cond.code yX7_journey cX7_journey 8 (some .int) :: w_all) ({ frames := 1, cells := 0, slots := 0, locals := 23 } : Room) (rd_P D q [.ref (a0 0), .int x1, .int x2, .int x3] (md_v a0 q s0)) (vp_Si post) 0 0 (fun _ => False) := by
  refine rd_start (by decide) (Nat.le_of_ble_eq_true rfl) ?_
  intro p e s m below meth c ls hx hb hr hml hown ht hk hP hQ hV hl
  have hK := hQ.1
  have hown : s.vm.findClass RX7 = some m.cls := hown
  have hl : lv_has ls 8 [(0, .ref (a0 0)), (1, .int x1), (2, .int x2), (3, .int x3)] := hl
  have hP : va_P D vwCl [((a0 0), .inr (6, [.ref (a0 1), .ref (a0 2), .int (s0.1 0), .ref (a0 3), .ref (a0 5), .ref (a0 4), .long s0.2.1, .int (s0.1 1), .int (s0.1 2), .ref (a0 6), .int (s0.1 3), .int (s0.1 4), .ref (a0 7), .int (s0.1 5), .int (s0.1 6), .int (s0.1 7), .int (s0.1 8), .int (s0.1 9), .int (s0.1 10), .int (s0.1 11), .int (s0.1 12), .int (s0.1 13), .int (s0.1 14)])), ((a0 1), .inl (q 1, 6896, .inr (.inl (s0.2.2.1 0)))), ((a0 2), .inl (q 1, 68960, .inr (.inl (s0.2.2.1 1)))), ((a0 3), .inl (q 1, 13792, .inr (.inl (s0.2.2.1 2)))), ((a0 4), .inl (q 1, 6896, .inr (.inl (s0.2.2.1 3)))), ((a0 5), .inl (q 3, 2, .inl (s0.2.2.2 0))), ((a0 6), .inl (q 0, 40, .inl (s0.2.2.2 1))), ((a0 7), .inl (q 2, 400, .inl (s0.2.2.2 2)))] s.heap := hP
  unfold wp_X7_journey at h
  refine lv_aload_n hx hb dX7_journey_0 rfl (lv_at hl 0 rfl) ?_
  refine lv_iload_n hx hb dX7_journey_1 rfl (lv_at hl 1 rfl) ?_
  refine vp_callSi (rd_wV (wc := md_v a0 q s0) (As := [.int x1]) (rest := []) hx hb hml hown ht (c2_X7_flapsOf h) wd_X7_flapsOf mw_1253 hQ hV va_S.rf (hP.sub [0, 1, 2, 3, 4, 5, 6, 7] rfl) rfl rfl rfl hl.1 rfl (Nat.le_of_ble_eq_true rfl) dX7_journey_2 ⟨Nat.le_of_ble_eq_true rfl, Nat.le_of_ble_eq_true rfl, rfl, rfl⟩ ⟨Nat.le_of_ble_eq_true rfl, Nat.le_of_ble_eq_true rfl⟩) (fun r_1 h => ?_)
  try dsimp only at h
  refine lv_istore (lv' := [(4, .int r_1), (0, .ref (a0 0)), (1, .int x1), (2, .int x2), (3, .int x3)]) hx hb dX7_journey_5 hl (by decide) rfl (fun ls hl => ?_)
  refine lv_iconst (v := 0) hx hb dX7_journey_7 (by decide) ?_
  refine lv_istore (lv' := [(5, .int 0), (4, .int r_1), (0, .ref (a0 0)), (1, .int x1), (2, .int x2), (3, .int x3)]) hx hb dX7_journey_8 hl (by decide) rfl (fun ls hl => ?_)
  refine lv_iconst (v := 0) hx hb dX7_journey_10 (by decide) ?_
  refine lv_istore (lv' := [(6, .int 0), (5, .int 0), (4, .int r_1), (0, .ref (a0 0)), (1, .int x1), (2, .int x2), (3, .int x3)]) hx hb dX7_journey_11 hl (by decide) rfl (fun ls hl => ?_)
  have lp13 : ∀ (e88 : Int32 → Int32 → Int32 → Int32 → Int32 → Int32 → Prop) (k88 : ∀ (z1 : Int32) (z2 : Int32) (z3 : Int32) (z4 : Int32) (z5 : Int32) (z6 : Int32) (ls : Array Slot), e88 z1 z2 z3 z4 z5 z6 → lv_has ls 8 [(1, .int z1), (2, .int z2), (3, .int z3), (4, .int z4), (5, .int z5), (6, .int z6), (0, .ref (a0 0))] → W p l e ({ frames := 1, cells := 0, slots := 0, locals := 23 } : Room) s m [.ref (a0 0), .int x1, .int x2, .int x3].toArray below meth c s.heap [] 0 0 (MQ below (vp_Si post) [.ref (a0 0), .int x1, .int x2, .int x3].toArray s 0 0 (fun _ => False)) (F0 m 88 ls [])) (n : Nat) (z1 : Int32) (z2 : Int32) (z3 : Int32) (z4 : Int32) (z5 : Int32) (z6 : Int32) (ls : Array Slot), wp_X7_journey_L13 s0 post e88 n z1 z2 z3 z4 z5 z6 → lv_has ls 8 [(1, .int z1), (2, .int z2), (3, .int z3), (4, .int z4), (5, .int z5), (6, .int z6), (0, .ref (a0 0))] → W p l e ({ frames := 1, cells := 0, slots := 0, locals := 23 } : Room) s m [.ref (a0 0), .int x1, .int x2, .int x3].toArray below meth c s.heap [] 0 0 (MQ below (vp_Si post) [.ref (a0 0), .int x1, .int x2, .int x3].toArray s 0 0 (fun _ => False)) (F0 m 13 ls []) := by
    intro e88 k88 n
    induction n with
    | zero =>
      intro z1 z2 z3 z4 z5 z6 ls h
      exact h.elim
    | succ n ih =>
      intro z1 z2 z3 z4 z5 z6 ls h hl
      unfold wp_X7_journey_L13 at h
      refine lv_iload hx hb dX7_journey_13 (lv_at hl 5 rfl) ?_
      refine lv_iload hx hb dX7_journey_15 (lv_at hl 3 rfl) ?_
      refine lv_icmp_ge (tgt := 88) hx hb dX7_journey_17 (by decide) (fun c_3 => ?_) (fun c_3 => ?_)
      · replace h := h.1 c_3
        exact k88 _ _ _ _ _ _ ls h (lv_sub hl [0, 1, 2, 3, 4, 5, 6] rfl)
      · replace h := h.2 c_3
        refine lv_iconst (v := 0) hx hb dX7_journey_20 (by decide) ?_
        refine lv_istore (lv' := [(7, .int 0), (1, .int z1), (2, .int z2), (3, .int z3), (4, .int z4), (5, .int z5), (6, .int z6), (0, .ref (a0 0))]) hx hb dX7_journey_21 hl (by decide) rfl (fun ls hl => ?_)
        have lp23 : ∀ (e82 : Int32 → Int32 → Int32 → Int32 → Int32 → Int32 → Int32 → Prop) (k82 : ∀ (z1 : Int32) (z2 : Int32) (z3 : Int32) (z4 : Int32) (z5 : Int32) (z6 : Int32) (z7 : Int32) (ls : Array Slot), e82 z1 z2 z3 z4 z5 z6 z7 → lv_has ls 8 [(1, .int z1), (2, .int z2), (3, .int z3), (4, .int z4), (5, .int z5), (6, .int z6), (7, .int z7), (0, .ref (a0 0))] → W p l e ({ frames := 1, cells := 0, slots := 0, locals := 23 } : Room) s m [.ref (a0 0), .int x1, .int x2, .int x3].toArray below meth c s.heap [] 0 0 (MQ below (vp_Si post) [.ref (a0 0), .int x1, .int x2, .int x3].toArray s 0 0 (fun _ => False)) (F0 m 82 ls [])) (n : Nat) (z1 : Int32) (z2 : Int32) (z3 : Int32) (z4 : Int32) (z5 : Int32) (z6 : Int32) (z7 : Int32) (ls : Array Slot), wp_X7_journey_L23 s0 post e82 n z1 z2 z3 z4 z5 z6 z7 → lv_has ls 8 [(1, .int z1), (2, .int z2), (3, .int z3), (4, .int z4), (5, .int z5), (6, .int z6), (7, .int z7), (0, .ref (a0 0))] → W p l e ({ frames := 1, cells := 0, slots := 0, locals := 23 } : Room) s m [.ref (a0 0), .int x1, .int x2, .int x3].toArray below meth c s.heap [] 0 0 (MQ below (vp_Si post) [.ref (a0 0), .int x1, .int x2, .int x3].toArray s 0 0 (fun _ => False)) (F0 m 23 ls []) := by
          intro e82 k82 n
          induction n with
          | zero =>
            intro z1 z2 z3 z4 z5 z6 z7 ls h
            exact h.elim
          | succ n ih =>
            intro z1 z2 z3 z4 z5 z6 z7 ls h hl
            unfold wp_X7_journey_L23 at h
            refine lv_iload hx hb dX7_journey_23 (lv_at hl 6 rfl) ?_
            refine lv_iload hx hb dX7_journey_25 (lv_at hl 3 rfl) ?_
            refine lv_icmp_ge (tgt := 82) hx hb dX7_journey_27 (by decide) (fun c_4 => ?_) (fun c_4 => ?_)
            · replace h := h.1 c_4
              exact k82 _ _ _ _ _ _ _ ls h (lv_sub hl [0, 1, 2, 3, 4, 5, 6, 7] rfl)
            · replace h := h.2 c_4
              refine lv_aload_n hx hb dX7_journey_30 rfl (lv_at hl 7 rfl) ?_
              refine lv_iload_n hx hb dX7_journey_31 rfl (lv_at hl 0 rfl) ?_
              refine lv_iload hx hb dX7_journey_32 (lv_at hl 5 rfl) ?_
              refine lv_iload hx hb dX7_journey_34 (lv_at hl 6 rfl) ?_
              refine vp_callSi (rd_wV (wc := md_v a0 q s0) (As := [.int z1, .int z6, .int z7]) (rest := []) hx hb hml hown ht (c2_X7_logged h) wd_X7_logged mw_1515 hQ hV va_S.rf (hP.sub [0, 1, 2, 3, 4, 5, 6, 7] rfl) rfl rfl rfl hl.1 rfl (Nat.le_of_ble_eq_true rfl) dX7_journey_36 ⟨Nat.le_of_ble_eq_true rfl, Nat.le_of_ble_eq_true rfl, rfl, rfl⟩ ⟨Nat.le_of_ble_eq_true rfl, Nat.le_of_ble_eq_true rfl⟩) (fun r_5 h => ?_)
              try dsimp only at h
              refine lv_if_le (tgt := 76) hx hb dX7_journey_39 (by decide) (fun c_7 => ?_) (fun c_7 => ?_)
              · replace h := h.1 c_7
                refine lv_iinc (v := (z7 + 1)) (lv' := [(7, .int (z7 + 1)), (1, .int z1), (2, .int z2), (3, .int z3), (4, .int z4), (5, .int z5), (6, .int z6), (0, .ref (a0 0))]) hx hb dX7_journey_76 hl (k := 6) rfl rfl (by decide) rfl (fun ls hl => ?_)
                refine lv_goto (tgt := 23) hx hb dX7_journey_79 (by decide) ?_
                exact ih _ _ _ _ _ _ _ ls h (lv_sub hl [1, 2, 3, 4, 5, 6, 0, 7] rfl)
              · replace h := h.2 c_7
                refine lv_iload hx hb dX7_journey_42 (lv_at hl 4 rfl) ?_
                refine lv_aload_n hx hb dX7_journey_44 rfl (lv_at hl 7 rfl) ?_
                refine lv_iload_n hx hb dX7_journey_45 rfl (lv_at hl 0 rfl) ?_
                refine lv_iload hx hb dX7_journey_46 (lv_at hl 5 rfl) ?_
                refine lv_iload hx hb dX7_journey_48 (lv_at hl 6 rfl) ?_
                refine vp_callSi (rd_wV (wc := md_v a0 q s0) (As := [.int z1, .int z6, .int z7]) (rest := [.int z5]) hx hb hml hown ht (c2_X7_logged h) wd_X7_logged mw_1515 hQ hV va_S.rf (hP.sub [0, 1, 2, 3, 4, 5, 6, 7] rfl) rfl rfl rfl hl.1 rfl (Nat.le_of_ble_eq_true rfl) dX7_journey_50 ⟨Nat.le_of_ble_eq_true rfl, Nat.le_of_ble_eq_true rfl, rfl, rfl⟩ ⟨Nat.le_of_ble_eq_true rfl, Nat.le_of_ble_eq_true rfl⟩) (fun r_8 h => ?_)
                try dsimp only at h
                refine lv_iload hx hb dX7_journey_53 (lv_at hl 5 rfl) ?_
                refine lv_iload_n hx hb dX7_journey_55 rfl (lv_at hl 1 rfl) ?_
                refine lv_iload_n hx hb dX7_journey_56 rfl (lv_at hl 2 rfl) ?_
                refine vp_callSi (rd_wS (wc := ([] : va_W)) (As := [.int z6, .int z2, .int z3]) (rest := [.int r_8, .int z5]) hx hb hml hown ht (c2_X7_moved h) wd_X7_moved mw_1519 hQ hV va_S.rf (hP.sub [] rfl) rfl hl.1 rfl (Nat.le_of_ble_eq_true rfl) dX7_journey_57 ⟨Nat.le_of_ble_eq_true rfl, Nat.le_of_ble_eq_true rfl, rfl, rfl⟩ ⟨Nat.le_of_ble_eq_true rfl, Nat.le_of_ble_eq_true rfl⟩) (fun r_10 h => ?_)
                try dsimp only at h
                refine lv_iload hx hb dX7_journey_60 (lv_at hl 6 rfl) ?_
                refine lv_iload_n hx hb dX7_journey_62 rfl (lv_at hl 1 rfl) ?_
                refine lv_iload_n hx hb dX7_journey_63 rfl (lv_at hl 2 rfl) ?_
                refine vp_callSi (rd_wS (wc := ([] : va_W)) (As := [.int z7, .int z2, .int z3]) (rest := [.int r_10, .int r_8, .int z5]) hx hb hml hown ht (c2_X7_moved h) wd_X7_moved mw_1519 hQ hV va_S.rf (hP.sub [] rfl) rfl hl.1 rfl (Nat.le_of_ble_eq_true rfl) dX7_journey_64 ⟨Nat.le_of_ble_eq_true rfl, Nat.le_of_ble_eq_true rfl, rfl, rfl⟩ ⟨Nat.le_of_ble_eq_true rfl, Nat.le_of_ble_eq_true rfl⟩) (fun r_12 h => ?_)
                try dsimp only at h
                refine lv_iload hx hb dX7_journey_67 (lv_at hl 3 rfl) ?_
                refine vp_callSi (rd_wS (wc := ([] : va_W)) (As := [.int r_10, .int r_12, .int z4]) (rest := [.int r_8, .int z5]) hx hb hml hown ht (c2_X7_on h) wd_X7_on mw_1268 hQ hV va_S.rf (hP.sub [] rfl) rfl hl.1 rfl (Nat.le_of_ble_eq_true rfl) dX7_journey_69 ⟨Nat.le_of_ble_eq_true rfl, Nat.le_of_ble_eq_true rfl, rfl, rfl⟩ ⟨Nat.le_of_ble_eq_true rfl, Nat.le_of_ble_eq_true rfl⟩) (fun r_14 h => ?_)
                try dsimp only at h
                refine lv_imul hx hb dX7_journey_72 ?_
                refine lv_iadd hx hb dX7_journey_73 ?_
                refine lv_istore (lv' := [(5, .int (z5 + (r_8 * r_14))), (1, .int z1), (2, .int z2), (3, .int z3), (4, .int z4), (6, .int z6), (7, .int z7), (0, .ref (a0 0))]) hx hb dX7_journey_74 hl (by decide) rfl (fun ls hl => ?_)
                refine lv_iinc (v := (z7 + 1)) (lv' := [(7, .int (z7 + 1)), (5, .int (z5 + (r_8 * r_14))), (1, .int z1), (2, .int z2), (3, .int z3), (4, .int z4), (6, .int z6), (0, .ref (a0 0))]) hx hb dX7_journey_76 hl (k := 6) rfl rfl (by decide) rfl (fun ls hl => ?_)
                refine lv_goto (tgt := 23) hx hb dX7_journey_79 (by decide) ?_
                exact ih _ _ _ _ _ _ _ ls h (lv_sub hl [2, 3, 4, 5, 1, 6, 0, 7] rfl)
        obtain ⟨n23, h⟩ := h
        refine lp23 _ ?_ n23 _ _ _ _ _ _ _ ls h (lv_sub hl [1, 2, 3, 4, 5, 6, 0, 7] rfl)
        · intro z1 z2 z3 z4 z5 z6 z7 ls h hl
          try dsimp only at h
          refine lv_iinc (v := (z6 + 1)) (lv' := [(6, .int (z6 + 1)), (1, .int z1), (2, .int z2), (3, .int z3), (4, .int z4), (5, .int z5), (7, .int z7), (0, .ref (a0 0))]) hx hb dX7_journey_82 hl (k := 5) rfl rfl (by decide) rfl (fun ls hl => ?_)
          refine lv_goto (tgt := 13) hx hb dX7_journey_85 (by decide) ?_
          exact ih _ _ _ _ _ _ ls h (lv_sub hl [1, 2, 3, 4, 5, 0, 7] rfl)
  obtain ⟨n13, h⟩ := h
  refine lp13 _ ?_ n13 _ _ _ _ _ _ ls h (lv_sub hl [4, 5, 6, 2, 1, 0, 3] rfl)
  · intro z1 z2 z3 z4 z5 z6 ls h hl
    try dsimp only at h
    refine lv_iload hx hb dX7_journey_88 (lv_at hl 4 rfl) ?_
    exact rd_iret hx hb hr hk h dX7_journey_90
