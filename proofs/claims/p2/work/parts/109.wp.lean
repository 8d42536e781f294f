def wp_X4_closeTimes (post : Pg → Prop) (s0 : Pg) (x1 : Int32) : Prop := wp_X4_hasStep (fun r_1 => ((r_1 = 0 → post s0) ∧ (¬ r_1 = 0 → vp_in x1 80 ∧ post (s0.1, (va_up s0.2 4 (upd (s0.2 4) (Int32.toNatClampNeg x1) (s0.1 1))))))) s0 x1
set_option maxHeartbeats 4000000 in
set_option maxRecDepth 100000 in
theorem c2_X4_closeTimes {l : Launch} {D : va_G} {q : Nat → ClassId} {sz : Nat} {a0 : Nat → Nat} {s0 : Pg} {x1 : Int32} {post : Pg → Prop} (h : wp_X4_closeTimes post s0 x1) : Met l yX4_closeTimes (Cond.code yX4_closeTimes cX4_closeTimes 2 none :: w_all) ({ frames := 1, cells := 0, slots := 0, locals := 21 } : Room) (mt_P D q [.ref (a0 0), .int x1] (pg_w a0 q s0) sz) (va_Qv (fun u : Pg => post u) (mt_B D (pg_w a0 q s0) sz (fun u : Pg => pg_w a0 q u)) (va_A (pg_w a0 q s0) sz)) 0 0 (va_A (pg_w a0 q s0) sz) := by
  refine mt_start (by decide) (Nat.le_of_ble_eq_true rfl) ?_
  intro p e s m below meth c ls hx hb hr hml hown ht hk hin hP hQ hD hA hS hV hl
  have hK := hQ.1
  have hown : s.vm.findClass RX4 = some m.cls := hown
  have hl : lv_has ls 2 [(0, .ref (a0 0)), (1, .int x1)] := hl
  have hP : va_P D vwCl [((a0 0), .inr (3, [.ref (a0 1), .ref (a0 2), .ref (a0 3), .ref (a0 4), .ref (a0 5), .ref (a0 6), .ref (a0 7), .int (s0.1 0), .int (s0.1 1), .int (s0.1 2)])), ((a0 1), .inl (q 0, 80, .inl (s0.2 0))), ((a0 2), .inl (q 0, 80, .inl (s0.2 1))), ((a0 3), .inl (q 0, 80, .inl (s0.2 2))), ((a0 4), .inl (q 0, 80, .inl (s0.2 3))), ((a0 5), .inl (q 0, 80, .inl (s0.2 4))), ((a0 6), .inl (q 0, 3, .inl (s0.2 5))), ((a0 7), .inl (q 0, 3, .inl (s0.2 6)))] s.heap := hP
  have hD : va_D _ [((a0 0), .inr (3, [.ref (a0 1), .ref (a0 2), .ref (a0 3), .ref (a0 4), .ref (a0 5), .ref (a0 6), .ref (a0 7), .int (s0.1 0), .int (s0.1 1), .int (s0.1 2)])), ((a0 1), .inl (q 0, 80, .inl (s0.2 0))), ((a0 2), .inl (q 0, 80, .inl (s0.2 1))), ((a0 3), .inl (q 0, 80, .inl (s0.2 2))), ((a0 4), .inl (q 0, 80, .inl (s0.2 3))), ((a0 5), .inl (q 0, 80, .inl (s0.2 4))), ((a0 6), .inl (q 0, 3, .inl (s0.2 5))), ((a0 7), .inl (q 0, 3, .inl (s0.2 6)))] := hD
  unfold wp_X4_closeTimes at h
  refine lv_aload_n hx hb dX4_closeTimes_0 rfl (lv_at hl 0 rfl) ?_
  refine lv_iload_n hx hb dX4_closeTimes_1 rfl (lv_at hl 1 rfl) ?_
  refine vp_callSi (rd_wV (wc := pg_w a0 q s0) (As := [.int x1]) (rest := []) hx hb hml hown ht (c2_X4_hasStep h) wd_X4_hasStep mw_822 hQ hV hS (hP.sub [0, 1, 2, 3, 4, 5, 6, 7] rfl) rfl rfl rfl hl.1 rfl (Nat.le_of_ble_eq_true rfl) dX4_closeTimes_2 ⟨Nat.le_of_ble_eq_true rfl, Nat.le_of_ble_eq_true rfl, rfl, rfl⟩ ⟨Nat.le_of_ble_eq_true rfl, Nat.le_of_ble_eq_true rfl⟩) (fun r_1 h => ?_)
  try dsimp only at h
  refine lv_if_eq (tgt := 18) hx hb dX4_closeTimes_5 (by decide) (fun c_3 => ?_) (fun c_3 => ?_)
  · replace h := h.1 c_3
    exact mt_vret s0 hx hb hr hk h (hP.sub (ws' := pg_w a0 q s0) [0, 1, 2, 3, 4, 5, 6, 7] rfl) (hD.sub (ws' := pg_w a0 q s0) [0, 1, 2, 3, 4, 5, 6, 7] (by decide) rfl) hS dX4_closeTimes_18
  · replace h := h.2 c_3
    refine lv_aload_n hx hb dX4_closeTimes_8 rfl (lv_at hl 0 rfl) ?_
    refine fl_get (C := RX4) (T := TX4) (N := 10) (ci := 3) (v := .ref (a0 5)) hx hb ht in_X4 hown hK hP 0 rfl rfl 4 (by decide) mw_308 rfl dX4_closeTimes_9 ?_
    refine lv_iload_n hx hb dX4_closeTimes_12 rfl (lv_at hl 1 rfl) ?_
    refine lv_aload_n hx hb dX4_closeTimes_13 rfl (lv_at hl 0 rfl) ?_
    refine fl_get (C := RX4) (T := TX4) (N := 10) (ci := 3) (v := .int (s0.1 1)) hx hb ht in_X4 hown hK hP 0 rfl rfl 8 (by decide) mw_312 rfl dX4_closeTimes_14 ?_
    obtain ⟨g_4, h⟩ := h
    refine va_iast hx hb hK hP hD hS 5 0 rfl rfl g_4 dX4_closeTimes_17 (fun H locs hP hD hS => ?_)
    have hP : va_P D vwCl [((a0 0), .inr (3, [.ref (a0 1), .ref (a0 2), .ref (a0 3), .ref (a0 4), .ref (a0 5), .ref (a0 6), .ref (a0 7), .int (s0.1 0), .int (s0.1 1), .int (s0.1 2)])), ((a0 1), .inl (q 0, 80, .inl (s0.2 0))), ((a0 2), .inl (q 0, 80, .inl (s0.2 1))), ((a0 3), .inl (q 0, 80, .inl (s0.2 2))), ((a0 4), .inl (q 0, 80, .inl (s0.2 3))), ((a0 5), .inl (q 0, 80, .inl (upd (s0.2 4) (Int32.toNatClampNeg x1) (s0.1 1)))), ((a0 6), .inl (q 0, 3, .inl (s0.2 5))), ((a0 7), .inl (q 0, 3, .inl (s0.2 6)))] H := hP
    have hD : va_D _ [((a0 0), .inr (3, [.ref (a0 1), .ref (a0 2), .ref (a0 3), .ref (a0 4), .ref (a0 5), .ref (a0 6), .ref (a0 7), .int (s0.1 0), .int (s0.1 1), .int (s0.1 2)])), ((a0 1), .inl (q 0, 80, .inl (s0.2 0))), ((a0 2), .inl (q 0, 80, .inl (s0.2 1))), ((a0 3), .inl (q 0, 80, .inl (s0.2 2))), ((a0 4), .inl (q 0, 80, .inl (s0.2 3))), ((a0 5), .inl (q 0, 80, .inl (upd (s0.2 4) (Int32.toNatClampNeg x1) (s0.1 1)))), ((a0 6), .inl (q 0, 3, .inl (s0.2 5))), ((a0 7), .inl (q 0, 3, .inl (s0.2 6)))] := hD
    exact mt_vret (s0.1, (va_up s0.2 4 (upd (s0.2 4) (Int32.toNatClampNeg x1) (s0.1 1)))) hx hb hr hk h (hP.sub (ws' := pg_w a0 q (s0.1, (va_up s0.2 4 (upd (s0.2 4) (Int32.toNatClampNeg x1) (s0.1 1))))) [0, 1, 2, 3, 4, 5, 6, 7] rfl) (hD.sub (ws' := pg_w a0 q (s0.1, (va_up s0.2 4 (upd (s0.2 4) (Int32.toNatClampNeg x1) (s0.1 1))))) [0, 1, 2, 3, 4, 5, 6, 7] (by decide) rfl) hS dX4_closeTimes_18

def wp_X4_goesOn_L2 (post : Int32 → Pg → Tp → Prop) (e105 : Pg → Tp → Int32 → Prop) : Nat → Pg → Tp → Int32 → Prop
  | 0, _, _, _ => False
  | n2 + 1, t0, t1, z2 => ((3 < z2 → e105 t0 t1 z2) ∧ (¬ 3 < z2 → wp_X5_peek (fun r_2 u_3 => ((¬ r_2 = 59 → ((¬ r_2 = 41 → ((¬ r_2 = (-1) → wp_X5_blame (fun u_8 => post 0 t0 u_8) u_3 (u_3.1 1) (1 : Int32)) ∧ (r_2 = (-1) → (((t0.1 0) ≤ 0 → post 0 t0 u_3) ∧ (¬ (t0.1 0) ≤ 0 → wp_X5_blame (fun u_11 => post 0 t0 u_11) u_3 (u_3.1 1) (1 : Int32)))))) ∧ (r_2 = 41 → ((0 < (t0.1 0) → vp_in ((t0.1 0) - 1) 3 ∧ wp_X4_closeTimes (fun u_15 => wp_X4_goesOn_L2 post e105 n2 u_15 ((va_up u_3.1 1 ((u_3.1 1) + 1)), u_3.2) (z2 + 1)) ((va_up t0.1 0 ((t0.1 0) - 1)), t0.2) ((t0.2 5) (Int32.toNatClampNeg ((t0.1 0) - 1)))) ∧ (¬ 0 < (t0.1 0) → ((¬ r_2 = (-1) → wp_X5_blame (fun u_18 => post 0 t0 u_18) u_3 (u_3.1 1) (1 : Int32)) ∧ (r_2 = (-1) → (((t0.1 0) ≤ 0 → post 0 t0 u_3) ∧ (¬ (t0.1 0) ≤ 0 → wp_X5_blame (fun u_21 => post 0 t0 u_21) u_3 (u_3.1 1) (1 : Int32)))))))))) ∧ (r_2 = 59 → post 1 t0 ((va_up u_3.1 1 ((u_3.1 1) + 1)), u_3.2)))) t1))
def wp_X4_goesOn (post : Int32 → Pg → Tp → Prop) (s0 : Pg) (s1 : Tp) : Prop := (∃ n2, wp_X4_goesOn_L2 post (fun t0 t1 z2 => post 0 t0 t1) n2 s0 s1 0)
set_option maxHeartbeats 4000000 in
set_option maxRecDepth 100000 in
theorem c2_X4_goesOn {l : Launch} {D : va_G} {q : Nat → ClassId} {sz : Nat} {a0 : Nat → Nat} {a1 : Nat → Nat} {s0 : Pg} {s1 : Tp} {post : Int32 → Pg → Tp → Prop} (h : wp_X4_goesOn post s0 s1) : Met l yX4_goesOn (Cond.code yX4_goesOn cX4_goesOn 4 (some .boolean) :: w_all) ({ frames := 2, cells := 0, slots := 0, locals := 42 } : Room) (mt_P D q [.ref (a0 0), .ref (a1 0)] (pg_w a0 q s0 ++ tp_w a1 q s1) sz) (va_Qi (fun r (u : Pg × Tp) => post r u.1 u.2) (mt_B D (pg_w a0 q s0 ++ tp_w a1 q s1) sz (fun u : Pg × Tp => pg_w a0 q u.1 ++ tp_w a1 q u.2)) (va_A (pg_w a0 q s0 ++ tp_w a1 q s1) sz)) 0 0 (va_A (pg_w a0 q s0 ++ tp_w a1 q s1) sz) := by
  refine mt_start (by decide) (Nat.le_of_ble_eq_true rfl) ?_
  intro p e s m below meth c ls hx hb hr hml hown ht hk hin hP hQ hD hA hS hV hl
  have hK := hQ.1
  have hown : s.vm.findClass RX4 = some m.cls := hown
  have hl : lv_has ls 4 [(0, .ref (a0 0)), (1, .ref (a1 0))] := hl
  have hP : va_P D vwCl [((a0 0), .inr (3, [.ref (a0 1), .ref (a0 2), .ref (a0 3), .ref (a0 4), .ref (a0 5), .ref (a0 6), .ref (a0 7), .int (s0.1 0), .int (s0.1 1), .int (s0.1 2)])), ((a0 1), .inl (q 0, 80, .inl (s0.2 0))), ((a0 2), .inl (q 0, 80, .inl (s0.2 1))), ((a0 3), .inl (q 0, 80, .inl (s0.2 2))), ((a0 4), .inl (q 0, 80, .inl (s0.2 3))), ((a0 5), .inl (q 0, 80, .inl (s0.2 4))), ((a0 6), .inl (q 0, 3, .inl (s0.2 5))), ((a0 7), .inl (q 0, 3, .inl (s0.2 6))), ((a1 0), .inr (4, [.ref (a1 1), .int (s1.1 0), .int (s1.1 1), .int (s1.1 2), .int (s1.1 3), .int (s1.1 4), .int (s1.1 5)])), ((a1 1), .inl (q 0, 400, .inl s1.2))] s.heap := hP
  have hD : va_D _ [((a0 0), .inr (3, [.ref (a0 1), .ref (a0 2), .ref (a0 3), .ref (a0 4), .ref (a0 5), .ref (a0 6), .ref (a0 7), .int (s0.1 0), .int (s0.1 1), .int (s0.1 2)])), ((a0 1), .inl (q 0, 80, .inl (s0.2 0))), ((a0 2), .inl (q 0, 80, .inl (s0.2 1))), ((a0 3), .inl (q 0, 80, .inl (s0.2 2))), ((a0 4), .inl (q 0, 80, .inl (s0.2 3))), ((a0 5), .inl (q 0, 80, .inl (s0.2 4))), ((a0 6), .inl (q 0, 3, .inl (s0.2 5))), ((a0 7), .inl (q 0, 3, .inl (s0.2 6))), ((a1 0), .inr (4, [.ref (a1 1), .int (s1.1 0), .int (s1.1 1), .int (s1.1 2), .int (s1.1 3), .int (s1.1 4), .int (s1.1 5)])), ((a1 1), .inl (q 0, 400, .inl s1.2))] := hD
  unfold wp_X4_goesOn at h
  refine lv_iconst (v := 0) hx hb dX4_goesOn_0 (by decide) ?_
  refine lv_istore_n (lv' := [(2, .int 0), (0, .ref (a0 0)), (1, .ref (a1 0))]) hx hb dX4_goesOn_1 rfl hl (by decide) rfl (fun ls hl => ?_)
  have lp2 : ∀ (e105 : Pg → Tp → Int32 → Prop) (k105 : ∀ (t0 : Pg) (t1 : Tp) (z2 : Int32) (H : Heap) (locs : List Loc) (ls : Array Slot), e105 t0 t1 z2 → va_P D vwCl (pg_w a0 q t0 ++ tp_w a1 q t1) H → va_D (va_A (pg_w a0 q s0 ++ tp_w a1 q s1) sz) (pg_w a0 q t0 ++ tp_w a1 q t1) → va_S (va_A (pg_w a0 q s0 ++ tp_w a1 q s1) sz) s.heap H locs → lv_has ls 4 [(2, .int z2), (0, .ref (a0 0)), (1, .ref (a1 0))] → W p l e ({ frames := 2, cells := 0, slots := 0, locals := 42 } : Room) s m [.ref (a0 0), .ref (a1 0)].toArray below meth c H locs 0 0 (MQ below (va_Qi (fun r (u : Pg × Tp) => post r u.1 u.2) (mt_B D (pg_w a0 q s0 ++ tp_w a1 q s1) sz (fun u : Pg × Tp => pg_w a0 q u.1 ++ tp_w a1 q u.2)) (va_A (pg_w a0 q s0 ++ tp_w a1 q s1) sz)) [.ref (a0 0), .ref (a1 0)].toArray s 0 0 (va_A (pg_w a0 q s0 ++ tp_w a1 q s1) sz)) (F0 m 105 ls [])) (n : Nat) (t0 : Pg) (t1 : Tp) (z2 : Int32) (H : Heap) (locs : List Loc) (ls : Array Slot), wp_X4_goesOn_L2 post e105 n t0 t1 z2 → va_P D vwCl (pg_w a0 q t0 ++ tp_w a1 q t1) H → va_D (va_A (pg_w a0 q s0 ++ tp_w a1 q s1) sz) (pg_w a0 q t0 ++ tp_w a1 q t1) → va_S (va_A (pg_w a0 q s0 ++ tp_w a1 q s1) sz) s.heap H locs → lv_has ls 4 [(2, .int z2), (0, .ref (a0 0)), (1, .ref (a1 0))] → W p l e ({ frames := 2, cells := 0, slots := 0, locals := 42 } : Room) s m [.ref (a0 0), .ref (a1 0)].toArray below meth c H locs 0 0 (MQ below (va_Qi (fun r (u : Pg × Tp) => post r u.1 u.2) (mt_B D (pg_w a0 q s0 ++ tp_w a1 q s1) sz (fun u : Pg × Tp => pg_w a0 q u.1 ++ tp_w a1 q u.2)) (va_A (pg_w a0 q s0 ++ tp_w a1 q s1) sz)) [.ref (a0 0), .ref (a1 0)].toArray s 0 0 (va_A (pg_w a0 q s0 ++ tp_w a1 q s1) sz)) (F0 m 2 ls []) := by
    intro e105 k105 n
    induction n with
    | zero =>
      intro t0 t1 z2 H locs ls h
      exact h.elim
    | succ n ih =>
      intro t0 t1 z2 H locs ls h hP hD hS hl
      have hP : va_P D vwCl [((a0 0), .inr (3, [.ref (a0 1), .ref (a0 2), .ref (a0 3), .ref (a0 4), .ref (a0 5), .ref (a0 6), .ref (a0 7), .int (t0.1 0), .int (t0.1 1), .int (t0.1 2)])), ((a0 1), .inl (q 0, 80, .inl (t0.2 0))), ((a0 2), .inl (q 0, 80, .inl (t0.2 1))), ((a0 3), .inl (q 0, 80, .inl (t0.2 2))), ((a0 4), .inl (q 0, 80, .inl (t0.2 3))), ((a0 5), .inl (q 0, 80, .inl (t0.2 4))), ((a0 6), .inl (q 0, 3, .inl (t0.2 5))), ((a0 7), .inl (q 0, 3, .inl (t0.2 6))), ((a1 0), .inr (4, [.ref (a1 1), .int (t1.1 0), .int (t1.1 1), .int (t1.1 2), .int (t1.1 3), .int (t1.1 4), .int (t1.1 5)])), ((a1 1), .inl (q 0, 400, .inl t1.2))] H := hP
      have hD : va_D _ [((a0 0), .inr (3, [.ref (a0 1), .ref (a0 2), .ref (a0 3), .ref (a0 4), .ref (a0 5), .ref (a0 6), .ref (a0 7), .int (t0.1 0), .int (t0.1 1), .int (t0.1 2)])), ((a0 1), .inl (q 0, 80, .inl (t0.2 0))), ((a0 2), .inl (q 0, 80, .inl (t0.2 1))), ((a0 3), .inl (q 0, 80, .inl (t0.2 2))), ((a0 4), .inl (q 0, 80, .inl (t0.2 3))), ((a0 5), .inl (q 0, 80, .inl (t0.2 4))), ((a0 6), .inl (q 0, 3, .inl (t0.2 5))), ((a0 7), .inl (q 0, 3, .inl (t0.2 6))), ((a1 0), .inr (4, [.ref (a1 1), .int (t1.1 0), .int (t1.1 1), .int (t1.1 2), .int (t1.1 3), .int (t1.1 4), .int (t1.1 5)])), ((a1 1), .inl (q 0, 400, .inl t1.2))] := hD
      unfold wp_X4_goesOn_L2 at h
      refine lv_iload_n hx hb dX4_goesOn_2 rfl (lv_at hl 0 rfl) ?_
      refine lv_iconst (v := 3) hx hb dX4_goesOn_3 (by decide) ?_
      refine lv_icmp_gt (tgt := 105) hx hb dX4_goesOn_4 (by decide) (fun c_1 => ?_) (fun c_1 => ?_)
      · replace h := h.1 c_1
        exact k105 _ _ _ _ _ ls h (hP.sub (ws' := pg_w a0 q t0 ++ tp_w a1 q t1) [0, 1, 2, 3, 4, 5, 6, 7, 8, 9] rfl) (hD.sub (ws' := pg_w a0 q t0 ++ tp_w a1 q t1) [0, 1, 2, 3, 4, 5, 6, 7, 8, 9] (by decide) rfl) hS (lv_sub hl [0, 1, 2] rfl)
      · replace h := h.2 c_1
        refine lv_aload_n hx hb dX4_goesOn_7 rfl (lv_at hl 2 rfl) ?_
        refine mt_goi (mt_wV (wc := tp_w a1 q t1) (As := []) (rest := []) hx hb hml hown ht (c2_X5_peek h) wd_X5_peek mw_806 hQ hV hS hA (hP.sub [8, 9] rfl) (hD.sub [8, 9] (by decide) rfl) rfl rfl rfl hl.1 rfl (Nat.le_of_ble_eq_true rfl) dX4_goesOn_8 ⟨Nat.le_of_ble_eq_true rfl, Nat.le_of_ble_eq_true rfl, rfl, rfl⟩ ⟨Nat.le_of_ble_eq_true rfl, Nat.le_of_ble_eq_true rfl⟩) (wr := [((a0 0), .inr (3, [.ref (a0 1), .ref (a0 2), .ref (a0 3), .ref (a0 4), .ref (a0 5), .ref (a0 6), .ref (a0 7), .int (t0.1 0), .int (t0.1 1), .int (t0.1 2)])), ((a0 1), .inl (q 0, 80, .inl (t0.2 0))), ((a0 2), .inl (q 0, 80, .inl (t0.2 1))), ((a0 3), .inl (q 0, 80, .inl (t0.2 2))), ((a0 4), .inl (q 0, 80, .inl (t0.2 3))), ((a0 5), .inl (q 0, 80, .inl (t0.2 4))), ((a0 6), .inl (q 0, 3, .inl (t0.2 5))), ((a0 7), .inl (q 0, 3, .inl (t0.2 6)))]) hP hD hS hA [8, 9] [0, 1, 2, 3, 4, 5, 6, 7] rfl rfl (by decide) (by decide) (fun r_2 u_3 H locs h hP hD hS => ?_)
        try dsimp only at h
        have hP : va_P D vwCl [((a0 0), .inr (3, [.ref (a0 1), .ref (a0 2), .ref (a0 3), .ref (a0 4), .ref (a0 5), .ref (a0 6), .ref (a0 7), .int (t0.1 0), .int (t0.1 1), .int (t0.1 2)])), ((a0 1), .inl (q 0, 80, .inl (t0.2 0))), ((a0 2), .inl (q 0, 80, .inl (t0.2 1))), ((a0 3), .inl (q 0, 80, .inl (t0.2 2))), ((a0 4), .inl (q 0, 80, .inl (t0.2 3))), ((a0 5), .inl (q 0, 80, .inl (t0.2 4))), ((a0 6), .inl (q 0, 3, .inl (t0.2 5))), ((a0 7), .inl (q 0, 3, .inl (t0.2 6))), ((a1 0), .inr (4, [.ref (a1 1), .int (u_3.1 0), .int (u_3.1 1), .int (u_3.1 2), .int (u_3.1 3), .int (u_3.1 4), .int (u_3.1 5)])), ((a1 1), .inl (q 0, 400, .inl u_3.2))] H := hP
        have hD : va_D _ [((a0 0), .inr (3, [.ref (a0 1), .ref (a0 2), .ref (a0 3), .ref (a0 4), .ref (a0 5), .ref (a0 6), .ref (a0 7), .int (t0.1 0), .int (t0.1 1), .int (t0.1 2)])), ((a0 1), .inl (q 0, 80, .inl (t0.2 0))), ((a0 2), .inl (q 0, 80, .inl (t0.2 1))), ((a0 3), .inl (q 0, 80, .inl (t0.2 2))), ((a0 4), .inl (q 0, 80, .inl (t0.2 3))), ((a0 5), .inl (q 0, 80, .inl (t0.2 4))), ((a0 6), .inl (q 0, 3, .inl (t0.2 5))), ((a0 7), .inl (q 0, 3, .inl (t0.2 6))), ((a1 0), .inr (4, [.ref (a1 1), .int (u_3.1 0), .int (u_3.1 1), .int (u_3.1 2), .int (u_3.1 3), .int (u_3.1 4), .int (u_3.1 5)])), ((a1 1), .inl (q 0, 400, .inl u_3.2))] := hD
        refine lv_istore_n (lv' := [(3, .int r_2), (2, .int z2), (0, .ref (a0 0)), (1, .ref (a1 0))]) hx hb dX4_goesOn_11 rfl hl (by decide) rfl (fun ls hl => ?_)
        refine lv_iload_n hx hb dX4_goesOn_12 rfl (lv_at hl 0 rfl) ?_
        refine lv_bipush (v := 59) hx hb dX4_goesOn_13 (by decide) ?_
        refine lv_icmp_ne (tgt := 30) hx hb dX4_goesOn_15 (by decide) (fun c_4 => ?_) (fun c_4 => ?_)
        · replace h := h.1 c_4
          refine lv_iload_n hx hb dX4_goesOn_30 rfl (lv_at hl 0 rfl) ?_
          refine lv_bipush (v := 41) hx hb dX4_goesOn_31 (by decide) ?_
          refine lv_icmp_ne (tgt := 43) hx hb dX4_goesOn_33 (by decide) (fun c_5 => ?_) (fun c_5 => ?_)
          · replace h := h.1 c_5
            refine lv_iload_n hx hb dX4_goesOn_43 rfl (lv_at hl 0 rfl) ?_
            refine lv_iconst (v := (-1)) hx hb dX4_goesOn_44 (by decide) ?_
            refine lv_icmp_ne (tgt := 55) hx hb dX4_goesOn_45 (by decide) (fun c_6 => ?_) (fun c_6 => ?_)
            · replace h := h.1 c_6
              refine lv_aload_n hx hb dX4_goesOn_55 rfl (lv_at hl 3 rfl) ?_
              refine lv_aload_n hx hb dX4_goesOn_56 rfl (lv_at hl 3 rfl) ?_
              refine fl_get (C := RX5) (T := TX5) (N := 7) (ci := 4) (v := .int (u_3.1 1)) hx hb ht in_X5 hown hK hP 8 rfl rfl 2 (by decide) mw_133 rfl dX4_goesOn_57 ?_
              refine lv_iconst (v := 1) hx hb dX4_goesOn_60 (by decide) ?_
              refine mt_gov (mt_wV (wc := tp_w a1 q u_3) (As := [.int (u_3.1 1), .int 1]) (rest := []) hx hb hml hown ht (c2_X5_blame h) wd_X5_blame mw_807 hQ hV hS hA (hP.sub [8, 9] rfl) (hD.sub [8, 9] (by decide) rfl) rfl rfl rfl hl.1 rfl (Nat.le_of_ble_eq_true rfl) dX4_goesOn_61 ⟨Nat.le_of_ble_eq_true rfl, Nat.le_of_ble_eq_true rfl, rfl, rfl⟩ ⟨Nat.le_of_ble_eq_true rfl, Nat.le_of_ble_eq_true rfl⟩) (wr := [((a0 0), .inr (3, [.ref (a0 1), .ref (a0 2), .ref (a0 3), .ref (a0 4), .ref (a0 5), .ref (a0 6), .ref (a0 7), .int (t0.1 0), .int (t0.1 1), .int (t0.1 2)])), ((a0 1), .inl (q 0, 80, .inl (t0.2 0))), ((a0 2), .inl (q 0, 80, .inl (t0.2 1))), ((a0 3), .inl (q 0, 80, .inl (t0.2 2))), ((a0 4), .inl (q 0, 80, .inl (t0.2 3))), ((a0 5), .inl (q 0, 80, .inl (t0.2 4))), ((a0 6), .inl (q 0, 3, .inl (t0.2 5))), ((a0 7), .inl (q 0, 3, .inl (t0.2 6)))]) hP hD hS hA [8, 9] [0, 1, 2, 3, 4, 5, 6, 7] rfl rfl (by decide) (by decide) (fun u_8 H locs h hP hD hS => ?_)
              try dsimp only at h
              have hP : va_P D vwCl [((a0 0), .inr (3, [.ref (a0 1), .ref (a0 2), .ref (a0 3), .ref (a0 4), .ref (a0 5), .ref (a0 6), .ref (a0 7), .int (t0.1 0), .int (t0.1 1), .int (t0.1 2)])), ((a0 1), .inl (q 0, 80, .inl (t0.2 0))), ((a0 2), .inl (q 0, 80, .inl (t0.2 1))), ((a0 3), .inl (q 0, 80, .inl (t0.2 2))), ((a0 4), .inl (q 0, 80, .inl (t0.2 3))), ((a0 5), .inl (q 0, 80, .inl (t0.2 4))), ((a0 6), .inl (q 0, 3, .inl (t0.2 5))), ((a0 7), .inl (q 0, 3, .inl (t0.2 6))), ((a1 0), .inr (4, [.ref (a1 1), .int (u_8.1 0), .int (u_8.1 1), .int (u_8.1 2), .int (u_8.1 3), .int (u_8.1 4), .int (u_8.1 5)])), ((a1 1), .inl (q 0, 400, .inl u_8.2))] H := hP
              have hD : va_D _ [((a0 0), .inr (3, [.ref (a0 1), .ref (a0 2), .ref (a0 3), .ref (a0 4), .ref (a0 5), .ref (a0 6), .ref (a0 7), .int (t0.1 0), .int (t0.1 1), .int (t0.1 2)])), ((a0 1), .inl (q 0, 80, .inl (t0.2 0))), ((a0 2), .inl (q 0, 80, .inl (t0.2 1))), ((a0 3), .inl (q 0, 80, .inl (t0.2 2))), ((a0 4), .inl (q 0, 80, .inl (t0.2 3))), ((a0 5), .inl (q 0, 80, .inl (t0.2 4))), ((a0 6), .inl (q 0, 3, .inl (t0.2 5))), ((a0 7), .inl (q 0, 3, .inl (t0.2 6))), ((a1 0), .inr (4, [.ref (a1 1), .int (u_8.1 0), .int (u_8.1 1), .int (u_8.1 2), .int (u_8.1 3), .int (u_8.1 4), .int (u_8.1 5)])), ((a1 1), .inl (q 0, 400, .inl u_8.2))] := hD
              refine lv_iconst (v := 0) hx hb dX4_goesOn_64 (by decide) ?_
              exact mt_zret (t0, u_8) hx hb hr hk rfl h (hP.sub (ws' := pg_w a0 q t0 ++ tp_w a1 q u_8) [0, 1, 2, 3, 4, 5, 6, 7, 8, 9] rfl) (hD.sub (ws' := pg_w a0 q t0 ++ tp_w a1 q u_8) [0, 1, 2, 3, 4, 5, 6, 7, 8, 9] (by decide) rfl) hS dX4_goesOn_65
            · replace h := h.2 c_6
              refine lv_aload_n hx hb dX4_goesOn_48 rfl (lv_at hl 2 rfl) ?_
              refine fl_get (C := RX4) (T := TX4) (N := 10) (ci := 3) (v := .int (t0.1 0)) hx hb ht in_X4 hown hK hP 0 rfl rfl 7 (by decide) mw_311 rfl dX4_goesOn_49 ?_
              refine lv_if_le (tgt := 64) hx hb dX4_goesOn_52 (by decide) (fun c_9 => ?_) (fun c_9 => ?_)
              · replace h := h.1 c_9
                refine lv_iconst (v := 0) hx hb dX4_goesOn_64 (by decide) ?_
                exact mt_zret (t0, u_3) hx hb hr hk rfl h (hP.sub (ws' := pg_w a0 q t0 ++ tp_w a1 q u_3) [0, 1, 2, 3, 4, 5, 6, 7, 8, 9] rfl) (hD.sub (ws' := pg_w a0 q t0 ++ tp_w a1 q u_3) [0, 1, 2, 3, 4, 5, 6, 7, 8, 9] (by decide) rfl) hS dX4_goesOn_65
              · replace h := h.2 c_9
                refine lv_aload_n hx hb dX4_goesOn_55 rfl (lv_at hl 3 rfl) ?_
                refine lv_aload_n hx hb dX4_goesOn_56 rfl (lv_at hl 3 rfl) ?_
                refine fl_get (C := RX5) (T := TX5) (N := 7) (ci := 4) (v := .int (u_3.1 1)) hx hb ht in_X5 hown hK hP 8 rfl rfl 2 (by decide) mw_133 rfl dX4_goesOn_57 ?_
                refine lv_iconst (v := 1) hx hb dX4_goesOn_60 (by decide) ?_
                refine mt_gov (mt_wV (wc := tp_w a1 q u_3) (As := [.int (u_3.1 1), .int 1]) (rest := []) hx hb hml hown ht (c2_X5_blame h) wd_X5_blame mw_807 hQ hV hS hA (hP.sub [8, 9] rfl) (hD.sub [8, 9] (by decide) rfl) rfl rfl rfl hl.1 rfl (Nat.le_of_ble_eq_true rfl) dX4_goesOn_61 ⟨Nat.le_of_ble_eq_true rfl, Nat.le_of_ble_eq_true rfl, rfl, rfl⟩ ⟨Nat.le_of_ble_eq_true rfl, Nat.le_of_ble_eq_true rfl⟩) (wr := [((a0 0), .inr (3, [.ref (a0 1), .ref (a0 2), .ref (a0 3), .ref (a0 4), .ref (a0 5), .ref (a0 6), .ref (a0 7), .int (t0.1 0), .int (t0.1 1), .int (t0.1 2)])), ((a0 1), .inl (q 0, 80, .inl (t0.2 0))), ((a0 2), .inl (q 0, 80, .inl (t0.2 1))), ((a0 3), .inl (q 0, 80, .inl (t0.2 2))), ((a0 4), .inl (q 0, 80, .inl (t0.2 3))), ((a0 5), .inl (q 0, 80, .inl (t0.2 4))), ((a0 6), .inl (q 0, 3, .inl (t0.2 5))), ((a0 7), .inl (q 0, 3, .inl (t0.2 6)))]) hP hD hS hA [8, 9] [0, 1, 2, 3, 4, 5, 6, 7] rfl rfl (by decide) (by decide) (fun u_11 H locs h hP hD hS => ?_)
                try dsimp only at h
                have hP : va_P D vwCl [((a0 0), .inr (3, [.ref (a0 1), .ref (a0 2), .ref (a0 3), .ref (a0 4), .ref (a0 5), .ref (a0 6), .ref (a0 7), .int (t0.1 0), .int (t0.1 1), .int (t0.1 2)])), ((a0 1), .inl (q 0, 80, .inl (t0.2 0))), ((a0 2), .inl (q 0, 80, .inl (t0.2 1))), ((a0 3), .inl (q 0, 80, .inl (t0.2 2))), ((a0 4), .inl (q 0, 80, .inl (t0.2 3))), ((a0 5), .inl (q 0, 80, .inl (t0.2 4))), ((a0 6), .inl (q 0, 3, .inl (t0.2 5))), ((a0 7), .inl (q 0, 3, .inl (t0.2 6))), ((a1 0), .inr (4, [.ref (a1 1), .int (u_11.1 0), .int (u_11.1 1), .int (u_11.1 2), .int (u_11.1 3), .int (u_11.1 4), .int (u_11.1 5)])), ((a1 1), .inl (q 0, 400, .inl u_11.2))] H := hP
                have hD : va_D _ [((a0 0), .inr (3, [.ref (a0 1), .ref (a0 2), .ref (a0 3), .ref (a0 4), .ref (a0 5), .ref (a0 6), .ref (a0 7), .int (t0.1 0), .int (t0.1 1), .int (t0.1 2)])), ((a0 1), .inl (q 0, 80, .inl (t0.2 0))), ((a0 2), .inl (q 0, 80, .inl (t0.2 1))), ((a0 3), .inl (q 0, 80, .inl (t0.2 2))), ((a0 4), .inl (q 0, 80, .inl (t0.2 3))), ((a0 5), .inl (q 0, 80, .inl (t0.2 4))), ((a0 6), .inl (q 0, 3, .inl (t0.2 5))), ((a0 7), .inl (q 0, 3, .inl (t0.2 6))), ((a1 0), .inr (4, [.ref (a1 1), .int (u_11.1 0), .int (u_11.1 1), .int (u_11.1 2), .int (u_11.1 3), .int (u_11.1 4), .int (u_11.1 5)])), ((a1 1), .inl (q 0, 400, .inl u_11.2))] := hD
                refine lv_iconst (v := 0) hx hb dX4_goesOn_64 (by decide) ?_
                exact mt_zret (t0, u_11) hx hb hr hk rfl h (hP.sub (ws' := pg_w a0 q t0 ++ tp_w a1 q u_11) [0, 1, 2, 3, 4, 5, 6, 7, 8, 9] rfl) (hD.sub (ws' := pg_w a0 q t0 ++ tp_w a1 q u_11) [0, 1, 2, 3, 4, 5, 6, 7, 8, 9] (by decide) rfl) hS dX4_goesOn_65
          · replace h := h.2 c_5
            refine lv_aload_n hx hb dX4_goesOn_36 rfl (lv_at hl 2 rfl) ?_
            refine fl_get (C := RX4) (T := TX4) (N := 10) (ci := 3) (v := .int (t0.1 0)) hx hb ht in_X4 hown hK hP 0 rfl rfl 7 (by decide) mw_311 rfl dX4_goesOn_37 ?_
            refine lv_if_gt (tgt := 66) hx hb dX4_goesOn_40 (by decide) (fun c_12 => ?_) (fun c_12 => ?_)
            · replace h := h.1 c_12
              refine lv_aload_n hx hb dX4_goesOn_66 rfl (lv_at hl 3 rfl) ?_
              refine lv_dup hx hb dX4_goesOn_67 rfl ?_
              refine fl_get (C := RX5) (T := TX5) (N := 7) (ci := 4) (v := .int (u_3.1 1)) hx hb ht in_X5 hown hK hP 8 rfl rfl 2 (by decide) mw_133 rfl dX4_goesOn_68 ?_
              refine lv_iconst (v := 1) hx hb dX4_goesOn_71 (by decide) ?_
              refine lv_iadd hx hb dX4_goesOn_72 ?_
              refine fl_put (C := RX5) (T := TX5) (N := 7) (ci := 4) (v := .int ((u_3.1 1) + 1)) (ws2 := [((a0 0), .inr (3, [.ref (a0 1), .ref (a0 2), .ref (a0 3), .ref (a0 4), .ref (a0 5), .ref (a0 6), .ref (a0 7), .int (t0.1 0), .int (t0.1 1), .int (t0.1 2)])), ((a0 1), .inl (q 0, 80, .inl (t0.2 0))), ((a0 2), .inl (q 0, 80, .inl (t0.2 1))), ((a0 3), .inl (q 0, 80, .inl (t0.2 2))), ((a0 4), .inl (q 0, 80, .inl (t0.2 3))), ((a0 5), .inl (q 0, 80, .inl (t0.2 4))), ((a0 6), .inl (q 0, 3, .inl (t0.2 5))), ((a0 7), .inl (q 0, 3, .inl (t0.2 6))), ((a1 0), .inr (4, [.ref (a1 1), .int (u_3.1 0), .int ((u_3.1 1) + 1), .int (u_3.1 2), .int (u_3.1 3), .int (u_3.1 4), .int (u_3.1 5)])), ((a1 1), .inl (q 0, 400, .inl u_3.2))]) hx hb ht in_X5 tyX5_ok nmX5 hown hK hP hD hS 8 rfl rfl 2 (by decide) mw_133 rfl rfl rfl (Nat.le_of_ble_eq_true rfl) dX4_goesOn_73 rfl (fun H locs hP hD hS => ?_)
              refine lv_aload_n hx hb dX4_goesOn_76 rfl (lv_at hl 2 rfl) ?_
              refine lv_dup hx hb dX4_goesOn_77 rfl ?_
              refine fl_get (C := RX4) (T := TX4) (N := 10) (ci := 3) (v := .int (t0.1 0)) hx hb ht in_X4 hown hK hP 0 rfl rfl 7 (by decide) mw_311 rfl dX4_goesOn_78 ?_
              refine lv_iconst (v := 1) hx hb dX4_goesOn_81 (by decide) ?_
              refine lv_isub hx hb dX4_goesOn_82 ?_
              refine fl_put (C := RX4) (T := TX4) (N := 10) (ci := 3) (v := .int ((t0.1 0) - 1)) (ws2 := [((a0 0), .inr (3, [.ref (a0 1), .ref (a0 2), .ref (a0 3), .ref (a0 4), .ref (a0 5), .ref (a0 6), .ref (a0 7), .int ((t0.1 0) - 1), .int (t0.1 1), .int (t0.1 2)])), ((a0 1), .inl (q 0, 80, .inl (t0.2 0))), ((a0 2), .inl (q 0, 80, .inl (t0.2 1))), ((a0 3), .inl (q 0, 80, .inl (t0.2 2))), ((a0 4), .inl (q 0, 80, .inl (t0.2 3))), ((a0 5), .inl (q 0, 80, .inl (t0.2 4))), ((a0 6), .inl (q 0, 3, .inl (t0.2 5))), ((a0 7), .inl (q 0, 3, .inl (t0.2 6))), ((a1 0), .inr (4, [.ref (a1 1), .int (u_3.1 0), .int ((u_3.1 1) + 1), .int (u_3.1 2), .int (u_3.1 3), .int (u_3.1 4), .int (u_3.1 5)])), ((a1 1), .inl (q 0, 400, .inl u_3.2))]) hx hb ht in_X4 tyX4_ok nmX4 hown hK hP hD hS 0 rfl rfl 7 (by decide) mw_311 rfl rfl rfl (Nat.le_of_ble_eq_true rfl) dX4_goesOn_83 rfl (fun H locs hP hD hS => ?_)
              refine lv_aload_n hx hb dX4_goesOn_86 rfl (lv_at hl 2 rfl) ?_
              refine lv_aload_n hx hb dX4_goesOn_87 rfl (lv_at hl 2 rfl) ?_
              refine fl_get (C := RX4) (T := TX4) (N := 10) (ci := 3) (v := .ref (a0 6)) hx hb ht in_X4 hown hK hP 0 rfl rfl 5 (by decide) mw_309 rfl dX4_goesOn_88 ?_
              refine lv_aload_n hx hb dX4_goesOn_91 rfl (lv_at hl 2 rfl) ?_
              refine fl_get (C := RX4) (T := TX4) (N := 10) (ci := 3) (v := .int ((t0.1 0) - 1)) hx hb ht in_X4 hown hK hP 0 rfl rfl 7 (by decide) mw_311 rfl dX4_goesOn_92 ?_
              obtain ⟨g_13, h⟩ := h
              refine va_iald hx hb hK hP 6 0 rfl rfl g_13 dX4_goesOn_95 ?_
              refine mt_gov (mt_wV (wc := pg_w a0 q ((va_up t0.1 0 ((t0.1 0) - 1)), t0.2)) (As := [.int ((t0.2 5) (Int32.toNatClampNeg ((t0.1 0) - 1)))]) (rest := []) hx hb hml hown ht (c2_X4_closeTimes h) wd_X4_closeTimes mw_818 hQ hV hS hA (hP.sub [0, 1, 2, 3, 4, 5, 6, 7] rfl) (hD.sub [0, 1, 2, 3, 4, 5, 6, 7] (by decide) rfl) rfl rfl rfl hl.1 rfl (Nat.le_of_ble_eq_true rfl) dX4_goesOn_96 ⟨Nat.le_of_ble_eq_true rfl, Nat.le_of_ble_eq_true rfl, rfl, rfl⟩ ⟨Nat.le_of_ble_eq_true rfl, Nat.le_of_ble_eq_true rfl⟩) (wr := [((a1 0), .inr (4, [.ref (a1 1), .int (u_3.1 0), .int ((u_3.1 1) + 1), .int (u_3.1 2), .int (u_3.1 3), .int (u_3.1 4), .int (u_3.1 5)])), ((a1 1), .inl (q 0, 400, .inl u_3.2))]) hP hD hS hA [0, 1, 2, 3, 4, 5, 6, 7] [8, 9] rfl rfl (by decide) (by decide) (fun u_15 H locs h hP hD hS => ?_)
              try dsimp only at h
              have hP : va_P D vwCl [((a1 0), .inr (4, [.ref (a1 1), .int (u_3.1 0), .int ((u_3.1 1) + 1), .int (u_3.1 2), .int (u_3.1 3), .int (u_3.1 4), .int (u_3.1 5)])), ((a1 1), .inl (q 0, 400, .inl u_3.2)), ((a0 0), .inr (3, [.ref (a0 1), .ref (a0 2), .ref (a0 3), .ref (a0 4), .ref (a0 5), .ref (a0 6), .ref (a0 7), .int (u_15.1 0), .int (u_15.1 1), .int (u_15.1 2)])), ((a0 1), .inl (q 0, 80, .inl (u_15.2 0))), ((a0 2), .inl (q 0, 80, .inl (u_15.2 1))), ((a0 3), .inl (q 0, 80, .inl (u_15.2 2))), ((a0 4), .inl (q 0, 80, .inl (u_15.2 3))), ((a0 5), .inl (q 0, 80, .inl (u_15.2 4))), ((a0 6), .inl (q 0, 3, .inl (u_15.2 5))), ((a0 7), .inl (q 0, 3, .inl (u_15.2 6)))] H := hP
              have hD : va_D _ [((a1 0), .inr (4, [.ref (a1 1), .int (u_3.1 0), .int ((u_3.1 1) + 1), .int (u_3.1 2), .int (u_3.1 3), .int (u_3.1 4), .int (u_3.1 5)])), ((a1 1), .inl (q 0, 400, .inl u_3.2)), ((a0 0), .inr (3, [.ref (a0 1), .ref (a0 2), .ref (a0 3), .ref (a0 4), .ref (a0 5), .ref (a0 6), .ref (a0 7), .int (u_15.1 0), .int (u_15.1 1), .int (u_15.1 2)])), ((a0 1), .inl (q 0, 80, .inl (u_15.2 0))), ((a0 2), .inl (q 0, 80, .inl (u_15.2 1))), ((a0 3), .inl (q 0, 80, .inl (u_15.2 2))), ((a0 4), .inl (q 0, 80, .inl (u_15.2 3))), ((a0 5), .inl (q 0, 80, .inl (u_15.2 4))), ((a0 6), .inl (q 0, 3, .inl (u_15.2 5))), ((a0 7), .inl (q 0, 3, .inl (u_15.2 6)))] := hD
              refine lv_iinc (v := (z2 + 1)) (lv' := [(2, .int (z2 + 1)), (3, .int r_2), (0, .ref (a0 0)), (1, .ref (a1 0))]) hx hb dX4_goesOn_99 hl (k := 1) rfl rfl (by decide) rfl (fun ls hl => ?_)
              refine lv_goto (tgt := 2) hx hb dX4_goesOn_102 (by decide) ?_
              exact ih _ _ _ _ _ ls h (hP.sub (ws' := pg_w a0 q u_15 ++ tp_w a1 q ((va_up u_3.1 1 ((u_3.1 1) + 1)), u_3.2)) [2, 3, 4, 5, 6, 7, 8, 9, 0, 1] rfl) (hD.sub (ws' := pg_w a0 q u_15 ++ tp_w a1 q ((va_up u_3.1 1 ((u_3.1 1) + 1)), u_3.2)) [2, 3, 4, 5, 6, 7, 8, 9, 0, 1] (by decide) rfl) hS (lv_sub hl [0, 2, 3] rfl)
            · replace h := h.2 c_12
              refine lv_iload_n hx hb dX4_goesOn_43 rfl (lv_at hl 0 rfl) ?_
              refine lv_iconst (v := (-1)) hx hb dX4_goesOn_44 (by decide) ?_
              refine lv_icmp_ne (tgt := 55) hx hb dX4_goesOn_45 (by decide) (fun c_16 => ?_) (fun c_16 => ?_)
              · replace h := h.1 c_16
                refine lv_aload_n hx hb dX4_goesOn_55 rfl (lv_at hl 3 rfl) ?_
                refine lv_aload_n hx hb dX4_goesOn_56 rfl (lv_at hl 3 rfl) ?_
                refine fl_get (C := RX5) (T := TX5) (N := 7) (ci := 4) (v := .int (u_3.1 1)) hx hb ht in_X5 hown hK hP 8 rfl rfl 2 (by decide) mw_133 rfl dX4_goesOn_57 ?_
                refine lv_iconst (v := 1) hx hb dX4_goesOn_60 (by decide) ?_
                refine mt_gov (mt_wV (wc := tp_w a1 q u_3) (As := [.int (u_3.1 1), .int 1]) (rest := []) hx hb hml hown ht (c2_X5_blame h) wd_X5_blame mw_807 hQ hV hS hA (hP.sub [8, 9] rfl) (hD.sub [8, 9] (by decide) rfl) rfl rfl rfl hl.1 rfl (Nat.le_of_ble_eq_true rfl) dX4_goesOn_61 ⟨Nat.le_of_ble_eq_true rfl, Nat.le_of_ble_eq_true rfl, rfl, rfl⟩ ⟨Nat.le_of_ble_eq_true rfl, Nat.le_of_ble_eq_true rfl⟩) (wr := [((a0 0), .inr (3, [.ref (a0 1), .ref (a0 2), .ref (a0 3), .ref (a0 4), .ref (a0 5), .ref (a0 6), .ref (a0 7), .int (t0.1 0), .int (t0.1 1), .int (t0.1 2)])), ((a0 1), .inl (q 0, 80, .inl (t0.2 0))), ((a0 2), .inl (q 0, 80, .inl (t0.2 1))), ((a0 3), .inl (q 0, 80, .inl (t0.2 2))), ((a0 4), .inl (q 0, 80, .inl (t0.2 3))), ((a0 5), .inl (q 0, 80, .inl (t0.2 4))), ((a0 6), .inl (q 0, 3, .inl (t0.2 5))), ((a0 7), .inl (q 0, 3, .inl (t0.2 6)))]) hP hD hS hA [8, 9] [0, 1, 2, 3, 4, 5, 6, 7] rfl rfl (by decide) (by decide) (fun u_18 H locs h hP hD hS => ?_)
                try dsimp only at h
                have hP : va_P D vwCl [((a0 0), .inr (3, [.ref (a0 1), .ref (a0 2), .ref (a0 3), .ref (a0 4), .ref (a0 5), .ref (a0 6), .ref (a0 7), .int (t0.1 0), .int (t0.1 1), .int (t0.1 2)])), ((a0 1), .inl (q 0, 80, .inl (t0.2 0))), ((a0 2), .inl (q 0, 80, .inl (t0.2 1))), ((a0 3), .inl (q 0, 80, .inl (t0.2 2))), ((a0 4), .inl (q 0, 80, .inl (t0.2 3))), ((a0 5), .inl (q 0, 80, .inl (t0.2 4))), ((a0 6), .inl (q 0, 3, .inl (t0.2 5))), ((a0 7), .inl (q 0, 3, .inl (t0.2 6))), ((a1 0), .inr (4, [.ref (a1 1), .int (u_18.1 0), .int (u_18.1 1), .int (u_18.1 2), .int (u_18.1 3), .int (u_18.1 4), .int (u_18.1 5)])), ((a1 1), .inl (q 0, 400, .inl u_18.2))] H := hP
                have hD : va_D _ [((a0 0), .inr (3, [.ref (a0 1), .ref (a0 2), .ref (a0 3), .ref (a0 4), .ref (a0 5), .ref (a0 6), .ref (a0 7), .int (t0.1 0), .int (t0.1 1), .int (t0.1 2)])), ((a0 1), .inl (q 0, 80, .inl (t0.2 0))), ((a0 2), .inl (q 0, 80, .inl (t0.2 1))), ((a0 3), .inl (q 0, 80, .inl (t0.2 2))), ((a0 4), .inl (q 0, 80, .inl (t0.2 3))), ((a0 5), .inl (q 0, 80, .inl (t0.2 4))), ((a0 6), .inl (q 0, 3, .inl (t0.2 5))), ((a0 7), .inl (q 0, 3, .inl (t0.2 6))), ((a1 0), .inr (4, [.ref (a1 1), .int (u_18.1 0), .int (u_18.1 1), .int (u_18.1 2), .int (u_18.1 3), .int (u_18.1 4), .int (u_18.1 5)])), ((a1 1), .inl (q 0, 400, .inl u_18.2))] := hD
                refine lv_iconst (v := 0) hx hb dX4_goesOn_64 (by decide) ?_
                exact mt_zret (t0, u_18) hx hb hr hk rfl h (hP.sub (ws' := pg_w a0 q t0 ++ tp_w a1 q u_18) [0, 1, 2, 3, 4, 5, 6, 7, 8, 9] rfl) (hD.sub (ws' := pg_w a0 q t0 ++ tp_w a1 q u_18) [0, 1, 2, 3, 4, 5, 6, 7, 8, 9] (by decide) rfl) hS dX4_goesOn_65
              · replace h := h.2 c_16
                refine lv_aload_n hx hb dX4_goesOn_48 rfl (lv_at hl 2 rfl) ?_
                refine fl_get (C := RX4) (T := TX4) (N := 10) (ci := 3) (v := .int (t0.1 0)) hx hb ht in_X4 hown hK hP 0 rfl rfl 7 (by decide) mw_311 rfl dX4_goesOn_49 ?_
                refine lv_if_le (tgt := 64) hx hb dX4_goesOn_52 (by decide) (fun c_19 => ?_) (fun c_19 => ?_)
                · replace h := h.1 c_19
                  refine lv_iconst (v := 0) hx hb dX4_goesOn_64 (by decide) ?_
                  exact mt_zret (t0, u_3) hx hb hr hk rfl h (hP.sub (ws' := pg_w a0 q t0 ++ tp_w a1 q u_3) [0, 1, 2, 3, 4, 5, 6, 7, 8, 9] rfl) (hD.sub (ws' := pg_w a0 q t0 ++ tp_w a1 q u_3) [0, 1, 2, 3, 4, 5, 6, 7, 8, 9] (by decide) rfl) hS dX4_goesOn_65
                · replace h := h.2 c_19
                  refine lv_aload_n hx hb dX4_goesOn_55 rfl (lv_at hl 3 rfl) ?_
                  refine lv_aload_n hx hb dX4_goesOn_56 rfl (lv_at hl 3 rfl) ?_
                  refine fl_get (C := RX5) (T := TX5) (N := 7) (ci := 4) (v := .int (u_3.1 1)) hx hb ht in_X5 hown hK hP 8 rfl rfl 2 (by decide) mw_133 rfl dX4_goesOn_57 ?_
                  refine lv_iconst (v := 1) hx hb dX4_goesOn_60 (by decide) ?_
                  refine mt_gov (mt_wV (wc := tp_w a1 q u_3) (As := [.int (u_3.1 1), .int 1]) (rest := []) hx hb hml hown ht (c2_X5_blame h) wd_X5_blame mw_807 hQ hV hS hA (hP.sub [8, 9] rfl) (hD.sub [8, 9] (by decide) rfl) rfl rfl rfl hl.1 rfl (Nat.le_of_ble_eq_true rfl) dX4_goesOn_61 ⟨Nat.le_of_ble_eq_true rfl, Nat.le_of_ble_eq_true rfl, rfl, rfl⟩ ⟨Nat.le_of_ble_eq_true rfl, Nat.le_of_ble_eq_true rfl⟩) (wr := [((a0 0), .inr (3, [.ref (a0 1), .ref (a0 2), .ref (a0 3), .ref (a0 4), .ref (a0 5), .ref (a0 6), .ref (a0 7), .int (t0.1 0), .int (t0.1 1), .int (t0.1 2)])), ((a0 1), .inl (q 0, 80, .inl (t0.2 0))), ((a0 2), .inl (q 0, 80, .inl (t0.2 1))), ((a0 3), .inl (q 0, 80, .inl (t0.2 2))), ((a0 4), .inl (q 0, 80, .inl (t0.2 3))), ((a0 5), .inl (q 0, 80, .inl (t0.2 4))), ((a0 6), .inl (q 0, 3, .inl (t0.2 5))), ((a0 7), .inl (q 0, 3, .inl (t0.2 6)))]) hP hD hS hA [8, 9] [0, 1, 2, 3, 4, 5, 6, 7] rfl rfl (by decide) (by decide) (fun u_21 H locs h hP hD hS => ?_)
                  try dsimp only at h
                  have hP : va_P D vwCl [((a0 0), .inr (3, [.ref (a0 1), .ref (a0 2), .ref (a0 3), .ref (a0 4), .ref (a0 5), .ref (a0 6), .ref (a0 7), .int (t0.1 0), .int (t0.1 1), .int (t0.1 2)])), ((a0 1), .inl (q 0, 80, .inl (t0.2 0))), ((a0 2), .inl (q 0, 80, .inl (t0.2 1))), ((a0 3), .inl (q 0, 80, .inl (t0.2 2))), ((a0 4), .inl (q 0, 80, .inl (t0.2 3))), ((a0 5), .inl (q 0, 80, .inl (t0.2 4))), ((a0 6), .inl (q 0, 3, .inl (t0.2 5))), ((a0 7), .inl (q 0, 3, .inl (t0.2 6))), ((a1 0), .inr (4, [.ref (a1 1), .int (u_21.1 0), .int (u_21.1 1), .int (u_21.1 2), .int (u_21.1 3), .int (u_21.1 4), .int (u_21.1 5)])), ((a1 1), .inl (q 0, 400, .inl u_21.2))] H := hP
                  have hD : va_D _ [((a0 0), .inr (3, [.ref (a0 1), .ref (a0 2), .ref (a0 3), .ref (a0 4), .ref (a0 5), .ref (a0 6), .ref (a0 7), .int (t0.1 0), .int (t0.1 1), .int (t0.1 2)])), ((a0 1), .inl (q 0, 80, .inl (t0.2 0))), ((a0 2), .inl (q 0, 80, .inl (t0.2 1))), ((a0 3), .inl (q 0, 80, .inl (t0.2 2))), ((a0 4), .inl (q 0, 80, .inl (t0.2 3))), ((a0 5), .inl (q 0, 80, .inl (t0.2 4))), ((a0 6), .inl (q 0, 3, .inl (t0.2 5))), ((a0 7), .inl (q 0, 3, .inl (t0.2 6))), ((a1 0), .inr (4, [.ref (a1 1), .int (u_21.1 0), .int (u_21.1 1), .int (u_21.1 2), .int (u_21.1 3), .int (u_21.1 4), .int (u_21.1 5)])), ((a1 1), .inl (q 0, 400, .inl u_21.2))] := hD
                  refine lv_iconst (v := 0) hx hb dX4_goesOn_64 (by decide) ?_
                  exact mt_zret (t0, u_21) hx hb hr hk rfl h (hP.sub (ws' := pg_w a0 q t0 ++ tp_w a1 q u_21) [0, 1, 2, 3, 4, 5, 6, 7, 8, 9] rfl) (hD.sub (ws' := pg_w a0 q t0 ++ tp_w a1 q u_21) [0, 1, 2, 3, 4, 5, 6, 7, 8, 9] (by decide) rfl) hS dX4_goesOn_65
        · replace h := h.2 c_4
          refine lv_aload_n hx hb dX4_goesOn_18 rfl (lv_at hl 3 rfl) ?_
          refine lv_dup hx hb dX4_goesOn_19 rfl ?_
          refine fl_get (C := RX5) (T := TX5) (N := 7) (ci := 4) (v := .int (u_3.1 1)) hx hb ht in_X5 hown hK hP 8 rfl rfl 2 (by decide) mw_133 rfl dX4_goesOn_20 ?_
          refine lv_iconst (v := 1) hx hb dX4_goesOn_23 (by decide) ?_
          refine lv_iadd hx hb dX4_goesOn_24 ?_
          refine fl_put (C := RX5) (T := TX5) (N := 7) (ci := 4) (v := .int ((u_3.1 1) + 1)) (ws2 := [((a0 0), .inr (3, [.ref (a0 1), .ref (a0 2), .ref (a0 3), .ref (a0 4), .ref (a0 5), .ref (a0 6), .ref (a0 7), .int (t0.1 0), .int (t0.1 1), .int (t0.1 2)])), ((a0 1), .inl (q 0, 80, .inl (t0.2 0))), ((a0 2), .inl (q 0, 80, .inl (t0.2 1))), ((a0 3), .inl (q 0, 80, .inl (t0.2 2))), ((a0 4), .inl (q 0, 80, .inl (t0.2 3))), ((a0 5), .inl (q 0, 80, .inl (t0.2 4))), ((a0 6), .inl (q 0, 3, .inl (t0.2 5))), ((a0 7), .inl (q 0, 3, .inl (t0.2 6))), ((a1 0), .inr (4, [.ref (a1 1), .int (u_3.1 0), .int ((u_3.1 1) + 1), .int (u_3.1 2), .int (u_3.1 3), .int (u_3.1 4), .int (u_3.1 5)])), ((a1 1), .inl (q 0, 400, .inl u_3.2))]) hx hb ht in_X5 tyX5_ok nmX5 hown hK hP hD hS 8 rfl rfl 2 (by decide) mw_133 rfl rfl rfl (Nat.le_of_ble_eq_true rfl) dX4_goesOn_25 rfl (fun H locs hP hD hS => ?_)
          refine lv_iconst (v := 1) hx hb dX4_goesOn_28 (by decide) ?_
          exact mt_zret (t0, ((va_up u_3.1 1 ((u_3.1 1) + 1)), u_3.2)) hx hb hr hk rfl h (hP.sub (ws' := pg_w a0 q t0 ++ tp_w a1 q ((va_up u_3.1 1 ((u_3.1 1) + 1)), u_3.2)) [0, 1, 2, 3, 4, 5, 6, 7, 8, 9] rfl) (hD.sub (ws' := pg_w a0 q t0 ++ tp_w a1 q ((va_up u_3.1 1 ((u_3.1 1) + 1)), u_3.2)) [0, 1, 2, 3, 4, 5, 6, 7, 8, 9] (by decide) rfl) hS dX4_goesOn_29
  obtain ⟨n2, h⟩ := h
  refine lp2 _ ?_ n2 _ _ _ _ _ ls h (hP.sub (ws' := pg_w a0 q s0 ++ tp_w a1 q s1) [0, 1, 2, 3, 4, 5, 6, 7, 8, 9] rfl) (hD.sub (ws' := pg_w a0 q s0 ++ tp_w a1 q s1) [0, 1, 2, 3, 4, 5, 6, 7, 8, 9] (by decide) rfl) hS (lv_sub hl [0, 1, 2] rfl)
  · intro t0 t1 z2 H locs ls h hP hD hS hl
    try dsimp only at h
    have hP : va_P D vwCl [((a0 0), .inr (3, [.ref (a0 1), .ref (a0 2), .ref (a0 3), .ref (a0 4), .ref (a0 5), .ref (a0 6), .ref (a0 7), .int (t0.1 0), .int (t0.1 1), .int (t0.1 2)])), ((a0 1), .inl (q 0, 80, .inl (t0.2 0))), ((a0 2), .inl (q 0, 80, .inl (t0.2 1))), ((a0 3), .inl (q 0, 80, .inl (t0.2 2))), ((a0 4), .inl (q 0, 80, .inl (t0.2 3))), ((a0 5), .inl (q 0, 80, .inl (t0.2 4))), ((a0 6), .inl (q 0, 3, .inl (t0.2 5))), ((a0 7), .inl (q 0, 3, .inl (t0.2 6))), ((a1 0), .inr (4, [.ref (a1 1), .int (t1.1 0), .int (t1.1 1), .int (t1.1 2), .int (t1.1 3), .int (t1.1 4), .int (t1.1 5)])), ((a1 1), .inl (q 0, 400, .inl t1.2))] H := hP
    have hD : va_D _ [((a0 0), .inr (3, [.ref (a0 1), .ref (a0 2), .ref (a0 3), .ref (a0 4), .ref (a0 5), .ref (a0 6), .ref (a0 7), .int (t0.1 0), .int (t0.1 1), .int (t0.1 2)])), ((a0 1), .inl (q 0, 80, .inl (t0.2 0))), ((a0 2), .inl (q 0, 80, .inl (t0.2 1))), ((a0 3), .inl (q 0, 80, .inl (t0.2 2))), ((a0 4), .inl (q 0, 80, .inl (t0.2 3))), ((a0 5), .inl (q 0, 80, .inl (t0.2 4))), ((a0 6), .inl (q 0, 3, .inl (t0.2 5))), ((a0 7), .inl (q 0, 3, .inl (t0.2 6))), ((a1 0), .inr (4, [.ref (a1 1), .int (t1.1 0), .int (t1.1 1), .int (t1.1 2), .int (t1.1 3), .int (t1.1 4), .int (t1.1 5)])), ((a1 1), .inl (q 0, 400, .inl t1.2))] := hD
    refine lv_iconst (v := 0) hx hb dX4_goesOn_105 (by decide) ?_
    exact mt_zret (t0, t1) hx hb hr hk rfl h (hP.sub (ws' := pg_w a0 q t0 ++ tp_w a1 q t1) [0, 1, 2, 3, 4, 5, 6, 7, 8, 9] rfl) (hD.sub (ws' := pg_w a0 q t0 ++ tp_w a1 q t1) [0, 1, 2, 3, 4, 5, 6, 7, 8, 9] (by decide) rfl) hS dX4_goesOn_106

def wp_X5_addNumber_L3 (post : Tp → Prop) (e49 : Tp → Int32 → Int32 → Prop) : Nat → Tp → Int32 → Int32 → Prop
  | 0, _, _, _ => False
  | n3 + 1, t0, z1, z2 => ((z2 < 0 → e49 t0 z1 z2) ∧ (¬ z2 < 0 → ((400 ≤ (t0.1 0) → wp_X5_addNumber_L3 post e49 n3 t0 z1 (z2 + (-8))) ∧ (¬ 400 ≤ (t0.1 0) → vp_in (t0.1 0) 400 ∧ wp_X5_addNumber_L3 post e49 n3 ((va_up t0.1 0 ((t0.1 0) + 1)), (upd t0.2 (Int32.toNatClampNeg (t0.1 0)) ((z1 >>> (z2 &&& 31)) &&& 255))) z1 (z2 + (-8))))))
def wp_X5_addNumber (post : Tp → Prop) (s0 : Tp) (x1 : Int32) : Prop := (∃ n3, wp_X5_addNumber_L3 post (fun t0 z1 z2 => post t0) n3 s0 x1 24)
set_option maxHeartbeats 4000000 in
set_option maxRecDepth 100000 in
theorem c2_X5_addNumber {l : Launch} {D : va_G} {q : Nat → ClassId} {sz : Nat} {a0 : Nat → Nat} {s0 : Tp} {x1 : Int32} {post : Tp → Prop} (h : wp_X5_addNumber post s0 x1) : Met l yX5_addNumber (Cond.code yX5_addNumber cX5_addNumber 3 none :: w_all) ({ frames := 0, cells := 0, slots := 0, locals := 0 } : Room) (mt_P D q [.ref (a0 0), .int x1] (tp_w a0 q s0) sz) (va_Qv (fun u : Tp => post u) (mt_B D (tp_w a0 q s0) sz (fun u : Tp => tp_w a0 q u)) (va_A (tp_w a0 q s0) sz)) 0 0 (va_A (tp_w a0 q s0) sz) := by
  refine mt_start (by decide) (Nat.le_of_ble_eq_true rfl) ?_
  intro p e s m below meth c ls hx hb hr hml hown ht hk hin hP hQ hD hA hS hV hl
  have hK := hQ.1
  have hown : s.vm.findClass RX5 = some m.cls := hown
  have hl : lv_has ls 3 [(0, .ref (a0 0)), (1, .int x1)] := hl
  have hP : va_P D vwCl [((a0 0), .inr (4, [.ref (a0 1), .int (s0.1 0), .int (s0.1 1), .int (s0.1 2), .int (s0.1 3), .int (s0.1 4), .int (s0.1 5)])), ((a0 1), .inl (q 0, 400, .inl s0.2))] s.heap := hP
  have hD : va_D _ [((a0 0), .inr (4, [.ref (a0 1), .int (s0.1 0), .int (s0.1 1), .int (s0.1 2), .int (s0.1 3), .int (s0.1 4), .int (s0.1 5)])), ((a0 1), .inl (q 0, 400, .inl s0.2))] := hD
  unfold wp_X5_addNumber at h
  refine lv_bipush (v := 24) hx hb dX5_addNumber_0 (by decide) ?_
  refine lv_istore_n (lv' := [(2, .int 24), (0, .ref (a0 0)), (1, .int x1)]) hx hb dX5_addNumber_2 rfl hl (by decide) rfl (fun ls hl => ?_)
  have lp3 : ∀ (e49 : Tp → Int32 → Int32 → Prop) (k49 : ∀ (t0 : Tp) (z1 : Int32) (z2 : Int32) (H : Heap) (locs : List Loc) (ls : Array Slot), e49 t0 z1 z2 → va_P D vwCl (tp_w a0 q t0) H → va_D (va_A (tp_w a0 q s0) sz) (tp_w a0 q t0) → va_S (va_A (tp_w a0 q s0) sz) s.heap H locs → lv_has ls 3 [(1, .int z1), (2, .int z2), (0, .ref (a0 0))] → W p l e ({ frames := 0, cells := 0, slots := 0, locals := 0 } : Room) s m [.ref (a0 0), .int x1].toArray below meth c H locs 0 0 (MQ below (va_Qv (fun u : Tp => post u) (mt_B D (tp_w a0 q s0) sz (fun u : Tp => tp_w a0 q u)) (va_A (tp_w a0 q s0) sz)) [.ref (a0 0), .int x1].toArray s 0 0 (va_A (tp_w a0 q s0) sz)) (F0 m 49 ls [])) (n : Nat) (t0 : Tp) (z1 : Int32) (z2 : Int32) (H : Heap) (locs : List Loc) (ls : Array Slot), wp_X5_addNumber_L3 post e49 n t0 z1 z2 → va_P D vwCl (tp_w a0 q t0) H → va_D (va_A (tp_w a0 q s0) sz) (tp_w a0 q t0) → va_S (va_A (tp_w a0 q s0) sz) s.heap H locs → lv_has ls 3 [(1, .int z1), (2, .int z2), (0, .ref (a0 0))] → W p l e ({ frames := 0, cells := 0, slots := 0, locals := 0 } : Room) s m [.ref (a0 0), .int x1].toArray below meth c H locs 0 0 (MQ below (va_Qv (fun u : Tp => post u) (mt_B D (tp_w a0 q s0) sz (fun u : Tp => tp_w a0 q u)) (va_A (tp_w a0 q s0) sz)) [.ref (a0 0), .int x1].toArray s 0 0 (va_A (tp_w a0 q s0) sz)) (F0 m 3 ls []) := by
    intro e49 k49 n
    induction n with
    | zero =>
      intro t0 z1 z2 H locs ls h
      exact h.elim
    | succ n ih =>
      intro t0 z1 z2 H locs ls h hP hD hS hl
      have hP : va_P D vwCl [((a0 0), .inr (4, [.ref (a0 1), .int (t0.1 0), .int (t0.1 1), .int (t0.1 2), .int (t0.1 3), .int (t0.1 4), .int (t0.1 5)])), ((a0 1), .inl (q 0, 400, .inl t0.2))] H := hP
      have hD : va_D _ [((a0 0), .inr (4, [.ref (a0 1), .int (t0.1 0), .int (t0.1 1), .int (t0.1 2), .int (t0.1 3), .int (t0.1 4), .int (t0.1 5)])), ((a0 1), .inl (q 0, 400, .inl t0.2))] := hD
      unfold wp_X5_addNumber_L3 at h
      refine lv_iload_n hx hb dX5_addNumber_3 rfl (lv_at hl 1 rfl) ?_
      refine lv_if_lt (tgt := 49) hx hb dX5_addNumber_4 (by decide) (fun c_1 => ?_) (fun c_1 => ?_)
      · replace h := h.1 c_1
        exact k49 _ _ _ _ _ ls h (hP.sub (ws' := tp_w a0 q t0) [0, 1] rfl) (hD.sub (ws' := tp_w a0 q t0) [0, 1] (by decide) rfl) hS (lv_sub hl [0, 1, 2] rfl)
      · replace h := h.2 c_1
        refine lv_aload_n hx hb dX5_addNumber_7 rfl (lv_at hl 2 rfl) ?_
        refine fl_get (C := RX5) (T := TX5) (N := 7) (ci := 4) (v := .int (t0.1 0)) hx hb ht in_X5 hown hK hP 0 rfl rfl 1 (by decide) mw_130 rfl dX5_addNumber_8 ?_
        refine lv_sipush (v := 400) hx hb dX5_addNumber_11 (by decide) ?_
        refine lv_icmp_ge (tgt := 43) hx hb dX5_addNumber_14 (by decide) (fun c_2 => ?_) (fun c_2 => ?_)
        · replace h := h.1 c_2
          refine lv_iinc (v := (z2 + (-8))) (lv' := [(2, .int (z2 + (-8))), (1, .int z1), (0, .ref (a0 0))]) hx hb dX5_addNumber_43 hl (k := 1) rfl rfl (by decide) rfl (fun ls hl => ?_)
          refine lv_goto (tgt := 3) hx hb dX5_addNumber_46 (by decide) ?_
          exact ih _ _ _ _ _ ls h (hP.sub (ws' := tp_w a0 q t0) [0, 1] rfl) (hD.sub (ws' := tp_w a0 q t0) [0, 1] (by decide) rfl) hS (lv_sub hl [1, 0, 2] rfl)
        · replace h := h.2 c_2
          refine lv_aload_n hx hb dX5_addNumber_17 rfl (lv_at hl 2 rfl) ?_
          refine fl_get (C := RX5) (T := TX5) (N := 7) (ci := 4) (v := .ref (a0 1)) hx hb ht in_X5 hown hK hP 0 rfl rfl 0 (by decide) mw_128 rfl dX5_addNumber_18 ?_
          refine lv_aload_n hx hb dX5_addNumber_21 rfl (lv_at hl 2 rfl) ?_
          refine fl_get (C := RX5) (T := TX5) (N := 7) (ci := 4) (v := .int (t0.1 0)) hx hb ht in_X5 hown hK hP 0 rfl rfl 1 (by decide) mw_130 rfl dX5_addNumber_22 ?_
          refine lv_iload_n hx hb dX5_addNumber_25 rfl (lv_at hl 0 rfl) ?_
          refine lv_iload_n hx hb dX5_addNumber_26 rfl (lv_at hl 1 rfl) ?_
          refine lv_ishr hx hb dX5_addNumber_27 ?_
          refine lv_sipush (v := 255) hx hb dX5_addNumber_28 (by decide) ?_
          refine lv_iand hx hb dX5_addNumber_31 ?_
          obtain ⟨g_3, h⟩ := h
          refine va_iast hx hb hK hP hD hS 1 0 rfl rfl g_3 dX5_addNumber_32 (fun H locs hP hD hS => ?_)
          have hP : va_P D vwCl [((a0 0), .inr (4, [.ref (a0 1), .int (t0.1 0), .int (t0.1 1), .int (t0.1 2), .int (t0.1 3), .int (t0.1 4), .int (t0.1 5)])), ((a0 1), .inl (q 0, 400, .inl (upd t0.2 (Int32.toNatClampNeg (t0.1 0)) ((z1 >>> (z2 &&& 31)) &&& 255))))] H := hP
          have hD : va_D _ [((a0 0), .inr (4, [.ref (a0 1), .int (t0.1 0), .int (t0.1 1), .int (t0.1 2), .int (t0.1 3), .int (t0.1 4), .int (t0.1 5)])), ((a0 1), .inl (q 0, 400, .inl (upd t0.2 (Int32.toNatClampNeg (t0.1 0)) ((z1 >>> (z2 &&& 31)) &&& 255))))] := hD
          refine lv_aload_n hx hb dX5_addNumber_33 rfl (lv_at hl 2 rfl) ?_
          refine lv_dup hx hb dX5_addNumber_34 rfl ?_
          refine fl_get (C := RX5) (T := TX5) (N := 7) (ci := 4) (v := .int (t0.1 0)) hx hb ht in_X5 hown hK hP 0 rfl rfl 1 (by decide) mw_130 rfl dX5_addNumber_35 ?_
          refine lv_iconst (v := 1) hx hb dX5_addNumber_38 (by decide) ?_
          refine lv_iadd hx hb dX5_addNumber_39 ?_
          refine fl_put (C := RX5) (T := TX5) (N := 7) (ci := 4) (v := .int ((t0.1 0) + 1)) (ws2 := [((a0 0), .inr (4, [.ref (a0 1), .int ((t0.1 0) + 1), .int (t0.1 1), .int (t0.1 2), .int (t0.1 3), .int (t0.1 4), .int (t0.1 5)])), ((a0 1), .inl (q 0, 400, .inl (upd t0.2 (Int32.toNatClampNeg (t0.1 0)) ((z1 >>> (z2 &&& 31)) &&& 255))))]) hx hb ht in_X5 tyX5_ok nmX5 hown hK hP hD hS 0 rfl rfl 1 (by decide) mw_130 rfl rfl rfl (Nat.le_of_ble_eq_true rfl) dX5_addNumber_40 rfl (fun H locs hP hD hS => ?_)
          refine lv_iinc (v := (z2 + (-8))) (lv' := [(2, .int (z2 + (-8))), (1, .int z1), (0, .ref (a0 0))]) hx hb dX5_addNumber_43 hl (k := 1) rfl rfl (by decide) rfl (fun ls hl => ?_)
          refine lv_goto (tgt := 3) hx hb dX5_addNumber_46 (by decide) ?_
          exact ih _ _ _ _ _ ls h (hP.sub (ws' := tp_w a0 q ((va_up t0.1 0 ((t0.1 0) + 1)), (upd t0.2 (Int32.toNatClampNeg (t0.1 0)) ((z1 >>> (z2 &&& 31)) &&& 255)))) [0, 1] rfl) (hD.sub (ws' := tp_w a0 q ((va_up t0.1 0 ((t0.1 0) + 1)), (upd t0.2 (Int32.toNatClampNeg (t0.1 0)) ((z1 >>> (z2 &&& 31)) &&& 255)))) [0, 1] (by decide) rfl) hS (lv_sub hl [1, 0, 2] rfl)
  obtain ⟨n3, h⟩ := h
  refine lp3 _ ?_ n3 _ _ _ _ _ ls h (hP.sub (ws' := tp_w a0 q s0) [0, 1] rfl) (hD.sub (ws' := tp_w a0 q s0) [0, 1] (by decide) rfl) hS (lv_sub hl [2, 0, 1] rfl)
  · intro t0 z1 z2 H locs ls h hP hD hS hl
    try dsimp only at h
    have hP : va_P D vwCl [((a0 0), .inr (4, [.ref (a0 1), .int (t0.1 0), .int (t0.1 1), .int (t0.1 2), .int (t0.1 3), .int (t0.1 4), .int (t0.1 5)])), ((a0 1), .inl (q 0, 400, .inl t0.2))] H := hP
    have hD : va_D _ [((a0 0), .inr (4, [.ref (a0 1), .int (t0.1 0), .int (t0.1 1), .int (t0.1 2), .int (t0.1 3), .int (t0.1 4), .int (t0.1 5)])), ((a0 1), .inl (q 0, 400, .inl t0.2))] := hD
    exact mt_vret t0 hx hb hr hk h (hP.sub (ws' := tp_w a0 q t0) [0, 1] rfl) (hD.sub (ws' := tp_w a0 q t0) [0, 1] (by decide) rfl) hS dX5_addNumber_49

def wp_X6_isShelf (post : Int32 → Prop) (x0 : Int32) : Prop := ((x0 < 0 → post 0) ∧ (¬ x0 < 0 → ((2 ≤ x0 → post 0) ∧ (¬ 2 ≤ x0 → post 1))))
set_option maxHeartbeats 4000000 in
set_option maxRecDepth 100000 in
theorem c2_X6_isShelf {l : Launch} {D : va_G} {q : Nat → ClassId} {x0 : Int32} {post : Int32 → Prop} (h : wp_X6_isShelf post x0) : Met l yX6_isShelf (Cond.code yX6_isShelf cX6_isShelf 1 (some .boolean) :: w_all) ({ frames := 0, cells := 0, slots := 0, locals := 0 } : Room) (rd_P D q [.int x0] (([] : va_W))) (vp_Si post) 0 0 (fun _ => False) := by
  refine rd_start (by decide) (Nat.le_of_ble_eq_true rfl) ?_
  intro p e s m below meth c ls hx hb hr hml hown ht hk hP hQ hV hl
  have hK := hQ.1
  have hown : s.vm.findClass RX6 = some m.cls := hown
  have hl : lv_has ls 1 [(0, .int x0)] := hl
  unfold wp_X6_isShelf at h
  refine lv_iload_n hx hb dX6_isShelf_0 rfl (lv_at hl 0 rfl) ?_
  refine lv_if_lt (tgt := 13) hx hb dX6_isShelf_1 (by decide) (fun c_1 => ?_) (fun c_1 => ?_)
  · replace h := h.1 c_1
    refine lv_iconst (v := 0) hx hb dX6_isShelf_13 (by decide) ?_
    exact rd_zret hx hb hr hk rfl h dX6_isShelf_14
  · replace h := h.2 c_1
    refine lv_iload_n hx hb dX6_isShelf_4 rfl (lv_at hl 0 rfl) ?_
    refine lv_iconst (v := 2) hx hb dX6_isShelf_5 (by decide) ?_
    refine lv_icmp_ge (tgt := 13) hx hb dX6_isShelf_6 (by decide) (fun c_2 => ?_) (fun c_2 => ?_)
    · replace h := h.1 c_2
      refine lv_iconst (v := 0) hx hb dX6_isShelf_13 (by decide) ?_
      exact rd_zret hx hb hr hk rfl h dX6_isShelf_14
    · replace h := h.2 c_2
      refine lv_iconst (v := 1) hx hb dX6_isShelf_9 (by decide) ?_
      refine lv_goto (tgt := 14) hx hb dX6_isShelf_10 (by decide) ?_
      exact rd_zret hx hb hr hk rfl h dX6_isShelf_14

def wp_X7_in (post : Int32 → Prop) (y0 : Int64) (y2 : Int64) (y4 : Int64) : Prop := (((lg_cmp y0 y2) < 0 → post 0) ∧ (¬ (lg_cmp y0 y2) < 0 → ((0 < (lg_cmp y0 y4) → post 0) ∧ (¬ 0 < (lg_cmp y0 y4) → post 1))))
set_option maxHeartbeats 4000000 in
set_option maxRecDepth 100000 in
theorem c2_X7_in {l : Launch} {D : va_G} {q : Nat → ClassId} {y0 : Int64} {y2 : Int64} {y4 : Int64} {post : Int32 → Prop} (h : wp_X7_in post y0 y2 y4) : Met l yX7_in (Cond.code yX7_in cX7_in 6 (some .boolean) :: w_all) ({ frames := 0, cells := 0, slots := 0, locals := 0 } : Room) (rd_P D q [.long y0, .long y2, .long y4] (([] : va_W))) (vp_Si post) 0 0 (fun _ => False) := by
  refine rd_start (by decide) (Nat.le_of_ble_eq_true rfl) ?_
  intro p e s m below meth c ls hx hb hr hml hown ht hk hP hQ hV hl
  have hK := hQ.1
  have hown : s.vm.findClass RX7 = some m.cls := hown
  have hl : lv_has ls 6 [(0, .long y0), (2, .long y2), (4, .long y4)] := hl
  unfold wp_X7_in at h
  refine lv_lload_n hx hb dX7_in_0 rfl (lv_at hl 0 rfl) ?_
  refine lv_lload_n hx hb dX7_in_1 rfl (lv_at hl 1 rfl) ?_
  refine W.lcmp hx hb dX7_in_2 ?_
  refine lv_if_lt (tgt := 17) hx hb dX7_in_3 (by decide) (fun c_1 => ?_) (fun c_1 => ?_)
  · replace h := h.1 c_1
    refine lv_iconst (v := 0) hx hb dX7_in_17 (by decide) ?_
    exact rd_zret hx hb hr hk rfl h dX7_in_18
  · replace h := h.2 c_1
    refine lv_lload_n hx hb dX7_in_6 rfl (lv_at hl 0 rfl) ?_
    refine lv_lload hx hb dX7_in_7 (lv_at hl 2 rfl) ?_
    refine W.lcmp hx hb dX7_in_9 ?_
    refine lv_if_gt (tgt := 17) hx hb dX7_in_10 (by decide) (fun c_2 => ?_) (fun c_2 => ?_)
    · replace h := h.1 c_2
      refine lv_iconst (v := 0) hx hb dX7_in_17 (by decide) ?_
      exact rd_zret hx hb hr hk rfl h dX7_in_18
    · replace h := h.2 c_2
      refine lv_iconst (v := 1) hx hb dX7_in_13 (by decide) ?_
      refine lv_goto (tgt := 18) hx hb dX7_in_14 (by decide) ?_
      exact rd_zret hx hb hr hk rfl h dX7_in_18

def wp_X7_isIn (post : Int32 → Prop) (y0 : Int64) (x2 : Int32) : Prop := ((¬ (lg_cmp ((((y0).toUInt64 >>> ((Int32.toInt64 x2).toUInt64 &&& Int64.toUInt64 63)).toInt64) &&& 1) 1) = 0 → post 0) ∧ ((lg_cmp ((((y0).toUInt64 >>> ((Int32.toInt64 x2).toUInt64 &&& Int64.toUInt64 63)).toInt64) &&& 1) 1) = 0 → post 1))
set_option maxHeartbeats 4000000 in
set_option maxRecDepth 100000 in
theorem c2_X7_isIn {l : Launch} {D : va_G} {q : Nat → ClassId} {y0 : Int64} {x2 : Int32} {post : Int32 → Prop} (h : wp_X7_isIn post y0 x2) : Met l yX7_isIn (Cond.code yX7_isIn cX7_isIn 3 (some .boolean) :: w_all) ({ frames := 0, cells := 0, slots := 0, locals := 0 } : Room) (rd_P D q [.long y0, .int x2] (([] : va_W))) (vp_Si post) 0 0 (fun _ => False) := by
  refine rd_start (by decide) (Nat.le_of_ble_eq_true rfl) ?_
  intro p e s m below meth c ls hx hb hr hml hown ht hk hP hQ hV hl
  have hK := hQ.1
  have hown : s.vm.findClass RX7 = some m.cls := hown
  have hl : lv_has ls 3 [(0, .long y0), (2, .int x2)] := hl
  unfold wp_X7_isIn at h
  refine lv_lload_n hx hb dX7_isIn_0 rfl (lv_at hl 0 rfl) ?_
  refine lv_iload_n hx hb dX7_isIn_1 rfl (lv_at hl 1 rfl) ?_
  refine lv_lushr (v := (((y0).toUInt64 >>> ((Int32.toInt64 x2).toUInt64 &&& Int64.toUInt64 63)).toInt64)) hx hb dX7_isIn_2 rfl ?_
  refine lv_lconst (v := 1) hx hb dX7_isIn_3 (by decide) ?_
  refine lv_land hx hb dX7_isIn_4 ?_
  refine lv_lconst (v := 1) hx hb dX7_isIn_5 (by decide) ?_
  refine W.lcmp hx hb dX7_isIn_6 ?_
  refine lv_if_ne (tgt := 14) hx hb dX7_isIn_7 (by decide) (fun c_1 => ?_) (fun c_1 => ?_)
  · replace h := h.1 c_1
    refine lv_iconst (v := 0) hx hb dX7_isIn_14 (by decide) ?_
    exact rd_zret hx hb hr hk rfl h dX7_isIn_15
  · replace h := h.2 c_1
    refine lv_iconst (v := 1) hx hb dX7_isIn_10 (by decide) ?_
    refine lv_goto (tgt := 15) hx hb dX7_isIn_11 (by decide) ?_
    exact rd_zret hx hb hr hk rfl h dX7_isIn_15

def wp_X7_isSign (post : Int32 → Prop) (x0 : Int32) : Prop := wp_X7_in (fun r_1 => ((r_1 = 0 → post 0) ∧ (¬ r_1 = 0 → ((x0 = 39 → post 0) ∧ (¬ x0 = 39 → post 1))))) (Int32.toInt64 x0) (32 : Int64) (126 : Int64)
set_option maxHeartbeats 4000000 in
set_option maxRecDepth 100000 in
theorem c2_X7_isSign {l : Launch} {D : va_G} {q : Nat → ClassId} {x0 : Int32} {post : Int32 → Prop} (h : wp_X7_isSign post x0) : Met l yX7_isSign (Cond.code yX7_isSign cX7_isSign 1 (some .boolean) :: w_all) ({ frames := 1, cells := 0, slots := 0, locals := 25 } : Room) (rd_P D q [.int x0] (([] : va_W))) (vp_Si post) 0 0 (fun _ => False) := by
  refine rd_start (by decide) (Nat.le_of_ble_eq_true rfl) ?_
  intro p e s m below meth c ls hx hb hr hml hown ht hk hP hQ hV hl
  have hK := hQ.1
  have hown : s.vm.findClass RX7 = some m.cls := hown
  have hl : lv_has ls 1 [(0, .int x0)] := hl
  unfold wp_X7_isSign at h
  refine lv_iload_n hx hb dX7_isSign_0 rfl (lv_at hl 0 rfl) ?_
  refine lv_i2l (v := (Int32.toInt64 x0)) hx hb dX7_isSign_1 rfl ?_
  refine lv_ldc2 (v := 32) hx hb hown (ht _ mw_1231) dX7_isSign_2 ?_
  refine lv_ldc2 (v := 126) hx hb hown (ht _ mw_1232) dX7_isSign_5 ?_
  refine vp_callSi (rd_wS (wc := ([] : va_W)) (As := [.long (Int32.toInt64 x0), .long 32, .long 126]) (rest := []) hx hb hml hown ht (c2_X7_in h) wd_X7_in mw_1213 hQ hV va_S.rf (hP.sub [] rfl) rfl hl.1 rfl (Nat.le_of_ble_eq_true rfl) dX7_isSign_8 ⟨Nat.le_of_ble_eq_true rfl, Nat.le_of_ble_eq_true rfl, rfl, rfl⟩ ⟨Nat.le_of_ble_eq_true rfl, Nat.le_of_ble_eq_true rfl⟩) (fun r_1 h => ?_)
  try dsimp only at h
  refine lv_if_eq (tgt := 24) hx hb dX7_isSign_11 (by decide) (fun c_3 => ?_) (fun c_3 => ?_)
  · replace h := h.1 c_3
    refine lv_iconst (v := 0) hx hb dX7_isSign_24 (by decide) ?_
    exact rd_zret hx hb hr hk rfl h dX7_isSign_25
  · replace h := h.2 c_3
    refine lv_iload_n hx hb dX7_isSign_14 rfl (lv_at hl 0 rfl) ?_
    refine lv_bipush (v := 39) hx hb dX7_isSign_15 (by decide) ?_
    refine lv_icmp_eq (tgt := 24) hx hb dX7_isSign_17 (by decide) (fun c_4 => ?_) (fun c_4 => ?_)
    · replace h := h.1 c_4
      refine lv_iconst (v := 0) hx hb dX7_isSign_24 (by decide) ?_
      exact rd_zret hx hb hr hk rfl h dX7_isSign_25
    · replace h := h.2 c_4
      refine lv_iconst (v := 1) hx hb dX7_isSign_20 (by decide) ?_
      refine lv_goto (tgt := 25) hx hb dX7_isSign_21 (by decide) ?_
      exact rd_zret hx hb hr hk rfl h dX7_isSign_25

def wp_X7_rows (post : Int32 → Prop) (s0 : Md) : Prop := post (Int64.toInt32 ((s0.2.2.1 0) (Int32.toNatClampNeg 0)))
set_option maxHeartbeats 4000000 in
set_option maxRecDepth 100000 in
theorem c2_X7_rows {l : Launch} {D : va_G} {q : Nat → ClassId} {a0 : Nat → Nat} {s0 : Md} {post : Int32 → Prop} (h : wp_X7_rows post s0) : Met l yX7_rows (Cond.code yX7_rows cX7_rows 1 (some .int) :: w_all) ({ frames := 0, cells := 0, slots := 0, locals := 0 } : Room) (rd_P D q [.ref (a0 0)] (md_v a0 q s0)) (vp_Si post) 0 0 (fun _ => False) := by
  refine rd_start (by decide) (Nat.le_of_ble_eq_true rfl) ?_
  intro p e s m below meth c ls hx hb hr hml hown ht hk hP hQ hV hl
  have hK := hQ.1
  have hown : s.vm.findClass RX7 = some m.cls := hown
  have hl : lv_has ls 1 [(0, .ref (a0 0))] := hl
  have hP : va_P D vwCl [((a0 0), .inr (6, [.ref (a0 1), .ref (a0 2), .int (s0.1 0), .ref (a0 3), .ref (a0 5), .ref (a0 4), .long s0.2.1, .int (s0.1 1), .int (s0.1 2), .ref (a0 6), .int (s0.1 3), .int (s0.1 4), .ref (a0 7), .int (s0.1 5), .int (s0.1 6), .int (s0.1 7), .int (s0.1 8), .int (s0.1 9), .int (s0.1 10), .int (s0.1 11), .int (s0.1 12), .int (s0.1 13), .int (s0.1 14)])), ((a0 1), .inl (q 1, 6896, .inr (.inl (s0.2.2.1 0)))), ((a0 2), .inl (q 1, 68960, .inr (.inl (s0.2.2.1 1)))), ((a0 3), .inl (q 1, 13792, .inr (.inl (s0.2.2.1 2)))), ((a0 4), .inl (q 1, 6896, .inr (.inl (s0.2.2.1 3)))), ((a0 5), .inl (q 3, 2, .inl (s0.2.2.2 0))), ((a0 6), .inl (q 0, 40, .inl (s0.2.2.2 1))), ((a0 7), .inl (q 2, 400, .inl (s0.2.2.2 2)))] s.heap := hP
  unfold wp_X7_rows at h
  refine lv_aload_n hx hb dX7_rows_0 rfl (lv_at hl 0 rfl) ?_
  refine fl_get (C := RX7) (T := TX7) (N := 23) (ci := 6) (v := .ref (a0 1)) hx hb ht in_X7 hown hK hP 0 rfl rfl 0 (by decide) mw_1130 rfl dX7_rows_1 ?_
  refine lv_iconst (v := 0) hx hb dX7_rows_4 (by decide) ?_
  refine va_lald hx hb hK hP 1 1 rfl rfl (in_c rfl) dX7_rows_5 ?_
  refine lv_l2i (v := (Int64.toInt32 ((s0.2.2.1 0) (Int32.toNatClampNeg 0)))) hx hb dX7_rows_6 rfl ?_
  exact rd_iret hx hb hr hk h dX7_rows_7

def wp_X7_wide (post : Int32 → Prop) (s0 : Md) : Prop := post (Int64.toInt32 ((s0.2.2.1 0) (Int32.toNatClampNeg 1)))
set_option maxHeartbeats 4000000 in
set_option maxRecDepth 100000 in
theorem c2_X7_wide {l : Launch} {D : va_G} {q : Nat → ClassId} {a0 : Nat → Nat} {s0 : Md} {post : Int32 → Prop} (h : wp_X7_wide post s0) : Met l yX7_wide (Cond.code yX7_wide cX7_wide 1 (some .int) :: w_all) ({ frames := 0, cells := 0, slots := 0, locals := 0 } : Room) (rd_P D q [.ref (a0 0)] (md_v a0 q s0)) (vp_Si post) 0 0 (fun _ => False) := by
  refine rd_start (by decide) (Nat.le_of_ble_eq_true rfl) ?_
  intro p e s m below meth c ls hx hb hr hml hown ht hk hP hQ hV hl
  have hK := hQ.1
  have hown : s.vm.findClass RX7 = some m.cls := hown
  have hl : lv_has ls 1 [(0, .ref (a0 0))] := hl
  have hP : va_P D vwCl [((a0 0), .inr (6, [.ref (a0 1), .ref (a0 2), .int (s0.1 0), .ref (a0 3), .ref (a0 5), .ref (a0 4), .long s0.2.1, .int (s0.1 1), .int (s0.1 2), .ref (a0 6), .int (s0.1 3), .int (s0.1 4), .ref (a0 7), .int (s0.1 5), .int (s0.1 6), .int (s0.1 7), .int (s0.1 8), .int (s0.1 9), .int (s0.1 10), .int (s0.1 11), .int (s0.1 12), .int (s0.1 13), .int (s0.1 14)])), ((a0 1), .inl (q 1, 6896, .inr (.inl (s0.2.2.1 0)))), ((a0 2), .inl (q 1, 68960, .inr (.inl (s0.2.2.1 1)))), ((a0 3), .inl (q 1, 13792, .inr (.inl (s0.2.2.1 2)))), ((a0 4), .inl (q 1, 6896, .inr (.inl (s0.2.2.1 3)))), ((a0 5), .inl (q 3, 2, .inl (s0.2.2.2 0))), ((a0 6), .inl (q 0, 40, .inl (s0.2.2.2 1))), ((a0 7), .inl (q 2, 400, .inl (s0.2.2.2 2)))] s.heap := hP
  unfold wp_X7_wide at h
  refine lv_aload_n hx hb dX7_wide_0 rfl (lv_at hl 0 rfl) ?_
  refine fl_get (C := RX7) (T := TX7) (N := 23) (ci := 6) (v := .ref (a0 1)) hx hb ht in_X7 hown hK hP 0 rfl rfl 0 (by decide) mw_1130 rfl dX7_wide_1 ?_
  refine lv_iconst (v := 1) hx hb dX7_wide_4 (by decide) ?_
  refine va_lald hx hb hK hP 1 1 rfl rfl (in_c rfl) dX7_wide_5 ?_
  refine lv_l2i (v := (Int64.toInt32 ((s0.2.2.1 0) (Int32.toNatClampNeg 1)))) hx hb dX7_wide_6 rfl ?_
  exact rd_iret hx hb hr hk h dX7_wide_7

def wp_X7_cells (post : Int32 → Prop) (s0 : Md) : Prop := wp_X7_rows (fun r_1 => wp_X7_wide (fun r_3 => post (r_1 * r_3)) s0) s0
set_option maxHeartbeats 4000000 in
set_option maxRecDepth 100000 in
theorem c2_X7_cells {l : Launch} {D : va_G} {q : Nat → ClassId} {a0 : Nat → Nat} {s0 : Md} {post : Int32 → Prop} (h : wp_X7_cells post s0) : Met l yX7_cells (Cond.code yX7_cells cX7_cells 1 (some .int) :: w_all) ({ frames := 1, cells := 0, slots := 0, locals := 20 } : Room) (rd_P D q [.ref (a0 0)] (md_v a0 q s0)) (vp_Si post) 0 0 (fun _ => False) := by
  refine rd_start (by decide) (Nat.le_of_ble_eq_true rfl) ?_
  intro p e s m below meth c ls hx hb hr hml hown ht hk hP hQ hV hl
  have hK := hQ.1
  have hown : s.vm.findClass RX7 = some m.cls := hown
  have hl : lv_has ls 1 [(0, .ref (a0 0))] := hl
  have hP : va_P D vwCl [((a0 0), .inr (6, [.ref (a0 1), .ref (a0 2), .int (s0.1 0), .ref (a0 3), .ref (a0 5), .ref (a0 4), .long s0.2.1, .int (s0.1 1), .int (s0.1 2), .ref (a0 6), .int (s0.1 3), .int (s0.1 4), .ref (a0 7), .int (s0.1 5), .int (s0.1 6), .int (s0.1 7), .int (s0.1 8), .int (s0.1 9), .int (s0.1 10), .int (s0.1 11), .int (s0.1 12), .int (s0.1 13), .int (s0.1 14)])), ((a0 1), .inl (q 1, 6896, .inr (.inl (s0.2.2.1 0)))), ((a0 2), .inl (q 1, 68960, .inr (.inl (s0.2.2.1 1)))), ((a0 3), .inl (q 1, 13792, .inr (.inl (s0.2.2.1 2)))), ((a0 4), .inl (q 1, 6896, .inr (.inl (s0.2.2.1 3)))), ((a0 5), .inl (q 3, 2, .inl (s0.2.2.2 0))), ((a0 6), .inl (q 0, 40, .inl (s0.2.2.2 1))), ((a0 7), .inl (q 2, 400, .inl (s0.2.2.2 2)))] s.heap := hP
  unfold wp_X7_cells at h
  refine lv_aload_n hx hb dX7_cells_0 rfl (lv_at hl 0 rfl) ?_
  refine vp_callSi (rd_wV (wc := md_v a0 q s0) (As := []) (rest := []) hx hb hml hown ht (c2_X7_rows h) wd_X7_rows mw_1209 hQ hV va_S.rf (hP.sub [0, 1, 2, 3, 4, 5, 6, 7] rfl) rfl rfl rfl hl.1 rfl (Nat.le_of_ble_eq_true rfl) dX7_cells_1 ⟨Nat.le_of_ble_eq_true rfl, Nat.le_of_ble_eq_true rfl, rfl, rfl⟩ ⟨Nat.le_of_ble_eq_true rfl, Nat.le_of_ble_eq_true rfl⟩) (fun r_1 h => ?_)
  try dsimp only at h
  refine lv_aload_n hx hb dX7_cells_4 rfl (lv_at hl 0 rfl) ?_
  refine vp_callSi (rd_wV (wc := md_v a0 q s0) (As := []) (rest := [.int r_1]) hx hb hml hown ht (c2_X7_wide h) wd_X7_wide mw_1220 hQ hV va_S.rf (hP.sub [0, 1, 2, 3, 4, 5, 6, 7] rfl) rfl rfl rfl hl.1 rfl (Nat.le_of_ble_eq_true rfl) dX7_cells_5 ⟨Nat.le_of_ble_eq_true rfl, Nat.le_of_ble_eq_true rfl, rfl, rfl⟩ ⟨Nat.le_of_ble_eq_true rfl, Nat.le_of_ble_eq_true rfl⟩) (fun r_3 h => ?_)
  try dsimp only at h
  refine lv_imul hx hb dX7_cells_8 ?_
  exact rd_iret hx hb hr hk h dX7_cells_9

def wp_X7_drums (post : Int32 → Prop) (s0 : Md) : Prop := post (Int64.toInt32 ((s0.2.2.1 0) (Int32.toNatClampNeg 3)))
set_option maxHeartbeats 4000000 in
set_option maxRecDepth 100000 in
theorem c2_X7_drums {l : Launch} {D : va_G} {q : Nat → ClassId} {a0 : Nat → Nat} {s0 : Md} {post : Int32 → Prop} (h : wp_X7_drums post s0) : Met l yX7_drums (Cond.code yX7_drums cX7_drums 1 (some .int) :: w_all) ({ frames := 0, cells := 0, slots := 0, locals := 0 } : Room) (rd_P D q [.ref (a0 0)] (md_v a0 q s0)) (vp_Si post) 0 0 (fun _ => False) := by
  refine rd_start (by decide) (Nat.le_of_ble_eq_true rfl) ?_
  intro p e s m below meth c ls hx hb hr hml hown ht hk hP hQ hV hl
  have hK := hQ.1
  have hown : s.vm.findClass RX7 = some m.cls := hown
  have hl : lv_has ls 1 [(0, .ref (a0 0))] := hl
  have hP : va_P D vwCl [((a0 0), .inr (6, [.ref (a0 1), .ref (a0 2), .int (s0.1 0), .ref (a0 3), .ref (a0 5), .ref (a0 4), .long s0.2.1, .int (s0.1 1), .int (s0.1 2), .ref (a0 6), .int (s0.1 3), .int (s0.1 4), .ref (a0 7), .int (s0.1 5), .int (s0.1 6), .int (s0.1 7), .int (s0.1 8), .int (s0.1 9), .int (s0.1 10), .int (s0.1 11), .int (s0.1 12), .int (s0.1 13), .int (s0.1 14)])), ((a0 1), .inl (q 1, 6896, .inr (.inl (s0.2.2.1 0)))), ((a0 2), .inl (q 1, 68960, .inr (.inl (s0.2.2.1 1)))), ((a0 3), .inl (q 1, 13792, .inr (.inl (s0.2.2.1 2)))), ((a0 4), .inl (q 1, 6896, .inr (.inl (s0.2.2.1 3)))), ((a0 5), .inl (q 3, 2, .inl (s0.2.2.2 0))), ((a0 6), .inl (q 0, 40, .inl (s0.2.2.2 1))), ((a0 7), .inl (q 2, 400, .inl (s0.2.2.2 2)))] s.heap := hP
  unfold wp_X7_drums at h
  refine lv_aload_n hx hb dX7_drums_0 rfl (lv_at hl 0 rfl) ?_
  refine fl_get (C := RX7) (T := TX7) (N := 23) (ci := 6) (v := .ref (a0 1)) hx hb ht in_X7 hown hK hP 0 rfl rfl 0 (by decide) mw_1130 rfl dX7_drums_1 ?_
  refine lv_iconst (v := 3) hx hb dX7_drums_4 (by decide) ?_
  refine va_lald hx hb hK hP 1 1 rfl rfl (in_c rfl) dX7_drums_5 ?_
  refine lv_l2i (v := (Int64.toInt32 ((s0.2.2.1 0) (Int32.toNatClampNeg 3)))) hx hb dX7_drums_6 rfl ?_
  exact rd_iret hx hb hr hk h dX7_drums_7

def wp_X7_isBoard (post : Int32 → Prop) (s0 : Md) : Prop := wp_X7_drums (fun r_1 => ((r_1 ≤ 0 → post 0) ∧ (¬ r_1 ≤ 0 → post 1))) s0
set_option maxHeartbeats 4000000 in
set_option maxRecDepth 100000 in
theorem c2_X7_isBoard {l : Launch} {D : va_G} {q : Nat → ClassId} {a0 : Nat → Nat} {s0 : Md} {post : Int32 → Prop} (h : wp_X7_isBoard post s0) : Met l yX7_isBoard (Cond.code yX7_isBoard cX7_isBoard 1 (some .boolean) :: w_all) ({ frames := 1, cells := 0, slots := 0, locals := 20 } : Room) (rd_P D q [.ref (a0 0)] (md_v a0 q s0)) (vp_Si post) 0 0 (fun _ => False) := by
  refine rd_start (by decide) (Nat.le_of_ble_eq_true rfl) ?_
  intro p e s m below meth c ls hx hb hr hml hown ht hk hP hQ hV hl
  have hK := hQ.1
  have hown : s.vm.findClass RX7 = some m.cls := hown
  have hl : lv_has ls 1 [(0, .ref (a0 0))] := hl
  have hP : va_P D vwCl [((a0 0), .inr (6, [.ref (a0 1), .ref (a0 2), .int (s0.1 0), .ref (a0 3), .ref (a0 5), .ref (a0 4), .long s0.2.1, .int (s0.1 1), .int (s0.1 2), .ref (a0 6), .int (s0.1 3), .int (s0.1 4), .ref (a0 7), .int (s0.1 5), .int (s0.1 6), .int (s0.1 7), .int (s0.1 8), .int (s0.1 9), .int (s0.1 10), .int (s0.1 11), .int (s0.1 12), .int (s0.1 13), .int (s0.1 14)])), ((a0 1), .inl (q 1, 6896, .inr (.inl (s0.2.2.1 0)))), ((a0 2), .inl (q 1, 68960, .inr (.inl (s0.2.2.1 1)))), ((a0 3), .inl (q 1, 13792, .inr (.inl (s0.2.2.1 2)))), ((a0 4), .inl (q 1, 6896, .inr (.inl (s0.2.2.1 3)))), ((a0 5), .inl (q 3, 2, .inl (s0.2.2.2 0))), ((a0 6), .inl (q 0, 40, .inl (s0.2.2.2 1))), ((a0 7), .inl (q 2, 400, .inl (s0.2.2.2 2)))] s.heap := hP
  unfold wp_X7_isBoard at h
  refine lv_aload_n hx hb dX7_isBoard_0 rfl (lv_at hl 0 rfl) ?_
  refine vp_callSi (rd_wV (wc := md_v a0 q s0) (As := []) (rest := []) hx hb hml hown ht (c2_X7_drums h) wd_X7_drums mw_1287 hQ hV va_S.rf (hP.sub [0, 1, 2, 3, 4, 5, 6, 7] rfl) rfl rfl rfl hl.1 rfl (Nat.le_of_ble_eq_true rfl) dX7_isBoard_1 ⟨Nat.le_of_ble_eq_true rfl, Nat.le_of_ble_eq_true rfl, rfl, rfl⟩ ⟨Nat.le_of_ble_eq_true rfl, Nat.le_of_ble_eq_true rfl⟩) (fun r_1 h => ?_)
  try dsimp only at h
  refine lv_if_le (tgt := 11) hx hb dX7_isBoard_4 (by decide) (fun c_3 => ?_) (fun c_3 => ?_)
  · replace h := h.1 c_3
    refine lv_iconst (v := 0) hx hb dX7_isBoard_11 (by decide) ?_
    exact rd_zret hx hb hr hk rfl h dX7_isBoard_12
  · replace h := h.2 c_3
    refine lv_iconst (v := 1) hx hb dX7_isBoard_7 (by decide) ?_
    refine lv_goto (tgt := 12) hx hb dX7_isBoard_8 (by decide) ?_
    exact rd_zret hx hb hr hk rfl h dX7_isBoard_12

def wp_X7_isCell (post : Int32 → Prop) (s0 : Md) (x1 : Int32) : Prop := wp_X7_cells (fun r_1 => wp_X7_in (fun r_3 => narrow .boolean (.int r_3) = .int r_3 ∧ post r_3) (Int32.toInt64 x1) (0 : Int64) (Int32.toInt64 (r_1 - 1))) s0
set_option maxHeartbeats 4000000 in
set_option maxRecDepth 100000 in
theorem c2_X7_isCell {l : Launch} {D : va_G} {q : Nat → ClassId} {a0 : Nat → Nat} {s0 : Md} {x1 : Int32} {post : Int32 → Prop} (h : wp_X7_isCell post s0 x1) : Met l yX7_isCell (Cond.code yX7_isCell cX7_isCell 2 (some .boolean) :: w_all) ({ frames := 2, cells := 0, slots := 0, locals := 40 } : Room) (rd_P D q [.ref (a0 0), .int x1] (md_v a0 q s0)) (vp_Si post) 0 0 (fun _ => False) := by
  refine rd_start (by decide) (Nat.le_of_ble_eq_true rfl) ?_
  intro p e s m below meth c ls hx hb hr hml hown ht hk hP hQ hV hl
  have hK := hQ.1
  have hown : s.vm.findClass RX7 = some m.cls := hown
  have hl : lv_has ls 2 [(0, .ref (a0 0)), (1, .int x1)] := hl
  have hP : va_P D vwCl [((a0 0), .inr (6, [.ref (a0 1), .ref (a0 2), .int (s0.1 0), .ref (a0 3), .ref (a0 5), .ref (a0 4), .long s0.2.1, .int (s0.1 1), .int (s0.1 2), .ref (a0 6), .int (s0.1 3), .int (s0.1 4), .ref (a0 7), .int (s0.1 5), .int (s0.1 6), .int (s0.1 7), .int (s0.1 8), .int (s0.1 9), .int (s0.1 10), .int (s0.1 11), .int (s0.1 12), .int (s0.1 13), .int (s0.1 14)])), ((a0 1), .inl (q 1, 6896, .inr (.inl (s0.2.2.1 0)))), ((a0 2), .inl (q 1, 68960, .inr (.inl (s0.2.2.1 1)))), ((a0 3), .inl (q 1, 13792, .inr (.inl (s0.2.2.1 2)))), ((a0 4), .inl (q 1, 6896, .inr (.inl (s0.2.2.1 3)))), ((a0 5), .inl (q 3, 2, .inl (s0.2.2.2 0))), ((a0 6), .inl (q 0, 40, .inl (s0.2.2.2 1))), ((a0 7), .inl (q 2, 400, .inl (s0.2.2.2 2)))] s.heap := hP
  unfold wp_X7_isCell at h
  refine lv_iload_n hx hb dX7_isCell_0 rfl (lv_at hl 1 rfl) ?_
  refine lv_i2l (v := (Int32.toInt64 x1)) hx hb dX7_isCell_1 rfl ?_
  refine lv_lconst (v := 0) hx hb dX7_isCell_2 (by decide) ?_
  refine lv_aload_n hx hb dX7_isCell_3 rfl (lv_at hl 0 rfl) ?_
  refine vp_callSi (rd_wV (wc := md_v a0 q s0) (As := []) (rest := [.long 0, .long (Int32.toInt64 x1)]) hx hb hml hown ht (c2_X7_cells h) wd_X7_cells mw_1295 hQ hV va_S.rf (hP.sub [0, 1, 2, 3, 4, 5, 6, 7] rfl) rfl rfl rfl hl.1 rfl (Nat.le_of_ble_eq_true rfl) dX7_isCell_4 ⟨Nat.le_of_ble_eq_true rfl, Nat.le_of_ble_eq_true rfl, rfl, rfl⟩ ⟨Nat.le_of_ble_eq_true rfl, Nat.le_of_ble_eq_true rfl⟩) (fun r_1 h => ?_)
  try dsimp only at h
  refine lv_iconst (v := 1) hx hb dX7_isCell_7 (by decide) ?_
  refine lv_isub hx hb dX7_isCell_8 ?_
  refine lv_i2l (v := (Int32.toInt64 (r_1 - 1))) hx hb dX7_isCell_9 rfl ?_
  refine vp_callSi (rd_wS (wc := ([] : va_W)) (As := [.long (Int32.toInt64 x1), .long 0, .long (Int32.toInt64 (r_1 - 1))]) (rest := []) hx hb hml hown ht (c2_X7_in h) wd_X7_in mw_1213 hQ hV va_S.rf (hP.sub [] rfl) rfl hl.1 rfl (Nat.le_of_ble_eq_true rfl) dX7_isCell_10 ⟨Nat.le_of_ble_eq_true rfl, Nat.le_of_ble_eq_true rfl, rfl, rfl⟩ ⟨Nat.le_of_ble_eq_true rfl, Nat.le_of_ble_eq_true rfl⟩) (fun r_3 h => ?_)
  try dsimp only at h
  obtain ⟨g_5, h⟩ := h
  exact rd_zret hx hb hr hk g_5 h dX7_isCell_13

def wp_X7_isRow (post : Int32 → Prop) (s0 : Md) (x1 : Int32) : Prop := wp_X7_rows (fun r_1 => wp_X7_in (fun r_3 => narrow .boolean (.int r_3) = .int r_3 ∧ post r_3) (Int32.toInt64 x1) (0 : Int64) (Int32.toInt64 (r_1 - 1))) s0
set_option maxHeartbeats 4000000 in
set_option maxRecDepth 100000 in
theorem c2_X7_isRow {l : Launch} {D : va_G} {q : Nat → ClassId} {a0 : Nat → Nat} {s0 : Md} {x1 : Int32} {post : Int32 → Prop} (h : wp_X7_isRow post s0 x1) : Met l yX7_isRow (Cond.code yX7_isRow cX7_isRow 2 (some .boolean) :: w_all) ({ frames := 1, cells := 0, slots := 0, locals := 25 } : Room) (rd_P D q [.ref (a0 0), .int x1] (md_v a0 q s0)) (vp_Si post) 0 0 (fun _ => False) := by
  refine rd_start (by decide) (Nat.le_of_ble_eq_true rfl) ?_
  intro p e s m below meth c ls hx hb hr hml hown ht hk hP hQ hV hl
  have hK := hQ.1
  have hown : s.vm.findClass RX7 = some m.cls := hown
  have hl : lv_has ls 2 [(0, .ref (a0 0)), (1, .int x1)] := hl
  have hP : va_P D vwCl [((a0 0), .inr (6, [.ref (a0 1), .ref (a0 2), .int (s0.1 0), .ref (a0 3), .ref (a0 5), .ref (a0 4), .long s0.2.1, .int (s0.1 1), .int (s0.1 2), .ref (a0 6), .int (s0.1 3), .int (s0.1 4), .ref (a0 7), .int (s0.1 5), .int (s0.1 6), .int (s0.1 7), .int (s0.1 8), .int (s0.1 9), .int (s0.1 10), .int (s0.1 11), .int (s0.1 12), .int (s0.1 13), .int (s0.1 14)])), ((a0 1), .inl (q 1, 6896, .inr (.inl (s0.2.2.1 0)))), ((a0 2), .inl (q 1, 68960, .inr (.inl (s0.2.2.1 1)))), ((a0 3), .inl (q 1, 13792, .inr (.inl (s0.2.2.1 2)))), ((a0 4), .inl (q 1, 6896, .inr (.inl (s0.2.2.1 3)))), ((a0 5), .inl (q 3, 2, .inl (s0.2.2.2 0))), ((a0 6), .inl (q 0, 40, .inl (s0.2.2.2 1))), ((a0 7), .inl (q 2, 400, .inl (s0.2.2.2 2)))] s.heap := hP
  unfold wp_X7_isRow at h
  refine lv_iload_n hx hb dX7_isRow_0 rfl (lv_at hl 1 rfl) ?_
  refine lv_i2l (v := (Int32.toInt64 x1)) hx hb dX7_isRow_1 rfl ?_
  refine lv_lconst (v := 0) hx hb dX7_isRow_2 (by decide) ?_
  refine lv_aload_n hx hb dX7_isRow_3 rfl (lv_at hl 0 rfl) ?_
  refine vp_callSi (rd_wV (wc := md_v a0 q s0) (As := []) (rest := [.long 0, .long (Int32.toInt64 x1)]) hx hb hml hown ht (c2_X7_rows h) wd_X7_rows mw_1209 hQ hV va_S.rf (hP.sub [0, 1, 2, 3, 4, 5, 6, 7] rfl) rfl rfl rfl hl.1 rfl (Nat.le_of_ble_eq_true rfl) dX7_isRow_4 ⟨Nat.le_of_ble_eq_true rfl, Nat.le_of_ble_eq_true rfl, rfl, rfl⟩ ⟨Nat.le_of_ble_eq_true rfl, Nat.le_of_ble_eq_true rfl⟩) (fun r_1 h => ?_)
  try dsimp only at h
  refine lv_iconst (v := 1) hx hb dX7_isRow_7 (by decide) ?_
  refine lv_isub hx hb dX7_isRow_8 ?_
  refine lv_i2l (v := (Int32.toInt64 (r_1 - 1))) hx hb dX7_isRow_9 rfl ?_
  refine vp_callSi (rd_wS (wc := ([] : va_W)) (As := [.long (Int32.toInt64 x1), .long 0, .long (Int32.toInt64 (r_1 - 1))]) (rest := []) hx hb hml hown ht (c2_X7_in h) wd_X7_in mw_1213 hQ hV va_S.rf (hP.sub [] rfl) rfl hl.1 rfl (Nat.le_of_ble_eq_true rfl) dX7_isRow_10 ⟨Nat.le_of_ble_eq_true rfl, Nat.le_of_ble_eq_true rfl, rfl, rfl⟩ ⟨Nat.le_of_ble_eq_true rfl, Nat.le_of_ble_eq_true rfl⟩) (fun r_3 h => ?_)
  try dsimp only at h
  obtain ⟨g_5, h⟩ := h
  exact rd_zret hx hb hr hk g_5 h dX7_isRow_13

def wp_X7_isDrum (post : Int32 → Prop) (s0 : Md) (x1 : Int32) : Prop := wp_X7_drums (fun r_1 => wp_X7_in (fun r_3 => narrow .boolean (.int r_3) = .int r_3 ∧ post r_3) (Int32.toInt64 x1) (0 : Int64) (Int32.toInt64 (r_1 - 1))) s0
set_option maxHeartbeats 4000000 in
set_option maxRecDepth 100000 in
theorem c2_X7_isDrum {l : Launch} {D : va_G} {q : Nat → ClassId} {a0 : Nat → Nat} {s0 : Md} {x1 : Int32} {post : Int32 → Prop} (h : wp_X7_isDrum post s0 x1) : Met l yX7_isDrum (Cond.code yX7_isDrum cX7_isDrum 2 (some .boolean) :: w_all) ({ frames := 1, cells := 0, slots := 0, locals := 25 } : Room) (rd_P D q [.ref (a0 0), .int x1] (md_v a0 q s0)) (vp_Si post) 0 0 (fun _ => False) := by
  refine rd_start (by decide) (Nat.le_of_ble_eq_true rfl) ?_
  intro p e s m below meth c ls hx hb hr hml hown ht hk hP hQ hV hl
  have hK := hQ.1
  have hown : s.vm.findClass RX7 = some m.cls := hown
  have hl : lv_has ls 2 [(0, .ref (a0 0)), (1, .int x1)] := hl
  have hP : va_P D vwCl [((a0 0), .inr (6, [.ref (a0 1), .ref (a0 2), .int (s0.1 0), .ref (a0 3), .ref (a0 5), .ref (a0 4), .long s0.2.1, .int (s0.1 1), .int (s0.1 2), .ref (a0 6), .int (s0.1 3), .int (s0.1 4), .ref (a0 7), .int (s0.1 5), .int (s0.1 6), .int (s0.1 7), .int (s0.1 8), .int (s0.1 9), .int (s0.1 10), .int (s0.1 11), .int (s0.1 12), .int (s0.1 13), .int (s0.1 14)])), ((a0 1), .inl (q 1, 6896, .inr (.inl (s0.2.2.1 0)))), ((a0 2), .inl (q 1, 68960, .inr (.inl (s0.2.2.1 1)))), ((a0 3), .inl (q 1, 13792, .inr (.inl (s0.2.2.1 2)))), ((a0 4), .inl (q 1, 6896, .inr (.inl (s0.2.2.1 3)))), ((a0 5), .inl (q 3, 2, .inl (s0.2.2.2 0))), ((a0 6), .inl (q 0, 40, .inl (s0.2.2.2 1))), ((a0 7), .inl (q 2, 400, .inl (s0.2.2.2 2)))] s.heap := hP
  unfold wp_X7_isDrum at h
  refine lv_iload_n hx hb dX7_isDrum_0 rfl (lv_at hl 1 rfl) ?_
  refine lv_i2l (v := (Int32.toInt64 x1)) hx hb dX7_isDrum_1 rfl ?_
  refine lv_lconst (v := 0) hx hb dX7_isDrum_2 (by decide) ?_
  refine lv_aload_n hx hb dX7_isDrum_3 rfl (lv_at hl 0 rfl) ?_
  refine vp_callSi (rd_wV (wc := md_v a0 q s0) (As := []) (rest := [.long 0, .long (Int32.toInt64 x1)]) hx hb hml hown ht (c2_X7_drums h) wd_X7_drums mw_1287 hQ hV va_S.rf (hP.sub [0, 1, 2, 3, 4, 5, 6, 7] rfl) rfl rfl rfl hl.1 rfl (Nat.le_of_ble_eq_true rfl) dX7_isDrum_4 ⟨Nat.le_of_ble_eq_true rfl, Nat.le_of_ble_eq_true rfl, rfl, rfl⟩ ⟨Nat.le_of_ble_eq_true rfl, Nat.le_of_ble_eq_true rfl⟩) (fun r_1 h => ?_)
  try dsimp only at h
  refine lv_iconst (v := 1) hx hb dX7_isDrum_7 (by decide) ?_
  refine lv_isub hx hb dX7_isDrum_8 ?_
  refine lv_i2l (v := (Int32.toInt64 (r_1 - 1))) hx hb dX7_isDrum_9 rfl ?_
  refine vp_callSi (rd_wS (wc := ([] : va_W)) (As := [.long (Int32.toInt64 x1), .long 0, .long (Int32.toInt64 (r_1 - 1))]) (rest := []) hx hb hml hown ht (c2_X7_in h) wd_X7_in mw_1213 hQ hV va_S.rf (hP.sub [] rfl) rfl hl.1 rfl (Nat.le_of_ble_eq_true rfl) dX7_isDrum_10 ⟨Nat.le_of_ble_eq_true rfl, Nat.le_of_ble_eq_true rfl, rfl, rfl⟩ ⟨Nat.le_of_ble_eq_true rfl, Nat.le_of_ble_eq_true rfl⟩) (fun r_3 h => ?_)
  try dsimp only at h
  obtain ⟨g_5, h⟩ := h
  exact rd_zret hx hb hr hk g_5 h dX7_isDrum_13

def wp_X7_of (post : Int32 → Prop) (s0 : Md) (x1 : Int32) (x2 : Int32) : Prop := vp_in ((176 + (8 * x1)) + x2) 6896 ∧ post (Int64.toInt32 ((s0.2.2.1 0) (Int32.toNatClampNeg ((176 + (8 * x1)) + x2))))
set_option maxHeartbeats 4000000 in
set_option maxRecDepth 100000 in
theorem c2_X7_of {l : Launch} {D : va_G} {q : Nat → ClassId} {a0 : Nat → Nat} {s0 : Md} {x1 : Int32} {x2 : Int32} {post : Int32 → Prop} (h : wp_X7_of post s0 x1 x2) : Met l yX7_of (Cond.code yX7_of cX7_of 3 (some .int) :: w_all) ({ frames := 0, cells := 0, slots := 0, locals := 0 } : Room) (rd_P D q [.ref (a0 0), .int x1, .int x2] (md_v a0 q s0)) (vp_Si post) 0 0 (fun _ => False) := by
  refine rd_start (by decide) (Nat.le_of_ble_eq_true rfl) ?_
  intro p e s m below meth c ls hx hb hr hml hown ht hk hP hQ hV hl
  have hK := hQ.1
  have hown : s.vm.findClass RX7 = some m.cls := hown
  have hl : lv_has ls 3 [(0, .ref (a0 0)), (1, .int x1), (2, .int x2)] := hl
  have hP : va_P D vwCl [((a0 0), .inr (6, [.ref (a0 1), .ref (a0 2), .int (s0.1 0), .ref (a0 3), .ref (a0 5), .ref (a0 4), .long s0.2.1, .int (s0.1 1), .int (s0.1 2), .ref (a0 6), .int (s0.1 3), .int (s0.1 4), .ref (a0 7), .int (s0.1 5), .int (s0.1 6), .int (s0.1 7), .int (s0.1 8), .int (s0.1 9), .int (s0.1 10), .int (s0.1 11), .int (s0.1 12), .int (s0.1 13), .int (s0.1 14)])), ((a0 1), .inl (q 1, 6896, .inr (.inl (s0.2.2.1 0)))), ((a0 2), .inl (q 1, 68960, .inr (.inl (s0.2.2.1 1)))), ((a0 3), .inl (q 1, 13792, .inr (.inl (s0.2.2.1 2)))), ((a0 4), .inl (q 1, 6896, .inr (.inl (s0.2.2.1 3)))), ((a0 5), .inl (q 3, 2, .inl (s0.2.2.2 0))), ((a0 6), .inl (q 0, 40, .inl (s0.2.2.2 1))), ((a0 7), .inl (q 2, 400, .inl (s0.2.2.2 2)))] s.heap := hP
  unfold wp_X7_of at h
  refine lv_aload_n hx hb dX7_of_0 rfl (lv_at hl 0 rfl) ?_
  refine fl_get (C := RX7) (T := TX7) (N := 23) (ci := 6) (v := .ref (a0 1)) hx hb ht in_X7 hown hK hP 0 rfl rfl 0 (by decide) mw_1130 rfl dX7_of_1 ?_
  refine lv_sipush (v := 176) hx hb dX7_of_4 (by decide) ?_
  refine lv_bipush (v := 8) hx hb dX7_of_7 (by decide) ?_
  refine lv_iload_n hx hb dX7_of_9 rfl (lv_at hl 1 rfl) ?_
  refine lv_imul hx hb dX7_of_10 ?_
  refine lv_iadd hx hb dX7_of_11 ?_
  refine lv_iload_n hx hb dX7_of_12 rfl (lv_at hl 2 rfl) ?_
  refine lv_iadd hx hb dX7_of_13 ?_
  obtain ⟨g_1, h⟩ := h
  refine va_lald hx hb hK hP 1 1 rfl rfl g_1 dX7_of_14 ?_
  refine lv_l2i (v := (Int64.toInt32 ((s0.2.2.1 0) (Int32.toNatClampNeg ((176 + (8 * x1)) + x2))))) hx hb dX7_of_15 rfl ?_
  exact rd_iret hx hb hr hk h dX7_of_16

def wp_X7_sets (post : Md → Prop) (s0 : Md) (x1 : Int32) (x2 : Int32) (y3 : Int64) : Prop := vp_in ((176 + (8 * x1)) + x2) 6896 ∧ post (s0.1, s0.2.1, (va_up s0.2.2.1 0 (vp_updL (s0.2.2.1 0) (Int32.toNatClampNeg ((176 + (8 * x1)) + x2)) y3)), s0.2.2.2)
set_option maxHeartbeats 4000000 in
set_option maxRecDepth 100000 in
theorem c2_X7_sets {l : Launch} {D : va_G} {q : Nat → ClassId} {sz : Nat} {a0 : Nat → Nat} {s0 : Md} {x1 : Int32} {x2 : Int32} {y3 : Int64} {post : Md → Prop} (h : wp_X7_sets post s0 x1 x2 y3) : Met l yX7_sets (Cond.code yX7_sets cX7_sets 5 none :: w_all) ({ frames := 0, cells := 0, slots := 0, locals := 0 } : Room) (mt_P D q [.ref (a0 0), .int x1, .int x2, .long y3] (md_v a0 q s0) sz) (va_Qv (fun u : Md => post u) (mt_B D (md_v a0 q s0) sz (fun u : Md => md_v a0 q u)) (va_A (md_v a0 q s0) sz)) 0 0 (va_A (md_v a0 q s0) sz) := by
  refine mt_start (by decide) (Nat.le_of_ble_eq_true rfl) ?_
  intro p e s m below meth c ls hx hb hr hml hown ht hk hin hP hQ hD hA hS hV hl
  have hK := hQ.1
  have hown : s.vm.findClass RX7 = some m.cls := hown
  have hl : lv_has ls 5 [(0, .ref (a0 0)), (1, .int x1), (2, .int x2), (3, .long y3)] := hl
  have hP : va_P D vwCl [((a0 0), .inr (6, [.ref (a0 1), .ref (a0 2), .int (s0.1 0), .ref (a0 3), .ref (a0 5), .ref (a0 4), .long s0.2.1, .int (s0.1 1), .int (s0.1 2), .ref (a0 6), .int (s0.1 3), .int (s0.1 4), .ref (a0 7), .int (s0.1 5), .int (s0.1 6), .int (s0.1 7), .int (s0.1 8), .int (s0.1 9), .int (s0.1 10), .int (s0.1 11), .int (s0.1 12), .int (s0.1 13), .int (s0.1 14)])), ((a0 1), .inl (q 1, 6896, .inr (.inl (s0.2.2.1 0)))), ((a0 2), .inl (q 1, 68960, .inr (.inl (s0.2.2.1 1)))), ((a0 3), .inl (q 1, 13792, .inr (.inl (s0.2.2.1 2)))), ((a0 4), .inl (q 1, 6896, .inr (.inl (s0.2.2.1 3)))), ((a0 5), .inl (q 3, 2, .inl (s0.2.2.2 0))), ((a0 6), .inl (q 0, 40, .inl (s0.2.2.2 1))), ((a0 7), .inl (q 2, 400, .inl (s0.2.2.2 2)))] s.heap := hP
  have hD : va_D _ [((a0 0), .inr (6, [.ref (a0 1), .ref (a0 2), .int (s0.1 0), .ref (a0 3), .ref (a0 5), .ref (a0 4), .long s0.2.1, .int (s0.1 1), .int (s0.1 2), .ref (a0 6), .int (s0.1 3), .int (s0.1 4), .ref (a0 7), .int (s0.1 5), .int (s0.1 6), .int (s0.1 7), .int (s0.1 8), .int (s0.1 9), .int (s0.1 10), .int (s0.1 11), .int (s0.1 12), .int (s0.1 13), .int (s0.1 14)])), ((a0 1), .inl (q 1, 6896, .inr (.inl (s0.2.2.1 0)))), ((a0 2), .inl (q 1, 68960, .inr (.inl (s0.2.2.1 1)))), ((a0 3), .inl (q 1, 13792, .inr (.inl (s0.2.2.1 2)))), ((a0 4), .inl (q 1, 6896, .inr (.inl (s0.2.2.1 3)))), ((a0 5), .inl (q 3, 2, .inl (s0.2.2.2 0))), ((a0 6), .inl (q 0, 40, .inl (s0.2.2.2 1))), ((a0 7), .inl (q 2, 400, .inl (s0.2.2.2 2)))] := hD
  unfold wp_X7_sets at h
  refine lv_aload_n hx hb dX7_sets_0 rfl (lv_at hl 0 rfl) ?_
  refine fl_get (C := RX7) (T := TX7) (N := 23) (ci := 6) (v := .ref (a0 1)) hx hb ht in_X7 hown hK hP 0 rfl rfl 0 (by decide) mw_1130 rfl dX7_sets_1 ?_
  refine lv_sipush (v := 176) hx hb dX7_sets_4 (by decide) ?_
  refine lv_bipush (v := 8) hx hb dX7_sets_7 (by decide) ?_
  refine lv_iload_n hx hb dX7_sets_9 rfl (lv_at hl 1 rfl) ?_
  refine lv_imul hx hb dX7_sets_10 ?_
  refine lv_iadd hx hb dX7_sets_11 ?_
  refine lv_iload_n hx hb dX7_sets_12 rfl (lv_at hl 2 rfl) ?_
  refine lv_iadd hx hb dX7_sets_13 ?_
  refine lv_lload_n hx hb dX7_sets_14 rfl (lv_at hl 3 rfl) ?_
  obtain ⟨g_1, h⟩ := h
  refine va_last hx hb hK hP hD hS 1 1 rfl rfl g_1 dX7_sets_15 (fun H locs hP hD hS => ?_)
  have hP : va_P D vwCl [((a0 0), .inr (6, [.ref (a0 1), .ref (a0 2), .int (s0.1 0), .ref (a0 3), .ref (a0 5), .ref (a0 4), .long s0.2.1, .int (s0.1 1), .int (s0.1 2), .ref (a0 6), .int (s0.1 3), .int (s0.1 4), .ref (a0 7), .int (s0.1 5), .int (s0.1 6), .int (s0.1 7), .int (s0.1 8), .int (s0.1 9), .int (s0.1 10), .int (s0.1 11), .int (s0.1 12), .int (s0.1 13), .int (s0.1 14)])), ((a0 1), .inl (q 1, 6896, .inr (.inl (vp_updL (s0.2.2.1 0) (Int32.toNatClampNeg ((176 + (8 * x1)) + x2)) y3)))), ((a0 2), .inl (q 1, 68960, .inr (.inl (s0.2.2.1 1)))), ((a0 3), .inl (q 1, 13792, .inr (.inl (s0.2.2.1 2)))), ((a0 4), .inl (q 1, 6896, .inr (.inl (s0.2.2.1 3)))), ((a0 5), .inl (q 3, 2, .inl (s0.2.2.2 0))), ((a0 6), .inl (q 0, 40, .inl (s0.2.2.2 1))), ((a0 7), .inl (q 2, 400, .inl (s0.2.2.2 2)))] H := hP
  have hD : va_D _ [((a0 0), .inr (6, [.ref (a0 1), .ref (a0 2), .int (s0.1 0), .ref (a0 3), .ref (a0 5), .ref (a0 4), .long s0.2.1, .int (s0.1 1), .int (s0.1 2), .ref (a0 6), .int (s0.1 3), .int (s0.1 4), .ref (a0 7), .int (s0.1 5), .int (s0.1 6), .int (s0.1 7), .int (s0.1 8), .int (s0.1 9), .int (s0.1 10), .int (s0.1 11), .int (s0.1 12), .int (s0.1 13), .int (s0.1 14)])), ((a0 1), .inl (q 1, 6896, .inr (.inl (vp_updL (s0.2.2.1 0) (Int32.toNatClampNeg ((176 + (8 * x1)) + x2)) y3)))), ((a0 2), .inl (q 1, 68960, .inr (.inl (s0.2.2.1 1)))), ((a0 3), .inl (q 1, 13792, .inr (.inl (s0.2.2.1 2)))), ((a0 4), .inl (q 1, 6896, .inr (.inl (s0.2.2.1 3)))), ((a0 5), .inl (q 3, 2, .inl (s0.2.2.2 0))), ((a0 6), .inl (q 0, 40, .inl (s0.2.2.2 1))), ((a0 7), .inl (q 2, 400, .inl (s0.2.2.2 2)))] := hD
  exact mt_vret (s0.1, s0.2.1, (va_up s0.2.2.1 0 (vp_updL (s0.2.2.1 0) (Int32.toNatClampNeg ((176 + (8 * x1)) + x2)) y3)), s0.2.2.2) hx hb hr hk h (hP.sub (ws' := md_v a0 q (s0.1, s0.2.1, (va_up s0.2.2.1 0 (vp_updL (s0.2.2.1 0) (Int32.toNatClampNeg ((176 + (8 * x1)) + x2)) y3)), s0.2.2.2)) [0, 1, 2, 3, 4, 5, 6, 7] rfl) (hD.sub (ws' := md_v a0 q (s0.1, s0.2.1, (va_up s0.2.2.1 0 (vp_updL (s0.2.2.1 0) (Int32.toNatClampNeg ((176 + (8 * x1)) + x2)) y3)), s0.2.2.2)) [0, 1, 2, 3, 4, 5, 6, 7] (by decide) rfl) hS dX7_sets_16

def wp_X7_wornOf (post : Int64 → Prop) (s0 : Md) (x1 : Int32) : Prop := vp_in ((176 + (8 * x1)) + 7) 6896 ∧ post ((s0.2.2.1 0) (Int32.toNatClampNeg ((176 + (8 * x1)) + 7)))
set_option maxHeartbeats 4000000 in
set_option maxRecDepth 100000 in
theorem c2_X7_wornOf {l : Launch} {D : va_G} {q : Nat → ClassId} {a0 : Nat → Nat} {s0 : Md} {x1 : Int32} {post : Int64 → Prop} (h : wp_X7_wornOf post s0 x1) : Met l yX7_wornOf (Cond.code yX7_wornOf cX7_wornOf 2 (some .long) :: w_all) ({ frames := 0, cells := 0, slots := 0, locals := 0 } : Room) (rd_P D q [.ref (a0 0), .int x1] (md_v a0 q s0)) (vp_Sl post) 0 0 (fun _ => False) := by
  refine rd_start (by decide) (Nat.le_of_ble_eq_true rfl) ?_
  intro p e s m below meth c ls hx hb hr hml hown ht hk hP hQ hV hl
  have hK := hQ.1
  have hown : s.vm.findClass RX7 = some m.cls := hown
  have hl : lv_has ls 2 [(0, .ref (a0 0)), (1, .int x1)] := hl
  have hP : va_P D vwCl [((a0 0), .inr (6, [.ref (a0 1), .ref (a0 2), .int (s0.1 0), .ref (a0 3), .ref (a0 5), .ref (a0 4), .long s0.2.1, .int (s0.1 1), .int (s0.1 2), .ref (a0 6), .int (s0.1 3), .int (s0.1 4), .ref (a0 7), .int (s0.1 5), .int (s0.1 6), .int (s0.1 7), .int (s0.1 8), .int (s0.1 9), .int (s0.1 10), .int (s0.1 11), .int (s0.1 12), .int (s0.1 13), .int (s0.1 14)])), ((a0 1), .inl (q 1, 6896, .inr (.inl (s0.2.2.1 0)))), ((a0 2), .inl (q 1, 68960, .inr (.inl (s0.2.2.1 1)))), ((a0 3), .inl (q 1, 13792, .inr (.inl (s0.2.2.1 2)))), ((a0 4), .inl (q 1, 6896, .inr (.inl (s0.2.2.1 3)))), ((a0 5), .inl (q 3, 2, .inl (s0.2.2.2 0))), ((a0 6), .inl (q 0, 40, .inl (s0.2.2.2 1))), ((a0 7), .inl (q 2, 400, .inl (s0.2.2.2 2)))] s.heap := hP
  unfold wp_X7_wornOf at h
  refine lv_aload_n hx hb dX7_wornOf_0 rfl (lv_at hl 0 rfl) ?_
  refine fl_get (C := RX7) (T := TX7) (N := 23) (ci := 6) (v := .ref (a0 1)) hx hb ht in_X7 hown hK hP 0 rfl rfl 0 (by decide) mw_1130 rfl dX7_wornOf_1 ?_
  refine lv_sipush (v := 176) hx hb dX7_wornOf_4 (by decide) ?_
  refine lv_bipush (v := 8) hx hb dX7_wornOf_7 (by decide) ?_
  refine lv_iload_n hx hb dX7_wornOf_9 rfl (lv_at hl 1 rfl) ?_
  refine lv_imul hx hb dX7_wornOf_10 ?_
  refine lv_iadd hx hb dX7_wornOf_11 ?_
  refine lv_bipush (v := 7) hx hb dX7_wornOf_12 (by decide) ?_
  refine lv_iadd hx hb dX7_wornOf_14 ?_
  obtain ⟨g_1, h⟩ := h
  refine va_lald hx hb hK hP 1 1 rfl rfl g_1 dX7_wornOf_15 ?_
  exact rd_lret hx hb hr hk h dX7_wornOf_16

def wp_X7_currentOf (post : Int32 → Prop) (s0 : Md) (x1 : Int32) : Prop := vp_in (8 + (42 * x1)) 6896 ∧ post (Int64.toInt32 ((s0.2.2.1 0) (Int32.toNatClampNeg (8 + (42 * x1)))))
set_option maxHeartbeats 4000000 in
set_option maxRecDepth 100000 in
theorem c2_X7_currentOf {l : Launch} {D : va_G} {q : Nat → ClassId} {a0 : Nat → Nat} {s0 : Md} {x1 : Int32} {post : Int32 → Prop} (h : wp_X7_currentOf post s0 x1) : Met l yX7_currentOf (Cond.code yX7_currentOf cX7_currentOf 2 (some .int) :: w_all) ({ frames := 0, cells := 0, slots := 0, locals := 0 } : Room) (rd_P D q [.ref (a0 0), .int x1] (md_v a0 q s0)) (vp_Si post) 0 0 (fun _ => False) := by
  refine rd_start (by decide) (Nat.le_of_ble_eq_true rfl) ?_
  intro p e s m below meth c ls hx hb hr hml hown ht hk hP hQ hV hl
  have hK := hQ.1
  have hown : s.vm.findClass RX7 = some m.cls := hown
  have hl : lv_has ls 2 [(0, .ref (a0 0)), (1, .int x1)] := hl
  have hP : va_P D vwCl [((a0 0), .inr (6, [.ref (a0 1), .ref (a0 2), .int (s0.1 0), .ref (a0 3), .ref (a0 5), .ref (a0 4), .long s0.2.1, .int (s0.1 1), .int (s0.1 2), .ref (a0 6), .int (s0.1 3), .int (s0.1 4), .ref (a0 7), .int (s0.1 5), .int (s0.1 6), .int (s0.1 7), .int (s0.1 8), .int (s0.1 9), .int (s0.1 10), .int (s0.1 11), .int (s0.1 12), .int (s0.1 13), .int (s0.1 14)])), ((a0 1), .inl (q 1, 6896, .inr (.inl (s0.2.2.1 0)))), ((a0 2), .inl (q 1, 68960, .inr (.inl (s0.2.2.1 1)))), ((a0 3), .inl (q 1, 13792, .inr (.inl (s0.2.2.1 2)))), ((a0 4), .inl (q 1, 6896, .inr (.inl (s0.2.2.1 3)))), ((a0 5), .inl (q 3, 2, .inl (s0.2.2.2 0))), ((a0 6), .inl (q 0, 40, .inl (s0.2.2.2 1))), ((a0 7), .inl (q 2, 400, .inl (s0.2.2.2 2)))] s.heap := hP
  unfold wp_X7_currentOf at h
  refine lv_aload_n hx hb dX7_currentOf_0 rfl (lv_at hl 0 rfl) ?_
  refine fl_get (C := RX7) (T := TX7) (N := 23) (ci := 6) (v := .ref (a0 1)) hx hb ht in_X7 hown hK hP 0 rfl rfl 0 (by decide) mw_1130 rfl dX7_currentOf_1 ?_
  refine lv_bipush (v := 8) hx hb dX7_currentOf_4 (by decide) ?_
  refine lv_bipush (v := 42) hx hb dX7_currentOf_6 (by decide) ?_
  refine lv_iload_n hx hb dX7_currentOf_8 rfl (lv_at hl 1 rfl) ?_
  refine lv_imul hx hb dX7_currentOf_9 ?_
  refine lv_iadd hx hb dX7_currentOf_10 ?_
  obtain ⟨g_1, h⟩ := h
  refine va_lald hx hb hK hP 1 1 rfl rfl g_1 dX7_currentOf_11 ?_
  refine lv_l2i (v := (Int64.toInt32 ((s0.2.2.1 0) (Int32.toNatClampNeg (8 + (42 * x1)))))) hx hb dX7_currentOf_12 rfl ?_
  exact rd_iret hx hb hr hk h dX7_currentOf_13
