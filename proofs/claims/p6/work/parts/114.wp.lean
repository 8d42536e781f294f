def wp_X4_closeTimes (post : Pg → Prop) (s0 : Pg) (x1 : Int32) : Prop := wp_X4_hasStep (fun r_1 => ((r_1 = 0 → post s0) ∧ (¬ r_1 = 0 → vp_in x1 80 ∧ post (s0.1, (va_up s0.2 4 (upd (s0.2 4) (Int32.toNatClampNeg x1) (s0.1 1))))))) s0 x1
set_option maxHeartbeats 4000000 in
set_option maxRecDepth 100000 in
theorem c2_X4_closeTimes {l : Launch} {D : va_G} {q : Nat → ClassId} {sz : Nat} {a0 : Nat → Nat} {s0 : Pg} {x1 : Int32} {post : Pg → Prop} (h : wp_X4_closeTimes post s0 x1) : Met l yX4_closeTimes (Cond.code yX4_closeTimes cX4_closeTimes 2 none :: w_all) ({ frames := 1, cells := 0, slots := 0, locals := 21 } : Room) (mt_P D q [.ref (a0 0), .int x1] (pg_w a0 q s0) sz) (va_Qv (fun u : Pg => post u) (mt_B D (pg_w a0 q s0) sz (fun u : Pg => pg_w a0 q u)) (va_A (pg_w a0 q s0) sz)) 0 0 (va_A (pg_w a0 q s0) sz) := by
  refine mt_start (by decide) (Nat.le_of_ble_eq_true rfl) ?_
  intro p e s m below meth c ls hx hb hr hml hown ht hk hin hP hQ hD hA hS hV hl
  have hK := hQ.1
  have hown : s.vm.findClass RX4 = some m.cls := hown
  have hl : lv_has ls 2 [(0, .ref (a0 0)), (1, .int x1)] := hl
  have hP : va_P D vwCl [((a0 0), .inr (3, [.ref (a0 1), .ref (a0 2), .ref (a0 3), .ref (a0 4), .ref (a0 5), .ref (a0 6), .ref (a0 7), .int (s0.1 0), .int (s0.1 1), .int (s0.1 2)])), ((a0 1), .inl (q 0, 80, .inl (s0.2 0))), ((a0 2), .inl (q 0, 80, .inl (s0.2 1))), ((a0 3), .inl (q 0, 80, .inl (s0.2 2))), ((a0 4), .inl (q 0, 80, .inl (s0.2 3))), ((a0 5), .inl (q 0, 80, .inl (s0.2 4))), ((a0 6), .inl (q 0, 3, .inl (s0.2 5))), ((a0 7), .inl (q 0, 3, .inl (s0.2 6)))] s.heap := hP
  have hD : va_D _ [((a0 0), .inr (3, [.ref (a0 1), .ref (a0 2), .ref (a0 3), .ref (a0 4), .ref (a0 5), .ref (a0 6), .ref (a0 7), .int (s0.1 0), .int (s0.1 1), .int (s0.1 2)])), ((a0 1), .inl (q 0, 80, .inl (s0.2 0))), ((a0 2), .inl (q 0, 80, .inl (s0.2 1))), ((a0 3), .inl (q 0, 80, .inl (s0.2 2))), ((a0 4), .inl (q 0, 80, .inl (s0.2 3))), ((a0 5), .inl (q 0, 80, .inl (s0.2 4))), ((a0 6), .inl (q 0, 3, .inl (s0.2 5))), ((a0 7), .inl (q 0, 3, .inl (s0.2 6)))] := hD
  unfold wp_X4_closeTimes at h
  refine lv_aload_n hx hb dX4_closeTimes_0 rfl (lv_at hl 0 rfl) ?_
  refine lv_iload_n hx hb dX4_closeTimes_1 rfl (lv_at hl 1 rfl) ?_
  refine vp_callSi (rd_wV (wc := pg_w a0 q s0) (As := [.int x1]) (rest := []) hx hb hml hown ht (c2_X4_hasStep h) wd_X4_hasStep mw_822 hQ hV hS (hP.sub [0, 1, 2, 3, 4, 5, 6, 7] rfl) rfl rfl rfl hl.1 rfl (Nat.le_of_ble_eq_true rfl) dX4_closeTimes_2 ⟨Nat.le_of_ble_eq_true rfl, Nat.le_of_ble_eq_true rfl, rfl, rfl⟩ ⟨Nat.le_of_ble_eq_true rfl, Nat.le_of_ble_eq_true rfl⟩) (fun r_1 h => ?_)
  try dsimp only at h
  refine lv_if_eq (tgt := 18) hx hb dX4_closeTimes_5 (by decide) (fun c_3 => ?_) (fun c_3 => ?_)
  · replace h := h.1 c_3
    exact mt_vret s0 hx hb hr hk h (hP.sub (ws' := pg_w a0 q s0) [0, 1, 2, 3, 4, 5, 6, 7] rfl) (hD.sub (ws' := pg_w a0 q s0) [0, 1, 2, 3, 4, 5, 6, 7] (by decide) rfl) hS dX4_closeTimes_18
  · replace h := h.2 c_3
    refine lv_aload_n hx hb dX4_closeTimes_8 rfl (lv_at hl 0 rfl) ?_
    refine fl_get (C := RX4) (T := TX4) (N := 10) (ci := 3) (v := .ref (a0 5)) hx hb ht in_X4 hown hK hP 0 rfl rfl 4 (by decide) mw_308 rfl dX4_closeTimes_9 ?_
    refine lv_iload_n hx hb dX4_closeTimes_12 rfl (lv_at hl 1 rfl) ?_
    refine lv_aload_n hx hb dX4_closeTimes_13 rfl (lv_at hl 0 rfl) ?_
    refine fl_get (C := RX4) (T := TX4) (N := 10) (ci := 3) (v := .int (s0.1 1)) hx hb ht in_X4 hown hK hP 0 rfl rfl 8 (by decide) mw_312 rfl dX4_closeTimes_14 ?_
    obtain ⟨g_4, h⟩ := h
    refine va_iast hx hb hK hP hD hS 5 0 rfl rfl g_4 dX4_closeTimes_17 (fun H locs hP hD hS => ?_)
    have hP : va_P D vwCl [((a0 0), .inr (3, [.ref (a0 1), .ref (a0 2), .ref (a0 3), .ref (a0 4), .ref (a0 5), .ref (a0 6), .ref (a0 7), .int (s0.1 0), .int (s0.1 1), .int (s0.1 2)])), ((a0 1), .inl (q 0, 80, .inl (s0.2 0))), ((a0 2), .inl (q 0, 80, .inl (s0.2 1))), ((a0 3), .inl (q 0, 80, .inl (s0.2 2))), ((a0 4), .inl (q 0, 80, .inl (s0.2 3))), ((a0 5), .inl (q 0, 80, .inl (upd (s0.2 4) (Int32.toNatClampNeg x1) (s0.1 1)))), ((a0 6), .inl (q 0, 3, .inl (s0.2 5))), ((a0 7), .inl (q 0, 3, .inl (s0.2 6)))] H := hP
    have hD : va_D _ [((a0 0), .inr (3, [.ref (a0 1), .ref (a0 2), .ref (a0 3), .ref (a0 4), .ref (a0 5), .ref (a0 6), .ref (a0 7), .int (s0.1 0), .int (s0.1 1), .int (s0.1 2)])), ((a0 1), .inl (q 0, 80, .inl (s0.2 0))), ((a0 2), .inl (q 0, 80, .inl (s0.2 1))), ((a0 3), .inl (q 0, 80, .inl (s0.2 2))), ((a0 4), .inl (q 0, 80, .inl (s0.2 3))), ((a0 5), .inl (q 0, 80, .inl (upd (s0.2 4) (Int32.toNatClampNeg x1) (s0.1 1)))), ((a0 6), .inl (q 0, 3, .inl (s0.2 5))), ((a0 7), .inl (q 0, 3, .inl (s0.2 6)))] := hD
    exact mt_vret (s0.1, (va_up s0.2 4 (upd (s0.2 4) (Int32.toNatClampNeg x1) (s0.1 1)))) hx hb hr hk h (hP.sub (ws' := pg_w a0 q (s0.1, (va_up s0.2 4 (upd (s0.2 4) (Int32.toNatClampNeg x1) (s0.1 1))))) [0, 1, 2, 3, 4, 5, 6, 7] rfl) (hD.sub (ws' := pg_w a0 q (s0.1, (va_up s0.2 4 (upd (s0.2 4) (Int32.toNatClampNeg x1) (s0.1 1))))) [0, 1, 2, 3, 4, 5, 6, 7] (by decide) rfl) hS dX4_closeTimes_18

def wp_X4_goesOn_L2 (post : Int32 → Pg → Tp → Prop) (e105 : Pg → Tp → Int32 → Prop) : Nat → Pg → Tp → Int32 → Prop
  | 0, _, _, _ => False
  | n2 + 1, t0, t1, z2 => ((3 < z2 → e105 t0 t1 z2) ∧ (¬ 3 < z2 → wp_X5_peek (fun r_2 u_3 => ((¬ r_2 = 59 → ((¬ r_2 = 41 → ((¬ r_2 = (-1) → wp_X5_blame (fun u_8 => post 0 t0 u_8) u_3 (u_3.1 1) (1 : Int32)) ∧ (r_2 = (-1) → (((t0.1 0) ≤ 0 → post 0 t0 u_3) ∧ (¬ (t0.1 0) ≤ 0 → wp_X5_blame (fun u_11 => post 0 t0 u_11) u_3 (u_3.1 1) (1 : Int32)))))) ∧ (r_2 = 41 → ((0 < (t0.1 0) → vp_in ((t0.1 0) - 1) 3 ∧ wp_X4_closeTimes (fun u_15 => wp_X4_goesOn_L2 post e105 n2 u_15 ((va_up u_3.1 1 ((u_3.1 1) + 1)), u_3.2) (z2 + 1)) ((va_up t0.1 0 ((t0.1 0) - 1)), t0.2) ((t0.2 5) (Int32.toNatClampNeg ((t0.1 0) - 1)))) ∧ (¬ 0 < (t0.1 0) → ((¬ r_2 = (-1) → wp_X5_blame (fun u_18 => post 0 t0 u_18) u_3 (u_3.1 1) (1 : Int32)) ∧ (r_2 = (-1) → (((t0.1 0) ≤ 0 → post 0 t0 u_3) ∧ (¬ (t0.1 0) ≤ 0 → wp_X5_blame (fun u_21 => post 0 t0 u_21) u_3 (u_3.1 1) (1 : Int32)))))))))) ∧ (r_2 = 59 → post 1 t0 ((va_up u_3.1 1 ((u_3.1 1) + 1)), u_3.2)))) t1))
def wp_X4_goesOn (post : Int32 → Pg → Tp → Prop) (s0 : Pg) (s1 : Tp) : Prop := (∃ n2, wp_X4_goesOn_L2 post (fun t0 t1 z2 => post 0 t0 t1) n2 s0 s1 0)
set_option maxHeartbeats 4000000 in
set_option maxRecDepth 100000 in
theorem c2_X4_goesOn {l : Launch} {D : va_G} {q : Nat → ClassId} {sz : Nat} {a0 : Nat → Nat} {a1 : Nat → Nat} {s0 : Pg} {s1 : Tp} {post : Int32 → Pg → Tp → Prop} (h : wp_X4_goesOn post s0 s1) : Met l yX4_goesOn (Cond.code yX4_goesOn cX4_goesOn 4 (some .boolean) :: w_all) ({ frames := 2, cells := 0, slots := 0, locals := 42 } : Room) (mt_P D q [.ref (a0 0), .ref (a1 0)] (pg_w a0 q s0 ++ tp_w a1 q s1) sz) (va_Qi (fun r (u : Pg × Tp) => post r u.1 u.2) (mt_B D (pg_w a0 q s0 ++ tp_w a1 q s1) sz (fun u : Pg × Tp => pg_w a0 q u.1 ++ tp_w a1 q u.2)) (va_A (pg_w a0 q s0 ++ tp_w a1 q s1) sz)) 0 0 (va_A (pg_w a0 q s0 ++ tp_w a1 q s1) sz) := by
  refine mt_start (by decide) (Nat.le_of_ble_eq_true rfl) ?_
  intro p e s m below meth c ls hx hb hr hml hown ht hk hin hP hQ hD hA hS hV hl
  have hK := hQ.1
  have hown : s.vm.findClass RX4 = some m.cls := hown
  have hl : lv_has ls 4 [(0, .ref (a0 0)), (1, .ref (a1 0))] := hl
  have hP : va_P D vwCl [((a0 0), .inr (3, [.ref (a0 1), .ref (a0 2), .ref (a0 3), .ref (a0 4), .ref (a0 5), .ref (a0 6), .ref (a0 7), .int (s0.1 0), .int (s0.1 1), .int (s0.1 2)])), ((a0 1), .inl (q 0, 80, .inl (s0.2 0))), ((a0 2), .inl (q 0, 80, .inl (s0.2 1))), ((a0 3), .inl (q 0, 80, .inl (s0.2 2))), ((a0 4), .inl (q 0, 80, .inl (s0.2 3))), ((a0 5), .inl (q 0, 80, .inl (s0.2 4))), ((a0 6), .inl (q 0, 3, .inl (s0.2 5))), ((a0 7), .inl (q 0, 3, .inl (s0.2 6))), ((a1 0), .inr (4, [.ref (a1 1), .int (s1.1 0), .int (s1.1 1), .int (s1.1 2), .int (s1.1 3), .int (s1.1 4), .int (s1.1 5)])), ((a1 1), .inl (q 0, 400, .inl s1.2))] s.heap := hP
  have hD : va_D _ [((a0 0), .inr (3, [.ref (a0 1), .ref (a0 2), .ref (a0 3), .ref (a0 4), .ref (a0 5), .ref (a0 6), .ref (a0 7), .int (s0.1 0), .int (s0.1 1), .int (s0.1 2)])), ((a0 1), .inl (q 0, 80, .inl (s0.2 0))), ((a0 2), .inl (q 0, 80, .inl (s0.2 1))), ((a0 3), .inl (q 0, 80, .inl (s0.2 2))), ((a0 4), .inl (q 0, 80, .inl (s0.2 3))), ((a0 5), .inl (q 0, 80, .inl (s0.2 4))), ((a0 6), .inl (q 0, 3, .inl (s0.2 5))), ((a0 7), .inl (q 0, 3, .inl (s0.2 6))), ((a1 0), .inr (4, [.ref (a1 1), .int (s1.1 0), .int (s1.1 1), .int (s1.1 2), .int (s1.1 3), .int (s1.1 4), .int (s1.1 5)])), ((a1 1), .inl (q 0, 400, .inl s1.2))] := hD
  unfold wp_X4_goesOn at h
  refine lv_iconst (v := 0) hx hb dX4_goesOn_0 (by decide) ?_
  refine lv_istore_n (lv' := [(2, .int 0), (0, .ref (a0 0)), (1, .ref (a1 0))]) hx hb dX4_goesOn_1 rfl hl (by decide) rfl (fun ls hl => ?_)
  have lp2 : ∀ (e105 : Pg → Tp → Int32 → Prop) (k105 : ∀ (t0 : Pg) (t1 : Tp) (z2 : Int32) (H : Heap) (locs : List Loc) (ls : Array Slot), e105 t0 t1 z2 → va_P D vwCl (pg_w a0 q t0 ++ tp_w a1 q t1) H → va_D (va_A (pg_w a0 q s0 ++ tp_w a1 q s1) sz) (pg_w a0 q t0 ++ tp_w a1 q t1) → va_S (va_A (pg_w a0 q s0 ++ tp_w a1 q s1) sz) s.heap H locs → lv_has ls 4 [(2, .int z2), (0, .ref (a0 0)), (1, .ref (a1 0))] → W p l e ({ frames := 2, cells := 0, slots := 0, locals := 42 } : Room) s m [.ref (a0 0), .ref (a1 0)].toArray below meth c H locs 0 0 (MQ below (va_Qi (fun r (u : Pg × Tp) => post r u.1 u.2) (mt_B D (pg_w a0 q s0 ++ tp_w a1 q s1) sz (fun u : Pg × Tp => pg_w a0 q u.1 ++ tp_w a1 q u.2)) (va_A (pg_w a0 q s0 ++ tp_w a1 q s1) sz)) [.ref (a0 0), .ref (a1 0)].toArray s 0 0 (va_A (pg_w a0 q s0 ++ tp_w a1 q s1) sz)) (F0 m 105 ls [])) (n : Nat) (t0 : Pg) (t1 : Tp) (z2 : Int32) (H : Heap) (locs : List Loc) (ls : Array Slot), wp_X4_goesOn_L2 post e105 n t0 t1 z2 → va_P D vwCl (pg_w a0 q t0 ++ tp_w a1 q t1) H → va_D (va_A (pg_w a0 q s0 ++ tp_w a1 q s1) sz) (pg_w a0 q t0 ++ tp_w a1 q t1) → va_S (va_A (pg_w a0 q s0 ++ tp_w a1 q s1) sz) s.heap H locs → lv_has ls 4 [(2, .int z2), (0, .ref (a0 0)), (1, .ref (a1 0))] → W p l e ({ frames := 2, cells := 0, slots := 0, locals := 42 } : Room) s m [.ref (a0 0), .ref (a1 0)].toArray below meth c H locs 0 0 (MQ below (va_Qi (fun r (u : Pg × Tp) => post r u.1 u.2) (mt_B D (pg_w a0 q s0 ++ tp_w a1 q s1) sz (fun u : Pg × Tp => pg_w a0 q u.1 ++ tp_w a1 q u.2)) (va_A (pg_w a0 q s0 ++ tp_w a1 q s1) sz)) [.ref (a0 0), .ref (a1 0)].toArray s 0 0 (va_A (pg_w a0 q s0 ++ tp_w a1 q s1) sz)) (F0 m 2 ls []) := by
    intro e105 k105 n
    induction n with
    | zero =>
      intro t0 t1 z2 H locs ls h
      exact h.elim
    | succ n ih =>
      intro t0 t1 z2 H locs ls h hP hD hS hl
      have hP : va_P D vwCl [((a0 0), .inr (3, [.ref (a0 1), .ref (a0 2), .ref (a0 3), .ref (a0 4), .ref (a0 5), .ref (a0 6), .ref (a0 7), .int (t0.1 0), .int (t0.1 1), .int (t0.1 2)])), ((a0 1), .inl (q 0, 80, .inl (t0.2 0))), ((a0 2), .inl (q 0, 80, .inl (t0.2 1))), ((a0 3), .inl (q 0, 80, .inl (t0.2 2))), ((a0 4), .inl (q 0, 80, .inl (t0.2 3))), ((a0 5), .inl (q 0, 80, .inl (t0.2 4))), ((a0 6), .inl (q 0, 3, .inl (t0.2 5))), ((a0 7), .inl (q 0, 3, .inl (t0.2 6))), ((a1 0), .inr (4, [.ref (a1 1), .int (t1.1 0), .int (t1.1 1), .int (t1.1 2), .int (t1.1 3), .int (t1.1 4), .int (t1.1 5)])), ((a1 1), .inl (q 0, 400, .inl t1.2))] H := hP
      have hD : va_D _ [((a0 0), .inr (3, [.ref (a0 1), .ref (a0 2), .ref (a0 3), .ref (a0 4), .ref (a0 5), .ref (a0 6), .ref (a0 7), .int (t0.1 0), .int (t0.1 1), .int (t0.1 2)])), ((a0 1), .inl (q 0, 80, .inl (t0.2 0))), ((a0 2), .inl (q 0, 80, .inl (t0.2 1))), ((a0 3), .inl (q 0, 80, .inl (t0.2 2))), ((a0 4), .inl (q 0, 80, .inl (t0.2 3))), ((a0 5), .inl (q 0, 80, .inl (t0.2 4))), ((a0 6), .inl (q 0, 3, .inl (t0.2 5))), ((a0 7), .inl (q 0, 3, .inl (t0.2 6))), ((a1 0), .inr (4, [.ref (a1 1), .int (t1.1 0), .int (t1.1 1), .int (t1.1 2), .int (t1.1 3), .int (t1.1 4), .int (t1.1 5)])), ((a1 1), .inl (q 0, 400, .inl t1.2))] := hD
      unfold wp_X4_goesOn_L2 at h
      refine lv_iload_n hx hb dX4_goesOn_2 rfl (lv_at hl 0 rfl) ?_
      refine lv_iconst (v := 3) hx hb dX4_goesOn_3 (by decide) ?_
      refine lv_icmp_gt (tgt := 105) hx hb dX4_goesOn_4 (by decide) (fun c_1 => ?_) (fun c_1 => ?_)
      · replace h := h.1 c_1
        exact k105 _ _ _ _ _ ls h (hP.sub (ws' := pg_w a0 q t0 ++ tp_w a1 q t1) [0, 1, 2, 3, 4, 5, 6, 7, 8, 9] rfl) (hD.sub (ws' := pg_w a0 q t0 ++ tp_w a1 q t1) [0, 1, 2, 3, 4, 5, 6, 7, 8, 9] (by decide) rfl) hS (lv_sub hl [0, 1, 2] rfl)
      · replace h := h.2 c_1
        refine lv_aload_n hx hb dX4_goesOn_7 rfl (lv_at hl 2 rfl) ?_
        refine mt_goi (mt_wV (wc := tp_w a1 q t1) (As := []) (rest := []) hx hb hml hown ht (c2_X5_peek h) wd_X5_peek mw_806 hQ hV hS hA (hP.sub [8, 9] rfl) (hD.sub [8, 9] (by decide) rfl) rfl rfl rfl hl.1 rfl (Nat.le_of_ble_eq_true rfl) dX4_goesOn_8 ⟨Nat.le_of_ble_eq_true rfl, Nat.le_of_ble_eq_true rfl, rfl, rfl⟩ ⟨Nat.le_of_ble_eq_true rfl, Nat.le_of_ble_eq_true rfl⟩) (wr := [((a0 0), .inr (3, [.ref (a0 1), .ref (a0 2), .ref (a0 3), .ref (a0 4), .ref (a0 5), .ref (a0 6), .ref (a0 7), .int (t0.1 0), .int (t0.1 1), .int (t0.1 2)])), ((a0 1), .inl (q 0, 80, .inl (t0.2 0))), ((a0 2), .inl (q 0, 80, .inl (t0.2 1))), ((a0 3), .inl (q 0, 80, .inl (t0.2 2))), ((a0 4), .inl (q 0, 80, .inl (t0.2 3))), ((a0 5), .inl (q 0, 80, .inl (t0.2 4))), ((a0 6), .inl (q 0, 3, .inl (t0.2 5))), ((a0 7), .inl (q 0, 3, .inl (t0.2 6)))]) hP hD hS hA [8, 9] [0, 1, 2, 3, 4, 5, 6, 7] rfl rfl (by decide) (by decide) (fun r_2 u_3 H locs h hP hD hS => ?_)
        try dsimp only at h
        have hP : va_P D vwCl [((a0 0), .inr (3, [.ref (a0 1), .ref (a0 2), .ref (a0 3), .ref (a0 4), .ref (a0 5), .ref (a0 6), .ref (a0 7), .int (t0.1 0), .int (t0.1 1), .int (t0.1 2)])), ((a0 1), .inl (q 0, 80, .inl (t0.2 0))), ((a0 2), .inl (q 0, 80, .inl (t0.2 1))), ((a0 3), .inl (q 0, 80, .inl (t0.2 2))), ((a0 4), .inl (q 0, 80, .inl (t0.2 3))), ((a0 5), .inl (q 0, 80, .inl (t0.2 4))), ((a0 6), .inl (q 0, 3, .inl (t0.2 5))), ((a0 7), .inl (q 0, 3, .inl (t0.2 6))), ((a1 0), .inr (4, [.ref (a1 1), .int (u_3.1 0), .int (u_3.1 1), .int (u_3.1 2), .int (u_3.1 3), .int (u_3.1 4), .int (u_3.1 5)])), ((a1 1), .inl (q 0, 400, .inl u_3.2))] H := hP
        have hD : va_D _ [((a0 0), .inr (3, [.ref (a0 1), .ref (a0 2), .ref (a0 3), .ref (a0 4), .ref (a0 5), .ref (a0 6), .ref (a0 7), .int (t0.1 0), .int (t0.1 1), .int (t0.1 2)])), ((a0 1), .inl (q 0, 80, .inl (t0.2 0))), ((a0 2), .inl (q 0, 80, .inl (t0.2 1))), ((a0 3), .inl (q 0, 80, .inl (t0.2 2))), ((a0 4), .inl (q 0, 80, .inl (t0.2 3))), ((a0 5), .inl (q 0, 80, .inl (t0.2 4))), ((a0 6), .inl (q 0, 3, .inl (t0.2 5))), ((a0 7), .inl (q 0, 3, .inl (t0.2 6))), ((a1 0), .inr (4, [.ref (a1 1), .int (u_3.1 0), .int (u_3.1 1), .int (u_3.1 2), .int (u_3.1 3), .int (u_3.1 4), .int (u_3.1 5)])), ((a1 1), .inl (q 0, 400, .inl u_3.2))] := hD
        refine lv_istore_n (lv' := [(3, .int r_2), (2, .int z2), (0, .ref (a0 0)), (1, .ref (a1 0))]) hx hb dX4_goesOn_11 rfl hl (by decide) rfl (fun ls hl => ?_)
        refine lv_iload_n hx hb dX4_goesOn_12 rfl (lv_at hl 0 rfl) ?_
        refine lv_bipush (v := 59) hx hb dX4_goesOn_13 (by decide) ?_
        refine lv_icmp_ne (tgt := 30) hx hb dX4_goesOn_15 (by decide) (fun c_4 => ?_) (fun c_4 => ?_)
        · replace h := h.1 c_4
          refine lv_iload_n hx hb dX4_goesOn_30 rfl (lv_at hl 0 rfl) ?_
          refine lv_bipush (v := 41) hx hb dX4_goesOn_31 (by decide) ?_
          refine lv_icmp_ne (tgt := 43) hx hb dX4_goesOn_33 (by decide) (fun c_5 => ?_) (fun c_5 => ?_)
          · replace h := h.1 c_5
            refine lv_iload_n hx hb dX4_goesOn_43 rfl (lv_at hl 0 rfl) ?_
            refine lv_iconst (v := (-1)) hx hb dX4_goesOn_44 (by decide) ?_
            refine lv_icmp_ne (tgt := 55) hx hb dX4_goesOn_45 (by decide) (fun c_6 => ?_) (fun c_6 => ?_)
            · replace h := h.1 c_6
              refine lv_aload_n hx hb dX4_goesOn_55 rfl (lv_at hl 3 rfl) ?_
              refine lv_aload_n hx hb dX4_goesOn_56 rfl (lv_at hl 3 rfl) ?_
              refine fl_get (C := RX5) (T := TX5) (N := 7) (ci := 4) (v := .int (u_3.1 1)) hx hb ht in_X5 hown hK hP 8 rfl rfl 2 (by decide) mw_133 rfl dX4_goesOn_57 ?_
              refine lv_iconst (v := 1) hx hb dX4_goesOn_60 (by decide) ?_
              refine mt_gov (mt_wV (wc := tp_w a1 q u_3) (As := [.int (u_3.1 1), .int 1]) (rest := []) hx hb hml hown ht (c2_X5_blame h) wd_X5_blame mw_807 hQ hV hS hA (hP.sub [8, 9] rfl) (hD.sub [8, 9] (by decide) rfl) rfl rfl rfl hl.1 rfl (Nat.le_of_ble_eq_true rfl) dX4_goesOn_61 ⟨Nat.le_of_ble_eq_true rfl, Nat.le_of_ble_eq_true rfl, rfl, rfl⟩ ⟨Nat.le_of_ble_eq_true rfl, Nat.le_of_ble_eq_true rfl⟩) (wr := [((a0 0), .inr (3, [.ref (a0 1), .ref (a0 2), .ref (a0 3), .ref (a0 4), .ref (a0 5), .ref (a0 6), .ref (a0 7), .int (t0.1 0), .int (t0.1 1), .int (t0.1 2)])), ((a0 1), .inl (q 0, 80, .inl (t0.2 0))), ((a0 2), .inl (q 0, 80, .inl (t0.2 1))), ((a0 3), .inl (q 0, 80, .inl (t0.2 2))), ((a0 4), .inl (q 0, 80, .inl (t0.2 3))), ((a0 5), .inl (q 0, 80, .inl (t0.2 4))), ((a0 6), .inl (q 0, 3, .inl (t0.2 5))), ((a0 7), .inl (q 0, 3, .inl (t0.2 6)))]) hP hD hS hA [8, 9] [0, 1, 2, 3, 4, 5, 6, 7] rfl rfl (by decide) (by decide) (fun u_8 H locs h hP hD hS => ?_)
              try dsimp only at h
              have hP : va_P D vwCl [((a0 0), .inr (3, [.ref (a0 1), .ref (a0 2), .ref (a0 3), .ref (a0 4), .ref (a0 5), .ref (a0 6), .ref (a0 7), .int (t0.1 0), .int (t0.1 1), .int (t0.1 2)])), ((a0 1), .inl (q 0, 80, .inl (t0.2 0))), ((a0 2), .inl (q 0, 80, .inl (t0.2 1))), ((a0 3), .inl (q 0, 80, .inl (t0.2 2))), ((a0 4), .inl (q 0, 80, .inl (t0.2 3))), ((a0 5), .inl (q 0, 80, .inl (t0.2 4))), ((a0 6), .inl (q 0, 3, .inl (t0.2 5))), ((a0 7), .inl (q 0, 3, .inl (t0.2 6))), ((a1 0), .inr (4, [.ref (a1 1), .int (u_8.1 0), .int (u_8.1 1), .int (u_8.1 2), .int (u_8.1 3), .int (u_8.1 4), .int (u_8.1 5)])), ((a1 1), .inl (q 0, 400, .inl u_8.2))] H := hP
              have hD : va_D _ [((a0 0), .inr (3, [.ref (a0 1), .ref (a0 2), .ref (a0 3), .ref (a0 4), .ref (a0 5), .ref (a0 6), .ref (a0 7), .int (t0.1 0), .int (t0.1 1), .int (t0.1 2)])), ((a0 1), .inl (q 0, 80, .inl (t0.2 0))), ((a0 2), .inl (q 0, 80, .inl (t0.2 1))), ((a0 3), .inl (q 0, 80, .inl (t0.2 2))), ((a0 4), .inl (q 0, 80, .inl (t0.2 3))), ((a0 5), .inl (q 0, 80, .inl (t0.2 4))), ((a0 6), .inl (q 0, 3, .inl (t0.2 5))), ((a0 7), .inl (q 0, 3, .inl (t0.2 6))), ((a1 0), .inr (4, [.ref (a1 1), .int (u_8.1 0), .int (u_8.1 1), .int (u_8.1 2), .int (u_8.1 3), .int (u_8.1 4), .int (u_8.1 5)])), ((a1 1), .inl (q 0, 400, .inl u_8.2))] := hD
              refine lv_iconst (v := 0) hx hb dX4_goesOn_64 (by decide) ?_
              exact mt_zret (t0, u_8) hx hb hr hk rfl h (hP.sub (ws' := pg_w a0 q t0 ++ tp_w a1 q u_8) [0, 1, 2, 3, 4, 5, 6, 7, 8, 9] rfl) (hD.sub (ws' := pg_w a0 q t0 ++ tp_w a1 q u_8) [0, 1, 2, 3, 4, 5, 6, 7, 8, 9] (by decide) rfl) hS dX4_goesOn_65
            · replace h := h.2 c_6
              refine lv_aload_n hx hb dX4_goesOn_48 rfl (lv_at hl 2 rfl) ?_
              refine fl_get (C := RX4) (T := TX4) (N := 10) (ci := 3) (v := .int (t0.1 0)) hx hb ht in_X4 hown hK hP 0 rfl rfl 7 (by decide) mw_311 rfl dX4_goesOn_49 ?_
              refine lv_if_le (tgt := 64) hx hb dX4_goesOn_52 (by decide) (fun c_9 => ?_) (fun c_9 => ?_)
              · replace h := h.1 c_9
                refine lv_iconst (v := 0) hx hb dX4_goesOn_64 (by decide) ?_
                exact mt_zret (t0, u_3) hx hb hr hk rfl h (hP.sub (ws' := pg_w a0 q t0 ++ tp_w a1 q u_3) [0, 1, 2, 3, 4, 5, 6, 7, 8, 9] rfl) (hD.sub (ws' := pg_w a0 q t0 ++ tp_w a1 q u_3) [0, 1, 2, 3, 4, 5, 6, 7, 8, 9] (by decide) rfl) hS dX4_goesOn_65
              · replace h := h.2 c_9
                refine lv_aload_n hx hb dX4_goesOn_55 rfl (lv_at hl 3 rfl) ?_
                refine lv_aload_n hx hb dX4_goesOn_56 rfl (lv_at hl 3 rfl) ?_
                refine fl_get (C := RX5) (T := TX5) (N := 7) (ci := 4) (v := .int (u_3.1 1)) hx hb ht in_X5 hown hK hP 8 rfl rfl 2 (by decide) mw_133 rfl dX4_goesOn_57 ?_
                refine lv_iconst (v := 1) hx hb dX4_goesOn_60 (by decide) ?_
                refine mt_gov (mt_wV (wc := tp_w a1 q u_3) (As := [.int (u_3.1 1), .int 1]) (rest := []) hx hb hml hown ht (c2_X5_blame h) wd_X5_blame mw_807 hQ hV hS hA (hP.sub [8, 9] rfl) (hD.sub [8, 9] (by decide) rfl) rfl rfl rfl hl.1 rfl (Nat.le_of_ble_eq_true rfl) dX4_goesOn_61 ⟨Nat.le_of_ble_eq_true rfl, Nat.le_of_ble_eq_true rfl, rfl, rfl⟩ ⟨Nat.le_of_ble_eq_true rfl, Nat.le_of_ble_eq_true rfl⟩) (wr := [((a0 0), .inr (3, [.ref (a0 1), .ref (a0 2), .ref (a0 3), .ref (a0 4), .ref (a0 5), .ref (a0 6), .ref (a0 7), .int (t0.1 0), .int (t0.1 1), .int (t0.1 2)])), ((a0 1), .inl (q 0, 80, .inl (t0.2 0))), ((a0 2), .inl (q 0, 80, .inl (t0.2 1))), ((a0 3), .inl (q 0, 80, .inl (t0.2 2))), ((a0 4), .inl (q 0, 80, .inl (t0.2 3))), ((a0 5), .inl (q 0, 80, .inl (t0.2 4))), ((a0 6), .inl (q 0, 3, .inl (t0.2 5))), ((a0 7), .inl (q 0, 3, .inl (t0.2 6)))]) hP hD hS hA [8, 9] [0, 1, 2, 3, 4, 5, 6, 7] rfl rfl (by decide) (by decide) (fun u_11 H locs h hP hD hS => ?_)
                try dsimp only at h
                have hP : va_P D vwCl [((a0 0), .inr (3, [.ref (a0 1), .ref (a0 2), .ref (a0 3), .ref (a0 4), .ref (a0 5), .ref (a0 6), .ref (a0 7), .int (t0.1 0), .int (t0.1 1), .int (t0.1 2)])), ((a0 1), .inl (q 0, 80, .inl (t0.2 0))), ((a0 2), .inl (q 0, 80, .inl (t0.2 1))), ((a0 3), .inl (q 0, 80, .inl (t0.2 2))), ((a0 4), .inl (q 0, 80, .inl (t0.2 3))), ((a0 5), .inl (q 0, 80, .inl (t0.2 4))), ((a0 6), .inl (q 0, 3, .inl (t0.2 5))), ((a0 7), .inl (q 0, 3, .inl (t0.2 6))), ((a1 0), .inr (4, [.ref (a1 1), .int (u_11.1 0), .int (u_11.1 1), .int (u_11.1 2), .int (u_11.1 3), .int (u_11.1 4), .int (u_11.1 5)])), ((a1 1), .inl (q 0, 400, .inl u_11.2))] H := hP
                have hD : va_D _ [((a0 0), .inr (3, [.ref (a0 1), .ref (a0 2), .ref (a0 3), .ref (a0 4), .ref (a0 5), .ref (a0 6), .ref (a0 7), .int (t0.1 0), .int (t0.1 1), .int (t0.1 2)])), ((a0 1), .inl (q 0, 80, .inl (t0.2 0))), ((a0 2), .inl (q 0, 80, .inl (t0.2 1))), ((a0 3), .inl (q 0, 80, .inl (t0.2 2))), ((a0 4), .inl (q 0, 80, .inl (t0.2 3))), ((a0 5), .inl (q 0, 80, .inl (t0.2 4))), ((a0 6), .inl (q 0, 3, .inl (t0.2 5))), ((a0 7), .inl (q 0, 3, .inl (t0.2 6))), ((a1 0), .inr (4, [.ref (a1 1), .int (u_11.1 0), .int (u_11.1 1), .int (u_11.1 2), .int (u_11.1 3), .int (u_11.1 4), .int (u_11.1 5)])), ((a1 1), .inl (q 0, 400, .inl u_11.2))] := hD
                refine lv_iconst (v := 0) hx hb dX4_goesOn_64 (by decide) ?_
                exact mt_zret (t0, u_11) hx hb hr hk rfl h (hP.sub (ws' := pg_w a0 q t0 ++ tp_w a1 q u_11) [0, 1, 2, 3, 4, 5, 6, 7, 8, 9] rfl) (hD.sub (ws' := pg_w a0 q t0 ++ tp_w a1 q u_11) [0, 1, 2, 3, 4, 5, 6, 7, 8, 9] (by decide) rfl) hS dX4_goesOn_65
          · replace h := h.2 c_5
            refine lv_aload_n hx hb dX4_goesOn_36 rfl (lv_at hl 2 rfl) ?_
            refine fl_get (C := RX4) (T := TX4) (N := 10) (ci := 3) (v := .int (t0.1 0)) hx hb ht in_X4 hown hK hP 0 rfl rfl 7 (by decide) mw_311 rfl dX4_goesOn_37 ?_
            refine lv_if_gt (tgt := 66) hx hb dX4_goesOn_40 (by decide) (fun c_12 => ?_) (fun c_12 => ?_)
            · replace h := h.1 c_12
              refine lv_aload_n hx hb dX4_goesOn_66 rfl (lv_at hl 3 rfl) ?_
              refine lv_dup hx hb dX4_goesOn_67 rfl ?_
              refine fl_get (C := RX5) (T := TX5) (N := 7) (ci := 4) (v := .int (u_3.1 1)) hx hb ht in_X5 hown hK hP 8 rfl rfl 2 (by decide) mw_133 rfl dX4_goesOn_68 ?_
              refine lv_iconst (v := 1) hx hb dX4_goesOn_71 (by decide) ?_
              refine lv_iadd hx hb dX4_goesOn_72 ?_
              refine fl_put (C := RX5) (T := TX5) (N := 7) (ci := 4) (v := .int ((u_3.1 1) + 1)) (ws2 := [((a0 0), .inr (3, [.ref (a0 1), .ref (a0 2), .ref (a0 3), .ref (a0 4), .ref (a0 5), .ref (a0 6), .ref (a0 7), .int (t0.1 0), .int (t0.1 1), .int (t0.1 2)])), ((a0 1), .inl (q 0, 80, .inl (t0.2 0))), ((a0 2), .inl (q 0, 80, .inl (t0.2 1))), ((a0 3), .inl (q 0, 80, .inl (t0.2 2))), ((a0 4), .inl (q 0, 80, .inl (t0.2 3))), ((a0 5), .inl (q 0, 80, .inl (t0.2 4))), ((a0 6), .inl (q 0, 3, .inl (t0.2 5))), ((a0 7), .inl (q 0, 3, .inl (t0.2 6))), ((a1 0), .inr (4, [.ref (a1 1), .int (u_3.1 0), .int ((u_3.1 1) + 1), .int (u_3.1 2), .int (u_3.1 3), .int (u_3.1 4), .int (u_3.1 5)])), ((a1 1), .inl (q 0, 400, .inl u_3.2))]) hx hb ht in_X5 tyX5_ok nmX5 hown hK hP hD hS 8 rfl rfl 2 (by decide) mw_133 rfl rfl rfl (Nat.le_of_ble_eq_true rfl) dX4_goesOn_73 rfl (fun H locs hP hD hS => ?_)
              refine lv_aload_n hx hb dX4_goesOn_76 rfl (lv_at hl 2 rfl) ?_
              refine lv_dup hx hb dX4_goesOn_77 rfl ?_
              refine fl_get (C := RX4) (T := TX4) (N := 10) (ci := 3) (v := .int (t0.1 0)) hx hb ht in_X4 hown hK hP 0 rfl rfl 7 (by decide) mw_311 rfl dX4_goesOn_78 ?_
              refine lv_iconst (v := 1) hx hb dX4_goesOn_81 (by decide) ?_
              refine lv_isub hx hb dX4_goesOn_82 ?_
              refine fl_put (C := RX4) (T := TX4) (N := 10) (ci := 3) (v := .int ((t0.1 0) - 1)) (ws2 := [((a0 0), .inr (3, [.ref (a0 1), .ref (a0 2), .ref (a0 3), .ref (a0 4), .ref (a0 5), .ref (a0 6), .ref (a0 7), .int ((t0.1 0) - 1), .int (t0.1 1), .int (t0.1 2)])), ((a0 1), .inl (q 0, 80, .inl (t0.2 0))), ((a0 2), .inl (q 0, 80, .inl (t0.2 1))), ((a0 3), .inl (q 0, 80, .inl (t0.2 2))), ((a0 4), .inl (q 0, 80, .inl (t0.2 3))), ((a0 5), .inl (q 0, 80, .inl (t0.2 4))), ((a0 6), .inl (q 0, 3, .inl (t0.2 5))), ((a0 7), .inl (q 0, 3, .inl (t0.2 6))), ((a1 0), .inr (4, [.ref (a1 1), .int (u_3.1 0), .int ((u_3.1 1) + 1), .int (u_3.1 2), .int (u_3.1 3), .int (u_3.1 4), .int (u_3.1 5)])), ((a1 1), .inl (q 0, 400, .inl u_3.2))]) hx hb ht in_X4 tyX4_ok nmX4 hown hK hP hD hS 0 rfl rfl 7 (by decide) mw_311 rfl rfl rfl (Nat.le_of_ble_eq_true rfl) dX4_goesOn_83 rfl (fun H locs hP hD hS => ?_)
              refine lv_aload_n hx hb dX4_goesOn_86 rfl (lv_at hl 2 rfl) ?_
              refine lv_aload_n hx hb dX4_goesOn_87 rfl (lv_at hl 2 rfl) ?_
              refine fl_get (C := RX4) (T := TX4) (N := 10) (ci := 3) (v := .ref (a0 6)) hx hb ht in_X4 hown hK hP 0 rfl rfl 5 (by decide) mw_309 rfl dX4_goesOn_88 ?_
              refine lv_aload_n hx hb dX4_goesOn_91 rfl (lv_at hl 2 rfl) ?_
              refine fl_get (C := RX4) (T := TX4) (N := 10) (ci := 3) (v := .int ((t0.1 0) - 1)) hx hb ht in_X4 hown hK hP 0 rfl rfl 7 (by decide) mw_311 rfl dX4_goesOn_92 ?_
              obtain ⟨g_13, h⟩ := h
              refine va_iald hx hb hK hP 6 0 rfl rfl g_13 dX4_goesOn_95 ?_
              refine mt_gov (mt_wV (wc := pg_w a0 q ((va_up t0.1 0 ((t0.1 0) - 1)), t0.2)) (As := [.int ((t0.2 5) (Int32.toNatClampNeg ((t0.1 0) - 1)))]) (rest := []) hx hb hml hown ht (c2_X4_closeTimes h) wd_X4_closeTimes mw_818 hQ hV hS hA (hP.sub [0, 1, 2, 3, 4, 5, 6, 7] rfl) (hD.sub [0, 1, 2, 3, 4, 5, 6, 7] (by decide) rfl) rfl rfl rfl hl.1 rfl (Nat.le_of_ble_eq_true rfl) dX4_goesOn_96 ⟨Nat.le_of_ble_eq_true rfl, Nat.le_of_ble_eq_true rfl, rfl, rfl⟩ ⟨Nat.le_of_ble_eq_true rfl, Nat.le_of_ble_eq_true rfl⟩) (wr := [((a1 0), .inr (4, [.ref (a1 1), .int (u_3.1 0), .int ((u_3.1 1) + 1), .int (u_3.1 2), .int (u_3.1 3), .int (u_3.1 4), .int (u_3.1 5)])), ((a1 1), .inl (q 0, 400, .inl u_3.2))]) hP hD hS hA [0, 1, 2, 3, 4, 5, 6, 7] [8, 9] rfl rfl (by decide) (by decide) (fun u_15 H locs h hP hD hS => ?_)
              try dsimp only at h
              have hP : va_P D vwCl [((a1 0), .inr (4, [.ref (a1 1), .int (u_3.1 0), .int ((u_3.1 1) + 1), .int (u_3.1 2), .int (u_3.1 3), .int (u_3.1 4), .int (u_3.1 5)])), ((a1 1), .inl (q 0, 400, .inl u_3.2)), ((a0 0), .inr (3, [.ref (a0 1), .ref (a0 2), .ref (a0 3), .ref (a0 4), .ref (a0 5), .ref (a0 6), .ref (a0 7), .int (u_15.1 0), .int (u_15.1 1), .int (u_15.1 2)])), ((a0 1), .inl (q 0, 80, .inl (u_15.2 0))), ((a0 2), .inl (q 0, 80, .inl (u_15.2 1))), ((a0 3), .inl (q 0, 80, .inl (u_15.2 2))), ((a0 4), .inl (q 0, 80, .inl (u_15.2 3))), ((a0 5), .inl (q 0, 80, .inl (u_15.2 4))), ((a0 6), .inl (q 0, 3, .inl (u_15.2 5))), ((a0 7), .inl (q 0, 3, .inl (u_15.2 6)))] H := hP
              have hD : va_D _ [((a1 0), .inr (4, [.ref (a1 1), .int (u_3.1 0), .int ((u_3.1 1) + 1), .int (u_3.1 2), .int (u_3.1 3), .int (u_3.1 4), .int (u_3.1 5)])), ((a1 1), .inl (q 0, 400, .inl u_3.2)), ((a0 0), .inr (3, [.ref (a0 1), .ref (a0 2), .ref (a0 3), .ref (a0 4), .ref (a0 5), .ref (a0 6), .ref (a0 7), .int (u_15.1 0), .int (u_15.1 1), .int (u_15.1 2)])), ((a0 1), .inl (q 0, 80, .inl (u_15.2 0))), ((a0 2), .inl (q 0, 80, .inl (u_15.2 1))), ((a0 3), .inl (q 0, 80, .inl (u_15.2 2))), ((a0 4), .inl (q 0, 80, .inl (u_15.2 3))), ((a0 5), .inl (q 0, 80, .inl (u_15.2 4))), ((a0 6), .inl (q 0, 3, .inl (u_15.2 5))), ((a0 7), .inl (q 0, 3, .inl (u_15.2 6)))] := hD
              refine lv_iinc (v := (z2 + 1)) (lv' := [(2, .int (z2 + 1)), (3, .int r_2), (0, .ref (a0 0)), (1, .ref (a1 0))]) hx hb dX4_goesOn_99 hl (k := 1) rfl rfl (by decide) rfl (fun ls hl => ?_)
              refine lv_goto (tgt := 2) hx hb dX4_goesOn_102 (by decide) ?_
              exact ih _ _ _ _ _ ls h (hP.sub (ws' := pg_w a0 q u_15 ++ tp_w a1 q ((va_up u_3.1 1 ((u_3.1 1) + 1)), u_3.2)) [2, 3, 4, 5, 6, 7, 8, 9, 0, 1] rfl) (hD.sub (ws' := pg_w a0 q u_15 ++ tp_w a1 q ((va_up u_3.1 1 ((u_3.1 1) + 1)), u_3.2)) [2, 3, 4, 5, 6, 7, 8, 9, 0, 1] (by decide) rfl) hS (lv_sub hl [0, 2, 3] rfl)
            · replace h := h.2 c_12
              refine lv_iload_n hx hb dX4_goesOn_43 rfl (lv_at hl 0 rfl) ?_
              refine lv_iconst (v := (-1)) hx hb dX4_goesOn_44 (by decide) ?_
              refine lv_icmp_ne (tgt := 55) hx hb dX4_goesOn_45 (by decide) (fun c_16 => ?_) (fun c_16 => ?_)
              · replace h := h.1 c_16
                refine lv_aload_n hx hb dX4_goesOn_55 rfl (lv_at hl 3 rfl) ?_
                refine lv_aload_n hx hb dX4_goesOn_56 rfl (lv_at hl 3 rfl) ?_
                refine fl_get (C := RX5) (T := TX5) (N := 7) (ci := 4) (v := .int (u_3.1 1)) hx hb ht in_X5 hown hK hP 8 rfl rfl 2 (by decide) mw_133 rfl dX4_goesOn_57 ?_
                refine lv_iconst (v := 1) hx hb dX4_goesOn_60 (by decide) ?_
                refine mt_gov (mt_wV (wc := tp_w a1 q u_3) (As := [.int (u_3.1 1), .int 1]) (rest := []) hx hb hml hown ht (c2_X5_blame h) wd_X5_blame mw_807 hQ hV hS hA (hP.sub [8, 9] rfl) (hD.sub [8, 9] (by decide) rfl) rfl rfl rfl hl.1 rfl (Nat.le_of_ble_eq_true rfl) dX4_goesOn_61 ⟨Nat.le_of_ble_eq_true rfl, Nat.le_of_ble_eq_true rfl, rfl, rfl⟩ ⟨Nat.le_of_ble_eq_true rfl, Nat.le_of_ble_eq_true rfl⟩) (wr := [((a0 0), .inr (3, [.ref (a0 1), .ref (a0 2), .ref (a0 3), .ref (a0 4), .ref (a0 5), .ref (a0 6), .ref (a0 7), .int (t0.1 0), .int (t0.1 1), .int (t0.1 2)])), ((a0 1), .inl (q 0, 80, .inl (t0.2 0))), ((a0 2), .inl (q 0, 80, .inl (t0.2 1))), ((a0 3), .inl (q 0, 80, .inl (t0.2 2))), ((a0 4), .inl (q 0, 80, .inl (t0.2 3))), ((a0 5), .inl (q 0, 80, .inl (t0.2 4))), ((a0 6), .inl (q 0, 3, .inl (t0.2 5))), ((a0 7), .inl (q 0, 3, .inl (t0.2 6)))]) hP hD hS hA [8, 9] [0, 1, 2, 3, 4, 5, 6, 7] rfl rfl (by decide) (by decide) (fun u_18 H locs h hP hD hS => ?_)
                try dsimp only at h
                have hP : va_P D vwCl [((a0 0), .inr (3, [.ref (a0 1), .ref (a0 2), .ref (a0 3), .ref (a0 4), .ref (a0 5), .ref (a0 6), .ref (a0 7), .int (t0.1 0), .int (t0.1 1), .int (t0.1 2)])), ((a0 1), .inl (q 0, 80, .inl (t0.2 0))), ((a0 2), .inl (q 0, 80, .inl (t0.2 1))), ((a0 3), .inl (q 0, 80, .inl (t0.2 2))), ((a0 4), .inl (q 0, 80, .inl (t0.2 3))), ((a0 5), .inl (q 0, 80, .inl (t0.2 4))), ((a0 6), .inl (q 0, 3, .inl (t0.2 5))), ((a0 7), .inl (q 0, 3, .inl (t0.2 6))), ((a1 0), .inr (4, [.ref (a1 1), .int (u_18.1 0), .int (u_18.1 1), .int (u_18.1 2), .int (u_18.1 3), .int (u_18.1 4), .int (u_18.1 5)])), ((a1 1), .inl (q 0, 400, .inl u_18.2))] H := hP
                have hD : va_D _ [((a0 0), .inr (3, [.ref (a0 1), .ref (a0 2), .ref (a0 3), .ref (a0 4), .ref (a0 5), .ref (a0 6), .ref (a0 7), .int (t0.1 0), .int (t0.1 1), .int (t0.1 2)])), ((a0 1), .inl (q 0, 80, .inl (t0.2 0))), ((a0 2), .inl (q 0, 80, .inl (t0.2 1))), ((a0 3), .inl (q 0, 80, .inl (t0.2 2))), ((a0 4), .inl (q 0, 80, .inl (t0.2 3))), ((a0 5), .inl (q 0, 80, .inl (t0.2 4))), ((a0 6), .inl (q 0, 3, .inl (t0.2 5))), ((a0 7), .inl (q 0, 3, .inl (t0.2 6))), ((a1 0), .inr (4, [.ref (a1 1), .int (u_18.1 0), .int (u_18.1 1), .int (u_18.1 2), .int (u_18.1 3), .int (u_18.1 4), .int (u_18.1 5)])), ((a1 1), .inl (q 0, 400, .inl u_18.2))] := hD
                refine lv_iconst (v := 0) hx hb dX4_goesOn_64 (by decide) ?_
                exact mt_zret (t0, u_18) hx hb hr hk rfl h (hP.sub (ws' := pg_w a0 q t0 ++ tp_w a1 q u_18) [0, 1, 2, 3, 4, 5, 6, 7, 8, 9] rfl) (hD.sub (ws' := pg_w a0 q t0 ++ tp_w a1 q u_18) [0, 1, 2, 3, 4, 5, 6, 7, 8, 9] (by decide) rfl) hS dX4_goesOn_65
              · replace h := h.2 c_16
                refine lv_aload_n hx hb dX4_goesOn_48 rfl (lv_at hl 2 rfl) ?_
                refine fl_get (C := RX4) (T := TX4) (N := 10) (ci := 3) (v := .int (t0.1 0)) hx hb ht in_X4 hown hK hP 0 rfl rfl 7 (by decide) mw_311 rfl dX4_goesOn_49 ?_
                refine lv_if_le (tgt := 64) hx hb dX4_goesOn_52 (by decide) (fun c_19 => ?_) (fun c_19 => ?_)
                · replace h := h.1 c_19
                  refine lv_iconst (v := 0) hx hb dX4_goesOn_64 (by decide) ?_
                  exact mt_zret (t0, u_3) hx hb hr hk rfl h (hP.sub (ws' := pg_w a0 q t0 ++ tp_w a1 q u_3) [0, 1, 2, 3, 4, 5, 6, 7, 8, 9] rfl) (hD.sub (ws' := pg_w a0 q t0 ++ tp_w a1 q u_3) [0, 1, 2, 3, 4, 5, 6, 7, 8, 9] (by decide) rfl) hS dX4_goesOn_65
                · replace h := h.2 c_19
                  refine lv_aload_n hx hb dX4_goesOn_55 rfl (lv_at hl 3 rfl) ?_
                  refine lv_aload_n hx hb dX4_goesOn_56 rfl (lv_at hl 3 rfl) ?_
                  refine fl_get (C := RX5) (T := TX5) (N := 7) (ci := 4) (v := .int (u_3.1 1)) hx hb ht in_X5 hown hK hP 8 rfl rfl 2 (by decide) mw_133 rfl dX4_goesOn_57 ?_
                  refine lv_iconst (v := 1) hx hb dX4_goesOn_60 (by decide) ?_
                  refine mt_gov (mt_wV (wc := tp_w a1 q u_3) (As := [.int (u_3.1 1), .int 1]) (rest := []) hx hb hml hown ht (c2_X5_blame h) wd_X5_blame mw_807 hQ hV hS hA (hP.sub [8, 9] rfl) (hD.sub [8, 9] (by decide) rfl) rfl rfl rfl hl.1 rfl (Nat.le_of_ble_eq_true rfl) dX4_goesOn_61 ⟨Nat.le_of_ble_eq_true rfl, Nat.le_of_ble_eq_true rfl, rfl, rfl⟩ ⟨Nat.le_of_ble_eq_true rfl, Nat.le_of_ble_eq_true rfl⟩) (wr := [((a0 0), .inr (3, [.ref (a0 1), .ref (a0 2), .ref (a0 3), .ref (a0 4), .ref (a0 5), .ref (a0 6), .ref (a0 7), .int (t0.1 0), .int (t0.1 1), .int (t0.1 2)])), ((a0 1), .inl (q 0, 80, .inl (t0.2 0))), ((a0 2), .inl (q 0, 80, .inl (t0.2 1))), ((a0 3), .inl (q 0, 80, .inl (t0.2 2))), ((a0 4), .inl (q 0, 80, .inl (t0.2 3))), ((a0 5), .inl (q 0, 80, .inl (t0.2 4))), ((a0 6), .inl (q 0, 3, .inl (t0.2 5))), ((a0 7), .inl (q 0, 3, .inl (t0.2 6)))]) hP hD hS hA [8, 9] [0, 1, 2, 3, 4, 5, 6, 7] rfl rfl (by decide) (by decide) (fun u_21 H locs h hP hD hS => ?_)
                  try dsimp only at h
                  have hP : va_P D vwCl [((a0 0), .inr (3, [.ref (a0 1), .ref (a0 2), .ref (a0 3), .ref (a0 4), .ref (a0 5), .ref (a0 6), .ref (a0 7), .int (t0.1 0), .int (t0.1 1), .int (t0.1 2)])), ((a0 1), .inl (q 0, 80, .inl (t0.2 0))), ((a0 2), .inl (q 0, 80, .inl (t0.2 1))), ((a0 3), .inl (q 0, 80, .inl (t0.2 2))), ((a0 4), .inl (q 0, 80, .inl (t0.2 3))), ((a0 5), .inl (q 0, 80, .inl (t0.2 4))), ((a0 6), .inl (q 0, 3, .inl (t0.2 5))), ((a0 7), .inl (q 0, 3, .inl (t0.2 6))), ((a1 0), .inr (4, [.ref (a1 1), .int (u_21.1 0), .int (u_21.1 1), .int (u_21.1 2), .int (u_21.1 3), .int (u_21.1 4), .int (u_21.1 5)])), ((a1 1), .inl (q 0, 400, .inl u_21.2))] H := hP
                  have hD : va_D _ [((a0 0), .inr (3, [.ref (a0 1), .ref (a0 2), .ref (a0 3), .ref (a0 4), .ref (a0 5), .ref (a0 6), .ref (a0 7), .int (t0.1 0), .int (t0.1 1), .int (t0.1 2)])), ((a0 1), .inl (q 0, 80, .inl (t0.2 0))), ((a0 2), .inl (q 0, 80, .inl (t0.2 1))), ((a0 3), .inl (q 0, 80, .inl (t0.2 2))), ((a0 4), .inl (q 0, 80, .inl (t0.2 3))), ((a0 5), .inl (q 0, 80, .inl (t0.2 4))), ((a0 6), .inl (q 0, 3, .inl (t0.2 5))), ((a0 7), .inl (q 0, 3, .inl (t0.2 6))), ((a1 0), .inr (4, [.ref (a1 1), .int (u_21.1 0), .int (u_21.1 1), .int (u_21.1 2), .int (u_21.1 3), .int (u_21.1 4), .int (u_21.1 5)])), ((a1 1), .inl (q 0, 400, .inl u_21.2))] := hD
                  refine lv_iconst (v := 0) hx hb dX4_goesOn_64 (by decide) ?_
                  exact mt_zret (t0, u_21) hx hb hr hk rfl h (hP.sub (ws' := pg_w a0 q t0 ++ tp_w a1 q u_21) [0, 1, 2, 3, 4, 5, 6, 7, 8, 9] rfl) (hD.sub (ws' := pg_w a0 q t0 ++ tp_w a1 q u_21) [0, 1, 2, 3, 4, 5, 6, 7, 8, 9] (by decide) rfl) hS dX4_goesOn_65
        · replace h := h.2 c_4
          refine lv_aload_n hx hb dX4_goesOn_18 rfl (lv_at hl 3 rfl) ?_
          refine lv_dup hx hb dX4_goesOn_19 rfl ?_
          refine fl_get (C := RX5) (T := TX5) (N := 7) (ci := 4) (v := .int (u_3.1 1)) hx hb ht in_X5 hown hK hP 8 rfl rfl 2 (by decide) mw_133 rfl dX4_goesOn_20 ?_
          refine lv_iconst (v := 1) hx hb dX4_goesOn_23 (by decide) ?_
          refine lv_iadd hx hb dX4_goesOn_24 ?_
          refine fl_put (C := RX5) (T := TX5) (N := 7) (ci := 4) (v := .int ((u_3.1 1) + 1)) (ws2 := [((a0 0), .inr (3, [.ref (a0 1), .ref (a0 2), .ref (a0 3), .ref (a0 4), .ref (a0 5), .ref (a0 6), .ref (a0 7), .int (t0.1 0), .int (t0.1 1), .int (t0.1 2)])), ((a0 1), .inl (q 0, 80, .inl (t0.2 0))), ((a0 2), .inl (q 0, 80, .inl (t0.2 1))), ((a0 3), .inl (q 0, 80, .inl (t0.2 2))), ((a0 4), .inl (q 0, 80, .inl (t0.2 3))), ((a0 5), .inl (q 0, 80, .inl (t0.2 4))), ((a0 6), .inl (q 0, 3, .inl (t0.2 5))), ((a0 7), .inl (q 0, 3, .inl (t0.2 6))), ((a1 0), .inr (4, [.ref (a1 1), .int (u_3.1 0), .int ((u_3.1 1) + 1), .int (u_3.1 2), .int (u_3.1 3), .int (u_3.1 4), .int (u_3.1 5)])), ((a1 1), .inl (q 0, 400, .inl u_3.2))]) hx hb ht in_X5 tyX5_ok nmX5 hown hK hP hD hS 8 rfl rfl 2 (by decide) mw_133 rfl rfl rfl (Nat.le_of_ble_eq_true rfl) dX4_goesOn_25 rfl (fun H locs hP hD hS => ?_)
          refine lv_iconst (v := 1) hx hb dX4_goesOn_28 (by decide) ?_
          exact mt_zret (t0, ((va_up u_3.1 1 ((u_3.1 1) + 1)), u_3.2)) hx hb hr hk rfl h (hP.sub (ws' := pg_w a0 q t0 ++ tp_w a1 q ((va_up u_3.1 1 ((u_3.1 1) + 1)), u_3.2)) [0, 1, 2, 3, 4, 5, 6, 7, 8, 9] rfl) (hD.sub (ws' := pg_w a0 q t0 ++ tp_w a1 q ((va_up u_3.1 1 ((u_3.1 1) + 1)), u_3.2)) [0, 1, 2, 3, 4, 5, 6, 7, 8, 9] (by decide) rfl) hS dX4_goesOn_29
  obtain ⟨n2, h⟩ := h
  refine lp2 _ ?_ n2 _ _ _ _ _ ls h (hP.sub (ws' := pg_w a0 q s0 ++ tp_w a1 q s1) [0, 1, 2, 3, 4, 5, 6, 7, 8, 9] rfl) (hD.sub (ws' := pg_w a0 q s0 ++ tp_w a1 q s1) [0, 1, 2, 3, 4, 5, 6, 7, 8, 9] (by decide) rfl) hS (lv_sub hl [0, 1, 2] rfl)
  · intro t0 t1 z2 H locs ls h hP hD hS hl
    try dsimp only at h
    have hP : va_P D vwCl [((a0 0), .inr (3, [.ref (a0 1), .ref (a0 2), .ref (a0 3), .ref (a0 4), .ref (a0 5), .ref (a0 6), .ref (a0 7), .int (t0.1 0), .int (t0.1 1), .int (t0.1 2)])), ((a0 1), .inl (q 0, 80, .inl (t0.2 0))), ((a0 2), .inl (q 0, 80, .inl (t0.2 1))), ((a0 3), .inl (q 0, 80, .inl (t0.2 2))), ((a0 4), .inl (q 0, 80, .inl (t0.2 3))), ((a0 5), .inl (q 0, 80, .inl (t0.2 4))), ((a0 6), .inl (q 0, 3, .inl (t0.2 5))), ((a0 7), .inl (q 0, 3, .inl (t0.2 6))), ((a1 0), .inr (4, [.ref (a1 1), .int (t1.1 0), .int (t1.1 1), .int (t1.1 2), .int (t1.1 3), .int (t1.1 4), .int (t1.1 5)])), ((a1 1), .inl (q 0, 400, .inl t1.2))] H := hP
    have hD : va_D _ [((a0 0), .inr (3, [.ref (a0 1), .ref (a0 2), .ref (a0 3), .ref (a0 4), .ref (a0 5), .ref (a0 6), .ref (a0 7), .int (t0.1 0), .int (t0.1 1), .int (t0.1 2)])), ((a0 1), .inl (q 0, 80, .inl (t0.2 0))), ((a0 2), .inl (q 0, 80, .inl (t0.2 1))), ((a0 3), .inl (q 0, 80, .inl (t0.2 2))), ((a0 4), .inl (q 0, 80, .inl (t0.2 3))), ((a0 5), .inl (q 0, 80, .inl (t0.2 4))), ((a0 6), .inl (q 0, 3, .inl (t0.2 5))), ((a0 7), .inl (q 0, 3, .inl (t0.2 6))), ((a1 0), .inr (4, [.ref (a1 1), .int (t1.1 0), .int (t1.1 1), .int (t1.1 2), .int (t1.1 3), .int (t1.1 4), .int (t1.1 5)])), ((a1 1), .inl (q 0, 400, .inl t1.2))] := hD
    refine lv_iconst (v := 0) hx hb dX4_goesOn_105 (by decide) ?_
    exact mt_zret (t0, t1) hx hb hr hk rfl h (hP.sub (ws' := pg_w a0 q t0 ++ tp_w a1 q t1) [0, 1, 2, 3, 4, 5, 6, 7, 8, 9] rfl) (hD.sub (ws' := pg_w a0 q t0 ++ tp_w a1 q t1) [0, 1, 2, 3, 4, 5, 6, 7, 8, 9] (by decide) rfl) hS dX4_goesOn_106

def wp_X4_readFrom_L19 (s2 : Bd) (post : Pg → Tp → Prop) (e78 : Pg → Tp → Int32 → Int32 → Prop) : Nat → Pg → Tp → Int32 → Int32 → Prop
  | 0, _, _, _, _ => False
  | n19 + 1, t0, t1, z3, z4 => ((80 ≤ z4 → e78 t0 t1 z3 z4) ∧ (¬ 80 ≤ z4 → ((z3 = 0 → e78 t0 t1 z3 z4) ∧ (¬ z3 = 0 → wp_X5_takeWord (fun r_5 u_6 => wp_X4_readStep (fun u_8a u_8b => wp_X5_isSound (fun r_9 => ((r_9 = 0 → wp_X4_readFrom_L19 s2 post e78 n19 u_8a u_8b 0 (z4 + 1)) ∧ (¬ r_9 = 0 → ((r_5 = 12 → wp_X4_readFrom_L19 s2 post e78 n19 u_8a u_8b 1 (z4 + 1)) ∧ (¬ r_5 = 12 → wp_X4_goesOn (fun r_13 u_14a u_14b => ((r_13 = 0 → wp_X4_readFrom_L19 s2 post e78 n19 u_14a u_14b 0 (z4 + 1)) ∧ (¬ r_13 = 0 → wp_X4_readFrom_L19 s2 post e78 n19 u_14a u_14b 1 (z4 + 1)))) u_8a u_8b))))) u_8b) t0 u_6 s2 r_5) t1))))
def wp_X4_readFrom (post : Pg → Tp → Prop) (s0 : Pg) (s1 : Tp) (s2 : Bd) : Prop := wp_X5_startReading (fun u_2 => (∃ n19, wp_X4_readFrom_L19 s2 post (fun t0 t1 z3 z4 => post t0 t1) n19 ((va_up (va_up s0.1 0 0) 1 0), s0.2) u_2 1 0)) s1
set_option maxHeartbeats 4000000 in
set_option maxRecDepth 100000 in
theorem c2_X4_readFrom {l : Launch} {D : va_G} {q : Nat → ClassId} {sz : Nat} {a0 : Nat → Nat} {a1 : Nat → Nat} {a2 : Nat → Nat} {s0 : Pg} {s1 : Tp} {s2 : Bd} {post : Pg → Tp → Prop} (h : wp_X4_readFrom post s0 s1 s2) : Met l yX4_readFrom (Cond.code yX4_readFrom cX4_readFrom 6 none :: w_all) ({ frames := 7, cells := 0, slots := 0, locals := 147 } : Room) (mt_P D q [.ref (a0 0), .ref (a1 0), .ref (a2 0)] (pg_w a0 q s0 ++ tp_w a1 q s1 ++ bd_w a2 q s2) sz) (va_Qv (fun u : Pg × Tp => post u.1 u.2) (mt_B D (pg_w a0 q s0 ++ tp_w a1 q s1 ++ bd_w a2 q s2) sz (fun u : Pg × Tp => pg_w a0 q u.1 ++ tp_w a1 q u.2 ++ bd_w a2 q s2)) (va_A (pg_w a0 q s0 ++ tp_w a1 q s1 ++ bd_w a2 q s2) sz)) 0 0 (va_A (pg_w a0 q s0 ++ tp_w a1 q s1 ++ bd_w a2 q s2) sz) := by
  refine mt_start (by decide) (Nat.le_of_ble_eq_true rfl) ?_
  intro p e s m below meth c ls hx hb hr hml hown ht hk hin hP hQ hD hA hS hV hl
  have hK := hQ.1
  have hown : s.vm.findClass RX4 = some m.cls := hown
  have hl : lv_has ls 6 [(0, .ref (a0 0)), (1, .ref (a1 0)), (2, .ref (a2 0))] := hl
  have hP : va_P D vwCl [((a0 0), .inr (3, [.ref (a0 1), .ref (a0 2), .ref (a0 3), .ref (a0 4), .ref (a0 5), .ref (a0 6), .ref (a0 7), .int (s0.1 0), .int (s0.1 1), .int (s0.1 2)])), ((a0 1), .inl (q 0, 80, .inl (s0.2 0))), ((a0 2), .inl (q 0, 80, .inl (s0.2 1))), ((a0 3), .inl (q 0, 80, .inl (s0.2 2))), ((a0 4), .inl (q 0, 80, .inl (s0.2 3))), ((a0 5), .inl (q 0, 80, .inl (s0.2 4))), ((a0 6), .inl (q 0, 3, .inl (s0.2 5))), ((a0 7), .inl (q 0, 3, .inl (s0.2 6))), ((a1 0), .inr (4, [.ref (a1 1), .int (s1.1 0), .int (s1.1 1), .int (s1.1 2), .int (s1.1 3), .int (s1.1 4), .int (s1.1 5)])), ((a1 1), .inl (q 0, 400, .inl s1.2)), ((a2 0), .inr (0, [.int (s2.1 0), .int (s2.1 1), .int (s2.1 2), .int (s2.1 3), .int (s2.1 4), .int (s2.1 5), .ref (a2 1), .ref (a2 2), .ref (a2 3), .ref (a2 4), .ref (a2 5), .ref (a2 6), .ref (a2 7), .ref (a2 8), .ref (a2 9), .ref (a2 10), .ref (a2 11), .ref (a2 12)])), ((a2 1), .inl (q 0, 4, .inl (s2.2.1 0))), ((a2 2), .inl (q 0, 4, .inl (s2.2.1 1))), ((a2 3), .inl (q 0, 160, .inl (s2.2.1 2))), ((a2 4), .inl (q 0, 40, .inl (s2.2.1 3))), ((a2 5), .inl (q 0, 40, .inl (s2.2.1 4))), ((a2 6), .inl (q 0, 40, .inl (s2.2.1 5))), ((a2 7), .inl (q 0, 40, .inl (s2.2.1 6))), ((a2 8), .inl (q 0, 40, .inl (s2.2.1 7))), ((a2 9), .inl (q 0, 40, .inl (s2.2.1 8))), ((a2 10), .inl (q 0, 40, .inl (s2.2.1 9))), ((a2 11), .inl (q 1, 40, .inr (.inl s2.2.2.1))), ((a2 12), .inl (q 0, s2.2.2.2.1, .inl s2.2.2.2.2))] s.heap := hP
  have hD : va_D _ [((a0 0), .inr (3, [.ref (a0 1), .ref (a0 2), .ref (a0 3), .ref (a0 4), .ref (a0 5), .ref (a0 6), .ref (a0 7), .int (s0.1 0), .int (s0.1 1), .int (s0.1 2)])), ((a0 1), .inl (q 0, 80, .inl (s0.2 0))), ((a0 2), .inl (q 0, 80, .inl (s0.2 1))), ((a0 3), .inl (q 0, 80, .inl (s0.2 2))), ((a0 4), .inl (q 0, 80, .inl (s0.2 3))), ((a0 5), .inl (q 0, 80, .inl (s0.2 4))), ((a0 6), .inl (q 0, 3, .inl (s0.2 5))), ((a0 7), .inl (q 0, 3, .inl (s0.2 6))), ((a1 0), .inr (4, [.ref (a1 1), .int (s1.1 0), .int (s1.1 1), .int (s1.1 2), .int (s1.1 3), .int (s1.1 4), .int (s1.1 5)])), ((a1 1), .inl (q 0, 400, .inl s1.2)), ((a2 0), .inr (0, [.int (s2.1 0), .int (s2.1 1), .int (s2.1 2), .int (s2.1 3), .int (s2.1 4), .int (s2.1 5), .ref (a2 1), .ref (a2 2), .ref (a2 3), .ref (a2 4), .ref (a2 5), .ref (a2 6), .ref (a2 7), .ref (a2 8), .ref (a2 9), .ref (a2 10), .ref (a2 11), .ref (a2 12)])), ((a2 1), .inl (q 0, 4, .inl (s2.2.1 0))), ((a2 2), .inl (q 0, 4, .inl (s2.2.1 1))), ((a2 3), .inl (q 0, 160, .inl (s2.2.1 2))), ((a2 4), .inl (q 0, 40, .inl (s2.2.1 3))), ((a2 5), .inl (q 0, 40, .inl (s2.2.1 4))), ((a2 6), .inl (q 0, 40, .inl (s2.2.1 5))), ((a2 7), .inl (q 0, 40, .inl (s2.2.1 6))), ((a2 8), .inl (q 0, 40, .inl (s2.2.1 7))), ((a2 9), .inl (q 0, 40, .inl (s2.2.1 8))), ((a2 10), .inl (q 0, 40, .inl (s2.2.1 9))), ((a2 11), .inl (q 1, 40, .inr (.inl s2.2.2.1))), ((a2 12), .inl (q 0, s2.2.2.2.1, .inl s2.2.2.2.2))] := hD
  unfold wp_X4_readFrom at h
  refine lv_aload_n hx hb dX4_readFrom_0 rfl (lv_at hl 0 rfl) ?_
  refine lv_iconst (v := 0) hx hb dX4_readFrom_1 (by decide) ?_
  refine fl_put (C := RX4) (T := TX4) (N := 10) (ci := 3) (v := .int 0) (ws2 := [((a0 0), .inr (3, [.ref (a0 1), .ref (a0 2), .ref (a0 3), .ref (a0 4), .ref (a0 5), .ref (a0 6), .ref (a0 7), .int (s0.1 0), .int 0, .int (s0.1 2)])), ((a0 1), .inl (q 0, 80, .inl (s0.2 0))), ((a0 2), .inl (q 0, 80, .inl (s0.2 1))), ((a0 3), .inl (q 0, 80, .inl (s0.2 2))), ((a0 4), .inl (q 0, 80, .inl (s0.2 3))), ((a0 5), .inl (q 0, 80, .inl (s0.2 4))), ((a0 6), .inl (q 0, 3, .inl (s0.2 5))), ((a0 7), .inl (q 0, 3, .inl (s0.2 6))), ((a1 0), .inr (4, [.ref (a1 1), .int (s1.1 0), .int (s1.1 1), .int (s1.1 2), .int (s1.1 3), .int (s1.1 4), .int (s1.1 5)])), ((a1 1), .inl (q 0, 400, .inl s1.2)), ((a2 0), .inr (0, [.int (s2.1 0), .int (s2.1 1), .int (s2.1 2), .int (s2.1 3), .int (s2.1 4), .int (s2.1 5), .ref (a2 1), .ref (a2 2), .ref (a2 3), .ref (a2 4), .ref (a2 5), .ref (a2 6), .ref (a2 7), .ref (a2 8), .ref (a2 9), .ref (a2 10), .ref (a2 11), .ref (a2 12)])), ((a2 1), .inl (q 0, 4, .inl (s2.2.1 0))), ((a2 2), .inl (q 0, 4, .inl (s2.2.1 1))), ((a2 3), .inl (q 0, 160, .inl (s2.2.1 2))), ((a2 4), .inl (q 0, 40, .inl (s2.2.1 3))), ((a2 5), .inl (q 0, 40, .inl (s2.2.1 4))), ((a2 6), .inl (q 0, 40, .inl (s2.2.1 5))), ((a2 7), .inl (q 0, 40, .inl (s2.2.1 6))), ((a2 8), .inl (q 0, 40, .inl (s2.2.1 7))), ((a2 9), .inl (q 0, 40, .inl (s2.2.1 8))), ((a2 10), .inl (q 0, 40, .inl (s2.2.1 9))), ((a2 11), .inl (q 1, 40, .inr (.inl s2.2.2.1))), ((a2 12), .inl (q 0, s2.2.2.2.1, .inl s2.2.2.2.2))]) hx hb ht in_X4 tyX4_ok nmX4 hown hK hP hD hS 0 rfl rfl 8 (by decide) mw_312 rfl rfl rfl (Nat.le_of_ble_eq_true rfl) dX4_readFrom_2 rfl (fun H locs hP hD hS => ?_)
  refine lv_aload_n hx hb dX4_readFrom_5 rfl (lv_at hl 0 rfl) ?_
  refine lv_iconst (v := 0) hx hb dX4_readFrom_6 (by decide) ?_
  refine fl_put (C := RX4) (T := TX4) (N := 10) (ci := 3) (v := .int 0) (ws2 := [((a0 0), .inr (3, [.ref (a0 1), .ref (a0 2), .ref (a0 3), .ref (a0 4), .ref (a0 5), .ref (a0 6), .ref (a0 7), .int 0, .int 0, .int (s0.1 2)])), ((a0 1), .inl (q 0, 80, .inl (s0.2 0))), ((a0 2), .inl (q 0, 80, .inl (s0.2 1))), ((a0 3), .inl (q 0, 80, .inl (s0.2 2))), ((a0 4), .inl (q 0, 80, .inl (s0.2 3))), ((a0 5), .inl (q 0, 80, .inl (s0.2 4))), ((a0 6), .inl (q 0, 3, .inl (s0.2 5))), ((a0 7), .inl (q 0, 3, .inl (s0.2 6))), ((a1 0), .inr (4, [.ref (a1 1), .int (s1.1 0), .int (s1.1 1), .int (s1.1 2), .int (s1.1 3), .int (s1.1 4), .int (s1.1 5)])), ((a1 1), .inl (q 0, 400, .inl s1.2)), ((a2 0), .inr (0, [.int (s2.1 0), .int (s2.1 1), .int (s2.1 2), .int (s2.1 3), .int (s2.1 4), .int (s2.1 5), .ref (a2 1), .ref (a2 2), .ref (a2 3), .ref (a2 4), .ref (a2 5), .ref (a2 6), .ref (a2 7), .ref (a2 8), .ref (a2 9), .ref (a2 10), .ref (a2 11), .ref (a2 12)])), ((a2 1), .inl (q 0, 4, .inl (s2.2.1 0))), ((a2 2), .inl (q 0, 4, .inl (s2.2.1 1))), ((a2 3), .inl (q 0, 160, .inl (s2.2.1 2))), ((a2 4), .inl (q 0, 40, .inl (s2.2.1 3))), ((a2 5), .inl (q 0, 40, .inl (s2.2.1 4))), ((a2 6), .inl (q 0, 40, .inl (s2.2.1 5))), ((a2 7), .inl (q 0, 40, .inl (s2.2.1 6))), ((a2 8), .inl (q 0, 40, .inl (s2.2.1 7))), ((a2 9), .inl (q 0, 40, .inl (s2.2.1 8))), ((a2 10), .inl (q 0, 40, .inl (s2.2.1 9))), ((a2 11), .inl (q 1, 40, .inr (.inl s2.2.2.1))), ((a2 12), .inl (q 0, s2.2.2.2.1, .inl s2.2.2.2.2))]) hx hb ht in_X4 tyX4_ok nmX4 hown hK hP hD hS 0 rfl rfl 7 (by decide) mw_311 rfl rfl rfl (Nat.le_of_ble_eq_true rfl) dX4_readFrom_7 rfl (fun H locs hP hD hS => ?_)
  refine lv_aload_n hx hb dX4_readFrom_10 rfl (lv_at hl 1 rfl) ?_
  refine mt_gov (mt_wV (wc := tp_w a1 q s1) (As := []) (rest := []) hx hb hml hown ht (c2_X5_startReading h) wd_X5_startReading mw_793 hQ hV hS hA (hP.sub [8, 9] rfl) (hD.sub [8, 9] (by decide) rfl) rfl rfl rfl hl.1 rfl (Nat.le_of_ble_eq_true rfl) dX4_readFrom_11 ⟨Nat.le_of_ble_eq_true rfl, Nat.le_of_ble_eq_true rfl, rfl, rfl⟩ ⟨Nat.le_of_ble_eq_true rfl, Nat.le_of_ble_eq_true rfl⟩) (wr := [((a0 0), .inr (3, [.ref (a0 1), .ref (a0 2), .ref (a0 3), .ref (a0 4), .ref (a0 5), .ref (a0 6), .ref (a0 7), .int 0, .int 0, .int (s0.1 2)])), ((a0 1), .inl (q 0, 80, .inl (s0.2 0))), ((a0 2), .inl (q 0, 80, .inl (s0.2 1))), ((a0 3), .inl (q 0, 80, .inl (s0.2 2))), ((a0 4), .inl (q 0, 80, .inl (s0.2 3))), ((a0 5), .inl (q 0, 80, .inl (s0.2 4))), ((a0 6), .inl (q 0, 3, .inl (s0.2 5))), ((a0 7), .inl (q 0, 3, .inl (s0.2 6))), ((a2 0), .inr (0, [.int (s2.1 0), .int (s2.1 1), .int (s2.1 2), .int (s2.1 3), .int (s2.1 4), .int (s2.1 5), .ref (a2 1), .ref (a2 2), .ref (a2 3), .ref (a2 4), .ref (a2 5), .ref (a2 6), .ref (a2 7), .ref (a2 8), .ref (a2 9), .ref (a2 10), .ref (a2 11), .ref (a2 12)])), ((a2 1), .inl (q 0, 4, .inl (s2.2.1 0))), ((a2 2), .inl (q 0, 4, .inl (s2.2.1 1))), ((a2 3), .inl (q 0, 160, .inl (s2.2.1 2))), ((a2 4), .inl (q 0, 40, .inl (s2.2.1 3))), ((a2 5), .inl (q 0, 40, .inl (s2.2.1 4))), ((a2 6), .inl (q 0, 40, .inl (s2.2.1 5))), ((a2 7), .inl (q 0, 40, .inl (s2.2.1 6))), ((a2 8), .inl (q 0, 40, .inl (s2.2.1 7))), ((a2 9), .inl (q 0, 40, .inl (s2.2.1 8))), ((a2 10), .inl (q 0, 40, .inl (s2.2.1 9))), ((a2 11), .inl (q 1, 40, .inr (.inl s2.2.2.1))), ((a2 12), .inl (q 0, s2.2.2.2.1, .inl s2.2.2.2.2))]) hP hD hS hA [8, 9] [0, 1, 2, 3, 4, 5, 6, 7, 10, 11, 12, 13, 14, 15, 16, 17, 18, 19, 20, 21, 22] rfl rfl (by decide) (by decide) (fun u_2 H locs h hP hD hS => ?_)
  try dsimp only at h
  have hP : va_P D vwCl [((a0 0), .inr (3, [.ref (a0 1), .ref (a0 2), .ref (a0 3), .ref (a0 4), .ref (a0 5), .ref (a0 6), .ref (a0 7), .int 0, .int 0, .int (s0.1 2)])), ((a0 1), .inl (q 0, 80, .inl (s0.2 0))), ((a0 2), .inl (q 0, 80, .inl (s0.2 1))), ((a0 3), .inl (q 0, 80, .inl (s0.2 2))), ((a0 4), .inl (q 0, 80, .inl (s0.2 3))), ((a0 5), .inl (q 0, 80, .inl (s0.2 4))), ((a0 6), .inl (q 0, 3, .inl (s0.2 5))), ((a0 7), .inl (q 0, 3, .inl (s0.2 6))), ((a2 0), .inr (0, [.int (s2.1 0), .int (s2.1 1), .int (s2.1 2), .int (s2.1 3), .int (s2.1 4), .int (s2.1 5), .ref (a2 1), .ref (a2 2), .ref (a2 3), .ref (a2 4), .ref (a2 5), .ref (a2 6), .ref (a2 7), .ref (a2 8), .ref (a2 9), .ref (a2 10), .ref (a2 11), .ref (a2 12)])), ((a2 1), .inl (q 0, 4, .inl (s2.2.1 0))), ((a2 2), .inl (q 0, 4, .inl (s2.2.1 1))), ((a2 3), .inl (q 0, 160, .inl (s2.2.1 2))), ((a2 4), .inl (q 0, 40, .inl (s2.2.1 3))), ((a2 5), .inl (q 0, 40, .inl (s2.2.1 4))), ((a2 6), .inl (q 0, 40, .inl (s2.2.1 5))), ((a2 7), .inl (q 0, 40, .inl (s2.2.1 6))), ((a2 8), .inl (q 0, 40, .inl (s2.2.1 7))), ((a2 9), .inl (q 0, 40, .inl (s2.2.1 8))), ((a2 10), .inl (q 0, 40, .inl (s2.2.1 9))), ((a2 11), .inl (q 1, 40, .inr (.inl s2.2.2.1))), ((a2 12), .inl (q 0, s2.2.2.2.1, .inl s2.2.2.2.2)), ((a1 0), .inr (4, [.ref (a1 1), .int (u_2.1 0), .int (u_2.1 1), .int (u_2.1 2), .int (u_2.1 3), .int (u_2.1 4), .int (u_2.1 5)])), ((a1 1), .inl (q 0, 400, .inl u_2.2))] H := hP
  have hD : va_D _ [((a0 0), .inr (3, [.ref (a0 1), .ref (a0 2), .ref (a0 3), .ref (a0 4), .ref (a0 5), .ref (a0 6), .ref (a0 7), .int 0, .int 0, .int (s0.1 2)])), ((a0 1), .inl (q 0, 80, .inl (s0.2 0))), ((a0 2), .inl (q 0, 80, .inl (s0.2 1))), ((a0 3), .inl (q 0, 80, .inl (s0.2 2))), ((a0 4), .inl (q 0, 80, .inl (s0.2 3))), ((a0 5), .inl (q 0, 80, .inl (s0.2 4))), ((a0 6), .inl (q 0, 3, .inl (s0.2 5))), ((a0 7), .inl (q 0, 3, .inl (s0.2 6))), ((a2 0), .inr (0, [.int (s2.1 0), .int (s2.1 1), .int (s2.1 2), .int (s2.1 3), .int (s2.1 4), .int (s2.1 5), .ref (a2 1), .ref (a2 2), .ref (a2 3), .ref (a2 4), .ref (a2 5), .ref (a2 6), .ref (a2 7), .ref (a2 8), .ref (a2 9), .ref (a2 10), .ref (a2 11), .ref (a2 12)])), ((a2 1), .inl (q 0, 4, .inl (s2.2.1 0))), ((a2 2), .inl (q 0, 4, .inl (s2.2.1 1))), ((a2 3), .inl (q 0, 160, .inl (s2.2.1 2))), ((a2 4), .inl (q 0, 40, .inl (s2.2.1 3))), ((a2 5), .inl (q 0, 40, .inl (s2.2.1 4))), ((a2 6), .inl (q 0, 40, .inl (s2.2.1 5))), ((a2 7), .inl (q 0, 40, .inl (s2.2.1 6))), ((a2 8), .inl (q 0, 40, .inl (s2.2.1 7))), ((a2 9), .inl (q 0, 40, .inl (s2.2.1 8))), ((a2 10), .inl (q 0, 40, .inl (s2.2.1 9))), ((a2 11), .inl (q 1, 40, .inr (.inl s2.2.2.1))), ((a2 12), .inl (q 0, s2.2.2.2.1, .inl s2.2.2.2.2)), ((a1 0), .inr (4, [.ref (a1 1), .int (u_2.1 0), .int (u_2.1 1), .int (u_2.1 2), .int (u_2.1 3), .int (u_2.1 4), .int (u_2.1 5)])), ((a1 1), .inl (q 0, 400, .inl u_2.2))] := hD
  refine lv_iconst (v := 1) hx hb dX4_readFrom_14 (by decide) ?_
  refine lv_istore_n (lv' := [(3, .int 1), (0, .ref (a0 0)), (1, .ref (a1 0)), (2, .ref (a2 0))]) hx hb dX4_readFrom_15 rfl hl (by decide) rfl (fun ls hl => ?_)
  refine lv_iconst (v := 0) hx hb dX4_readFrom_16 (by decide) ?_
  refine lv_istore (lv' := [(4, .int 0), (3, .int 1), (0, .ref (a0 0)), (1, .ref (a1 0)), (2, .ref (a2 0))]) hx hb dX4_readFrom_17 hl (by decide) rfl (fun ls hl => ?_)
  have lp19 : ∀ (e78 : Pg → Tp → Int32 → Int32 → Prop) (k78 : ∀ (t0 : Pg) (t1 : Tp) (z3 : Int32) (z4 : Int32) (H : Heap) (locs : List Loc) (ls : Array Slot), e78 t0 t1 z3 z4 → va_P D vwCl (pg_w a0 q t0 ++ tp_w a1 q t1 ++ bd_w a2 q s2) H → va_D (va_A (pg_w a0 q s0 ++ tp_w a1 q s1 ++ bd_w a2 q s2) sz) (pg_w a0 q t0 ++ tp_w a1 q t1 ++ bd_w a2 q s2) → va_S (va_A (pg_w a0 q s0 ++ tp_w a1 q s1 ++ bd_w a2 q s2) sz) s.heap H locs → lv_has ls 6 [(3, .int z3), (4, .int z4), (0, .ref (a0 0)), (1, .ref (a1 0)), (2, .ref (a2 0))] → W p l e ({ frames := 7, cells := 0, slots := 0, locals := 147 } : Room) s m [.ref (a0 0), .ref (a1 0), .ref (a2 0)].toArray below meth c H locs 0 0 (MQ below (va_Qv (fun u : Pg × Tp => post u.1 u.2) (mt_B D (pg_w a0 q s0 ++ tp_w a1 q s1 ++ bd_w a2 q s2) sz (fun u : Pg × Tp => pg_w a0 q u.1 ++ tp_w a1 q u.2 ++ bd_w a2 q s2)) (va_A (pg_w a0 q s0 ++ tp_w a1 q s1 ++ bd_w a2 q s2) sz)) [.ref (a0 0), .ref (a1 0), .ref (a2 0)].toArray s 0 0 (va_A (pg_w a0 q s0 ++ tp_w a1 q s1 ++ bd_w a2 q s2) sz)) (F0 m 78 ls [])) (n : Nat) (t0 : Pg) (t1 : Tp) (z3 : Int32) (z4 : Int32) (H : Heap) (locs : List Loc) (ls : Array Slot), wp_X4_readFrom_L19 s2 post e78 n t0 t1 z3 z4 → va_P D vwCl (pg_w a0 q t0 ++ tp_w a1 q t1 ++ bd_w a2 q s2) H → va_D (va_A (pg_w a0 q s0 ++ tp_w a1 q s1 ++ bd_w a2 q s2) sz) (pg_w a0 q t0 ++ tp_w a1 q t1 ++ bd_w a2 q s2) → va_S (va_A (pg_w a0 q s0 ++ tp_w a1 q s1 ++ bd_w a2 q s2) sz) s.heap H locs → lv_has ls 6 [(3, .int z3), (4, .int z4), (0, .ref (a0 0)), (1, .ref (a1 0)), (2, .ref (a2 0))] → W p l e ({ frames := 7, cells := 0, slots := 0, locals := 147 } : Room) s m [.ref (a0 0), .ref (a1 0), .ref (a2 0)].toArray below meth c H locs 0 0 (MQ below (va_Qv (fun u : Pg × Tp => post u.1 u.2) (mt_B D (pg_w a0 q s0 ++ tp_w a1 q s1 ++ bd_w a2 q s2) sz (fun u : Pg × Tp => pg_w a0 q u.1 ++ tp_w a1 q u.2 ++ bd_w a2 q s2)) (va_A (pg_w a0 q s0 ++ tp_w a1 q s1 ++ bd_w a2 q s2) sz)) [.ref (a0 0), .ref (a1 0), .ref (a2 0)].toArray s 0 0 (va_A (pg_w a0 q s0 ++ tp_w a1 q s1 ++ bd_w a2 q s2) sz)) (F0 m 19 ls []) := by
    intro e78 k78 n
    induction n with
    | zero =>
      intro t0 t1 z3 z4 H locs ls h
      exact h.elim
    | succ n ih =>
      intro t0 t1 z3 z4 H locs ls h hP hD hS hl
      have hP : va_P D vwCl [((a0 0), .inr (3, [.ref (a0 1), .ref (a0 2), .ref (a0 3), .ref (a0 4), .ref (a0 5), .ref (a0 6), .ref (a0 7), .int (t0.1 0), .int (t0.1 1), .int (t0.1 2)])), ((a0 1), .inl (q 0, 80, .inl (t0.2 0))), ((a0 2), .inl (q 0, 80, .inl (t0.2 1))), ((a0 3), .inl (q 0, 80, .inl (t0.2 2))), ((a0 4), .inl (q 0, 80, .inl (t0.2 3))), ((a0 5), .inl (q 0, 80, .inl (t0.2 4))), ((a0 6), .inl (q 0, 3, .inl (t0.2 5))), ((a0 7), .inl (q 0, 3, .inl (t0.2 6))), ((a1 0), .inr (4, [.ref (a1 1), .int (t1.1 0), .int (t1.1 1), .int (t1.1 2), .int (t1.1 3), .int (t1.1 4), .int (t1.1 5)])), ((a1 1), .inl (q 0, 400, .inl t1.2)), ((a2 0), .inr (0, [.int (s2.1 0), .int (s2.1 1), .int (s2.1 2), .int (s2.1 3), .int (s2.1 4), .int (s2.1 5), .ref (a2 1), .ref (a2 2), .ref (a2 3), .ref (a2 4), .ref (a2 5), .ref (a2 6), .ref (a2 7), .ref (a2 8), .ref (a2 9), .ref (a2 10), .ref (a2 11), .ref (a2 12)])), ((a2 1), .inl (q 0, 4, .inl (s2.2.1 0))), ((a2 2), .inl (q 0, 4, .inl (s2.2.1 1))), ((a2 3), .inl (q 0, 160, .inl (s2.2.1 2))), ((a2 4), .inl (q 0, 40, .inl (s2.2.1 3))), ((a2 5), .inl (q 0, 40, .inl (s2.2.1 4))), ((a2 6), .inl (q 0, 40, .inl (s2.2.1 5))), ((a2 7), .inl (q 0, 40, .inl (s2.2.1 6))), ((a2 8), .inl (q 0, 40, .inl (s2.2.1 7))), ((a2 9), .inl (q 0, 40, .inl (s2.2.1 8))), ((a2 10), .inl (q 0, 40, .inl (s2.2.1 9))), ((a2 11), .inl (q 1, 40, .inr (.inl s2.2.2.1))), ((a2 12), .inl (q 0, s2.2.2.2.1, .inl s2.2.2.2.2))] H := hP
      have hD : va_D _ [((a0 0), .inr (3, [.ref (a0 1), .ref (a0 2), .ref (a0 3), .ref (a0 4), .ref (a0 5), .ref (a0 6), .ref (a0 7), .int (t0.1 0), .int (t0.1 1), .int (t0.1 2)])), ((a0 1), .inl (q 0, 80, .inl (t0.2 0))), ((a0 2), .inl (q 0, 80, .inl (t0.2 1))), ((a0 3), .inl (q 0, 80, .inl (t0.2 2))), ((a0 4), .inl (q 0, 80, .inl (t0.2 3))), ((a0 5), .inl (q 0, 80, .inl (t0.2 4))), ((a0 6), .inl (q 0, 3, .inl (t0.2 5))), ((a0 7), .inl (q 0, 3, .inl (t0.2 6))), ((a1 0), .inr (4, [.ref (a1 1), .int (t1.1 0), .int (t1.1 1), .int (t1.1 2), .int (t1.1 3), .int (t1.1 4), .int (t1.1 5)])), ((a1 1), .inl (q 0, 400, .inl t1.2)), ((a2 0), .inr (0, [.int (s2.1 0), .int (s2.1 1), .int (s2.1 2), .int (s2.1 3), .int (s2.1 4), .int (s2.1 5), .ref (a2 1), .ref (a2 2), .ref (a2 3), .ref (a2 4), .ref (a2 5), .ref (a2 6), .ref (a2 7), .ref (a2 8), .ref (a2 9), .ref (a2 10), .ref (a2 11), .ref (a2 12)])), ((a2 1), .inl (q 0, 4, .inl (s2.2.1 0))), ((a2 2), .inl (q 0, 4, .inl (s2.2.1 1))), ((a2 3), .inl (q 0, 160, .inl (s2.2.1 2))), ((a2 4), .inl (q 0, 40, .inl (s2.2.1 3))), ((a2 5), .inl (q 0, 40, .inl (s2.2.1 4))), ((a2 6), .inl (q 0, 40, .inl (s2.2.1 5))), ((a2 7), .inl (q 0, 40, .inl (s2.2.1 6))), ((a2 8), .inl (q 0, 40, .inl (s2.2.1 7))), ((a2 9), .inl (q 0, 40, .inl (s2.2.1 8))), ((a2 10), .inl (q 0, 40, .inl (s2.2.1 9))), ((a2 11), .inl (q 1, 40, .inr (.inl s2.2.2.1))), ((a2 12), .inl (q 0, s2.2.2.2.1, .inl s2.2.2.2.2))] := hD
      unfold wp_X4_readFrom_L19 at h
      refine lv_iload hx hb dX4_readFrom_19 (lv_at hl 1 rfl) ?_
      refine lv_bipush (v := 80) hx hb dX4_readFrom_21 (by decide) ?_
      refine lv_icmp_ge (tgt := 78) hx hb dX4_readFrom_23 (by decide) (fun c_3 => ?_) (fun c_3 => ?_)
      · replace h := h.1 c_3
        exact k78 _ _ _ _ _ _ ls h (hP.sub (ws' := pg_w a0 q t0 ++ tp_w a1 q t1 ++ bd_w a2 q s2) [0, 1, 2, 3, 4, 5, 6, 7, 8, 9, 10, 11, 12, 13, 14, 15, 16, 17, 18, 19, 20, 21, 22] rfl) (hD.sub (ws' := pg_w a0 q t0 ++ tp_w a1 q t1 ++ bd_w a2 q s2) [0, 1, 2, 3, 4, 5, 6, 7, 8, 9, 10, 11, 12, 13, 14, 15, 16, 17, 18, 19, 20, 21, 22] (by decide) rfl) hS (lv_sub hl [0, 1, 2, 3, 4] rfl)
      · replace h := h.2 c_3
        refine lv_iload_n hx hb dX4_readFrom_26 rfl (lv_at hl 0 rfl) ?_
        refine lv_if_eq (tgt := 78) hx hb dX4_readFrom_27 (by decide) (fun c_4 => ?_) (fun c_4 => ?_)
        · replace h := h.1 c_4
          exact k78 _ _ _ _ _ _ ls h (hP.sub (ws' := pg_w a0 q t0 ++ tp_w a1 q t1 ++ bd_w a2 q s2) [0, 1, 2, 3, 4, 5, 6, 7, 8, 9, 10, 11, 12, 13, 14, 15, 16, 17, 18, 19, 20, 21, 22] rfl) (hD.sub (ws' := pg_w a0 q t0 ++ tp_w a1 q t1 ++ bd_w a2 q s2) [0, 1, 2, 3, 4, 5, 6, 7, 8, 9, 10, 11, 12, 13, 14, 15, 16, 17, 18, 19, 20, 21, 22] (by decide) rfl) hS (lv_sub hl [0, 1, 2, 3, 4] rfl)
        · replace h := h.2 c_4
          refine lv_aload_n hx hb dX4_readFrom_30 rfl (lv_at hl 3 rfl) ?_
          refine mt_goi (mt_wV (wc := tp_w a1 q t1) (As := []) (rest := []) hx hb hml hown ht (c2_X5_takeWord h) wd_X5_takeWord mw_794 hQ hV hS hA (hP.sub [8, 9] rfl) (hD.sub [8, 9] (by decide) rfl) rfl rfl rfl hl.1 rfl (Nat.le_of_ble_eq_true rfl) dX4_readFrom_31 ⟨Nat.le_of_ble_eq_true rfl, Nat.le_of_ble_eq_true rfl, rfl, rfl⟩ ⟨Nat.le_of_ble_eq_true rfl, Nat.le_of_ble_eq_true rfl⟩) (wr := [((a0 0), .inr (3, [.ref (a0 1), .ref (a0 2), .ref (a0 3), .ref (a0 4), .ref (a0 5), .ref (a0 6), .ref (a0 7), .int (t0.1 0), .int (t0.1 1), .int (t0.1 2)])), ((a0 1), .inl (q 0, 80, .inl (t0.2 0))), ((a0 2), .inl (q 0, 80, .inl (t0.2 1))), ((a0 3), .inl (q 0, 80, .inl (t0.2 2))), ((a0 4), .inl (q 0, 80, .inl (t0.2 3))), ((a0 5), .inl (q 0, 80, .inl (t0.2 4))), ((a0 6), .inl (q 0, 3, .inl (t0.2 5))), ((a0 7), .inl (q 0, 3, .inl (t0.2 6))), ((a2 0), .inr (0, [.int (s2.1 0), .int (s2.1 1), .int (s2.1 2), .int (s2.1 3), .int (s2.1 4), .int (s2.1 5), .ref (a2 1), .ref (a2 2), .ref (a2 3), .ref (a2 4), .ref (a2 5), .ref (a2 6), .ref (a2 7), .ref (a2 8), .ref (a2 9), .ref (a2 10), .ref (a2 11), .ref (a2 12)])), ((a2 1), .inl (q 0, 4, .inl (s2.2.1 0))), ((a2 2), .inl (q 0, 4, .inl (s2.2.1 1))), ((a2 3), .inl (q 0, 160, .inl (s2.2.1 2))), ((a2 4), .inl (q 0, 40, .inl (s2.2.1 3))), ((a2 5), .inl (q 0, 40, .inl (s2.2.1 4))), ((a2 6), .inl (q 0, 40, .inl (s2.2.1 5))), ((a2 7), .inl (q 0, 40, .inl (s2.2.1 6))), ((a2 8), .inl (q 0, 40, .inl (s2.2.1 7))), ((a2 9), .inl (q 0, 40, .inl (s2.2.1 8))), ((a2 10), .inl (q 0, 40, .inl (s2.2.1 9))), ((a2 11), .inl (q 1, 40, .inr (.inl s2.2.2.1))), ((a2 12), .inl (q 0, s2.2.2.2.1, .inl s2.2.2.2.2))]) hP hD hS hA [8, 9] [0, 1, 2, 3, 4, 5, 6, 7, 10, 11, 12, 13, 14, 15, 16, 17, 18, 19, 20, 21, 22] rfl rfl (by decide) (by decide) (fun r_5 u_6 H locs h hP hD hS => ?_)
          try dsimp only at h
          have hP : va_P D vwCl [((a0 0), .inr (3, [.ref (a0 1), .ref (a0 2), .ref (a0 3), .ref (a0 4), .ref (a0 5), .ref (a0 6), .ref (a0 7), .int (t0.1 0), .int (t0.1 1), .int (t0.1 2)])), ((a0 1), .inl (q 0, 80, .inl (t0.2 0))), ((a0 2), .inl (q 0, 80, .inl (t0.2 1))), ((a0 3), .inl (q 0, 80, .inl (t0.2 2))), ((a0 4), .inl (q 0, 80, .inl (t0.2 3))), ((a0 5), .inl (q 0, 80, .inl (t0.2 4))), ((a0 6), .inl (q 0, 3, .inl (t0.2 5))), ((a0 7), .inl (q 0, 3, .inl (t0.2 6))), ((a2 0), .inr (0, [.int (s2.1 0), .int (s2.1 1), .int (s2.1 2), .int (s2.1 3), .int (s2.1 4), .int (s2.1 5), .ref (a2 1), .ref (a2 2), .ref (a2 3), .ref (a2 4), .ref (a2 5), .ref (a2 6), .ref (a2 7), .ref (a2 8), .ref (a2 9), .ref (a2 10), .ref (a2 11), .ref (a2 12)])), ((a2 1), .inl (q 0, 4, .inl (s2.2.1 0))), ((a2 2), .inl (q 0, 4, .inl (s2.2.1 1))), ((a2 3), .inl (q 0, 160, .inl (s2.2.1 2))), ((a2 4), .inl (q 0, 40, .inl (s2.2.1 3))), ((a2 5), .inl (q 0, 40, .inl (s2.2.1 4))), ((a2 6), .inl (q 0, 40, .inl (s2.2.1 5))), ((a2 7), .inl (q 0, 40, .inl (s2.2.1 6))), ((a2 8), .inl (q 0, 40, .inl (s2.2.1 7))), ((a2 9), .inl (q 0, 40, .inl (s2.2.1 8))), ((a2 10), .inl (q 0, 40, .inl (s2.2.1 9))), ((a2 11), .inl (q 1, 40, .inr (.inl s2.2.2.1))), ((a2 12), .inl (q 0, s2.2.2.2.1, .inl s2.2.2.2.2)), ((a1 0), .inr (4, [.ref (a1 1), .int (u_6.1 0), .int (u_6.1 1), .int (u_6.1 2), .int (u_6.1 3), .int (u_6.1 4), .int (u_6.1 5)])), ((a1 1), .inl (q 0, 400, .inl u_6.2))] H := hP
          have hD : va_D _ [((a0 0), .inr (3, [.ref (a0 1), .ref (a0 2), .ref (a0 3), .ref (a0 4), .ref (a0 5), .ref (a0 6), .ref (a0 7), .int (t0.1 0), .int (t0.1 1), .int (t0.1 2)])), ((a0 1), .inl (q 0, 80, .inl (t0.2 0))), ((a0 2), .inl (q 0, 80, .inl (t0.2 1))), ((a0 3), .inl (q 0, 80, .inl (t0.2 2))), ((a0 4), .inl (q 0, 80, .inl (t0.2 3))), ((a0 5), .inl (q 0, 80, .inl (t0.2 4))), ((a0 6), .inl (q 0, 3, .inl (t0.2 5))), ((a0 7), .inl (q 0, 3, .inl (t0.2 6))), ((a2 0), .inr (0, [.int (s2.1 0), .int (s2.1 1), .int (s2.1 2), .int (s2.1 3), .int (s2.1 4), .int (s2.1 5), .ref (a2 1), .ref (a2 2), .ref (a2 3), .ref (a2 4), .ref (a2 5), .ref (a2 6), .ref (a2 7), .ref (a2 8), .ref (a2 9), .ref (a2 10), .ref (a2 11), .ref (a2 12)])), ((a2 1), .inl (q 0, 4, .inl (s2.2.1 0))), ((a2 2), .inl (q 0, 4, .inl (s2.2.1 1))), ((a2 3), .inl (q 0, 160, .inl (s2.2.1 2))), ((a2 4), .inl (q 0, 40, .inl (s2.2.1 3))), ((a2 5), .inl (q 0, 40, .inl (s2.2.1 4))), ((a2 6), .inl (q 0, 40, .inl (s2.2.1 5))), ((a2 7), .inl (q 0, 40, .inl (s2.2.1 6))), ((a2 8), .inl (q 0, 40, .inl (s2.2.1 7))), ((a2 9), .inl (q 0, 40, .inl (s2.2.1 8))), ((a2 10), .inl (q 0, 40, .inl (s2.2.1 9))), ((a2 11), .inl (q 1, 40, .inr (.inl s2.2.2.1))), ((a2 12), .inl (q 0, s2.2.2.2.1, .inl s2.2.2.2.2)), ((a1 0), .inr (4, [.ref (a1 1), .int (u_6.1 0), .int (u_6.1 1), .int (u_6.1 2), .int (u_6.1 3), .int (u_6.1 4), .int (u_6.1 5)])), ((a1 1), .inl (q 0, 400, .inl u_6.2))] := hD
          refine lv_istore (lv' := [(5, .int r_5), (3, .int z3), (4, .int z4), (0, .ref (a0 0)), (1, .ref (a1 0)), (2, .ref (a2 0))]) hx hb dX4_readFrom_34 hl (by decide) rfl (fun ls hl => ?_)
          refine lv_aload_n hx hb dX4_readFrom_36 rfl (lv_at hl 3 rfl) ?_
          refine lv_iload hx hb dX4_readFrom_37 (lv_at hl 0 rfl) ?_
          refine lv_aload_n hx hb dX4_readFrom_39 rfl (lv_at hl 4 rfl) ?_
          refine lv_aload_n hx hb dX4_readFrom_40 rfl (lv_at hl 5 rfl) ?_
          refine mt_gov (mt_wV (wc := pg_w a0 q t0 ++ tp_w a1 q u_6 ++ bd_w a2 q s2) (As := [.int r_5, .ref (a1 0), .ref (a2 0)]) (rest := []) hx hb hml hown ht (c2_X4_readStep h) wd_X4_readStep mw_795 hQ hV hS hA (hP.sub [0, 1, 2, 3, 4, 5, 6, 7, 21, 22, 8, 9, 10, 11, 12, 13, 14, 15, 16, 17, 18, 19, 20] rfl) (hD.sub [0, 1, 2, 3, 4, 5, 6, 7, 21, 22, 8, 9, 10, 11, 12, 13, 14, 15, 16, 17, 18, 19, 20] (by decide) rfl) rfl rfl rfl hl.1 rfl (Nat.le_of_ble_eq_true rfl) dX4_readFrom_41 ⟨Nat.le_of_ble_eq_true rfl, Nat.le_of_ble_eq_true rfl, rfl, rfl⟩ ⟨Nat.le_of_ble_eq_true rfl, Nat.le_of_ble_eq_true rfl⟩) (wr := []) hP hD hS hA [0, 1, 2, 3, 4, 5, 6, 7, 21, 22, 8, 9, 10, 11, 12, 13, 14, 15, 16, 17, 18, 19, 20] [] rfl rfl (by decide) (by decide) (fun u_8 H locs h hP hD hS => ?_)
          obtain ⟨u_8a, u_8b⟩ := u_8
          try dsimp only at h
          have hP : va_P D vwCl [((a0 0), .inr (3, [.ref (a0 1), .ref (a0 2), .ref (a0 3), .ref (a0 4), .ref (a0 5), .ref (a0 6), .ref (a0 7), .int (u_8a.1 0), .int (u_8a.1 1), .int (u_8a.1 2)])), ((a0 1), .inl (q 0, 80, .inl (u_8a.2 0))), ((a0 2), .inl (q 0, 80, .inl (u_8a.2 1))), ((a0 3), .inl (q 0, 80, .inl (u_8a.2 2))), ((a0 4), .inl (q 0, 80, .inl (u_8a.2 3))), ((a0 5), .inl (q 0, 80, .inl (u_8a.2 4))), ((a0 6), .inl (q 0, 3, .inl (u_8a.2 5))), ((a0 7), .inl (q 0, 3, .inl (u_8a.2 6))), ((a1 0), .inr (4, [.ref (a1 1), .int (u_8b.1 0), .int (u_8b.1 1), .int (u_8b.1 2), .int (u_8b.1 3), .int (u_8b.1 4), .int (u_8b.1 5)])), ((a1 1), .inl (q 0, 400, .inl u_8b.2)), ((a2 0), .inr (0, [.int (s2.1 0), .int (s2.1 1), .int (s2.1 2), .int (s2.1 3), .int (s2.1 4), .int (s2.1 5), .ref (a2 1), .ref (a2 2), .ref (a2 3), .ref (a2 4), .ref (a2 5), .ref (a2 6), .ref (a2 7), .ref (a2 8), .ref (a2 9), .ref (a2 10), .ref (a2 11), .ref (a2 12)])), ((a2 1), .inl (q 0, 4, .inl (s2.2.1 0))), ((a2 2), .inl (q 0, 4, .inl (s2.2.1 1))), ((a2 3), .inl (q 0, 160, .inl (s2.2.1 2))), ((a2 4), .inl (q 0, 40, .inl (s2.2.1 3))), ((a2 5), .inl (q 0, 40, .inl (s2.2.1 4))), ((a2 6), .inl (q 0, 40, .inl (s2.2.1 5))), ((a2 7), .inl (q 0, 40, .inl (s2.2.1 6))), ((a2 8), .inl (q 0, 40, .inl (s2.2.1 7))), ((a2 9), .inl (q 0, 40, .inl (s2.2.1 8))), ((a2 10), .inl (q 0, 40, .inl (s2.2.1 9))), ((a2 11), .inl (q 1, 40, .inr (.inl s2.2.2.1))), ((a2 12), .inl (q 0, s2.2.2.2.1, .inl s2.2.2.2.2))] H := hP
          have hD : va_D _ [((a0 0), .inr (3, [.ref (a0 1), .ref (a0 2), .ref (a0 3), .ref (a0 4), .ref (a0 5), .ref (a0 6), .ref (a0 7), .int (u_8a.1 0), .int (u_8a.1 1), .int (u_8a.1 2)])), ((a0 1), .inl (q 0, 80, .inl (u_8a.2 0))), ((a0 2), .inl (q 0, 80, .inl (u_8a.2 1))), ((a0 3), .inl (q 0, 80, .inl (u_8a.2 2))), ((a0 4), .inl (q 0, 80, .inl (u_8a.2 3))), ((a0 5), .inl (q 0, 80, .inl (u_8a.2 4))), ((a0 6), .inl (q 0, 3, .inl (u_8a.2 5))), ((a0 7), .inl (q 0, 3, .inl (u_8a.2 6))), ((a1 0), .inr (4, [.ref (a1 1), .int (u_8b.1 0), .int (u_8b.1 1), .int (u_8b.1 2), .int (u_8b.1 3), .int (u_8b.1 4), .int (u_8b.1 5)])), ((a1 1), .inl (q 0, 400, .inl u_8b.2)), ((a2 0), .inr (0, [.int (s2.1 0), .int (s2.1 1), .int (s2.1 2), .int (s2.1 3), .int (s2.1 4), .int (s2.1 5), .ref (a2 1), .ref (a2 2), .ref (a2 3), .ref (a2 4), .ref (a2 5), .ref (a2 6), .ref (a2 7), .ref (a2 8), .ref (a2 9), .ref (a2 10), .ref (a2 11), .ref (a2 12)])), ((a2 1), .inl (q 0, 4, .inl (s2.2.1 0))), ((a2 2), .inl (q 0, 4, .inl (s2.2.1 1))), ((a2 3), .inl (q 0, 160, .inl (s2.2.1 2))), ((a2 4), .inl (q 0, 40, .inl (s2.2.1 3))), ((a2 5), .inl (q 0, 40, .inl (s2.2.1 4))), ((a2 6), .inl (q 0, 40, .inl (s2.2.1 5))), ((a2 7), .inl (q 0, 40, .inl (s2.2.1 6))), ((a2 8), .inl (q 0, 40, .inl (s2.2.1 7))), ((a2 9), .inl (q 0, 40, .inl (s2.2.1 8))), ((a2 10), .inl (q 0, 40, .inl (s2.2.1 9))), ((a2 11), .inl (q 1, 40, .inr (.inl s2.2.2.1))), ((a2 12), .inl (q 0, s2.2.2.2.1, .inl s2.2.2.2.2))] := hD
          refine lv_aload_n hx hb dX4_readFrom_44 rfl (lv_at hl 4 rfl) ?_
          refine vp_callSi (rd_wV (wc := tp_w a1 q u_8b) (As := []) (rest := []) hx hb hml hown ht (c2_X5_isSound h) wd_X5_isSound mw_809 hQ hV hS (hP.sub [8, 9] rfl) rfl rfl rfl hl.1 rfl (Nat.le_of_ble_eq_true rfl) dX4_readFrom_45 ⟨Nat.le_of_ble_eq_true rfl, Nat.le_of_ble_eq_true rfl, rfl, rfl⟩ ⟨Nat.le_of_ble_eq_true rfl, Nat.le_of_ble_eq_true rfl⟩) (fun r_9 h => ?_)
          try dsimp only at h
          refine lv_if_eq (tgt := 70) hx hb dX4_readFrom_48 (by decide) (fun c_11 => ?_) (fun c_11 => ?_)
          · replace h := h.1 c_11
            refine lv_iconst (v := 0) hx hb dX4_readFrom_70 (by decide) ?_
            refine lv_istore_n (lv' := [(3, .int 0), (5, .int r_5), (4, .int z4), (0, .ref (a0 0)), (1, .ref (a1 0)), (2, .ref (a2 0))]) hx hb dX4_readFrom_71 rfl hl (by decide) rfl (fun ls hl => ?_)
            refine lv_iinc (v := (z4 + 1)) (lv' := [(4, .int (z4 + 1)), (3, .int 0), (5, .int r_5), (0, .ref (a0 0)), (1, .ref (a1 0)), (2, .ref (a2 0))]) hx hb dX4_readFrom_72 hl (k := 2) rfl rfl (by decide) rfl (fun ls hl => ?_)
            refine lv_goto (tgt := 19) hx hb dX4_readFrom_75 (by decide) ?_
            exact ih _ _ _ _ _ _ ls h (hP.sub (ws' := pg_w a0 q u_8a ++ tp_w a1 q u_8b ++ bd_w a2 q s2) [0, 1, 2, 3, 4, 5, 6, 7, 8, 9, 10, 11, 12, 13, 14, 15, 16, 17, 18, 19, 20, 21, 22] rfl) (hD.sub (ws' := pg_w a0 q u_8a ++ tp_w a1 q u_8b ++ bd_w a2 q s2) [0, 1, 2, 3, 4, 5, 6, 7, 8, 9, 10, 11, 12, 13, 14, 15, 16, 17, 18, 19, 20, 21, 22] (by decide) rfl) hS (lv_sub hl [1, 0, 3, 4, 5] rfl)
          · replace h := h.2 c_11
            refine lv_iload hx hb dX4_readFrom_51 (lv_at hl 0 rfl) ?_
            refine lv_bipush (v := 12) hx hb dX4_readFrom_53 (by decide) ?_
            refine lv_icmp_eq (tgt := 66) hx hb dX4_readFrom_55 (by decide) (fun c_12 => ?_) (fun c_12 => ?_)
            · replace h := h.1 c_12
              refine lv_iconst (v := 1) hx hb dX4_readFrom_66 (by decide) ?_
              refine lv_goto (tgt := 71) hx hb dX4_readFrom_67 (by decide) ?_
              refine lv_istore_n (lv' := [(3, .int 1), (5, .int r_5), (4, .int z4), (0, .ref (a0 0)), (1, .ref (a1 0)), (2, .ref (a2 0))]) hx hb dX4_readFrom_71 rfl hl (by decide) rfl (fun ls hl => ?_)
              refine lv_iinc (v := (z4 + 1)) (lv' := [(4, .int (z4 + 1)), (3, .int 1), (5, .int r_5), (0, .ref (a0 0)), (1, .ref (a1 0)), (2, .ref (a2 0))]) hx hb dX4_readFrom_72 hl (k := 2) rfl rfl (by decide) rfl (fun ls hl => ?_)
              refine lv_goto (tgt := 19) hx hb dX4_readFrom_75 (by decide) ?_
              exact ih _ _ _ _ _ _ ls h (hP.sub (ws' := pg_w a0 q u_8a ++ tp_w a1 q u_8b ++ bd_w a2 q s2) [0, 1, 2, 3, 4, 5, 6, 7, 8, 9, 10, 11, 12, 13, 14, 15, 16, 17, 18, 19, 20, 21, 22] rfl) (hD.sub (ws' := pg_w a0 q u_8a ++ tp_w a1 q u_8b ++ bd_w a2 q s2) [0, 1, 2, 3, 4, 5, 6, 7, 8, 9, 10, 11, 12, 13, 14, 15, 16, 17, 18, 19, 20, 21, 22] (by decide) rfl) hS (lv_sub hl [1, 0, 3, 4, 5] rfl)
            · replace h := h.2 c_12
              refine lv_aload_n hx hb dX4_readFrom_58 rfl (lv_at hl 3 rfl) ?_
              refine lv_aload_n hx hb dX4_readFrom_59 rfl (lv_at hl 4 rfl) ?_
              refine mt_goi (mt_wV (wc := pg_w a0 q u_8a ++ tp_w a1 q u_8b) (As := [.ref (a1 0)]) (rest := []) hx hb hml hown ht (c2_X4_goesOn h) wd_X4_goesOn mw_814 hQ hV hS hA (hP.sub [0, 1, 2, 3, 4, 5, 6, 7, 8, 9] rfl) (hD.sub [0, 1, 2, 3, 4, 5, 6, 7, 8, 9] (by decide) rfl) rfl rfl rfl hl.1 rfl (Nat.le_of_ble_eq_true rfl) dX4_readFrom_60 ⟨Nat.le_of_ble_eq_true rfl, Nat.le_of_ble_eq_true rfl, rfl, rfl⟩ ⟨Nat.le_of_ble_eq_true rfl, Nat.le_of_ble_eq_true rfl⟩) (wr := [((a2 0), .inr (0, [.int (s2.1 0), .int (s2.1 1), .int (s2.1 2), .int (s2.1 3), .int (s2.1 4), .int (s2.1 5), .ref (a2 1), .ref (a2 2), .ref (a2 3), .ref (a2 4), .ref (a2 5), .ref (a2 6), .ref (a2 7), .ref (a2 8), .ref (a2 9), .ref (a2 10), .ref (a2 11), .ref (a2 12)])), ((a2 1), .inl (q 0, 4, .inl (s2.2.1 0))), ((a2 2), .inl (q 0, 4, .inl (s2.2.1 1))), ((a2 3), .inl (q 0, 160, .inl (s2.2.1 2))), ((a2 4), .inl (q 0, 40, .inl (s2.2.1 3))), ((a2 5), .inl (q 0, 40, .inl (s2.2.1 4))), ((a2 6), .inl (q 0, 40, .inl (s2.2.1 5))), ((a2 7), .inl (q 0, 40, .inl (s2.2.1 6))), ((a2 8), .inl (q 0, 40, .inl (s2.2.1 7))), ((a2 9), .inl (q 0, 40, .inl (s2.2.1 8))), ((a2 10), .inl (q 0, 40, .inl (s2.2.1 9))), ((a2 11), .inl (q 1, 40, .inr (.inl s2.2.2.1))), ((a2 12), .inl (q 0, s2.2.2.2.1, .inl s2.2.2.2.2))]) hP hD hS hA [0, 1, 2, 3, 4, 5, 6, 7, 8, 9] [10, 11, 12, 13, 14, 15, 16, 17, 18, 19, 20, 21, 22] rfl rfl (by decide) (by decide) (fun r_13 u_14 H locs h hP hD hS => ?_)
              obtain ⟨u_14a, u_14b⟩ := u_14
              try dsimp only at h
              have hP : va_P D vwCl [((a2 0), .inr (0, [.int (s2.1 0), .int (s2.1 1), .int (s2.1 2), .int (s2.1 3), .int (s2.1 4), .int (s2.1 5), .ref (a2 1), .ref (a2 2), .ref (a2 3), .ref (a2 4), .ref (a2 5), .ref (a2 6), .ref (a2 7), .ref (a2 8), .ref (a2 9), .ref (a2 10), .ref (a2 11), .ref (a2 12)])), ((a2 1), .inl (q 0, 4, .inl (s2.2.1 0))), ((a2 2), .inl (q 0, 4, .inl (s2.2.1 1))), ((a2 3), .inl (q 0, 160, .inl (s2.2.1 2))), ((a2 4), .inl (q 0, 40, .inl (s2.2.1 3))), ((a2 5), .inl (q 0, 40, .inl (s2.2.1 4))), ((a2 6), .inl (q 0, 40, .inl (s2.2.1 5))), ((a2 7), .inl (q 0, 40, .inl (s2.2.1 6))), ((a2 8), .inl (q 0, 40, .inl (s2.2.1 7))), ((a2 9), .inl (q 0, 40, .inl (s2.2.1 8))), ((a2 10), .inl (q 0, 40, .inl (s2.2.1 9))), ((a2 11), .inl (q 1, 40, .inr (.inl s2.2.2.1))), ((a2 12), .inl (q 0, s2.2.2.2.1, .inl s2.2.2.2.2)), ((a0 0), .inr (3, [.ref (a0 1), .ref (a0 2), .ref (a0 3), .ref (a0 4), .ref (a0 5), .ref (a0 6), .ref (a0 7), .int (u_14a.1 0), .int (u_14a.1 1), .int (u_14a.1 2)])), ((a0 1), .inl (q 0, 80, .inl (u_14a.2 0))), ((a0 2), .inl (q 0, 80, .inl (u_14a.2 1))), ((a0 3), .inl (q 0, 80, .inl (u_14a.2 2))), ((a0 4), .inl (q 0, 80, .inl (u_14a.2 3))), ((a0 5), .inl (q 0, 80, .inl (u_14a.2 4))), ((a0 6), .inl (q 0, 3, .inl (u_14a.2 5))), ((a0 7), .inl (q 0, 3, .inl (u_14a.2 6))), ((a1 0), .inr (4, [.ref (a1 1), .int (u_14b.1 0), .int (u_14b.1 1), .int (u_14b.1 2), .int (u_14b.1 3), .int (u_14b.1 4), .int (u_14b.1 5)])), ((a1 1), .inl (q 0, 400, .inl u_14b.2))] H := hP
              have hD : va_D _ [((a2 0), .inr (0, [.int (s2.1 0), .int (s2.1 1), .int (s2.1 2), .int (s2.1 3), .int (s2.1 4), .int (s2.1 5), .ref (a2 1), .ref (a2 2), .ref (a2 3), .ref (a2 4), .ref (a2 5), .ref (a2 6), .ref (a2 7), .ref (a2 8), .ref (a2 9), .ref (a2 10), .ref (a2 11), .ref (a2 12)])), ((a2 1), .inl (q 0, 4, .inl (s2.2.1 0))), ((a2 2), .inl (q 0, 4, .inl (s2.2.1 1))), ((a2 3), .inl (q 0, 160, .inl (s2.2.1 2))), ((a2 4), .inl (q 0, 40, .inl (s2.2.1 3))), ((a2 5), .inl (q 0, 40, .inl (s2.2.1 4))), ((a2 6), .inl (q 0, 40, .inl (s2.2.1 5))), ((a2 7), .inl (q 0, 40, .inl (s2.2.1 6))), ((a2 8), .inl (q 0, 40, .inl (s2.2.1 7))), ((a2 9), .inl (q 0, 40, .inl (s2.2.1 8))), ((a2 10), .inl (q 0, 40, .inl (s2.2.1 9))), ((a2 11), .inl (q 1, 40, .inr (.inl s2.2.2.1))), ((a2 12), .inl (q 0, s2.2.2.2.1, .inl s2.2.2.2.2)), ((a0 0), .inr (3, [.ref (a0 1), .ref (a0 2), .ref (a0 3), .ref (a0 4), .ref (a0 5), .ref (a0 6), .ref (a0 7), .int (u_14a.1 0), .int (u_14a.1 1), .int (u_14a.1 2)])), ((a0 1), .inl (q 0, 80, .inl (u_14a.2 0))), ((a0 2), .inl (q 0, 80, .inl (u_14a.2 1))), ((a0 3), .inl (q 0, 80, .inl (u_14a.2 2))), ((a0 4), .inl (q 0, 80, .inl (u_14a.2 3))), ((a0 5), .inl (q 0, 80, .inl (u_14a.2 4))), ((a0 6), .inl (q 0, 3, .inl (u_14a.2 5))), ((a0 7), .inl (q 0, 3, .inl (u_14a.2 6))), ((a1 0), .inr (4, [.ref (a1 1), .int (u_14b.1 0), .int (u_14b.1 1), .int (u_14b.1 2), .int (u_14b.1 3), .int (u_14b.1 4), .int (u_14b.1 5)])), ((a1 1), .inl (q 0, 400, .inl u_14b.2))] := hD
              refine lv_if_eq (tgt := 70) hx hb dX4_readFrom_63 (by decide) (fun c_15 => ?_) (fun c_15 => ?_)
              · replace h := h.1 c_15
                refine lv_iconst (v := 0) hx hb dX4_readFrom_70 (by decide) ?_
                refine lv_istore_n (lv' := [(3, .int 0), (5, .int r_5), (4, .int z4), (0, .ref (a0 0)), (1, .ref (a1 0)), (2, .ref (a2 0))]) hx hb dX4_readFrom_71 rfl hl (by decide) rfl (fun ls hl => ?_)
                refine lv_iinc (v := (z4 + 1)) (lv' := [(4, .int (z4 + 1)), (3, .int 0), (5, .int r_5), (0, .ref (a0 0)), (1, .ref (a1 0)), (2, .ref (a2 0))]) hx hb dX4_readFrom_72 hl (k := 2) rfl rfl (by decide) rfl (fun ls hl => ?_)
                refine lv_goto (tgt := 19) hx hb dX4_readFrom_75 (by decide) ?_
                exact ih _ _ _ _ _ _ ls h (hP.sub (ws' := pg_w a0 q u_14a ++ tp_w a1 q u_14b ++ bd_w a2 q s2) [13, 14, 15, 16, 17, 18, 19, 20, 21, 22, 0, 1, 2, 3, 4, 5, 6, 7, 8, 9, 10, 11, 12] rfl) (hD.sub (ws' := pg_w a0 q u_14a ++ tp_w a1 q u_14b ++ bd_w a2 q s2) [13, 14, 15, 16, 17, 18, 19, 20, 21, 22, 0, 1, 2, 3, 4, 5, 6, 7, 8, 9, 10, 11, 12] (by decide) rfl) hS (lv_sub hl [1, 0, 3, 4, 5] rfl)
              · replace h := h.2 c_15
                refine lv_iconst (v := 1) hx hb dX4_readFrom_66 (by decide) ?_
                refine lv_goto (tgt := 71) hx hb dX4_readFrom_67 (by decide) ?_
                refine lv_istore_n (lv' := [(3, .int 1), (5, .int r_5), (4, .int z4), (0, .ref (a0 0)), (1, .ref (a1 0)), (2, .ref (a2 0))]) hx hb dX4_readFrom_71 rfl hl (by decide) rfl (fun ls hl => ?_)
                refine lv_iinc (v := (z4 + 1)) (lv' := [(4, .int (z4 + 1)), (3, .int 1), (5, .int r_5), (0, .ref (a0 0)), (1, .ref (a1 0)), (2, .ref (a2 0))]) hx hb dX4_readFrom_72 hl (k := 2) rfl rfl (by decide) rfl (fun ls hl => ?_)
                refine lv_goto (tgt := 19) hx hb dX4_readFrom_75 (by decide) ?_
                exact ih _ _ _ _ _ _ ls h (hP.sub (ws' := pg_w a0 q u_14a ++ tp_w a1 q u_14b ++ bd_w a2 q s2) [13, 14, 15, 16, 17, 18, 19, 20, 21, 22, 0, 1, 2, 3, 4, 5, 6, 7, 8, 9, 10, 11, 12] rfl) (hD.sub (ws' := pg_w a0 q u_14a ++ tp_w a1 q u_14b ++ bd_w a2 q s2) [13, 14, 15, 16, 17, 18, 19, 20, 21, 22, 0, 1, 2, 3, 4, 5, 6, 7, 8, 9, 10, 11, 12] (by decide) rfl) hS (lv_sub hl [1, 0, 3, 4, 5] rfl)
  obtain ⟨n19, h⟩ := h
  refine lp19 _ ?_ n19 _ _ _ _ _ _ ls h (hP.sub (ws' := pg_w a0 q ((va_up (va_up s0.1 0 0) 1 0), s0.2) ++ tp_w a1 q u_2 ++ bd_w a2 q s2) [0, 1, 2, 3, 4, 5, 6, 7, 21, 22, 8, 9, 10, 11, 12, 13, 14, 15, 16, 17, 18, 19, 20] rfl) (hD.sub (ws' := pg_w a0 q ((va_up (va_up s0.1 0 0) 1 0), s0.2) ++ tp_w a1 q u_2 ++ bd_w a2 q s2) [0, 1, 2, 3, 4, 5, 6, 7, 21, 22, 8, 9, 10, 11, 12, 13, 14, 15, 16, 17, 18, 19, 20] (by decide) rfl) hS (lv_sub hl [1, 0, 2, 3, 4] rfl)
  · intro t0 t1 z3 z4 H locs ls h hP hD hS hl
    try dsimp only at h
    have hP : va_P D vwCl [((a0 0), .inr (3, [.ref (a0 1), .ref (a0 2), .ref (a0 3), .ref (a0 4), .ref (a0 5), .ref (a0 6), .ref (a0 7), .int (t0.1 0), .int (t0.1 1), .int (t0.1 2)])), ((a0 1), .inl (q 0, 80, .inl (t0.2 0))), ((a0 2), .inl (q 0, 80, .inl (t0.2 1))), ((a0 3), .inl (q 0, 80, .inl (t0.2 2))), ((a0 4), .inl (q 0, 80, .inl (t0.2 3))), ((a0 5), .inl (q 0, 80, .inl (t0.2 4))), ((a0 6), .inl (q 0, 3, .inl (t0.2 5))), ((a0 7), .inl (q 0, 3, .inl (t0.2 6))), ((a1 0), .inr (4, [.ref (a1 1), .int (t1.1 0), .int (t1.1 1), .int (t1.1 2), .int (t1.1 3), .int (t1.1 4), .int (t1.1 5)])), ((a1 1), .inl (q 0, 400, .inl t1.2)), ((a2 0), .inr (0, [.int (s2.1 0), .int (s2.1 1), .int (s2.1 2), .int (s2.1 3), .int (s2.1 4), .int (s2.1 5), .ref (a2 1), .ref (a2 2), .ref (a2 3), .ref (a2 4), .ref (a2 5), .ref (a2 6), .ref (a2 7), .ref (a2 8), .ref (a2 9), .ref (a2 10), .ref (a2 11), .ref (a2 12)])), ((a2 1), .inl (q 0, 4, .inl (s2.2.1 0))), ((a2 2), .inl (q 0, 4, .inl (s2.2.1 1))), ((a2 3), .inl (q 0, 160, .inl (s2.2.1 2))), ((a2 4), .inl (q 0, 40, .inl (s2.2.1 3))), ((a2 5), .inl (q 0, 40, .inl (s2.2.1 4))), ((a2 6), .inl (q 0, 40, .inl (s2.2.1 5))), ((a2 7), .inl (q 0, 40, .inl (s2.2.1 6))), ((a2 8), .inl (q 0, 40, .inl (s2.2.1 7))), ((a2 9), .inl (q 0, 40, .inl (s2.2.1 8))), ((a2 10), .inl (q 0, 40, .inl (s2.2.1 9))), ((a2 11), .inl (q 1, 40, .inr (.inl s2.2.2.1))), ((a2 12), .inl (q 0, s2.2.2.2.1, .inl s2.2.2.2.2))] H := hP
    have hD : va_D _ [((a0 0), .inr (3, [.ref (a0 1), .ref (a0 2), .ref (a0 3), .ref (a0 4), .ref (a0 5), .ref (a0 6), .ref (a0 7), .int (t0.1 0), .int (t0.1 1), .int (t0.1 2)])), ((a0 1), .inl (q 0, 80, .inl (t0.2 0))), ((a0 2), .inl (q 0, 80, .inl (t0.2 1))), ((a0 3), .inl (q 0, 80, .inl (t0.2 2))), ((a0 4), .inl (q 0, 80, .inl (t0.2 3))), ((a0 5), .inl (q 0, 80, .inl (t0.2 4))), ((a0 6), .inl (q 0, 3, .inl (t0.2 5))), ((a0 7), .inl (q 0, 3, .inl (t0.2 6))), ((a1 0), .inr (4, [.ref (a1 1), .int (t1.1 0), .int (t1.1 1), .int (t1.1 2), .int (t1.1 3), .int (t1.1 4), .int (t1.1 5)])), ((a1 1), .inl (q 0, 400, .inl t1.2)), ((a2 0), .inr (0, [.int (s2.1 0), .int (s2.1 1), .int (s2.1 2), .int (s2.1 3), .int (s2.1 4), .int (s2.1 5), .ref (a2 1), .ref (a2 2), .ref (a2 3), .ref (a2 4), .ref (a2 5), .ref (a2 6), .ref (a2 7), .ref (a2 8), .ref (a2 9), .ref (a2 10), .ref (a2 11), .ref (a2 12)])), ((a2 1), .inl (q 0, 4, .inl (s2.2.1 0))), ((a2 2), .inl (q 0, 4, .inl (s2.2.1 1))), ((a2 3), .inl (q 0, 160, .inl (s2.2.1 2))), ((a2 4), .inl (q 0, 40, .inl (s2.2.1 3))), ((a2 5), .inl (q 0, 40, .inl (s2.2.1 4))), ((a2 6), .inl (q 0, 40, .inl (s2.2.1 5))), ((a2 7), .inl (q 0, 40, .inl (s2.2.1 6))), ((a2 8), .inl (q 0, 40, .inl (s2.2.1 7))), ((a2 9), .inl (q 0, 40, .inl (s2.2.1 8))), ((a2 10), .inl (q 0, 40, .inl (s2.2.1 9))), ((a2 11), .inl (q 1, 40, .inr (.inl s2.2.2.1))), ((a2 12), .inl (q 0, s2.2.2.2.1, .inl s2.2.2.2.2))] := hD
    exact mt_vret (t0, t1) hx hb hr hk h (hP.sub (ws' := pg_w a0 q t0 ++ tp_w a1 q t1 ++ bd_w a2 q s2) [0, 1, 2, 3, 4, 5, 6, 7, 8, 9, 10, 11, 12, 13, 14, 15, 16, 17, 18, 19, 20, 21, 22] rfl) (hD.sub (ws' := pg_w a0 q t0 ++ tp_w a1 q t1 ++ bd_w a2 q s2) [0, 1, 2, 3, 4, 5, 6, 7, 8, 9, 10, 11, 12, 13, 14, 15, 16, 17, 18, 19, 20, 21, 22] (by decide) rfl) hS dX4_readFrom_78

def wp_X5_addNumber_L3 (post : Tp → Prop) (e49 : Tp → Int32 → Int32 → Prop) : Nat → Tp → Int32 → Int32 → Prop
  | 0, _, _, _ => False
  | n3 + 1, t0, z1, z2 => ((z2 < 0 → e49 t0 z1 z2) ∧ (¬ z2 < 0 → ((400 ≤ (t0.1 0) → wp_X5_addNumber_L3 post e49 n3 t0 z1 (z2 + (-8))) ∧ (¬ 400 ≤ (t0.1 0) → vp_in (t0.1 0) 400 ∧ wp_X5_addNumber_L3 post e49 n3 ((va_up t0.1 0 ((t0.1 0) + 1)), (upd t0.2 (Int32.toNatClampNeg (t0.1 0)) ((z1 >>> (z2 &&& 31)) &&& 255))) z1 (z2 + (-8))))))
def wp_X5_addNumber (post : Tp → Prop) (s0 : Tp) (x1 : Int32) : Prop := (∃ n3, wp_X5_addNumber_L3 post (fun t0 z1 z2 => post t0) n3 s0 x1 24)
set_option maxHeartbeats 4000000 in
set_option maxRecDepth 100000 in
theorem c2_X5_addNumber {l : Launch} {D : va_G} {q : Nat → ClassId} {sz : Nat} {a0 : Nat → Nat} {s0 : Tp} {x1 : Int32} {post : Tp → Prop} (h : wp_X5_addNumber post s0 x1) : Met l yX5_addNumber (Cond.code yX5_addNumber cX5_addNumber 3 none :: w_all) ({ frames := 0, cells := 0, slots := 0, locals := 0 } : Room) (mt_P D q [.ref (a0 0), .int x1] (tp_w a0 q s0) sz) (va_Qv (fun u : Tp => post u) (mt_B D (tp_w a0 q s0) sz (fun u : Tp => tp_w a0 q u)) (va_A (tp_w a0 q s0) sz)) 0 0 (va_A (tp_w a0 q s0) sz) := by
  refine mt_start (by decide) (Nat.le_of_ble_eq_true rfl) ?_
  intro p e s m below meth c ls hx hb hr hml hown ht hk hin hP hQ hD hA hS hV hl
  have hK := hQ.1
  have hown : s.vm.findClass RX5 = some m.cls := hown
  have hl : lv_has ls 3 [(0, .ref (a0 0)), (1, .int x1)] := hl
  have hP : va_P D vwCl [((a0 0), .inr (4, [.ref (a0 1), .int (s0.1 0), .int (s0.1 1), .int (s0.1 2), .int (s0.1 3), .int (s0.1 4), .int (s0.1 5)])), ((a0 1), .inl (q 0, 400, .inl s0.2))] s.heap := hP
  have hD : va_D _ [((a0 0), .inr (4, [.ref (a0 1), .int (s0.1 0), .int (s0.1 1), .int (s0.1 2), .int (s0.1 3), .int (s0.1 4), .int (s0.1 5)])), ((a0 1), .inl (q 0, 400, .inl s0.2))] := hD
  unfold wp_X5_addNumber at h
  refine lv_bipush (v := 24) hx hb dX5_addNumber_0 (by decide) ?_
  refine lv_istore_n (lv' := [(2, .int 24), (0, .ref (a0 0)), (1, .int x1)]) hx hb dX5_addNumber_2 rfl hl (by decide) rfl (fun ls hl => ?_)
  have lp3 : ∀ (e49 : Tp → Int32 → Int32 → Prop) (k49 : ∀ (t0 : Tp) (z1 : Int32) (z2 : Int32) (H : Heap) (locs : List Loc) (ls : Array Slot), e49 t0 z1 z2 → va_P D vwCl (tp_w a0 q t0) H → va_D (va_A (tp_w a0 q s0) sz) (tp_w a0 q t0) → va_S (va_A (tp_w a0 q s0) sz) s.heap H locs → lv_has ls 3 [(1, .int z1), (2, .int z2), (0, .ref (a0 0))] → W p l e ({ frames := 0, cells := 0, slots := 0, locals := 0 } : Room) s m [.ref (a0 0), .int x1].toArray below meth c H locs 0 0 (MQ below (va_Qv (fun u : Tp => post u) (mt_B D (tp_w a0 q s0) sz (fun u : Tp => tp_w a0 q u)) (va_A (tp_w a0 q s0) sz)) [.ref (a0 0), .int x1].toArray s 0 0 (va_A (tp_w a0 q s0) sz)) (F0 m 49 ls [])) (n : Nat) (t0 : Tp) (z1 : Int32) (z2 : Int32) (H : Heap) (locs : List Loc) (ls : Array Slot), wp_X5_addNumber_L3 post e49 n t0 z1 z2 → va_P D vwCl (tp_w a0 q t0) H → va_D (va_A (tp_w a0 q s0) sz) (tp_w a0 q t0) → va_S (va_A (tp_w a0 q s0) sz) s.heap H locs → lv_has ls 3 [(1, .int z1), (2, .int z2), (0, .ref (a0 0))] → W p l e ({ frames := 0, cells := 0, slots := 0, locals := 0 } : Room) s m [.ref (a0 0), .int x1].toArray below meth c H locs 0 0 (MQ below (va_Qv (fun u : Tp => post u) (mt_B D (tp_w a0 q s0) sz (fun u : Tp => tp_w a0 q u)) (va_A (tp_w a0 q s0) sz)) [.ref (a0 0), .int x1].toArray s 0 0 (va_A (tp_w a0 q s0) sz)) (F0 m 3 ls []) := by
    intro e49 k49 n
    induction n with
    | zero =>
      intro t0 z1 z2 H locs ls h
      exact h.elim
    | succ n ih =>
      intro t0 z1 z2 H locs ls h hP hD hS hl
      have hP : va_P D vwCl [((a0 0), .inr (4, [.ref (a0 1), .int (t0.1 0), .int (t0.1 1), .int (t0.1 2), .int (t0.1 3), .int (t0.1 4), .int (t0.1 5)])), ((a0 1), .inl (q 0, 400, .inl t0.2))] H := hP
      have hD : va_D _ [((a0 0), .inr (4, [.ref (a0 1), .int (t0.1 0), .int (t0.1 1), .int (t0.1 2), .int (t0.1 3), .int (t0.1 4), .int (t0.1 5)])), ((a0 1), .inl (q 0, 400, .inl t0.2))] := hD
      unfold wp_X5_addNumber_L3 at h
      refine lv_iload_n hx hb dX5_addNumber_3 rfl (lv_at hl 1 rfl) ?_
      refine lv_if_lt (tgt := 49) hx hb dX5_addNumber_4 (by decide) (fun c_1 => ?_) (fun c_1 => ?_)
      · replace h := h.1 c_1
        exact k49 _ _ _ _ _ ls h (hP.sub (ws' := tp_w a0 q t0) [0, 1] rfl) (hD.sub (ws' := tp_w a0 q t0) [0, 1] (by decide) rfl) hS (lv_sub hl [0, 1, 2] rfl)
      · replace h := h.2 c_1
        refine lv_aload_n hx hb dX5_addNumber_7 rfl (lv_at hl 2 rfl) ?_
        refine fl_get (C := RX5) (T := TX5) (N := 7) (ci := 4) (v := .int (t0.1 0)) hx hb ht in_X5 hown hK hP 0 rfl rfl 1 (by decide) mw_130 rfl dX5_addNumber_8 ?_
        refine lv_sipush (v := 400) hx hb dX5_addNumber_11 (by decide) ?_
        refine lv_icmp_ge (tgt := 43) hx hb dX5_addNumber_14 (by decide) (fun c_2 => ?_) (fun c_2 => ?_)
        · replace h := h.1 c_2
          refine lv_iinc (v := (z2 + (-8))) (lv' := [(2, .int (z2 + (-8))), (1, .int z1), (0, .ref (a0 0))]) hx hb dX5_addNumber_43 hl (k := 1) rfl rfl (by decide) rfl (fun ls hl => ?_)
          refine lv_goto (tgt := 3) hx hb dX5_addNumber_46 (by decide) ?_
          exact ih _ _ _ _ _ ls h (hP.sub (ws' := tp_w a0 q t0) [0, 1] rfl) (hD.sub (ws' := tp_w a0 q t0) [0, 1] (by decide) rfl) hS (lv_sub hl [1, 0, 2] rfl)
        · replace h := h.2 c_2
          refine lv_aload_n hx hb dX5_addNumber_17 rfl (lv_at hl 2 rfl) ?_
          refine fl_get (C := RX5) (T := TX5) (N := 7) (ci := 4) (v := .ref (a0 1)) hx hb ht in_X5 hown hK hP 0 rfl rfl 0 (by decide) mw_128 rfl dX5_addNumber_18 ?_
          refine lv_aload_n hx hb dX5_addNumber_21 rfl (lv_at hl 2 rfl) ?_
          refine fl_get (C := RX5) (T := TX5) (N := 7) (ci := 4) (v := .int (t0.1 0)) hx hb ht in_X5 hown hK hP 0 rfl rfl 1 (by decide) mw_130 rfl dX5_addNumber_22 ?_
          refine lv_iload_n hx hb dX5_addNumber_25 rfl (lv_at hl 0 rfl) ?_
          refine lv_iload_n hx hb dX5_addNumber_26 rfl (lv_at hl 1 rfl) ?_
          refine lv_ishr hx hb dX5_addNumber_27 ?_
          refine lv_sipush (v := 255) hx hb dX5_addNumber_28 (by decide) ?_
          refine lv_iand hx hb dX5_addNumber_31 ?_
          obtain ⟨g_3, h⟩ := h
          refine va_iast hx hb hK hP hD hS 1 0 rfl rfl g_3 dX5_addNumber_32 (fun H locs hP hD hS => ?_)
          have hP : va_P D vwCl [((a0 0), .inr (4, [.ref (a0 1), .int (t0.1 0), .int (t0.1 1), .int (t0.1 2), .int (t0.1 3), .int (t0.1 4), .int (t0.1 5)])), ((a0 1), .inl (q 0, 400, .inl (upd t0.2 (Int32.toNatClampNeg (t0.1 0)) ((z1 >>> (z2 &&& 31)) &&& 255))))] H := hP
          have hD : va_D _ [((a0 0), .inr (4, [.ref (a0 1), .int (t0.1 0), .int (t0.1 1), .int (t0.1 2), .int (t0.1 3), .int (t0.1 4), .int (t0.1 5)])), ((a0 1), .inl (q 0, 400, .inl (upd t0.2 (Int32.toNatClampNeg (t0.1 0)) ((z1 >>> (z2 &&& 31)) &&& 255))))] := hD
          refine lv_aload_n hx hb dX5_addNumber_33 rfl (lv_at hl 2 rfl) ?_
          refine lv_dup hx hb dX5_addNumber_34 rfl ?_
          refine fl_get (C := RX5) (T := TX5) (N := 7) (ci := 4) (v := .int (t0.1 0)) hx hb ht in_X5 hown hK hP 0 rfl rfl 1 (by decide) mw_130 rfl dX5_addNumber_35 ?_
          refine lv_iconst (v := 1) hx hb dX5_addNumber_38 (by decide) ?_
          refine lv_iadd hx hb dX5_addNumber_39 ?_
          refine fl_put (C := RX5) (T := TX5) (N := 7) (ci := 4) (v := .int ((t0.1 0) + 1)) (ws2 := [((a0 0), .inr (4, [.ref (a0 1), .int ((t0.1 0) + 1), .int (t0.1 1), .int (t0.1 2), .int (t0.1 3), .int (t0.1 4), .int (t0.1 5)])), ((a0 1), .inl (q 0, 400, .inl (upd t0.2 (Int32.toNatClampNeg (t0.1 0)) ((z1 >>> (z2 &&& 31)) &&& 255))))]) hx hb ht in_X5 tyX5_ok nmX5 hown hK hP hD hS 0 rfl rfl 1 (by decide) mw_130 rfl rfl rfl (Nat.le_of_ble_eq_true rfl) dX5_addNumber_40 rfl (fun H locs hP hD hS => ?_)
          refine lv_iinc (v := (z2 + (-8))) (lv' := [(2, .int (z2 + (-8))), (1, .int z1), (0, .ref (a0 0))]) hx hb dX5_addNumber_43 hl (k := 1) rfl rfl (by decide) rfl (fun ls hl => ?_)
          refine lv_goto (tgt := 3) hx hb dX5_addNumber_46 (by decide) ?_
          exact ih _ _ _ _ _ ls h (hP.sub (ws' := tp_w a0 q ((va_up t0.1 0 ((t0.1 0) + 1)), (upd t0.2 (Int32.toNatClampNeg (t0.1 0)) ((z1 >>> (z2 &&& 31)) &&& 255)))) [0, 1] rfl) (hD.sub (ws' := tp_w a0 q ((va_up t0.1 0 ((t0.1 0) + 1)), (upd t0.2 (Int32.toNatClampNeg (t0.1 0)) ((z1 >>> (z2 &&& 31)) &&& 255)))) [0, 1] (by decide) rfl) hS (lv_sub hl [1, 0, 2] rfl)
  obtain ⟨n3, h⟩ := h
  refine lp3 _ ?_ n3 _ _ _ _ _ ls h (hP.sub (ws' := tp_w a0 q s0) [0, 1] rfl) (hD.sub (ws' := tp_w a0 q s0) [0, 1] (by decide) rfl) hS (lv_sub hl [2, 0, 1] rfl)
  · intro t0 z1 z2 H locs ls h hP hD hS hl
    try dsimp only at h
    have hP : va_P D vwCl [((a0 0), .inr (4, [.ref (a0 1), .int (t0.1 0), .int (t0.1 1), .int (t0.1 2), .int (t0.1 3), .int (t0.1 4), .int (t0.1 5)])), ((a0 1), .inl (q 0, 400, .inl t0.2))] H := hP
    have hD : va_D _ [((a0 0), .inr (4, [.ref (a0 1), .int (t0.1 0), .int (t0.1 1), .int (t0.1 2), .int (t0.1 3), .int (t0.1 4), .int (t0.1 5)])), ((a0 1), .inl (q 0, 400, .inl t0.2))] := hD
    exact mt_vret t0 hx hb hr hk h (hP.sub (ws' := tp_w a0 q t0) [0, 1] rfl) (hD.sub (ws' := tp_w a0 q t0) [0, 1] (by decide) rfl) hS dX5_addNumber_49

def wp_X6_feed (post : Int32 → Tp → Prop) (s1 : Tp) (x1 : Int32) (x2 : Int32) (x3 : Int32) (x4 : Int32) (x5 : Int32) : Prop := ((((s1.1 0) + 20) ≤ 400 → wp_X5_addNumber (fun u_3 => wp_X5_addNumber (fun u_5 => wp_X5_addNumber (fun u_7 => wp_X5_addNumber (fun u_9 => wp_X5_addNumber (fun u_11 => post (u_11.1 0) u_11) u_9 x5) u_7 x4) u_5 x3) u_3 x2) s1 x1) ∧ (¬ ((s1.1 0) + 20) ≤ 400 → post (-1) s1))
set_option maxHeartbeats 4000000 in
set_option maxRecDepth 100000 in
theorem c2_X6_feed {l : Launch} {D : va_G} {q : Nat → ClassId} {sz : Nat} {a0 a1 a2 a3 a4 a5 : Nat → Nat} {p8 s8 : Nat} {s1 : Tp} {x1 : Int32} {x2 : Int32} {x3 : Int32} {x4 : Int32} {x5 : Int32} {post : Int32 → Tp → Prop} (h : wp_X6_feed post s1 x1 x2 x3 x4 x5) : Met l yX6_feed (Cond.code yX6_feed cX6_feed 6 (some .int) :: w_all) ({ frames := 1, cells := 0, slots := 0, locals := 22 } : Room) (mt_P D q [.ref (a0 0), .int x1, .int x2, .int x3, .int x4, .int x5] (fo_w (a0 0) (a1 0) (a2 0) (a3 0) (a4 0) (a5 0) p8 s8 ++ tp_w a1 q s1) sz) (va_Qi (fun r (u : Tp) => post r u) (mt_B D (fo_w (a0 0) (a1 0) (a2 0) (a3 0) (a4 0) (a5 0) p8 s8 ++ tp_w a1 q s1) sz (fun u : Tp => fo_w (a0 0) (a1 0) (a2 0) (a3 0) (a4 0) (a5 0) p8 s8 ++ tp_w a1 q u)) (va_A (fo_w (a0 0) (a1 0) (a2 0) (a3 0) (a4 0) (a5 0) p8 s8 ++ tp_w a1 q s1) sz)) 0 0 (va_A (fo_w (a0 0) (a1 0) (a2 0) (a3 0) (a4 0) (a5 0) p8 s8 ++ tp_w a1 q s1) sz) := by
  refine mt_start (by decide) (Nat.le_of_ble_eq_true rfl) ?_
  intro p e s m below meth c ls hx hb hr hml hown ht hk hin hP hQ hD hA hS hV hl
  have hK := hQ.1
  have hown : s.vm.findClass RX6 = some m.cls := hown
  have hl : lv_has ls 6 [(0, .ref (a0 0)), (1, .int x1), (2, .int x2), (3, .int x3), (4, .int x4), (5, .int x5)] := hl
  have hP : va_P D vwCl [((a0 0), .inr (5, [.ref (a1 0), .ref (a2 0), .ref (a3 0), .ref (a4 0), .ref (a5 0), .ref p8, .ref s8])), ((a1 0), .inr (4, [.ref (a1 1), .int (s1.1 0), .int (s1.1 1), .int (s1.1 2), .int (s1.1 3), .int (s1.1 4), .int (s1.1 5)])), ((a1 1), .inl (q 0, 400, .inl s1.2))] s.heap := hP
  have hD : va_D _ [((a0 0), .inr (5, [.ref (a1 0), .ref (a2 0), .ref (a3 0), .ref (a4 0), .ref (a5 0), .ref p8, .ref s8])), ((a1 0), .inr (4, [.ref (a1 1), .int (s1.1 0), .int (s1.1 1), .int (s1.1 2), .int (s1.1 3), .int (s1.1 4), .int (s1.1 5)])), ((a1 1), .inl (q 0, 400, .inl s1.2))] := hD
  unfold wp_X6_feed at h
  refine lv_aload_n hx hb dX6_feed_0 rfl (lv_at hl 0 rfl) ?_
  refine fl_get (C := RX6) (T := TX6) (N := 7) (ci := 5) (v := .ref (a1 0)) hx hb ht in_X6 hown hK hP 0 rfl rfl 0 (by decide) mw_355 rfl dX6_feed_1 ?_
  refine fl_get (C := RX5) (T := TX5) (N := 7) (ci := 4) (v := .int (s1.1 0)) hx hb ht in_X5 hown hK hP 1 rfl rfl 1 (by decide) mw_129 rfl dX6_feed_4 ?_
  refine lv_bipush (v := 20) hx hb dX6_feed_7 (by decide) ?_
  refine lv_iadd hx hb dX6_feed_9 ?_
  refine lv_sipush (v := 400) hx hb dX6_feed_10 (by decide) ?_
  refine lv_icmp_le (tgt := 18) hx hb dX6_feed_13 (by decide) (fun c_1 => ?_) (fun c_1 => ?_)
  · replace h := h.1 c_1
    refine lv_aload_n hx hb dX6_feed_18 rfl (lv_at hl 0 rfl) ?_
    refine fl_get (C := RX6) (T := TX6) (N := 7) (ci := 5) (v := .ref (a1 0)) hx hb ht in_X6 hown hK hP 0 rfl rfl 0 (by decide) mw_355 rfl dX6_feed_19 ?_
    refine lv_iload_n hx hb dX6_feed_22 rfl (lv_at hl 1 rfl) ?_
    refine mt_gov (mt_wV (wc := tp_w a1 q s1) (As := [.int x1]) (rest := []) hx hb hml hown ht (c2_X5_addNumber h) wd_X5_addNumber mw_381 hQ hV hS hA (hP.sub [1, 2] rfl) (hD.sub [1, 2] (by decide) rfl) rfl rfl rfl hl.1 rfl (Nat.le_of_ble_eq_true rfl) dX6_feed_23 ⟨Nat.le_of_ble_eq_true rfl, Nat.le_of_ble_eq_true rfl, rfl, rfl⟩ ⟨Nat.le_of_ble_eq_true rfl, Nat.le_of_ble_eq_true rfl⟩) (wr := [((a0 0), .inr (5, [.ref (a1 0), .ref (a2 0), .ref (a3 0), .ref (a4 0), .ref (a5 0), .ref p8, .ref s8]))]) hP hD hS hA [1, 2] [0] rfl rfl (by decide) (by decide) (fun u_3 H locs h hP hD hS => ?_)
    try dsimp only at h
    have hP : va_P D vwCl [((a0 0), .inr (5, [.ref (a1 0), .ref (a2 0), .ref (a3 0), .ref (a4 0), .ref (a5 0), .ref p8, .ref s8])), ((a1 0), .inr (4, [.ref (a1 1), .int (u_3.1 0), .int (u_3.1 1), .int (u_3.1 2), .int (u_3.1 3), .int (u_3.1 4), .int (u_3.1 5)])), ((a1 1), .inl (q 0, 400, .inl u_3.2))] H := hP
    have hD : va_D _ [((a0 0), .inr (5, [.ref (a1 0), .ref (a2 0), .ref (a3 0), .ref (a4 0), .ref (a5 0), .ref p8, .ref s8])), ((a1 0), .inr (4, [.ref (a1 1), .int (u_3.1 0), .int (u_3.1 1), .int (u_3.1 2), .int (u_3.1 3), .int (u_3.1 4), .int (u_3.1 5)])), ((a1 1), .inl (q 0, 400, .inl u_3.2))] := hD
    refine lv_aload_n hx hb dX6_feed_26 rfl (lv_at hl 0 rfl) ?_
    refine fl_get (C := RX6) (T := TX6) (N := 7) (ci := 5) (v := .ref (a1 0)) hx hb ht in_X6 hown hK hP 0 rfl rfl 0 (by decide) mw_355 rfl dX6_feed_27 ?_
    refine lv_iload_n hx hb dX6_feed_30 rfl (lv_at hl 2 rfl) ?_
    refine mt_gov (mt_wV (wc := tp_w a1 q u_3) (As := [.int x2]) (rest := []) hx hb hml hown ht (c2_X5_addNumber h) wd_X5_addNumber mw_381 hQ hV hS hA (hP.sub [1, 2] rfl) (hD.sub [1, 2] (by decide) rfl) rfl rfl rfl hl.1 rfl (Nat.le_of_ble_eq_true rfl) dX6_feed_31 ⟨Nat.le_of_ble_eq_true rfl, Nat.le_of_ble_eq_true rfl, rfl, rfl⟩ ⟨Nat.le_of_ble_eq_true rfl, Nat.le_of_ble_eq_true rfl⟩) (wr := [((a0 0), .inr (5, [.ref (a1 0), .ref (a2 0), .ref (a3 0), .ref (a4 0), .ref (a5 0), .ref p8, .ref s8]))]) hP hD hS hA [1, 2] [0] rfl rfl (by decide) (by decide) (fun u_5 H locs h hP hD hS => ?_)
    try dsimp only at h
    have hP : va_P D vwCl [((a0 0), .inr (5, [.ref (a1 0), .ref (a2 0), .ref (a3 0), .ref (a4 0), .ref (a5 0), .ref p8, .ref s8])), ((a1 0), .inr (4, [.ref (a1 1), .int (u_5.1 0), .int (u_5.1 1), .int (u_5.1 2), .int (u_5.1 3), .int (u_5.1 4), .int (u_5.1 5)])), ((a1 1), .inl (q 0, 400, .inl u_5.2))] H := hP
    have hD : va_D _ [((a0 0), .inr (5, [.ref (a1 0), .ref (a2 0), .ref (a3 0), .ref (a4 0), .ref (a5 0), .ref p8, .ref s8])), ((a1 0), .inr (4, [.ref (a1 1), .int (u_5.1 0), .int (u_5.1 1), .int (u_5.1 2), .int (u_5.1 3), .int (u_5.1 4), .int (u_5.1 5)])), ((a1 1), .inl (q 0, 400, .inl u_5.2))] := hD
    refine lv_aload_n hx hb dX6_feed_34 rfl (lv_at hl 0 rfl) ?_
    refine fl_get (C := RX6) (T := TX6) (N := 7) (ci := 5) (v := .ref (a1 0)) hx hb ht in_X6 hown hK hP 0 rfl rfl 0 (by decide) mw_355 rfl dX6_feed_35 ?_
    refine lv_iload_n hx hb dX6_feed_38 rfl (lv_at hl 3 rfl) ?_
    refine mt_gov (mt_wV (wc := tp_w a1 q u_5) (As := [.int x3]) (rest := []) hx hb hml hown ht (c2_X5_addNumber h) wd_X5_addNumber mw_381 hQ hV hS hA (hP.sub [1, 2] rfl) (hD.sub [1, 2] (by decide) rfl) rfl rfl rfl hl.1 rfl (Nat.le_of_ble_eq_true rfl) dX6_feed_39 ⟨Nat.le_of_ble_eq_true rfl, Nat.le_of_ble_eq_true rfl, rfl, rfl⟩ ⟨Nat.le_of_ble_eq_true rfl, Nat.le_of_ble_eq_true rfl⟩) (wr := [((a0 0), .inr (5, [.ref (a1 0), .ref (a2 0), .ref (a3 0), .ref (a4 0), .ref (a5 0), .ref p8, .ref s8]))]) hP hD hS hA [1, 2] [0] rfl rfl (by decide) (by decide) (fun u_7 H locs h hP hD hS => ?_)
    try dsimp only at h
    have hP : va_P D vwCl [((a0 0), .inr (5, [.ref (a1 0), .ref (a2 0), .ref (a3 0), .ref (a4 0), .ref (a5 0), .ref p8, .ref s8])), ((a1 0), .inr (4, [.ref (a1 1), .int (u_7.1 0), .int (u_7.1 1), .int (u_7.1 2), .int (u_7.1 3), .int (u_7.1 4), .int (u_7.1 5)])), ((a1 1), .inl (q 0, 400, .inl u_7.2))] H := hP
    have hD : va_D _ [((a0 0), .inr (5, [.ref (a1 0), .ref (a2 0), .ref (a3 0), .ref (a4 0), .ref (a5 0), .ref p8, .ref s8])), ((a1 0), .inr (4, [.ref (a1 1), .int (u_7.1 0), .int (u_7.1 1), .int (u_7.1 2), .int (u_7.1 3), .int (u_7.1 4), .int (u_7.1 5)])), ((a1 1), .inl (q 0, 400, .inl u_7.2))] := hD
    refine lv_aload_n hx hb dX6_feed_42 rfl (lv_at hl 0 rfl) ?_
    refine fl_get (C := RX6) (T := TX6) (N := 7) (ci := 5) (v := .ref (a1 0)) hx hb ht in_X6 hown hK hP 0 rfl rfl 0 (by decide) mw_355 rfl dX6_feed_43 ?_
    refine lv_iload hx hb dX6_feed_46 (lv_at hl 4 rfl) ?_
    refine mt_gov (mt_wV (wc := tp_w a1 q u_7) (As := [.int x4]) (rest := []) hx hb hml hown ht (c2_X5_addNumber h) wd_X5_addNumber mw_381 hQ hV hS hA (hP.sub [1, 2] rfl) (hD.sub [1, 2] (by decide) rfl) rfl rfl rfl hl.1 rfl (Nat.le_of_ble_eq_true rfl) dX6_feed_48 ⟨Nat.le_of_ble_eq_true rfl, Nat.le_of_ble_eq_true rfl, rfl, rfl⟩ ⟨Nat.le_of_ble_eq_true rfl, Nat.le_of_ble_eq_true rfl⟩) (wr := [((a0 0), .inr (5, [.ref (a1 0), .ref (a2 0), .ref (a3 0), .ref (a4 0), .ref (a5 0), .ref p8, .ref s8]))]) hP hD hS hA [1, 2] [0] rfl rfl (by decide) (by decide) (fun u_9 H locs h hP hD hS => ?_)
    try dsimp only at h
    have hP : va_P D vwCl [((a0 0), .inr (5, [.ref (a1 0), .ref (a2 0), .ref (a3 0), .ref (a4 0), .ref (a5 0), .ref p8, .ref s8])), ((a1 0), .inr (4, [.ref (a1 1), .int (u_9.1 0), .int (u_9.1 1), .int (u_9.1 2), .int (u_9.1 3), .int (u_9.1 4), .int (u_9.1 5)])), ((a1 1), .inl (q 0, 400, .inl u_9.2))] H := hP
    have hD : va_D _ [((a0 0), .inr (5, [.ref (a1 0), .ref (a2 0), .ref (a3 0), .ref (a4 0), .ref (a5 0), .ref p8, .ref s8])), ((a1 0), .inr (4, [.ref (a1 1), .int (u_9.1 0), .int (u_9.1 1), .int (u_9.1 2), .int (u_9.1 3), .int (u_9.1 4), .int (u_9.1 5)])), ((a1 1), .inl (q 0, 400, .inl u_9.2))] := hD
    refine lv_aload_n hx hb dX6_feed_51 rfl (lv_at hl 0 rfl) ?_
    refine fl_get (C := RX6) (T := TX6) (N := 7) (ci := 5) (v := .ref (a1 0)) hx hb ht in_X6 hown hK hP 0 rfl rfl 0 (by decide) mw_355 rfl dX6_feed_52 ?_
    refine lv_iload hx hb dX6_feed_55 (lv_at hl 5 rfl) ?_
    refine mt_gov (mt_wV (wc := tp_w a1 q u_9) (As := [.int x5]) (rest := []) hx hb hml hown ht (c2_X5_addNumber h) wd_X5_addNumber mw_381 hQ hV hS hA (hP.sub [1, 2] rfl) (hD.sub [1, 2] (by decide) rfl) rfl rfl rfl hl.1 rfl (Nat.le_of_ble_eq_true rfl) dX6_feed_57 ⟨Nat.le_of_ble_eq_true rfl, Nat.le_of_ble_eq_true rfl, rfl, rfl⟩ ⟨Nat.le_of_ble_eq_true rfl, Nat.le_of_ble_eq_true rfl⟩) (wr := [((a0 0), .inr (5, [.ref (a1 0), .ref (a2 0), .ref (a3 0), .ref (a4 0), .ref (a5 0), .ref p8, .ref s8]))]) hP hD hS hA [1, 2] [0] rfl rfl (by decide) (by decide) (fun u_11 H locs h hP hD hS => ?_)
    try dsimp only at h
    have hP : va_P D vwCl [((a0 0), .inr (5, [.ref (a1 0), .ref (a2 0), .ref (a3 0), .ref (a4 0), .ref (a5 0), .ref p8, .ref s8])), ((a1 0), .inr (4, [.ref (a1 1), .int (u_11.1 0), .int (u_11.1 1), .int (u_11.1 2), .int (u_11.1 3), .int (u_11.1 4), .int (u_11.1 5)])), ((a1 1), .inl (q 0, 400, .inl u_11.2))] H := hP
    have hD : va_D _ [((a0 0), .inr (5, [.ref (a1 0), .ref (a2 0), .ref (a3 0), .ref (a4 0), .ref (a5 0), .ref p8, .ref s8])), ((a1 0), .inr (4, [.ref (a1 1), .int (u_11.1 0), .int (u_11.1 1), .int (u_11.1 2), .int (u_11.1 3), .int (u_11.1 4), .int (u_11.1 5)])), ((a1 1), .inl (q 0, 400, .inl u_11.2))] := hD
    refine lv_aload_n hx hb dX6_feed_60 rfl (lv_at hl 0 rfl) ?_
    refine fl_get (C := RX6) (T := TX6) (N := 7) (ci := 5) (v := .ref (a1 0)) hx hb ht in_X6 hown hK hP 0 rfl rfl 0 (by decide) mw_355 rfl dX6_feed_61 ?_
    refine fl_get (C := RX5) (T := TX5) (N := 7) (ci := 4) (v := .int (u_11.1 0)) hx hb ht in_X5 hown hK hP 1 rfl rfl 1 (by decide) mw_129 rfl dX6_feed_64 ?_
    exact mt_iret u_11 hx hb hr hk h (hP.sub (ws' := fo_w (a0 0) (a1 0) (a2 0) (a3 0) (a4 0) (a5 0) p8 s8 ++ tp_w a1 q u_11) [0, 1, 2] rfl) (hD.sub (ws' := fo_w (a0 0) (a1 0) (a2 0) (a3 0) (a4 0) (a5 0) p8 s8 ++ tp_w a1 q u_11) [0, 1, 2] (by decide) rfl) hS dX6_feed_67
  · replace h := h.2 c_1
    refine lv_iconst (v := (-1)) hx hb dX6_feed_16 (by decide) ?_
    exact mt_iret s1 hx hb hr hk h (hP.sub (ws' := fo_w (a0 0) (a1 0) (a2 0) (a3 0) (a4 0) (a5 0) p8 s8 ++ tp_w a1 q s1) [0, 1, 2] rfl) (hD.sub (ws' := fo_w (a0 0) (a1 0) (a2 0) (a3 0) (a4 0) (a5 0) p8 s8 ++ tp_w a1 q s1) [0, 1, 2] (by decide) rfl) hS dX6_feed_17

def wp_X6_end (post : Int32 → Tp → Prop) (s1 : Tp) (x1 : Int32) : Prop := ((x1 < 0 → post (-1) s1) ∧ (¬ x1 < 0 → ((x1 ≤ (s1.1 0) → post x1 ((va_up s1.1 0 x1), s1.2)) ∧ (¬ x1 ≤ (s1.1 0) → post (-1) s1))))
set_option maxHeartbeats 4000000 in
set_option maxRecDepth 100000 in
theorem c2_X6_end {l : Launch} {D : va_G} {q : Nat → ClassId} {sz : Nat} {a0 a1 a2 a3 a4 a5 : Nat → Nat} {p8 s8 : Nat} {s1 : Tp} {x1 : Int32} {post : Int32 → Tp → Prop} (h : wp_X6_end post s1 x1) : Met l yX6_end (Cond.code yX6_end cX6_end 2 (some .int) :: w_all) ({ frames := 0, cells := 0, slots := 0, locals := 0 } : Room) (mt_P D q [.ref (a0 0), .int x1] (fo_w (a0 0) (a1 0) (a2 0) (a3 0) (a4 0) (a5 0) p8 s8 ++ tp_w a1 q s1) sz) (va_Qi (fun r (u : Tp) => post r u) (mt_B D (fo_w (a0 0) (a1 0) (a2 0) (a3 0) (a4 0) (a5 0) p8 s8 ++ tp_w a1 q s1) sz (fun u : Tp => fo_w (a0 0) (a1 0) (a2 0) (a3 0) (a4 0) (a5 0) p8 s8 ++ tp_w a1 q u)) (va_A (fo_w (a0 0) (a1 0) (a2 0) (a3 0) (a4 0) (a5 0) p8 s8 ++ tp_w a1 q s1) sz)) 0 0 (va_A (fo_w (a0 0) (a1 0) (a2 0) (a3 0) (a4 0) (a5 0) p8 s8 ++ tp_w a1 q s1) sz) := by
  refine mt_start (by decide) (Nat.le_of_ble_eq_true rfl) ?_
  intro p e s m below meth c ls hx hb hr hml hown ht hk hin hP hQ hD hA hS hV hl
  have hK := hQ.1
  have hown : s.vm.findClass RX6 = some m.cls := hown
  have hl : lv_has ls 2 [(0, .ref (a0 0)), (1, .int x1)] := hl
  have hP : va_P D vwCl [((a0 0), .inr (5, [.ref (a1 0), .ref (a2 0), .ref (a3 0), .ref (a4 0), .ref (a5 0), .ref p8, .ref s8])), ((a1 0), .inr (4, [.ref (a1 1), .int (s1.1 0), .int (s1.1 1), .int (s1.1 2), .int (s1.1 3), .int (s1.1 4), .int (s1.1 5)])), ((a1 1), .inl (q 0, 400, .inl s1.2))] s.heap := hP
  have hD : va_D _ [((a0 0), .inr (5, [.ref (a1 0), .ref (a2 0), .ref (a3 0), .ref (a4 0), .ref (a5 0), .ref p8, .ref s8])), ((a1 0), .inr (4, [.ref (a1 1), .int (s1.1 0), .int (s1.1 1), .int (s1.1 2), .int (s1.1 3), .int (s1.1 4), .int (s1.1 5)])), ((a1 1), .inl (q 0, 400, .inl s1.2))] := hD
  unfold wp_X6_end at h
  refine lv_iload_n hx hb dX6_end_0 rfl (lv_at hl 1 rfl) ?_
  refine lv_if_lt (tgt := 15) hx hb dX6_end_1 (by decide) (fun c_1 => ?_) (fun c_1 => ?_)
  · replace h := h.1 c_1
    refine lv_iconst (v := (-1)) hx hb dX6_end_15 (by decide) ?_
    exact mt_iret s1 hx hb hr hk h (hP.sub (ws' := fo_w (a0 0) (a1 0) (a2 0) (a3 0) (a4 0) (a5 0) p8 s8 ++ tp_w a1 q s1) [0, 1, 2] rfl) (hD.sub (ws' := fo_w (a0 0) (a1 0) (a2 0) (a3 0) (a4 0) (a5 0) p8 s8 ++ tp_w a1 q s1) [0, 1, 2] (by decide) rfl) hS dX6_end_16
  · replace h := h.2 c_1
    refine lv_iload_n hx hb dX6_end_4 rfl (lv_at hl 1 rfl) ?_
    refine lv_aload_n hx hb dX6_end_5 rfl (lv_at hl 0 rfl) ?_
    refine fl_get (C := RX6) (T := TX6) (N := 7) (ci := 5) (v := .ref (a1 0)) hx hb ht in_X6 hown hK hP 0 rfl rfl 0 (by decide) mw_355 rfl dX6_end_6 ?_
    refine fl_get (C := RX5) (T := TX5) (N := 7) (ci := 4) (v := .int (s1.1 0)) hx hb ht in_X5 hown hK hP 1 rfl rfl 1 (by decide) mw_129 rfl dX6_end_9 ?_
    refine lv_icmp_le (tgt := 17) hx hb dX6_end_12 (by decide) (fun c_2 => ?_) (fun c_2 => ?_)
    · replace h := h.1 c_2
      refine lv_aload_n hx hb dX6_end_17 rfl (lv_at hl 0 rfl) ?_
      refine fl_get (C := RX6) (T := TX6) (N := 7) (ci := 5) (v := .ref (a1 0)) hx hb ht in_X6 hown hK hP 0 rfl rfl 0 (by decide) mw_355 rfl dX6_end_18 ?_
      refine lv_iload_n hx hb dX6_end_21 rfl (lv_at hl 1 rfl) ?_
      refine fl_put (C := RX5) (T := TX5) (N := 7) (ci := 4) (v := .int x1) (ws2 := [((a0 0), .inr (5, [.ref (a1 0), .ref (a2 0), .ref (a3 0), .ref (a4 0), .ref (a5 0), .ref p8, .ref s8])), ((a1 0), .inr (4, [.ref (a1 1), .int x1, .int (s1.1 1), .int (s1.1 2), .int (s1.1 3), .int (s1.1 4), .int (s1.1 5)])), ((a1 1), .inl (q 0, 400, .inl s1.2))]) hx hb ht in_X5 tyX5_ok nmX5 hown hK hP hD hS 1 rfl rfl 1 (by decide) mw_129 rfl rfl rfl (Nat.le_of_ble_eq_true rfl) dX6_end_22 rfl (fun H locs hP hD hS => ?_)
      refine lv_iload_n hx hb dX6_end_25 rfl (lv_at hl 1 rfl) ?_
      exact mt_iret ((va_up s1.1 0 x1), s1.2) hx hb hr hk h (hP.sub (ws' := fo_w (a0 0) (a1 0) (a2 0) (a3 0) (a4 0) (a5 0) p8 s8 ++ tp_w a1 q ((va_up s1.1 0 x1), s1.2)) [0, 1, 2] rfl) (hD.sub (ws' := fo_w (a0 0) (a1 0) (a2 0) (a3 0) (a4 0) (a5 0) p8 s8 ++ tp_w a1 q ((va_up s1.1 0 x1), s1.2)) [0, 1, 2] (by decide) rfl) hS dX6_end_26
    · replace h := h.2 c_2
      refine lv_iconst (v := (-1)) hx hb dX6_end_15 (by decide) ?_
      exact mt_iret s1 hx hb hr hk h (hP.sub (ws' := fo_w (a0 0) (a1 0) (a2 0) (a3 0) (a4 0) (a5 0) p8 s8 ++ tp_w a1 q s1) [0, 1, 2] rfl) (hD.sub (ws' := fo_w (a0 0) (a1 0) (a2 0) (a3 0) (a4 0) (a5 0) p8 s8 ++ tp_w a1 q s1) [0, 1, 2] (by decide) rfl) hS dX6_end_16

def wp_X6_isRowText_L15 (s1 : Tp) (s2 : Bd) (post : Int32 → Prop) (e44 : Int32 → Int32 → Int32 → Prop) : Nat → Int32 → Int32 → Int32 → Prop
  | 0, _, _, _ => False
  | n15 + 1, z1, z2, z3 => ((z2 ≤ z3 → e44 z1 z2 z3) ∧ (¬ z2 ≤ z3 → wp_X5_byteAt (fun r_3 => wp_X6_isSign (fun r_5 => ((¬ r_5 = 0 → wp_X6_isRowText_L15 s1 s2 post e44 n15 z1 z2 (z3 + 1)) ∧ (r_5 = 0 → post 0))) r_3) s1 (z1 + z3)))
def wp_X6_isRowText (post : Int32 → Prop) (s1 : Tp) (s2 : Bd) (x1 : Int32) (x2 : Int32) : Prop := ((x2 ≤ (s2.1 1) → (∃ n15, wp_X6_isRowText_L15 s1 s2 post (fun z1 z2 z3 => post 1) n15 x1 x2 0)) ∧ (¬ x2 ≤ (s2.1 1) → post 0))
set_option maxHeartbeats 4000000 in
set_option maxRecDepth 100000 in
theorem c2_X6_isRowText {l : Launch} {D : va_G} {q : Nat → ClassId} {a0 a1 a2 a3 a4 a5 : Nat → Nat} {p8 s8 : Nat} {s1 : Tp} {s2 : Bd} {x1 : Int32} {x2 : Int32} {post : Int32 → Prop} (h : wp_X6_isRowText post s1 s2 x1 x2) : Met l yX6_isRowText (Cond.code yX6_isRowText cX6_isRowText 4 (some .boolean) :: w_all) ({ frames := 1, cells := 0, slots := 0, locals := 21 } : Room) (rd_P D q [.ref (a0 0), .int x1, .int x2] (fo_w (a0 0) (a1 0) (a2 0) (a3 0) (a4 0) (a5 0) p8 s8 ++ tp_w a1 q s1 ++ bd_w a2 q s2)) (vp_Si post) 0 0 (fun _ => False) := by
  refine rd_start (by decide) (Nat.le_of_ble_eq_true rfl) ?_
  intro p e s m below meth c ls hx hb hr hml hown ht hk hP hQ hV hl
  have hK := hQ.1
  have hown : s.vm.findClass RX6 = some m.cls := hown
  have hl : lv_has ls 4 [(0, .ref (a0 0)), (1, .int x1), (2, .int x2)] := hl
  have hP : va_P D vwCl [((a0 0), .inr (5, [.ref (a1 0), .ref (a2 0), .ref (a3 0), .ref (a4 0), .ref (a5 0), .ref p8, .ref s8])), ((a1 0), .inr (4, [.ref (a1 1), .int (s1.1 0), .int (s1.1 1), .int (s1.1 2), .int (s1.1 3), .int (s1.1 4), .int (s1.1 5)])), ((a1 1), .inl (q 0, 400, .inl s1.2)), ((a2 0), .inr (0, [.int (s2.1 0), .int (s2.1 1), .int (s2.1 2), .int (s2.1 3), .int (s2.1 4), .int (s2.1 5), .ref (a2 1), .ref (a2 2), .ref (a2 3), .ref (a2 4), .ref (a2 5), .ref (a2 6), .ref (a2 7), .ref (a2 8), .ref (a2 9), .ref (a2 10), .ref (a2 11), .ref (a2 12)])), ((a2 1), .inl (q 0, 4, .inl (s2.2.1 0))), ((a2 2), .inl (q 0, 4, .inl (s2.2.1 1))), ((a2 3), .inl (q 0, 160, .inl (s2.2.1 2))), ((a2 4), .inl (q 0, 40, .inl (s2.2.1 3))), ((a2 5), .inl (q 0, 40, .inl (s2.2.1 4))), ((a2 6), .inl (q 0, 40, .inl (s2.2.1 5))), ((a2 7), .inl (q 0, 40, .inl (s2.2.1 6))), ((a2 8), .inl (q 0, 40, .inl (s2.2.1 7))), ((a2 9), .inl (q 0, 40, .inl (s2.2.1 8))), ((a2 10), .inl (q 0, 40, .inl (s2.2.1 9))), ((a2 11), .inl (q 1, 40, .inr (.inl s2.2.2.1))), ((a2 12), .inl (q 0, s2.2.2.2.1, .inl s2.2.2.2.2))] s.heap := hP
  unfold wp_X6_isRowText at h
  refine lv_iload_n hx hb dX6_isRowText_0 rfl (lv_at hl 2 rfl) ?_
  refine lv_aload_n hx hb dX6_isRowText_1 rfl (lv_at hl 0 rfl) ?_
  refine fl_get (C := RX6) (T := TX6) (N := 7) (ci := 5) (v := .ref (a2 0)) hx hb ht in_X6 hown hK hP 0 rfl rfl 1 (by decide) mw_356 rfl dX6_isRowText_2 ?_
  refine fl_get (C := RX0) (T := TX0) (N := 18) (ci := 0) (v := .int (s2.1 1)) hx hb ht in_X0 hown hK hP 3 rfl rfl 1 (by decide) mw_174 rfl dX6_isRowText_5 ?_
  refine lv_icmp_le (tgt := 13) hx hb dX6_isRowText_8 (by decide) (fun c_1 => ?_) (fun c_1 => ?_)
  · replace h := h.1 c_1
    refine lv_iconst (v := 0) hx hb dX6_isRowText_13 (by decide) ?_
    refine lv_istore_n (lv' := [(3, .int 0), (0, .ref (a0 0)), (1, .int x1), (2, .int x2)]) hx hb dX6_isRowText_14 rfl hl (by decide) rfl (fun ls hl => ?_)
    have lp15 : ∀ (e44 : Int32 → Int32 → Int32 → Prop) (k44 : ∀ (z1 : Int32) (z2 : Int32) (z3 : Int32) (ls : Array Slot), e44 z1 z2 z3 → lv_has ls 4 [(1, .int z1), (2, .int z2), (3, .int z3), (0, .ref (a0 0))] → W p l e ({ frames := 1, cells := 0, slots := 0, locals := 21 } : Room) s m [.ref (a0 0), .int x1, .int x2].toArray below meth c s.heap [] 0 0 (MQ below (vp_Si post) [.ref (a0 0), .int x1, .int x2].toArray s 0 0 (fun _ => False)) (F0 m 44 ls [])) (n : Nat) (z1 : Int32) (z2 : Int32) (z3 : Int32) (ls : Array Slot), wp_X6_isRowText_L15 s1 s2 post e44 n z1 z2 z3 → lv_has ls 4 [(1, .int z1), (2, .int z2), (3, .int z3), (0, .ref (a0 0))] → W p l e ({ frames := 1, cells := 0, slots := 0, locals := 21 } : Room) s m [.ref (a0 0), .int x1, .int x2].toArray below meth c s.heap [] 0 0 (MQ below (vp_Si post) [.ref (a0 0), .int x1, .int x2].toArray s 0 0 (fun _ => False)) (F0 m 15 ls []) := by
      intro e44 k44 n
      induction n with
      | zero =>
        intro z1 z2 z3 ls h
        exact h.elim
      | succ n ih =>
        intro z1 z2 z3 ls h hl
        unfold wp_X6_isRowText_L15 at h
        refine lv_iload_n hx hb dX6_isRowText_15 rfl (lv_at hl 2 rfl) ?_
        refine lv_iload_n hx hb dX6_isRowText_16 rfl (lv_at hl 1 rfl) ?_
        refine lv_icmp_ge (tgt := 44) hx hb dX6_isRowText_17 (by decide) (fun c_2 => ?_) (fun c_2 => ?_)
        · replace h := h.1 c_2
          exact k44 _ _ _ ls h (lv_sub hl [0, 1, 2, 3] rfl)
        · replace h := h.2 c_2
          refine lv_aload_n hx hb dX6_isRowText_20 rfl (lv_at hl 3 rfl) ?_
          refine fl_get (C := RX6) (T := TX6) (N := 7) (ci := 5) (v := .ref (a1 0)) hx hb ht in_X6 hown hK hP 0 rfl rfl 0 (by decide) mw_355 rfl dX6_isRowText_21 ?_
          refine lv_iload_n hx hb dX6_isRowText_24 rfl (lv_at hl 0 rfl) ?_
          refine lv_iload_n hx hb dX6_isRowText_25 rfl (lv_at hl 2 rfl) ?_
          refine lv_iadd hx hb dX6_isRowText_26 ?_
          refine vp_callSi (rd_wV (wc := tp_w a1 q s1) (As := [.int (z1 + z3)]) (rest := []) hx hb hml hown ht (c2_X5_byteAt h) wd_X5_byteAt mw_629 hQ hV va_S.rf (hP.sub [1, 2] rfl) rfl rfl rfl hl.1 rfl (Nat.le_of_ble_eq_true rfl) dX6_isRowText_27 ⟨Nat.le_of_ble_eq_true rfl, Nat.le_of_ble_eq_true rfl, rfl, rfl⟩ ⟨Nat.le_of_ble_eq_true rfl, Nat.le_of_ble_eq_true rfl⟩) (fun r_3 h => ?_)
          try dsimp only at h
          refine vp_callSi (rd_wS (wc := ([] : va_W)) (As := [.int r_3]) (rest := []) hx hb hml hown ht (c2_X6_isSign h) wd_X6_isSign mw_630 hQ hV va_S.rf (hP.sub [] rfl) rfl hl.1 rfl (Nat.le_of_ble_eq_true rfl) dX6_isRowText_30 ⟨Nat.le_of_ble_eq_true rfl, Nat.le_of_ble_eq_true rfl, rfl, rfl⟩ ⟨Nat.le_of_ble_eq_true rfl, Nat.le_of_ble_eq_true rfl⟩) (fun r_5 h => ?_)
          try dsimp only at h
          refine lv_if_ne (tgt := 38) hx hb dX6_isRowText_33 (by decide) (fun c_7 => ?_) (fun c_7 => ?_)
          · replace h := h.1 c_7
            refine lv_iinc (v := (z3 + 1)) (lv' := [(3, .int (z3 + 1)), (1, .int z1), (2, .int z2), (0, .ref (a0 0))]) hx hb dX6_isRowText_38 hl (k := 2) rfl rfl (by decide) rfl (fun ls hl => ?_)
            refine lv_goto (tgt := 15) hx hb dX6_isRowText_41 (by decide) ?_
            exact ih _ _ _ ls h (lv_sub hl [1, 2, 0, 3] rfl)
          · replace h := h.2 c_7
            refine lv_iconst (v := 0) hx hb dX6_isRowText_36 (by decide) ?_
            exact rd_zret hx hb hr hk rfl h dX6_isRowText_37
    obtain ⟨n15, h⟩ := h
    refine lp15 _ ?_ n15 _ _ _ ls h (lv_sub hl [2, 3, 0, 1] rfl)
    · intro z1 z2 z3 ls h hl
      try dsimp only at h
      refine lv_iconst (v := 1) hx hb dX6_isRowText_44 (by decide) ?_
      exact rd_zret hx hb hr hk rfl h dX6_isRowText_45
  · replace h := h.2 c_1
    refine lv_iconst (v := 0) hx hb dX6_isRowText_11 (by decide) ?_
    exact rd_zret hx hb hr hk rfl h dX6_isRowText_12

def wp_X6_whyNotRow (post : Int32 → Prop) (s1 : Tp) (s2 : Bd) (x1 : Int32) : Prop := wp_X0_hasRow (fun r_1 => ((¬ r_1 = 0 → wp_X6_isRowText (fun r_4 => ((r_4 = 0 → post (-2)) ∧ (¬ r_4 = 0 → post 0))) s1 s2 (0 : Int32) (s1.1 0)) ∧ (r_1 = 0 → post (-1)))) s2 x1
set_option maxHeartbeats 4000000 in
set_option maxRecDepth 100000 in
theorem c2_X6_whyNotRow {l : Launch} {D : va_G} {q : Nat → ClassId} {a0 a1 a2 a3 a4 a5 : Nat → Nat} {p8 s8 : Nat} {s1 : Tp} {s2 : Bd} {x1 : Int32} {post : Int32 → Prop} (h : wp_X6_whyNotRow post s1 s2 x1) : Met l yX6_whyNotRow (Cond.code yX6_whyNotRow cX6_whyNotRow 2 (some .int) :: w_all) ({ frames := 2, cells := 0, slots := 0, locals := 44 } : Room) (rd_P D q [.ref (a0 0), .int x1] (fo_w (a0 0) (a1 0) (a2 0) (a3 0) (a4 0) (a5 0) p8 s8 ++ tp_w a1 q s1 ++ bd_w a2 q s2)) (vp_Si post) 0 0 (fun _ => False) := by
  refine rd_start (by decide) (Nat.le_of_ble_eq_true rfl) ?_
  intro p e s m below meth c ls hx hb hr hml hown ht hk hP hQ hV hl
  have hK := hQ.1
  have hown : s.vm.findClass RX6 = some m.cls := hown
  have hl : lv_has ls 2 [(0, .ref (a0 0)), (1, .int x1)] := hl
  have hP : va_P D vwCl [((a0 0), .inr (5, [.ref (a1 0), .ref (a2 0), .ref (a3 0), .ref (a4 0), .ref (a5 0), .ref p8, .ref s8])), ((a1 0), .inr (4, [.ref (a1 1), .int (s1.1 0), .int (s1.1 1), .int (s1.1 2), .int (s1.1 3), .int (s1.1 4), .int (s1.1 5)])), ((a1 1), .inl (q 0, 400, .inl s1.2)), ((a2 0), .inr (0, [.int (s2.1 0), .int (s2.1 1), .int (s2.1 2), .int (s2.1 3), .int (s2.1 4), .int (s2.1 5), .ref (a2 1), .ref (a2 2), .ref (a2 3), .ref (a2 4), .ref (a2 5), .ref (a2 6), .ref (a2 7), .ref (a2 8), .ref (a2 9), .ref (a2 10), .ref (a2 11), .ref (a2 12)])), ((a2 1), .inl (q 0, 4, .inl (s2.2.1 0))), ((a2 2), .inl (q 0, 4, .inl (s2.2.1 1))), ((a2 3), .inl (q 0, 160, .inl (s2.2.1 2))), ((a2 4), .inl (q 0, 40, .inl (s2.2.1 3))), ((a2 5), .inl (q 0, 40, .inl (s2.2.1 4))), ((a2 6), .inl (q 0, 40, .inl (s2.2.1 5))), ((a2 7), .inl (q 0, 40, .inl (s2.2.1 6))), ((a2 8), .inl (q 0, 40, .inl (s2.2.1 7))), ((a2 9), .inl (q 0, 40, .inl (s2.2.1 8))), ((a2 10), .inl (q 0, 40, .inl (s2.2.1 9))), ((a2 11), .inl (q 1, 40, .inr (.inl s2.2.2.1))), ((a2 12), .inl (q 0, s2.2.2.2.1, .inl s2.2.2.2.2))] s.heap := hP
  unfold wp_X6_whyNotRow at h
  refine lv_aload_n hx hb dX6_whyNotRow_0 rfl (lv_at hl 0 rfl) ?_
  refine fl_get (C := RX6) (T := TX6) (N := 7) (ci := 5) (v := .ref (a2 0)) hx hb ht in_X6 hown hK hP 0 rfl rfl 1 (by decide) mw_356 rfl dX6_whyNotRow_1 ?_
  refine lv_iload_n hx hb dX6_whyNotRow_4 rfl (lv_at hl 1 rfl) ?_
  refine vp_callSi (rd_wV (wc := bd_w a2 q s2) (As := [.int x1]) (rest := []) hx hb hml hown ht (c2_X0_hasRow h) wd_X0_hasRow mw_621 hQ hV va_S.rf (hP.sub [3, 4, 5, 6, 7, 8, 9, 10, 11, 12, 13, 14, 15] rfl) rfl rfl rfl hl.1 rfl (Nat.le_of_ble_eq_true rfl) dX6_whyNotRow_5 ⟨Nat.le_of_ble_eq_true rfl, Nat.le_of_ble_eq_true rfl, rfl, rfl⟩ ⟨Nat.le_of_ble_eq_true rfl, Nat.le_of_ble_eq_true rfl⟩) (fun r_1 h => ?_)
  try dsimp only at h
  refine lv_if_ne (tgt := 13) hx hb dX6_whyNotRow_8 (by decide) (fun c_3 => ?_) (fun c_3 => ?_)
  · replace h := h.1 c_3
    refine lv_aload_n hx hb dX6_whyNotRow_13 rfl (lv_at hl 0 rfl) ?_
    refine lv_iconst (v := 0) hx hb dX6_whyNotRow_14 (by decide) ?_
    refine lv_aload_n hx hb dX6_whyNotRow_15 rfl (lv_at hl 0 rfl) ?_
    refine fl_get (C := RX6) (T := TX6) (N := 7) (ci := 5) (v := .ref (a1 0)) hx hb ht in_X6 hown hK hP 0 rfl rfl 0 (by decide) mw_355 rfl dX6_whyNotRow_16 ?_
    refine fl_get (C := RX5) (T := TX5) (N := 7) (ci := 4) (v := .int (s1.1 0)) hx hb ht in_X5 hown hK hP 1 rfl rfl 1 (by decide) mw_129 rfl dX6_whyNotRow_19 ?_
    refine vp_callSi (rd_wV (wc := fo_w (a0 0) (a1 0) (a2 0) (a3 0) (a4 0) (a5 0) p8 s8 ++ tp_w a1 q s1 ++ bd_w a2 q s2) (As := [.int 0, .int (s1.1 0)]) (rest := []) hx hb hml hown ht (c2_X6_isRowText h) wd_X6_isRowText mw_625 hQ hV va_S.rf (hP.sub [0, 1, 2, 3, 4, 5, 6, 7, 8, 9, 10, 11, 12, 13, 14, 15] rfl) rfl rfl rfl hl.1 rfl (Nat.le_of_ble_eq_true rfl) dX6_whyNotRow_22 ⟨Nat.le_of_ble_eq_true rfl, Nat.le_of_ble_eq_true rfl, rfl, rfl⟩ ⟨Nat.le_of_ble_eq_true rfl, Nat.le_of_ble_eq_true rfl⟩) (fun r_4 h => ?_)
    try dsimp only at h
    refine lv_if_eq (tgt := 32) hx hb dX6_whyNotRow_25 (by decide) (fun c_6 => ?_) (fun c_6 => ?_)
    · replace h := h.1 c_6
      refine lv_bipush (v := (-2)) hx hb dX6_whyNotRow_32 (by decide) ?_
      exact rd_iret hx hb hr hk h dX6_whyNotRow_34
    · replace h := h.2 c_6
      refine lv_iconst (v := 0) hx hb dX6_whyNotRow_28 (by decide) ?_
      refine lv_goto (tgt := 34) hx hb dX6_whyNotRow_29 (by decide) ?_
      exact rd_iret hx hb hr hk h dX6_whyNotRow_34
  · replace h := h.2 c_3
    refine lv_iconst (v := (-1)) hx hb dX6_whyNotRow_11 (by decide) ?_
    exact rd_iret hx hb hr hk h dX6_whyNotRow_12

def wp_X6_whyNotProgram (post : Int32 → Tp → Pg → Prop) (s1 : Tp) (s2 : Bd) (s5 : Pg) : Prop := wp_X0_isThere (fun r_1 => ((¬ r_1 = 0 → wp_X4_readFrom (fun u_5a u_5b => wp_X5_isSound (fun r_6 => ((r_6 = 0 → post ((-2) - (u_5b.1 5)) u_5b u_5a) ∧ (¬ r_6 = 0 → post 0 u_5b u_5a))) u_5b) s5 s1 s2) ∧ (r_1 = 0 → post (-1) s1 s5))) s2
set_option maxHeartbeats 4000000 in
set_option maxRecDepth 100000 in
theorem c2_X6_whyNotProgram {l : Launch} {D : va_G} {q : Nat → ClassId} {sz : Nat} {a0 a1 a2 a3 a4 a5 : Nat → Nat} {p8 s8 : Nat} {s1 : Tp} {s2 : Bd} {s5 : Pg} {post : Int32 → Tp → Pg → Prop} (h : wp_X6_whyNotProgram post s1 s2 s5) : Met l yX6_whyNotProgram (Cond.code yX6_whyNotProgram cX6_whyNotProgram 1 (some .int) :: w_all) ({ frames := 8, cells := 0, slots := 0, locals := 172 } : Room) (mt_P D q [.ref (a0 0)] (fo_w (a0 0) (a1 0) (a2 0) (a3 0) (a4 0) (a5 0) p8 s8 ++ tp_w a1 q s1 ++ bd_w a2 q s2 ++ pg_w a5 q s5) sz) (va_Qi (fun r (u : Tp × Pg) => post r u.1 u.2) (mt_B D (fo_w (a0 0) (a1 0) (a2 0) (a3 0) (a4 0) (a5 0) p8 s8 ++ tp_w a1 q s1 ++ bd_w a2 q s2 ++ pg_w a5 q s5) sz (fun u : Tp × Pg => fo_w (a0 0) (a1 0) (a2 0) (a3 0) (a4 0) (a5 0) p8 s8 ++ tp_w a1 q u.1 ++ bd_w a2 q s2 ++ pg_w a5 q u.2)) (va_A (fo_w (a0 0) (a1 0) (a2 0) (a3 0) (a4 0) (a5 0) p8 s8 ++ tp_w a1 q s1 ++ bd_w a2 q s2 ++ pg_w a5 q s5) sz)) 0 0 (va_A (fo_w (a0 0) (a1 0) (a2 0) (a3 0) (a4 0) (a5 0) p8 s8 ++ tp_w a1 q s1 ++ bd_w a2 q s2 ++ pg_w a5 q s5) sz) := by
  refine mt_start (by decide) (Nat.le_of_ble_eq_true rfl) ?_
  intro p e s m below meth c ls hx hb hr hml hown ht hk hin hP hQ hD hA hS hV hl
  have hK := hQ.1
  have hown : s.vm.findClass RX6 = some m.cls := hown
  have hl : lv_has ls 1 [(0, .ref (a0 0))] := hl
  have hP : va_P D vwCl [((a0 0), .inr (5, [.ref (a1 0), .ref (a2 0), .ref (a3 0), .ref (a4 0), .ref (a5 0), .ref p8, .ref s8])), ((a1 0), .inr (4, [.ref (a1 1), .int (s1.1 0), .int (s1.1 1), .int (s1.1 2), .int (s1.1 3), .int (s1.1 4), .int (s1.1 5)])), ((a1 1), .inl (q 0, 400, .inl s1.2)), ((a2 0), .inr (0, [.int (s2.1 0), .int (s2.1 1), .int (s2.1 2), .int (s2.1 3), .int (s2.1 4), .int (s2.1 5), .ref (a2 1), .ref (a2 2), .ref (a2 3), .ref (a2 4), .ref (a2 5), .ref (a2 6), .ref (a2 7), .ref (a2 8), .ref (a2 9), .ref (a2 10), .ref (a2 11), .ref (a2 12)])), ((a2 1), .inl (q 0, 4, .inl (s2.2.1 0))), ((a2 2), .inl (q 0, 4, .inl (s2.2.1 1))), ((a2 3), .inl (q 0, 160, .inl (s2.2.1 2))), ((a2 4), .inl (q 0, 40, .inl (s2.2.1 3))), ((a2 5), .inl (q 0, 40, .inl (s2.2.1 4))), ((a2 6), .inl (q 0, 40, .inl (s2.2.1 5))), ((a2 7), .inl (q 0, 40, .inl (s2.2.1 6))), ((a2 8), .inl (q 0, 40, .inl (s2.2.1 7))), ((a2 9), .inl (q 0, 40, .inl (s2.2.1 8))), ((a2 10), .inl (q 0, 40, .inl (s2.2.1 9))), ((a2 11), .inl (q 1, 40, .inr (.inl s2.2.2.1))), ((a2 12), .inl (q 0, s2.2.2.2.1, .inl s2.2.2.2.2)), ((a5 0), .inr (3, [.ref (a5 1), .ref (a5 2), .ref (a5 3), .ref (a5 4), .ref (a5 5), .ref (a5 6), .ref (a5 7), .int (s5.1 0), .int (s5.1 1), .int (s5.1 2)])), ((a5 1), .inl (q 0, 80, .inl (s5.2 0))), ((a5 2), .inl (q 0, 80, .inl (s5.2 1))), ((a5 3), .inl (q 0, 80, .inl (s5.2 2))), ((a5 4), .inl (q 0, 80, .inl (s5.2 3))), ((a5 5), .inl (q 0, 80, .inl (s5.2 4))), ((a5 6), .inl (q 0, 3, .inl (s5.2 5))), ((a5 7), .inl (q 0, 3, .inl (s5.2 6)))] s.heap := hP
  have hD : va_D _ [((a0 0), .inr (5, [.ref (a1 0), .ref (a2 0), .ref (a3 0), .ref (a4 0), .ref (a5 0), .ref p8, .ref s8])), ((a1 0), .inr (4, [.ref (a1 1), .int (s1.1 0), .int (s1.1 1), .int (s1.1 2), .int (s1.1 3), .int (s1.1 4), .int (s1.1 5)])), ((a1 1), .inl (q 0, 400, .inl s1.2)), ((a2 0), .inr (0, [.int (s2.1 0), .int (s2.1 1), .int (s2.1 2), .int (s2.1 3), .int (s2.1 4), .int (s2.1 5), .ref (a2 1), .ref (a2 2), .ref (a2 3), .ref (a2 4), .ref (a2 5), .ref (a2 6), .ref (a2 7), .ref (a2 8), .ref (a2 9), .ref (a2 10), .ref (a2 11), .ref (a2 12)])), ((a2 1), .inl (q 0, 4, .inl (s2.2.1 0))), ((a2 2), .inl (q 0, 4, .inl (s2.2.1 1))), ((a2 3), .inl (q 0, 160, .inl (s2.2.1 2))), ((a2 4), .inl (q 0, 40, .inl (s2.2.1 3))), ((a2 5), .inl (q 0, 40, .inl (s2.2.1 4))), ((a2 6), .inl (q 0, 40, .inl (s2.2.1 5))), ((a2 7), .inl (q 0, 40, .inl (s2.2.1 6))), ((a2 8), .inl (q 0, 40, .inl (s2.2.1 7))), ((a2 9), .inl (q 0, 40, .inl (s2.2.1 8))), ((a2 10), .inl (q 0, 40, .inl (s2.2.1 9))), ((a2 11), .inl (q 1, 40, .inr (.inl s2.2.2.1))), ((a2 12), .inl (q 0, s2.2.2.2.1, .inl s2.2.2.2.2)), ((a5 0), .inr (3, [.ref (a5 1), .ref (a5 2), .ref (a5 3), .ref (a5 4), .ref (a5 5), .ref (a5 6), .ref (a5 7), .int (s5.1 0), .int (s5.1 1), .int (s5.1 2)])), ((a5 1), .inl (q 0, 80, .inl (s5.2 0))), ((a5 2), .inl (q 0, 80, .inl (s5.2 1))), ((a5 3), .inl (q 0, 80, .inl (s5.2 2))), ((a5 4), .inl (q 0, 80, .inl (s5.2 3))), ((a5 5), .inl (q 0, 80, .inl (s5.2 4))), ((a5 6), .inl (q 0, 3, .inl (s5.2 5))), ((a5 7), .inl (q 0, 3, .inl (s5.2 6)))] := hD
  unfold wp_X6_whyNotProgram at h
  refine lv_aload_n hx hb dX6_whyNotProgram_0 rfl (lv_at hl 0 rfl) ?_
  refine fl_get (C := RX6) (T := TX6) (N := 7) (ci := 5) (v := .ref (a2 0)) hx hb ht in_X6 hown hK hP 0 rfl rfl 1 (by decide) mw_356 rfl dX6_whyNotProgram_1 ?_
  refine vp_callSi (rd_wV (wc := bd_w a2 q s2) (As := []) (rest := []) hx hb hml hown ht (c2_X0_isThere h) wd_X0_isThere mw_677 hQ hV hS (hP.sub [3, 4, 5, 6, 7, 8, 9, 10, 11, 12, 13, 14, 15] rfl) rfl rfl rfl hl.1 rfl (Nat.le_of_ble_eq_true rfl) dX6_whyNotProgram_4 ⟨Nat.le_of_ble_eq_true rfl, Nat.le_of_ble_eq_true rfl, rfl, rfl⟩ ⟨Nat.le_of_ble_eq_true rfl, Nat.le_of_ble_eq_true rfl⟩) (fun r_1 h => ?_)
  try dsimp only at h
  refine lv_if_ne (tgt := 12) hx hb dX6_whyNotProgram_7 (by decide) (fun c_3 => ?_) (fun c_3 => ?_)
  · replace h := h.1 c_3
    refine lv_aload_n hx hb dX6_whyNotProgram_12 rfl (lv_at hl 0 rfl) ?_
    refine fl_get (C := RX6) (T := TX6) (N := 7) (ci := 5) (v := .ref (a5 0)) hx hb ht in_X6 hown hK hP 0 rfl rfl 4 (by decide) mw_359 rfl dX6_whyNotProgram_13 ?_
    refine lv_aload_n hx hb dX6_whyNotProgram_16 rfl (lv_at hl 0 rfl) ?_
    refine fl_get (C := RX6) (T := TX6) (N := 7) (ci := 5) (v := .ref (a1 0)) hx hb ht in_X6 hown hK hP 0 rfl rfl 0 (by decide) mw_355 rfl dX6_whyNotProgram_17 ?_
    refine lv_aload_n hx hb dX6_whyNotProgram_20 rfl (lv_at hl 0 rfl) ?_
    refine fl_get (C := RX6) (T := TX6) (N := 7) (ci := 5) (v := .ref (a2 0)) hx hb ht in_X6 hown hK hP 0 rfl rfl 1 (by decide) mw_356 rfl dX6_whyNotProgram_21 ?_
    refine mt_gov (mt_wV (wc := pg_w a5 q s5 ++ tp_w a1 q s1 ++ bd_w a2 q s2) (As := [.ref (a1 0), .ref (a2 0)]) (rest := []) hx hb hml hown ht (c2_X4_readFrom h) wd_X4_readFrom mw_789 hQ hV hS hA (hP.sub [16, 17, 18, 19, 20, 21, 22, 23, 1, 2, 3, 4, 5, 6, 7, 8, 9, 10, 11, 12, 13, 14, 15] rfl) (hD.sub [16, 17, 18, 19, 20, 21, 22, 23, 1, 2, 3, 4, 5, 6, 7, 8, 9, 10, 11, 12, 13, 14, 15] (by decide) rfl) rfl rfl rfl hl.1 rfl (Nat.le_of_ble_eq_true rfl) dX6_whyNotProgram_24 ⟨Nat.le_of_ble_eq_true rfl, Nat.le_of_ble_eq_true rfl, rfl, rfl⟩ ⟨Nat.le_of_ble_eq_true rfl, Nat.le_of_ble_eq_true rfl⟩) (wr := [((a0 0), .inr (5, [.ref (a1 0), .ref (a2 0), .ref (a3 0), .ref (a4 0), .ref (a5 0), .ref p8, .ref s8]))]) hP hD hS hA [16, 17, 18, 19, 20, 21, 22, 23, 1, 2, 3, 4, 5, 6, 7, 8, 9, 10, 11, 12, 13, 14, 15] [0] rfl rfl (by decide) (by decide) (fun u_5 H locs h hP hD hS => ?_)
    obtain ⟨u_5a, u_5b⟩ := u_5
    try dsimp only at h
    have hP : va_P D vwCl [((a0 0), .inr (5, [.ref (a1 0), .ref (a2 0), .ref (a3 0), .ref (a4 0), .ref (a5 0), .ref p8, .ref s8])), ((a5 0), .inr (3, [.ref (a5 1), .ref (a5 2), .ref (a5 3), .ref (a5 4), .ref (a5 5), .ref (a5 6), .ref (a5 7), .int (u_5a.1 0), .int (u_5a.1 1), .int (u_5a.1 2)])), ((a5 1), .inl (q 0, 80, .inl (u_5a.2 0))), ((a5 2), .inl (q 0, 80, .inl (u_5a.2 1))), ((a5 3), .inl (q 0, 80, .inl (u_5a.2 2))), ((a5 4), .inl (q 0, 80, .inl (u_5a.2 3))), ((a5 5), .inl (q 0, 80, .inl (u_5a.2 4))), ((a5 6), .inl (q 0, 3, .inl (u_5a.2 5))), ((a5 7), .inl (q 0, 3, .inl (u_5a.2 6))), ((a1 0), .inr (4, [.ref (a1 1), .int (u_5b.1 0), .int (u_5b.1 1), .int (u_5b.1 2), .int (u_5b.1 3), .int (u_5b.1 4), .int (u_5b.1 5)])), ((a1 1), .inl (q 0, 400, .inl u_5b.2)), ((a2 0), .inr (0, [.int (s2.1 0), .int (s2.1 1), .int (s2.1 2), .int (s2.1 3), .int (s2.1 4), .int (s2.1 5), .ref (a2 1), .ref (a2 2), .ref (a2 3), .ref (a2 4), .ref (a2 5), .ref (a2 6), .ref (a2 7), .ref (a2 8), .ref (a2 9), .ref (a2 10), .ref (a2 11), .ref (a2 12)])), ((a2 1), .inl (q 0, 4, .inl (s2.2.1 0))), ((a2 2), .inl (q 0, 4, .inl (s2.2.1 1))), ((a2 3), .inl (q 0, 160, .inl (s2.2.1 2))), ((a2 4), .inl (q 0, 40, .inl (s2.2.1 3))), ((a2 5), .inl (q 0, 40, .inl (s2.2.1 4))), ((a2 6), .inl (q 0, 40, .inl (s2.2.1 5))), ((a2 7), .inl (q 0, 40, .inl (s2.2.1 6))), ((a2 8), .inl (q 0, 40, .inl (s2.2.1 7))), ((a2 9), .inl (q 0, 40, .inl (s2.2.1 8))), ((a2 10), .inl (q 0, 40, .inl (s2.2.1 9))), ((a2 11), .inl (q 1, 40, .inr (.inl s2.2.2.1))), ((a2 12), .inl (q 0, s2.2.2.2.1, .inl s2.2.2.2.2))] H := hP
    have hD : va_D _ [((a0 0), .inr (5, [.ref (a1 0), .ref (a2 0), .ref (a3 0), .ref (a4 0), .ref (a5 0), .ref p8, .ref s8])), ((a5 0), .inr (3, [.ref (a5 1), .ref (a5 2), .ref (a5 3), .ref (a5 4), .ref (a5 5), .ref (a5 6), .ref (a5 7), .int (u_5a.1 0), .int (u_5a.1 1), .int (u_5a.1 2)])), ((a5 1), .inl (q 0, 80, .inl (u_5a.2 0))), ((a5 2), .inl (q 0, 80, .inl (u_5a.2 1))), ((a5 3), .inl (q 0, 80, .inl (u_5a.2 2))), ((a5 4), .inl (q 0, 80, .inl (u_5a.2 3))), ((a5 5), .inl (q 0, 80, .inl (u_5a.2 4))), ((a5 6), .inl (q 0, 3, .inl (u_5a.2 5))), ((a5 7), .inl (q 0, 3, .inl (u_5a.2 6))), ((a1 0), .inr (4, [.ref (a1 1), .int (u_5b.1 0), .int (u_5b.1 1), .int (u_5b.1 2), .int (u_5b.1 3), .int (u_5b.1 4), .int (u_5b.1 5)])), ((a1 1), .inl (q 0, 400, .inl u_5b.2)), ((a2 0), .inr (0, [.int (s2.1 0), .int (s2.1 1), .int (s2.1 2), .int (s2.1 3), .int (s2.1 4), .int (s2.1 5), .ref (a2 1), .ref (a2 2), .ref (a2 3), .ref (a2 4), .ref (a2 5), .ref (a2 6), .ref (a2 7), .ref (a2 8), .ref (a2 9), .ref (a2 10), .ref (a2 11), .ref (a2 12)])), ((a2 1), .inl (q 0, 4, .inl (s2.2.1 0))), ((a2 2), .inl (q 0, 4, .inl (s2.2.1 1))), ((a2 3), .inl (q 0, 160, .inl (s2.2.1 2))), ((a2 4), .inl (q 0, 40, .inl (s2.2.1 3))), ((a2 5), .inl (q 0, 40, .inl (s2.2.1 4))), ((a2 6), .inl (q 0, 40, .inl (s2.2.1 5))), ((a2 7), .inl (q 0, 40, .inl (s2.2.1 6))), ((a2 8), .inl (q 0, 40, .inl (s2.2.1 7))), ((a2 9), .inl (q 0, 40, .inl (s2.2.1 8))), ((a2 10), .inl (q 0, 40, .inl (s2.2.1 9))), ((a2 11), .inl (q 1, 40, .inr (.inl s2.2.2.1))), ((a2 12), .inl (q 0, s2.2.2.2.1, .inl s2.2.2.2.2))] := hD
    refine lv_aload_n hx hb dX6_whyNotProgram_27 rfl (lv_at hl 0 rfl) ?_
    refine fl_get (C := RX6) (T := TX6) (N := 7) (ci := 5) (v := .ref (a1 0)) hx hb ht in_X6 hown hK hP 0 rfl rfl 0 (by decide) mw_355 rfl dX6_whyNotProgram_28 ?_
    refine vp_callSi (rd_wV (wc := tp_w a1 q u_5b) (As := []) (rest := []) hx hb hml hown ht (c2_X5_isSound h) wd_X5_isSound mw_589 hQ hV hS (hP.sub [9, 10] rfl) rfl rfl rfl hl.1 rfl (Nat.le_of_ble_eq_true rfl) dX6_whyNotProgram_31 ⟨Nat.le_of_ble_eq_true rfl, Nat.le_of_ble_eq_true rfl, rfl, rfl⟩ ⟨Nat.le_of_ble_eq_true rfl, Nat.le_of_ble_eq_true rfl⟩) (fun r_6 h => ?_)
    try dsimp only at h
    refine lv_if_eq (tgt := 41) hx hb dX6_whyNotProgram_34 (by decide) (fun c_8 => ?_) (fun c_8 => ?_)
    · replace h := h.1 c_8
      refine lv_bipush (v := (-2)) hx hb dX6_whyNotProgram_41 (by decide) ?_
      refine lv_aload_n hx hb dX6_whyNotProgram_43 rfl (lv_at hl 0 rfl) ?_
      refine fl_get (C := RX6) (T := TX6) (N := 7) (ci := 5) (v := .ref (a1 0)) hx hb ht in_X6 hown hK hP 0 rfl rfl 0 (by decide) mw_355 rfl dX6_whyNotProgram_44 ?_
      refine fl_get (C := RX5) (T := TX5) (N := 7) (ci := 4) (v := .int (u_5b.1 5)) hx hb ht in_X5 hown hK hP 9 rfl rfl 6 (by decide) mw_144 rfl dX6_whyNotProgram_47 ?_
      refine lv_isub hx hb dX6_whyNotProgram_50 ?_
      exact mt_iret (u_5b, u_5a) hx hb hr hk h (hP.sub (ws' := fo_w (a0 0) (a1 0) (a2 0) (a3 0) (a4 0) (a5 0) p8 s8 ++ tp_w a1 q u_5b ++ bd_w a2 q s2 ++ pg_w a5 q u_5a) [0, 9, 10, 11, 12, 13, 14, 15, 16, 17, 18, 19, 20, 21, 22, 23, 1, 2, 3, 4, 5, 6, 7, 8] rfl) (hD.sub (ws' := fo_w (a0 0) (a1 0) (a2 0) (a3 0) (a4 0) (a5 0) p8 s8 ++ tp_w a1 q u_5b ++ bd_w a2 q s2 ++ pg_w a5 q u_5a) [0, 9, 10, 11, 12, 13, 14, 15, 16, 17, 18, 19, 20, 21, 22, 23, 1, 2, 3, 4, 5, 6, 7, 8] (by decide) rfl) hS dX6_whyNotProgram_51
    · replace h := h.2 c_8
      refine lv_iconst (v := 0) hx hb dX6_whyNotProgram_37 (by decide) ?_
      refine lv_goto (tgt := 51) hx hb dX6_whyNotProgram_38 (by decide) ?_
      exact mt_iret (u_5b, u_5a) hx hb hr hk h (hP.sub (ws' := fo_w (a0 0) (a1 0) (a2 0) (a3 0) (a4 0) (a5 0) p8 s8 ++ tp_w a1 q u_5b ++ bd_w a2 q s2 ++ pg_w a5 q u_5a) [0, 9, 10, 11, 12, 13, 14, 15, 16, 17, 18, 19, 20, 21, 22, 23, 1, 2, 3, 4, 5, 6, 7, 8] rfl) (hD.sub (ws' := fo_w (a0 0) (a1 0) (a2 0) (a3 0) (a4 0) (a5 0) p8 s8 ++ tp_w a1 q u_5b ++ bd_w a2 q s2 ++ pg_w a5 q u_5a) [0, 9, 10, 11, 12, 13, 14, 15, 16, 17, 18, 19, 20, 21, 22, 23, 1, 2, 3, 4, 5, 6, 7, 8] (by decide) rfl) hS dX6_whyNotProgram_51
  · replace h := h.2 c_3
    refine lv_iconst (v := (-1)) hx hb dX6_whyNotProgram_10 (by decide) ?_
    exact mt_iret (s1, s5) hx hb hr hk h (hP.sub (ws' := fo_w (a0 0) (a1 0) (a2 0) (a3 0) (a4 0) (a5 0) p8 s8 ++ tp_w a1 q s1 ++ bd_w a2 q s2 ++ pg_w a5 q s5) [0, 1, 2, 3, 4, 5, 6, 7, 8, 9, 10, 11, 12, 13, 14, 15, 16, 17, 18, 19, 20, 21, 22, 23] rfl) (hD.sub (ws' := fo_w (a0 0) (a1 0) (a2 0) (a3 0) (a4 0) (a5 0) p8 s8 ++ tp_w a1 q s1 ++ bd_w a2 q s2 ++ pg_w a5 q s5) [0, 1, 2, 3, 4, 5, 6, 7, 8, 9, 10, 11, 12, 13, 14, 15, 16, 17, 18, 19, 20, 21, 22, 23] (by decide) rfl) hS dX6_whyNotProgram_11

def wp_X6_doStep (post : Bd → Mo → Prop) (s1 : Tp) (s2 : Bd) (s4 : Mo) (s5 : Pg) (x1 : Int32) : Prop := wp_X4_oneOf (fun r_1 => wp_X4_twoOf (fun r_3 => wp_X4_kindOf (fun r_5 => ((r_5 = 6 → wp_X4_quotedOf (fun r_8 => wp_X0_wantSigns (fun r_10 u_11 => post u_11 s4) s2 s1 r_1 r_3 r_8) s5 x1) ∧ (¬ r_5 = 6 → ((r_5 = 7 → wp_X0_setLost (fun u_14 => post u_14 s4) s2 r_1 r_3) ∧ (¬ r_5 = 7 → ((r_5 = 8 → wp_X4_quotedOf (fun r_16 => wp_X0_scrollUp (fun r_18 u_19 => post u_19 s4) s2 s1 r_3 r_16) s5 x1) ∧ (¬ r_5 = 8 → ((r_5 = 9 → wp_X0_wantHome (fun u_22 => post u_22 s4) s2 r_1) ∧ (¬ r_5 = 9 → ((r_5 = 10 → wp_X2_turn (fun u_25a u_25b => post u_25b u_25a) s4 s2 r_1) ∧ (¬ r_5 = 10 → ((r_5 = 11 → wp_X2_turn (fun u_28a u_28b => post u_28b u_28a) s4 s2 (9999 : Int32)) ∧ (¬ r_5 = 11 → post s2 s4))))))))))))) s5 x1) s5 x1) s5 x1
set_option maxHeartbeats 4000000 in
set_option maxRecDepth 100000 in
theorem c2_X6_doStep {l : Launch} {D : va_G} {q : Nat → ClassId} {sz : Nat} {a0 a1 a2 a3 a4 a5 : Nat → Nat} {p8 s8 : Nat} {s1 : Tp} {s2 : Bd} {s4 : Mo} {s5 : Pg} {x1 : Int32} {post : Bd → Mo → Prop} (h : wp_X6_doStep post s1 s2 s4 s5 x1) : Met l yX6_doStep (Cond.code yX6_doStep cX6_doStep 4 none :: w_all) ({ frames := 4, cells := 0, slots := 0, locals := 114 } : Room) (mt_P D q [.ref (a0 0), .int x1] (fo_w (a0 0) (a1 0) (a2 0) (a3 0) (a4 0) (a5 0) p8 s8 ++ tp_w a1 q s1 ++ bd_w a2 q s2 ++ mo_w a4 q s4 ++ pg_w a5 q s5) sz) (va_Qv (fun u : Bd × Mo => post u.1 u.2) (mt_B D (fo_w (a0 0) (a1 0) (a2 0) (a3 0) (a4 0) (a5 0) p8 s8 ++ tp_w a1 q s1 ++ bd_w a2 q s2 ++ mo_w a4 q s4 ++ pg_w a5 q s5) sz (fun u : Bd × Mo => fo_w (a0 0) (a1 0) (a2 0) (a3 0) (a4 0) (a5 0) p8 s8 ++ tp_w a1 q s1 ++ bd_w a2 q u.1 ++ mo_w a4 q u.2 ++ pg_w a5 q s5)) (va_A (fo_w (a0 0) (a1 0) (a2 0) (a3 0) (a4 0) (a5 0) p8 s8 ++ tp_w a1 q s1 ++ bd_w a2 q s2 ++ mo_w a4 q s4 ++ pg_w a5 q s5) sz)) 0 0 (va_A (fo_w (a0 0) (a1 0) (a2 0) (a3 0) (a4 0) (a5 0) p8 s8 ++ tp_w a1 q s1 ++ bd_w a2 q s2 ++ mo_w a4 q s4 ++ pg_w a5 q s5) sz) := by
  refine mt_start (by decide) (Nat.le_of_ble_eq_true rfl) ?_
  intro p e s m below meth c ls hx hb hr hml hown ht hk hin hP hQ hD hA hS hV hl
  have hK := hQ.1
  have hown : s.vm.findClass RX6 = some m.cls := hown
  have hl : lv_has ls 4 [(0, .ref (a0 0)), (1, .int x1)] := hl
  have hP : va_P D vwCl [((a0 0), .inr (5, [.ref (a1 0), .ref (a2 0), .ref (a3 0), .ref (a4 0), .ref (a5 0), .ref p8, .ref s8])), ((a1 0), .inr (4, [.ref (a1 1), .int (s1.1 0), .int (s1.1 1), .int (s1.1 2), .int (s1.1 3), .int (s1.1 4), .int (s1.1 5)])), ((a1 1), .inl (q 0, 400, .inl s1.2)), ((a2 0), .inr (0, [.int (s2.1 0), .int (s2.1 1), .int (s2.1 2), .int (s2.1 3), .int (s2.1 4), .int (s2.1 5), .ref (a2 1), .ref (a2 2), .ref (a2 3), .ref (a2 4), .ref (a2 5), .ref (a2 6), .ref (a2 7), .ref (a2 8), .ref (a2 9), .ref (a2 10), .ref (a2 11), .ref (a2 12)])), ((a2 1), .inl (q 0, 4, .inl (s2.2.1 0))), ((a2 2), .inl (q 0, 4, .inl (s2.2.1 1))), ((a2 3), .inl (q 0, 160, .inl (s2.2.1 2))), ((a2 4), .inl (q 0, 40, .inl (s2.2.1 3))), ((a2 5), .inl (q 0, 40, .inl (s2.2.1 4))), ((a2 6), .inl (q 0, 40, .inl (s2.2.1 5))), ((a2 7), .inl (q 0, 40, .inl (s2.2.1 6))), ((a2 8), .inl (q 0, 40, .inl (s2.2.1 7))), ((a2 9), .inl (q 0, 40, .inl (s2.2.1 8))), ((a2 10), .inl (q 0, 40, .inl (s2.2.1 9))), ((a2 11), .inl (q 1, 40, .inr (.inl s2.2.2.1))), ((a2 12), .inl (q 0, s2.2.2.2.1, .inl s2.2.2.2.2)), ((a4 0), .inr (1, [.ref (a4 1), .ref (a4 2), .ref (a4 3), .int (s4.1 0), .int (s4.1 1), .int (s4.1 2), .int (s4.1 3), .int (s4.1 4), .int (s4.1 5), .int (s4.1 6), .int (s4.1 7), .int (s4.1 8)])), ((a4 1), .inl (q 0, 40, .inl (s4.2 0))), ((a4 2), .inl (q 0, 40, .inl (s4.2 1))), ((a4 3), .inl (q 0, 40, .inl (s4.2 2))), ((a5 0), .inr (3, [.ref (a5 1), .ref (a5 2), .ref (a5 3), .ref (a5 4), .ref (a5 5), .ref (a5 6), .ref (a5 7), .int (s5.1 0), .int (s5.1 1), .int (s5.1 2)])), ((a5 1), .inl (q 0, 80, .inl (s5.2 0))), ((a5 2), .inl (q 0, 80, .inl (s5.2 1))), ((a5 3), .inl (q 0, 80, .inl (s5.2 2))), ((a5 4), .inl (q 0, 80, .inl (s5.2 3))), ((a5 5), .inl (q 0, 80, .inl (s5.2 4))), ((a5 6), .inl (q 0, 3, .inl (s5.2 5))), ((a5 7), .inl (q 0, 3, .inl (s5.2 6)))] s.heap := hP
  have hD : va_D _ [((a0 0), .inr (5, [.ref (a1 0), .ref (a2 0), .ref (a3 0), .ref (a4 0), .ref (a5 0), .ref p8, .ref s8])), ((a1 0), .inr (4, [.ref (a1 1), .int (s1.1 0), .int (s1.1 1), .int (s1.1 2), .int (s1.1 3), .int (s1.1 4), .int (s1.1 5)])), ((a1 1), .inl (q 0, 400, .inl s1.2)), ((a2 0), .inr (0, [.int (s2.1 0), .int (s2.1 1), .int (s2.1 2), .int (s2.1 3), .int (s2.1 4), .int (s2.1 5), .ref (a2 1), .ref (a2 2), .ref (a2 3), .ref (a2 4), .ref (a2 5), .ref (a2 6), .ref (a2 7), .ref (a2 8), .ref (a2 9), .ref (a2 10), .ref (a2 11), .ref (a2 12)])), ((a2 1), .inl (q 0, 4, .inl (s2.2.1 0))), ((a2 2), .inl (q 0, 4, .inl (s2.2.1 1))), ((a2 3), .inl (q 0, 160, .inl (s2.2.1 2))), ((a2 4), .inl (q 0, 40, .inl (s2.2.1 3))), ((a2 5), .inl (q 0, 40, .inl (s2.2.1 4))), ((a2 6), .inl (q 0, 40, .inl (s2.2.1 5))), ((a2 7), .inl (q 0, 40, .inl (s2.2.1 6))), ((a2 8), .inl (q 0, 40, .inl (s2.2.1 7))), ((a2 9), .inl (q 0, 40, .inl (s2.2.1 8))), ((a2 10), .inl (q 0, 40, .inl (s2.2.1 9))), ((a2 11), .inl (q 1, 40, .inr (.inl s2.2.2.1))), ((a2 12), .inl (q 0, s2.2.2.2.1, .inl s2.2.2.2.2)), ((a4 0), .inr (1, [.ref (a4 1), .ref (a4 2), .ref (a4 3), .int (s4.1 0), .int (s4.1 1), .int (s4.1 2), .int (s4.1 3), .int (s4.1 4), .int (s4.1 5), .int (s4.1 6), .int (s4.1 7), .int (s4.1 8)])), ((a4 1), .inl (q 0, 40, .inl (s4.2 0))), ((a4 2), .inl (q 0, 40, .inl (s4.2 1))), ((a4 3), .inl (q 0, 40, .inl (s4.2 2))), ((a5 0), .inr (3, [.ref (a5 1), .ref (a5 2), .ref (a5 3), .ref (a5 4), .ref (a5 5), .ref (a5 6), .ref (a5 7), .int (s5.1 0), .int (s5.1 1), .int (s5.1 2)])), ((a5 1), .inl (q 0, 80, .inl (s5.2 0))), ((a5 2), .inl (q 0, 80, .inl (s5.2 1))), ((a5 3), .inl (q 0, 80, .inl (s5.2 2))), ((a5 4), .inl (q 0, 80, .inl (s5.2 3))), ((a5 5), .inl (q 0, 80, .inl (s5.2 4))), ((a5 6), .inl (q 0, 3, .inl (s5.2 5))), ((a5 7), .inl (q 0, 3, .inl (s5.2 6)))] := hD
  unfold wp_X6_doStep at h
  refine lv_aload_n hx hb dX6_doStep_0 rfl (lv_at hl 0 rfl) ?_
  refine fl_get (C := RX6) (T := TX6) (N := 7) (ci := 5) (v := .ref (a5 0)) hx hb ht in_X6 hown hK hP 0 rfl rfl 4 (by decide) mw_359 rfl dX6_doStep_1 ?_
  refine lv_iload_n hx hb dX6_doStep_4 rfl (lv_at hl 1 rfl) ?_
  refine vp_callSi (rd_wV (wc := pg_w a5 q s5) (As := [.int x1]) (rest := []) hx hb hml hown ht (c2_X4_oneOf h) wd_X4_oneOf mw_839 hQ hV hS (hP.sub [20, 21, 22, 23, 24, 25, 26, 27] rfl) rfl rfl rfl hl.1 rfl (Nat.le_of_ble_eq_true rfl) dX6_doStep_5 ⟨Nat.le_of_ble_eq_true rfl, Nat.le_of_ble_eq_true rfl, rfl, rfl⟩ ⟨Nat.le_of_ble_eq_true rfl, Nat.le_of_ble_eq_true rfl⟩) (fun r_1 h => ?_)
  try dsimp only at h
  refine lv_istore_n (lv' := [(2, .int r_1), (0, .ref (a0 0)), (1, .int x1)]) hx hb dX6_doStep_8 rfl hl (by decide) rfl (fun ls hl => ?_)
  refine lv_aload_n hx hb dX6_doStep_9 rfl (lv_at hl 1 rfl) ?_
  refine fl_get (C := RX6) (T := TX6) (N := 7) (ci := 5) (v := .ref (a5 0)) hx hb ht in_X6 hown hK hP 0 rfl rfl 4 (by decide) mw_359 rfl dX6_doStep_10 ?_
  refine lv_iload_n hx hb dX6_doStep_13 rfl (lv_at hl 2 rfl) ?_
  refine vp_callSi (rd_wV (wc := pg_w a5 q s5) (As := [.int x1]) (rest := []) hx hb hml hown ht (c2_X4_twoOf h) wd_X4_twoOf mw_843 hQ hV hS (hP.sub [20, 21, 22, 23, 24, 25, 26, 27] rfl) rfl rfl rfl hl.1 rfl (Nat.le_of_ble_eq_true rfl) dX6_doStep_14 ⟨Nat.le_of_ble_eq_true rfl, Nat.le_of_ble_eq_true rfl, rfl, rfl⟩ ⟨Nat.le_of_ble_eq_true rfl, Nat.le_of_ble_eq_true rfl⟩) (fun r_3 h => ?_)
  try dsimp only at h
  refine lv_istore_n (lv' := [(3, .int r_3), (2, .int r_1), (0, .ref (a0 0)), (1, .int x1)]) hx hb dX6_doStep_17 rfl hl (by decide) rfl (fun ls hl => ?_)
  refine lv_aload_n hx hb dX6_doStep_18 rfl (lv_at hl 2 rfl) ?_
  refine fl_get (C := RX6) (T := TX6) (N := 7) (ci := 5) (v := .ref (a5 0)) hx hb ht in_X6 hown hK hP 0 rfl rfl 4 (by decide) mw_359 rfl dX6_doStep_19 ?_
  refine lv_iload_n hx hb dX6_doStep_22 rfl (lv_at hl 3 rfl) ?_
  refine vp_callSi (rd_wV (wc := pg_w a5 q s5) (As := [.int x1]) (rest := []) hx hb hml hown ht (c2_X4_kindOf h) wd_X4_kindOf mw_847 hQ hV hS (hP.sub [20, 21, 22, 23, 24, 25, 26, 27] rfl) rfl rfl rfl hl.1 rfl (Nat.le_of_ble_eq_true rfl) dX6_doStep_23 ⟨Nat.le_of_ble_eq_true rfl, Nat.le_of_ble_eq_true rfl, rfl, rfl⟩ ⟨Nat.le_of_ble_eq_true rfl, Nat.le_of_ble_eq_true rfl⟩) (fun r_5 h => ?_)
  try dsimp only at h
  by_cases k_7 : r_5 = 6
  · replace h := h.1 k_7
    refine lv_tableIn (tgt := 64) hx hb dX6_doStep_26 (by rw [k_7]; decide) (by rw [k_7]; decide) (by rw [k_7]; rfl) (by decide) ?_
    refine lv_aload_n hx hb dX6_doStep_64 rfl (lv_at hl 2 rfl) ?_
    refine fl_get (C := RX6) (T := TX6) (N := 7) (ci := 5) (v := .ref (a2 0)) hx hb ht in_X6 hown hK hP 0 rfl rfl 1 (by decide) mw_356 rfl dX6_doStep_65 ?_
    refine lv_iload_n hx hb dX6_doStep_68 rfl (lv_at hl 1 rfl) ?_
    refine lv_aload_n hx hb dX6_doStep_69 rfl (lv_at hl 2 rfl) ?_
    refine fl_get (C := RX6) (T := TX6) (N := 7) (ci := 5) (v := .ref (a1 0)) hx hb ht in_X6 hown hK hP 0 rfl rfl 0 (by decide) mw_355 rfl dX6_doStep_70 ?_
    refine lv_iload_n hx hb dX6_doStep_73 rfl (lv_at hl 0 rfl) ?_
    refine lv_aload_n hx hb dX6_doStep_74 rfl (lv_at hl 2 rfl) ?_
    refine fl_get (C := RX6) (T := TX6) (N := 7) (ci := 5) (v := .ref (a5 0)) hx hb ht in_X6 hown hK hP 0 rfl rfl 4 (by decide) mw_359 rfl dX6_doStep_75 ?_
    refine lv_iload_n hx hb dX6_doStep_78 rfl (lv_at hl 3 rfl) ?_
    refine vp_callSi (rd_wV (wc := pg_w a5 q s5) (As := [.int x1]) (rest := [.int r_3, .ref (a1 0), .int r_1, .ref (a2 0)]) hx hb hml hown ht (c2_X4_quotedOf h) wd_X4_quotedOf mw_851 hQ hV hS (hP.sub [20, 21, 22, 23, 24, 25, 26, 27] rfl) rfl rfl rfl hl.1 rfl (Nat.le_of_ble_eq_true rfl) dX6_doStep_79 ⟨Nat.le_of_ble_eq_true rfl, Nat.le_of_ble_eq_true rfl, rfl, rfl⟩ ⟨Nat.le_of_ble_eq_true rfl, Nat.le_of_ble_eq_true rfl⟩) (fun r_8 h => ?_)
    try dsimp only at h
    refine mt_goi (mt_wV (wc := bd_w a2 q s2 ++ tp_w a1 q s1) (As := [.int r_1, .ref (a1 0), .int r_3, .int r_8]) (rest := []) hx hb hml hown ht (c2_X0_wantSigns h) wd_X0_wantSigns mw_643 hQ hV hS hA (hP.sub [3, 4, 5, 6, 7, 8, 9, 10, 11, 12, 13, 14, 15, 1, 2] rfl) (hD.sub [3, 4, 5, 6, 7, 8, 9, 10, 11, 12, 13, 14, 15, 1, 2] (by decide) rfl) rfl rfl rfl hl.1 rfl (Nat.le_of_ble_eq_true rfl) dX6_doStep_82 ⟨Nat.le_of_ble_eq_true rfl, Nat.le_of_ble_eq_true rfl, rfl, rfl⟩ ⟨Nat.le_of_ble_eq_true rfl, Nat.le_of_ble_eq_true rfl⟩) (wr := [((a0 0), .inr (5, [.ref (a1 0), .ref (a2 0), .ref (a3 0), .ref (a4 0), .ref (a5 0), .ref p8, .ref s8])), ((a4 0), .inr (1, [.ref (a4 1), .ref (a4 2), .ref (a4 3), .int (s4.1 0), .int (s4.1 1), .int (s4.1 2), .int (s4.1 3), .int (s4.1 4), .int (s4.1 5), .int (s4.1 6), .int (s4.1 7), .int (s4.1 8)])), ((a4 1), .inl (q 0, 40, .inl (s4.2 0))), ((a4 2), .inl (q 0, 40, .inl (s4.2 1))), ((a4 3), .inl (q 0, 40, .inl (s4.2 2))), ((a5 0), .inr (3, [.ref (a5 1), .ref (a5 2), .ref (a5 3), .ref (a5 4), .ref (a5 5), .ref (a5 6), .ref (a5 7), .int (s5.1 0), .int (s5.1 1), .int (s5.1 2)])), ((a5 1), .inl (q 0, 80, .inl (s5.2 0))), ((a5 2), .inl (q 0, 80, .inl (s5.2 1))), ((a5 3), .inl (q 0, 80, .inl (s5.2 2))), ((a5 4), .inl (q 0, 80, .inl (s5.2 3))), ((a5 5), .inl (q 0, 80, .inl (s5.2 4))), ((a5 6), .inl (q 0, 3, .inl (s5.2 5))), ((a5 7), .inl (q 0, 3, .inl (s5.2 6)))]) hP hD hS hA [3, 4, 5, 6, 7, 8, 9, 10, 11, 12, 13, 14, 15, 1, 2] [0, 16, 17, 18, 19, 20, 21, 22, 23, 24, 25, 26, 27] rfl rfl (by decide) (by decide) (fun r_10 u_11 H locs h hP hD hS => ?_)
    try dsimp only at h
    have hP : va_P D vwCl [((a0 0), .inr (5, [.ref (a1 0), .ref (a2 0), .ref (a3 0), .ref (a4 0), .ref (a5 0), .ref p8, .ref s8])), ((a4 0), .inr (1, [.ref (a4 1), .ref (a4 2), .ref (a4 3), .int (s4.1 0), .int (s4.1 1), .int (s4.1 2), .int (s4.1 3), .int (s4.1 4), .int (s4.1 5), .int (s4.1 6), .int (s4.1 7), .int (s4.1 8)])), ((a4 1), .inl (q 0, 40, .inl (s4.2 0))), ((a4 2), .inl (q 0, 40, .inl (s4.2 1))), ((a4 3), .inl (q 0, 40, .inl (s4.2 2))), ((a5 0), .inr (3, [.ref (a5 1), .ref (a5 2), .ref (a5 3), .ref (a5 4), .ref (a5 5), .ref (a5 6), .ref (a5 7), .int (s5.1 0), .int (s5.1 1), .int (s5.1 2)])), ((a5 1), .inl (q 0, 80, .inl (s5.2 0))), ((a5 2), .inl (q 0, 80, .inl (s5.2 1))), ((a5 3), .inl (q 0, 80, .inl (s5.2 2))), ((a5 4), .inl (q 0, 80, .inl (s5.2 3))), ((a5 5), .inl (q 0, 80, .inl (s5.2 4))), ((a5 6), .inl (q 0, 3, .inl (s5.2 5))), ((a5 7), .inl (q 0, 3, .inl (s5.2 6))), ((a2 0), .inr (0, [.int (u_11.1 0), .int (u_11.1 1), .int (u_11.1 2), .int (u_11.1 3), .int (u_11.1 4), .int (u_11.1 5), .ref (a2 1), .ref (a2 2), .ref (a2 3), .ref (a2 4), .ref (a2 5), .ref (a2 6), .ref (a2 7), .ref (a2 8), .ref (a2 9), .ref (a2 10), .ref (a2 11), .ref (a2 12)])), ((a2 1), .inl (q 0, 4, .inl (u_11.2.1 0))), ((a2 2), .inl (q 0, 4, .inl (u_11.2.1 1))), ((a2 3), .inl (q 0, 160, .inl (u_11.2.1 2))), ((a2 4), .inl (q 0, 40, .inl (u_11.2.1 3))), ((a2 5), .inl (q 0, 40, .inl (u_11.2.1 4))), ((a2 6), .inl (q 0, 40, .inl (u_11.2.1 5))), ((a2 7), .inl (q 0, 40, .inl (u_11.2.1 6))), ((a2 8), .inl (q 0, 40, .inl (u_11.2.1 7))), ((a2 9), .inl (q 0, 40, .inl (u_11.2.1 8))), ((a2 10), .inl (q 0, 40, .inl (u_11.2.1 9))), ((a2 11), .inl (q 1, 40, .inr (.inl u_11.2.2.1))), ((a2 12), .inl (q 0, u_11.2.2.2.1, .inl u_11.2.2.2.2)), ((a1 0), .inr (4, [.ref (a1 1), .int (s1.1 0), .int (s1.1 1), .int (s1.1 2), .int (s1.1 3), .int (s1.1 4), .int (s1.1 5)])), ((a1 1), .inl (q 0, 400, .inl s1.2))] H := hP
    have hD : va_D _ [((a0 0), .inr (5, [.ref (a1 0), .ref (a2 0), .ref (a3 0), .ref (a4 0), .ref (a5 0), .ref p8, .ref s8])), ((a4 0), .inr (1, [.ref (a4 1), .ref (a4 2), .ref (a4 3), .int (s4.1 0), .int (s4.1 1), .int (s4.1 2), .int (s4.1 3), .int (s4.1 4), .int (s4.1 5), .int (s4.1 6), .int (s4.1 7), .int (s4.1 8)])), ((a4 1), .inl (q 0, 40, .inl (s4.2 0))), ((a4 2), .inl (q 0, 40, .inl (s4.2 1))), ((a4 3), .inl (q 0, 40, .inl (s4.2 2))), ((a5 0), .inr (3, [.ref (a5 1), .ref (a5 2), .ref (a5 3), .ref (a5 4), .ref (a5 5), .ref (a5 6), .ref (a5 7), .int (s5.1 0), .int (s5.1 1), .int (s5.1 2)])), ((a5 1), .inl (q 0, 80, .inl (s5.2 0))), ((a5 2), .inl (q 0, 80, .inl (s5.2 1))), ((a5 3), .inl (q 0, 80, .inl (s5.2 2))), ((a5 4), .inl (q 0, 80, .inl (s5.2 3))), ((a5 5), .inl (q 0, 80, .inl (s5.2 4))), ((a5 6), .inl (q 0, 3, .inl (s5.2 5))), ((a5 7), .inl (q 0, 3, .inl (s5.2 6))), ((a2 0), .inr (0, [.int (u_11.1 0), .int (u_11.1 1), .int (u_11.1 2), .int (u_11.1 3), .int (u_11.1 4), .int (u_11.1 5), .ref (a2 1), .ref (a2 2), .ref (a2 3), .ref (a2 4), .ref (a2 5), .ref (a2 6), .ref (a2 7), .ref (a2 8), .ref (a2 9), .ref (a2 10), .ref (a2 11), .ref (a2 12)])), ((a2 1), .inl (q 0, 4, .inl (u_11.2.1 0))), ((a2 2), .inl (q 0, 4, .inl (u_11.2.1 1))), ((a2 3), .inl (q 0, 160, .inl (u_11.2.1 2))), ((a2 4), .inl (q 0, 40, .inl (u_11.2.1 3))), ((a2 5), .inl (q 0, 40, .inl (u_11.2.1 4))), ((a2 6), .inl (q 0, 40, .inl (u_11.2.1 5))), ((a2 7), .inl (q 0, 40, .inl (u_11.2.1 6))), ((a2 8), .inl (q 0, 40, .inl (u_11.2.1 7))), ((a2 9), .inl (q 0, 40, .inl (u_11.2.1 8))), ((a2 10), .inl (q 0, 40, .inl (u_11.2.1 9))), ((a2 11), .inl (q 1, 40, .inr (.inl u_11.2.2.1))), ((a2 12), .inl (q 0, u_11.2.2.2.1, .inl u_11.2.2.2.2)), ((a1 0), .inr (4, [.ref (a1 1), .int (s1.1 0), .int (s1.1 1), .int (s1.1 2), .int (s1.1 3), .int (s1.1 4), .int (s1.1 5)])), ((a1 1), .inl (q 0, 400, .inl s1.2))] := hD
    refine lv_pop hx hb dX6_doStep_85 rfl ?_
    refine lv_goto (tgt := 168) hx hb dX6_doStep_86 (by decide) ?_
    exact mt_vret (u_11, s4) hx hb hr hk h (hP.sub (ws' := fo_w (a0 0) (a1 0) (a2 0) (a3 0) (a4 0) (a5 0) p8 s8 ++ tp_w a1 q s1 ++ bd_w a2 q u_11 ++ mo_w a4 q s4 ++ pg_w a5 q s5) [0, 26, 27, 13, 14, 15, 16, 17, 18, 19, 20, 21, 22, 23, 24, 25, 1, 2, 3, 4, 5, 6, 7, 8, 9, 10, 11, 12] rfl) (hD.sub (ws' := fo_w (a0 0) (a1 0) (a2 0) (a3 0) (a4 0) (a5 0) p8 s8 ++ tp_w a1 q s1 ++ bd_w a2 q u_11 ++ mo_w a4 q s4 ++ pg_w a5 q s5) [0, 26, 27, 13, 14, 15, 16, 17, 18, 19, 20, 21, 22, 23, 24, 25, 1, 2, 3, 4, 5, 6, 7, 8, 9, 10, 11, 12] (by decide) rfl) hS dX6_doStep_168
  replace h := h.2 k_7
  by_cases k_12 : r_5 = 7
  · replace h := h.1 k_12
    refine lv_tableIn (tgt := 156) hx hb dX6_doStep_26 (by rw [k_12]; decide) (by rw [k_12]; decide) (by rw [k_12]; rfl) (by decide) ?_
    refine lv_aload_n hx hb dX6_doStep_156 rfl (lv_at hl 2 rfl) ?_
    refine fl_get (C := RX6) (T := TX6) (N := 7) (ci := 5) (v := .ref (a2 0)) hx hb ht in_X6 hown hK hP 0 rfl rfl 1 (by decide) mw_356 rfl dX6_doStep_157 ?_
    refine lv_iload_n hx hb dX6_doStep_160 rfl (lv_at hl 1 rfl) ?_
    refine lv_iload_n hx hb dX6_doStep_161 rfl (lv_at hl 0 rfl) ?_
    refine mt_gov (mt_wV (wc := bd_w a2 q s2) (As := [.int r_1, .int r_3]) (rest := []) hx hb hml hown ht (c2_X0_setLost h) wd_X0_setLost mw_731 hQ hV hS hA (hP.sub [3, 4, 5, 6, 7, 8, 9, 10, 11, 12, 13, 14, 15] rfl) (hD.sub [3, 4, 5, 6, 7, 8, 9, 10, 11, 12, 13, 14, 15] (by decide) rfl) rfl rfl rfl hl.1 rfl (Nat.le_of_ble_eq_true rfl) dX6_doStep_162 ⟨Nat.le_of_ble_eq_true rfl, Nat.le_of_ble_eq_true rfl, rfl, rfl⟩ ⟨Nat.le_of_ble_eq_true rfl, Nat.le_of_ble_eq_true rfl⟩) (wr := [((a0 0), .inr (5, [.ref (a1 0), .ref (a2 0), .ref (a3 0), .ref (a4 0), .ref (a5 0), .ref p8, .ref s8])), ((a1 0), .inr (4, [.ref (a1 1), .int (s1.1 0), .int (s1.1 1), .int (s1.1 2), .int (s1.1 3), .int (s1.1 4), .int (s1.1 5)])), ((a1 1), .inl (q 0, 400, .inl s1.2)), ((a4 0), .inr (1, [.ref (a4 1), .ref (a4 2), .ref (a4 3), .int (s4.1 0), .int (s4.1 1), .int (s4.1 2), .int (s4.1 3), .int (s4.1 4), .int (s4.1 5), .int (s4.1 6), .int (s4.1 7), .int (s4.1 8)])), ((a4 1), .inl (q 0, 40, .inl (s4.2 0))), ((a4 2), .inl (q 0, 40, .inl (s4.2 1))), ((a4 3), .inl (q 0, 40, .inl (s4.2 2))), ((a5 0), .inr (3, [.ref (a5 1), .ref (a5 2), .ref (a5 3), .ref (a5 4), .ref (a5 5), .ref (a5 6), .ref (a5 7), .int (s5.1 0), .int (s5.1 1), .int (s5.1 2)])), ((a5 1), .inl (q 0, 80, .inl (s5.2 0))), ((a5 2), .inl (q 0, 80, .inl (s5.2 1))), ((a5 3), .inl (q 0, 80, .inl (s5.2 2))), ((a5 4), .inl (q 0, 80, .inl (s5.2 3))), ((a5 5), .inl (q 0, 80, .inl (s5.2 4))), ((a5 6), .inl (q 0, 3, .inl (s5.2 5))), ((a5 7), .inl (q 0, 3, .inl (s5.2 6)))]) hP hD hS hA [3, 4, 5, 6, 7, 8, 9, 10, 11, 12, 13, 14, 15] [0, 1, 2, 16, 17, 18, 19, 20, 21, 22, 23, 24, 25, 26, 27] rfl rfl (by decide) (by decide) (fun u_14 H locs h hP hD hS => ?_)
    try dsimp only at h
    have hP : va_P D vwCl [((a0 0), .inr (5, [.ref (a1 0), .ref (a2 0), .ref (a3 0), .ref (a4 0), .ref (a5 0), .ref p8, .ref s8])), ((a1 0), .inr (4, [.ref (a1 1), .int (s1.1 0), .int (s1.1 1), .int (s1.1 2), .int (s1.1 3), .int (s1.1 4), .int (s1.1 5)])), ((a1 1), .inl (q 0, 400, .inl s1.2)), ((a4 0), .inr (1, [.ref (a4 1), .ref (a4 2), .ref (a4 3), .int (s4.1 0), .int (s4.1 1), .int (s4.1 2), .int (s4.1 3), .int (s4.1 4), .int (s4.1 5), .int (s4.1 6), .int (s4.1 7), .int (s4.1 8)])), ((a4 1), .inl (q 0, 40, .inl (s4.2 0))), ((a4 2), .inl (q 0, 40, .inl (s4.2 1))), ((a4 3), .inl (q 0, 40, .inl (s4.2 2))), ((a5 0), .inr (3, [.ref (a5 1), .ref (a5 2), .ref (a5 3), .ref (a5 4), .ref (a5 5), .ref (a5 6), .ref (a5 7), .int (s5.1 0), .int (s5.1 1), .int (s5.1 2)])), ((a5 1), .inl (q 0, 80, .inl (s5.2 0))), ((a5 2), .inl (q 0, 80, .inl (s5.2 1))), ((a5 3), .inl (q 0, 80, .inl (s5.2 2))), ((a5 4), .inl (q 0, 80, .inl (s5.2 3))), ((a5 5), .inl (q 0, 80, .inl (s5.2 4))), ((a5 6), .inl (q 0, 3, .inl (s5.2 5))), ((a5 7), .inl (q 0, 3, .inl (s5.2 6))), ((a2 0), .inr (0, [.int (u_14.1 0), .int (u_14.1 1), .int (u_14.1 2), .int (u_14.1 3), .int (u_14.1 4), .int (u_14.1 5), .ref (a2 1), .ref (a2 2), .ref (a2 3), .ref (a2 4), .ref (a2 5), .ref (a2 6), .ref (a2 7), .ref (a2 8), .ref (a2 9), .ref (a2 10), .ref (a2 11), .ref (a2 12)])), ((a2 1), .inl (q 0, 4, .inl (u_14.2.1 0))), ((a2 2), .inl (q 0, 4, .inl (u_14.2.1 1))), ((a2 3), .inl (q 0, 160, .inl (u_14.2.1 2))), ((a2 4), .inl (q 0, 40, .inl (u_14.2.1 3))), ((a2 5), .inl (q 0, 40, .inl (u_14.2.1 4))), ((a2 6), .inl (q 0, 40, .inl (u_14.2.1 5))), ((a2 7), .inl (q 0, 40, .inl (u_14.2.1 6))), ((a2 8), .inl (q 0, 40, .inl (u_14.2.1 7))), ((a2 9), .inl (q 0, 40, .inl (u_14.2.1 8))), ((a2 10), .inl (q 0, 40, .inl (u_14.2.1 9))), ((a2 11), .inl (q 1, 40, .inr (.inl u_14.2.2.1))), ((a2 12), .inl (q 0, u_14.2.2.2.1, .inl u_14.2.2.2.2))] H := hP
    have hD : va_D _ [((a0 0), .inr (5, [.ref (a1 0), .ref (a2 0), .ref (a3 0), .ref (a4 0), .ref (a5 0), .ref p8, .ref s8])), ((a1 0), .inr (4, [.ref (a1 1), .int (s1.1 0), .int (s1.1 1), .int (s1.1 2), .int (s1.1 3), .int (s1.1 4), .int (s1.1 5)])), ((a1 1), .inl (q 0, 400, .inl s1.2)), ((a4 0), .inr (1, [.ref (a4 1), .ref (a4 2), .ref (a4 3), .int (s4.1 0), .int (s4.1 1), .int (s4.1 2), .int (s4.1 3), .int (s4.1 4), .int (s4.1 5), .int (s4.1 6), .int (s4.1 7), .int (s4.1 8)])), ((a4 1), .inl (q 0, 40, .inl (s4.2 0))), ((a4 2), .inl (q 0, 40, .inl (s4.2 1))), ((a4 3), .inl (q 0, 40, .inl (s4.2 2))), ((a5 0), .inr (3, [.ref (a5 1), .ref (a5 2), .ref (a5 3), .ref (a5 4), .ref (a5 5), .ref (a5 6), .ref (a5 7), .int (s5.1 0), .int (s5.1 1), .int (s5.1 2)])), ((a5 1), .inl (q 0, 80, .inl (s5.2 0))), ((a5 2), .inl (q 0, 80, .inl (s5.2 1))), ((a5 3), .inl (q 0, 80, .inl (s5.2 2))), ((a5 4), .inl (q 0, 80, .inl (s5.2 3))), ((a5 5), .inl (q 0, 80, .inl (s5.2 4))), ((a5 6), .inl (q 0, 3, .inl (s5.2 5))), ((a5 7), .inl (q 0, 3, .inl (s5.2 6))), ((a2 0), .inr (0, [.int (u_14.1 0), .int (u_14.1 1), .int (u_14.1 2), .int (u_14.1 3), .int (u_14.1 4), .int (u_14.1 5), .ref (a2 1), .ref (a2 2), .ref (a2 3), .ref (a2 4), .ref (a2 5), .ref (a2 6), .ref (a2 7), .ref (a2 8), .ref (a2 9), .ref (a2 10), .ref (a2 11), .ref (a2 12)])), ((a2 1), .inl (q 0, 4, .inl (u_14.2.1 0))), ((a2 2), .inl (q 0, 4, .inl (u_14.2.1 1))), ((a2 3), .inl (q 0, 160, .inl (u_14.2.1 2))), ((a2 4), .inl (q 0, 40, .inl (u_14.2.1 3))), ((a2 5), .inl (q 0, 40, .inl (u_14.2.1 4))), ((a2 6), .inl (q 0, 40, .inl (u_14.2.1 5))), ((a2 7), .inl (q 0, 40, .inl (u_14.2.1 6))), ((a2 8), .inl (q 0, 40, .inl (u_14.2.1 7))), ((a2 9), .inl (q 0, 40, .inl (u_14.2.1 8))), ((a2 10), .inl (q 0, 40, .inl (u_14.2.1 9))), ((a2 11), .inl (q 1, 40, .inr (.inl u_14.2.2.1))), ((a2 12), .inl (q 0, u_14.2.2.2.1, .inl u_14.2.2.2.2))] := hD
    refine lv_goto (tgt := 168) hx hb dX6_doStep_165 (by decide) ?_
    exact mt_vret (u_14, s4) hx hb hr hk h (hP.sub (ws' := fo_w (a0 0) (a1 0) (a2 0) (a3 0) (a4 0) (a5 0) p8 s8 ++ tp_w a1 q s1 ++ bd_w a2 q u_14 ++ mo_w a4 q s4 ++ pg_w a5 q s5) [0, 1, 2, 15, 16, 17, 18, 19, 20, 21, 22, 23, 24, 25, 26, 27, 3, 4, 5, 6, 7, 8, 9, 10, 11, 12, 13, 14] rfl) (hD.sub (ws' := fo_w (a0 0) (a1 0) (a2 0) (a3 0) (a4 0) (a5 0) p8 s8 ++ tp_w a1 q s1 ++ bd_w a2 q u_14 ++ mo_w a4 q s4 ++ pg_w a5 q s5) [0, 1, 2, 15, 16, 17, 18, 19, 20, 21, 22, 23, 24, 25, 26, 27, 3, 4, 5, 6, 7, 8, 9, 10, 11, 12, 13, 14] (by decide) rfl) hS dX6_doStep_168
  replace h := h.2 k_12
  by_cases k_15 : r_5 = 8
  · replace h := h.1 k_15
    refine lv_tableIn (tgt := 89) hx hb dX6_doStep_26 (by rw [k_15]; decide) (by rw [k_15]; decide) (by rw [k_15]; rfl) (by decide) ?_
    refine lv_aload_n hx hb dX6_doStep_89 rfl (lv_at hl 2 rfl) ?_
    refine fl_get (C := RX6) (T := TX6) (N := 7) (ci := 5) (v := .ref (a2 0)) hx hb ht in_X6 hown hK hP 0 rfl rfl 1 (by decide) mw_356 rfl dX6_doStep_90 ?_
    refine lv_aload_n hx hb dX6_doStep_93 rfl (lv_at hl 2 rfl) ?_
    refine fl_get (C := RX6) (T := TX6) (N := 7) (ci := 5) (v := .ref (a1 0)) hx hb ht in_X6 hown hK hP 0 rfl rfl 0 (by decide) mw_355 rfl dX6_doStep_94 ?_
    refine lv_iload_n hx hb dX6_doStep_97 rfl (lv_at hl 0 rfl) ?_
    refine lv_aload_n hx hb dX6_doStep_98 rfl (lv_at hl 2 rfl) ?_
    refine fl_get (C := RX6) (T := TX6) (N := 7) (ci := 5) (v := .ref (a5 0)) hx hb ht in_X6 hown hK hP 0 rfl rfl 4 (by decide) mw_359 rfl dX6_doStep_99 ?_
    refine lv_iload_n hx hb dX6_doStep_102 rfl (lv_at hl 3 rfl) ?_
    refine vp_callSi (rd_wV (wc := pg_w a5 q s5) (As := [.int x1]) (rest := [.int r_3, .ref (a1 0), .ref (a2 0)]) hx hb hml hown ht (c2_X4_quotedOf h) wd_X4_quotedOf mw_851 hQ hV hS (hP.sub [20, 21, 22, 23, 24, 25, 26, 27] rfl) rfl rfl rfl hl.1 rfl (Nat.le_of_ble_eq_true rfl) dX6_doStep_103 ⟨Nat.le_of_ble_eq_true rfl, Nat.le_of_ble_eq_true rfl, rfl, rfl⟩ ⟨Nat.le_of_ble_eq_true rfl, Nat.le_of_ble_eq_true rfl⟩) (fun r_16 h => ?_)
    try dsimp only at h
    refine mt_goi (mt_wV (wc := bd_w a2 q s2 ++ tp_w a1 q s1) (As := [.ref (a1 0), .int r_3, .int r_16]) (rest := []) hx hb hml hown ht (c2_X0_scrollUp h) wd_X0_scrollUp mw_656 hQ hV hS hA (hP.sub [3, 4, 5, 6, 7, 8, 9, 10, 11, 12, 13, 14, 15, 1, 2] rfl) (hD.sub [3, 4, 5, 6, 7, 8, 9, 10, 11, 12, 13, 14, 15, 1, 2] (by decide) rfl) rfl rfl rfl hl.1 rfl (Nat.le_of_ble_eq_true rfl) dX6_doStep_106 ⟨Nat.le_of_ble_eq_true rfl, Nat.le_of_ble_eq_true rfl, rfl, rfl⟩ ⟨Nat.le_of_ble_eq_true rfl, Nat.le_of_ble_eq_true rfl⟩) (wr := [((a0 0), .inr (5, [.ref (a1 0), .ref (a2 0), .ref (a3 0), .ref (a4 0), .ref (a5 0), .ref p8, .ref s8])), ((a4 0), .inr (1, [.ref (a4 1), .ref (a4 2), .ref (a4 3), .int (s4.1 0), .int (s4.1 1), .int (s4.1 2), .int (s4.1 3), .int (s4.1 4), .int (s4.1 5), .int (s4.1 6), .int (s4.1 7), .int (s4.1 8)])), ((a4 1), .inl (q 0, 40, .inl (s4.2 0))), ((a4 2), .inl (q 0, 40, .inl (s4.2 1))), ((a4 3), .inl (q 0, 40, .inl (s4.2 2))), ((a5 0), .inr (3, [.ref (a5 1), .ref (a5 2), .ref (a5 3), .ref (a5 4), .ref (a5 5), .ref (a5 6), .ref (a5 7), .int (s5.1 0), .int (s5.1 1), .int (s5.1 2)])), ((a5 1), .inl (q 0, 80, .inl (s5.2 0))), ((a5 2), .inl (q 0, 80, .inl (s5.2 1))), ((a5 3), .inl (q 0, 80, .inl (s5.2 2))), ((a5 4), .inl (q 0, 80, .inl (s5.2 3))), ((a5 5), .inl (q 0, 80, .inl (s5.2 4))), ((a5 6), .inl (q 0, 3, .inl (s5.2 5))), ((a5 7), .inl (q 0, 3, .inl (s5.2 6)))]) hP hD hS hA [3, 4, 5, 6, 7, 8, 9, 10, 11, 12, 13, 14, 15, 1, 2] [0, 16, 17, 18, 19, 20, 21, 22, 23, 24, 25, 26, 27] rfl rfl (by decide) (by decide) (fun r_18 u_19 H locs h hP hD hS => ?_)
    try dsimp only at h
    have hP : va_P D vwCl [((a0 0), .inr (5, [.ref (a1 0), .ref (a2 0), .ref (a3 0), .ref (a4 0), .ref (a5 0), .ref p8, .ref s8])), ((a4 0), .inr (1, [.ref (a4 1), .ref (a4 2), .ref (a4 3), .int (s4.1 0), .int (s4.1 1), .int (s4.1 2), .int (s4.1 3), .int (s4.1 4), .int (s4.1 5), .int (s4.1 6), .int (s4.1 7), .int (s4.1 8)])), ((a4 1), .inl (q 0, 40, .inl (s4.2 0))), ((a4 2), .inl (q 0, 40, .inl (s4.2 1))), ((a4 3), .inl (q 0, 40, .inl (s4.2 2))), ((a5 0), .inr (3, [.ref (a5 1), .ref (a5 2), .ref (a5 3), .ref (a5 4), .ref (a5 5), .ref (a5 6), .ref (a5 7), .int (s5.1 0), .int (s5.1 1), .int (s5.1 2)])), ((a5 1), .inl (q 0, 80, .inl (s5.2 0))), ((a5 2), .inl (q 0, 80, .inl (s5.2 1))), ((a5 3), .inl (q 0, 80, .inl (s5.2 2))), ((a5 4), .inl (q 0, 80, .inl (s5.2 3))), ((a5 5), .inl (q 0, 80, .inl (s5.2 4))), ((a5 6), .inl (q 0, 3, .inl (s5.2 5))), ((a5 7), .inl (q 0, 3, .inl (s5.2 6))), ((a2 0), .inr (0, [.int (u_19.1 0), .int (u_19.1 1), .int (u_19.1 2), .int (u_19.1 3), .int (u_19.1 4), .int (u_19.1 5), .ref (a2 1), .ref (a2 2), .ref (a2 3), .ref (a2 4), .ref (a2 5), .ref (a2 6), .ref (a2 7), .ref (a2 8), .ref (a2 9), .ref (a2 10), .ref (a2 11), .ref (a2 12)])), ((a2 1), .inl (q 0, 4, .inl (u_19.2.1 0))), ((a2 2), .inl (q 0, 4, .inl (u_19.2.1 1))), ((a2 3), .inl (q 0, 160, .inl (u_19.2.1 2))), ((a2 4), .inl (q 0, 40, .inl (u_19.2.1 3))), ((a2 5), .inl (q 0, 40, .inl (u_19.2.1 4))), ((a2 6), .inl (q 0, 40, .inl (u_19.2.1 5))), ((a2 7), .inl (q 0, 40, .inl (u_19.2.1 6))), ((a2 8), .inl (q 0, 40, .inl (u_19.2.1 7))), ((a2 9), .inl (q 0, 40, .inl (u_19.2.1 8))), ((a2 10), .inl (q 0, 40, .inl (u_19.2.1 9))), ((a2 11), .inl (q 1, 40, .inr (.inl u_19.2.2.1))), ((a2 12), .inl (q 0, u_19.2.2.2.1, .inl u_19.2.2.2.2)), ((a1 0), .inr (4, [.ref (a1 1), .int (s1.1 0), .int (s1.1 1), .int (s1.1 2), .int (s1.1 3), .int (s1.1 4), .int (s1.1 5)])), ((a1 1), .inl (q 0, 400, .inl s1.2))] H := hP
    have hD : va_D _ [((a0 0), .inr (5, [.ref (a1 0), .ref (a2 0), .ref (a3 0), .ref (a4 0), .ref (a5 0), .ref p8, .ref s8])), ((a4 0), .inr (1, [.ref (a4 1), .ref (a4 2), .ref (a4 3), .int (s4.1 0), .int (s4.1 1), .int (s4.1 2), .int (s4.1 3), .int (s4.1 4), .int (s4.1 5), .int (s4.1 6), .int (s4.1 7), .int (s4.1 8)])), ((a4 1), .inl (q 0, 40, .inl (s4.2 0))), ((a4 2), .inl (q 0, 40, .inl (s4.2 1))), ((a4 3), .inl (q 0, 40, .inl (s4.2 2))), ((a5 0), .inr (3, [.ref (a5 1), .ref (a5 2), .ref (a5 3), .ref (a5 4), .ref (a5 5), .ref (a5 6), .ref (a5 7), .int (s5.1 0), .int (s5.1 1), .int (s5.1 2)])), ((a5 1), .inl (q 0, 80, .inl (s5.2 0))), ((a5 2), .inl (q 0, 80, .inl (s5.2 1))), ((a5 3), .inl (q 0, 80, .inl (s5.2 2))), ((a5 4), .inl (q 0, 80, .inl (s5.2 3))), ((a5 5), .inl (q 0, 80, .inl (s5.2 4))), ((a5 6), .inl (q 0, 3, .inl (s5.2 5))), ((a5 7), .inl (q 0, 3, .inl (s5.2 6))), ((a2 0), .inr (0, [.int (u_19.1 0), .int (u_19.1 1), .int (u_19.1 2), .int (u_19.1 3), .int (u_19.1 4), .int (u_19.1 5), .ref (a2 1), .ref (a2 2), .ref (a2 3), .ref (a2 4), .ref (a2 5), .ref (a2 6), .ref (a2 7), .ref (a2 8), .ref (a2 9), .ref (a2 10), .ref (a2 11), .ref (a2 12)])), ((a2 1), .inl (q 0, 4, .inl (u_19.2.1 0))), ((a2 2), .inl (q 0, 4, .inl (u_19.2.1 1))), ((a2 3), .inl (q 0, 160, .inl (u_19.2.1 2))), ((a2 4), .inl (q 0, 40, .inl (u_19.2.1 3))), ((a2 5), .inl (q 0, 40, .inl (u_19.2.1 4))), ((a2 6), .inl (q 0, 40, .inl (u_19.2.1 5))), ((a2 7), .inl (q 0, 40, .inl (u_19.2.1 6))), ((a2 8), .inl (q 0, 40, .inl (u_19.2.1 7))), ((a2 9), .inl (q 0, 40, .inl (u_19.2.1 8))), ((a2 10), .inl (q 0, 40, .inl (u_19.2.1 9))), ((a2 11), .inl (q 1, 40, .inr (.inl u_19.2.2.1))), ((a2 12), .inl (q 0, u_19.2.2.2.1, .inl u_19.2.2.2.2)), ((a1 0), .inr (4, [.ref (a1 1), .int (s1.1 0), .int (s1.1 1), .int (s1.1 2), .int (s1.1 3), .int (s1.1 4), .int (s1.1 5)])), ((a1 1), .inl (q 0, 400, .inl s1.2))] := hD
    refine lv_pop hx hb dX6_doStep_109 rfl ?_
    refine lv_goto (tgt := 168) hx hb dX6_doStep_110 (by decide) ?_
    exact mt_vret (u_19, s4) hx hb hr hk h (hP.sub (ws' := fo_w (a0 0) (a1 0) (a2 0) (a3 0) (a4 0) (a5 0) p8 s8 ++ tp_w a1 q s1 ++ bd_w a2 q u_19 ++ mo_w a4 q s4 ++ pg_w a5 q s5) [0, 26, 27, 13, 14, 15, 16, 17, 18, 19, 20, 21, 22, 23, 24, 25, 1, 2, 3, 4, 5, 6, 7, 8, 9, 10, 11, 12] rfl) (hD.sub (ws' := fo_w (a0 0) (a1 0) (a2 0) (a3 0) (a4 0) (a5 0) p8 s8 ++ tp_w a1 q s1 ++ bd_w a2 q u_19 ++ mo_w a4 q s4 ++ pg_w a5 q s5) [0, 26, 27, 13, 14, 15, 16, 17, 18, 19, 20, 21, 22, 23, 24, 25, 1, 2, 3, 4, 5, 6, 7, 8, 9, 10, 11, 12] (by decide) rfl) hS dX6_doStep_168
  replace h := h.2 k_15
  by_cases k_20 : r_5 = 9
  · replace h := h.1 k_20
    refine lv_tableIn (tgt := 113) hx hb dX6_doStep_26 (by rw [k_20]; decide) (by rw [k_20]; decide) (by rw [k_20]; rfl) (by decide) ?_
    refine lv_aload_n hx hb dX6_doStep_113 rfl (lv_at hl 2 rfl) ?_
    refine fl_get (C := RX6) (T := TX6) (N := 7) (ci := 5) (v := .ref (a2 0)) hx hb ht in_X6 hown hK hP 0 rfl rfl 1 (by decide) mw_356 rfl dX6_doStep_114 ?_
    refine lv_iload_n hx hb dX6_doStep_117 rfl (lv_at hl 1 rfl) ?_
    refine mt_gov (mt_wV (wc := bd_w a2 q s2) (As := [.int r_1]) (rest := []) hx hb hml hown ht (c2_X0_wantHome h) wd_X0_wantHome mw_855 hQ hV hS hA (hP.sub [3, 4, 5, 6, 7, 8, 9, 10, 11, 12, 13, 14, 15] rfl) (hD.sub [3, 4, 5, 6, 7, 8, 9, 10, 11, 12, 13, 14, 15] (by decide) rfl) rfl rfl rfl hl.1 rfl (Nat.le_of_ble_eq_true rfl) dX6_doStep_118 ⟨Nat.le_of_ble_eq_true rfl, Nat.le_of_ble_eq_true rfl, rfl, rfl⟩ ⟨Nat.le_of_ble_eq_true rfl, Nat.le_of_ble_eq_true rfl⟩) (wr := [((a0 0), .inr (5, [.ref (a1 0), .ref (a2 0), .ref (a3 0), .ref (a4 0), .ref (a5 0), .ref p8, .ref s8])), ((a1 0), .inr (4, [.ref (a1 1), .int (s1.1 0), .int (s1.1 1), .int (s1.1 2), .int (s1.1 3), .int (s1.1 4), .int (s1.1 5)])), ((a1 1), .inl (q 0, 400, .inl s1.2)), ((a4 0), .inr (1, [.ref (a4 1), .ref (a4 2), .ref (a4 3), .int (s4.1 0), .int (s4.1 1), .int (s4.1 2), .int (s4.1 3), .int (s4.1 4), .int (s4.1 5), .int (s4.1 6), .int (s4.1 7), .int (s4.1 8)])), ((a4 1), .inl (q 0, 40, .inl (s4.2 0))), ((a4 2), .inl (q 0, 40, .inl (s4.2 1))), ((a4 3), .inl (q 0, 40, .inl (s4.2 2))), ((a5 0), .inr (3, [.ref (a5 1), .ref (a5 2), .ref (a5 3), .ref (a5 4), .ref (a5 5), .ref (a5 6), .ref (a5 7), .int (s5.1 0), .int (s5.1 1), .int (s5.1 2)])), ((a5 1), .inl (q 0, 80, .inl (s5.2 0))), ((a5 2), .inl (q 0, 80, .inl (s5.2 1))), ((a5 3), .inl (q 0, 80, .inl (s5.2 2))), ((a5 4), .inl (q 0, 80, .inl (s5.2 3))), ((a5 5), .inl (q 0, 80, .inl (s5.2 4))), ((a5 6), .inl (q 0, 3, .inl (s5.2 5))), ((a5 7), .inl (q 0, 3, .inl (s5.2 6)))]) hP hD hS hA [3, 4, 5, 6, 7, 8, 9, 10, 11, 12, 13, 14, 15] [0, 1, 2, 16, 17, 18, 19, 20, 21, 22, 23, 24, 25, 26, 27] rfl rfl (by decide) (by decide) (fun u_22 H locs h hP hD hS => ?_)
    try dsimp only at h
    have hP : va_P D vwCl [((a0 0), .inr (5, [.ref (a1 0), .ref (a2 0), .ref (a3 0), .ref (a4 0), .ref (a5 0), .ref p8, .ref s8])), ((a1 0), .inr (4, [.ref (a1 1), .int (s1.1 0), .int (s1.1 1), .int (s1.1 2), .int (s1.1 3), .int (s1.1 4), .int (s1.1 5)])), ((a1 1), .inl (q 0, 400, .inl s1.2)), ((a4 0), .inr (1, [.ref (a4 1), .ref (a4 2), .ref (a4 3), .int (s4.1 0), .int (s4.1 1), .int (s4.1 2), .int (s4.1 3), .int (s4.1 4), .int (s4.1 5), .int (s4.1 6), .int (s4.1 7), .int (s4.1 8)])), ((a4 1), .inl (q 0, 40, .inl (s4.2 0))), ((a4 2), .inl (q 0, 40, .inl (s4.2 1))), ((a4 3), .inl (q 0, 40, .inl (s4.2 2))), ((a5 0), .inr (3, [.ref (a5 1), .ref (a5 2), .ref (a5 3), .ref (a5 4), .ref (a5 5), .ref (a5 6), .ref (a5 7), .int (s5.1 0), .int (s5.1 1), .int (s5.1 2)])), ((a5 1), .inl (q 0, 80, .inl (s5.2 0))), ((a5 2), .inl (q 0, 80, .inl (s5.2 1))), ((a5 3), .inl (q 0, 80, .inl (s5.2 2))), ((a5 4), .inl (q 0, 80, .inl (s5.2 3))), ((a5 5), .inl (q 0, 80, .inl (s5.2 4))), ((a5 6), .inl (q 0, 3, .inl (s5.2 5))), ((a5 7), .inl (q 0, 3, .inl (s5.2 6))), ((a2 0), .inr (0, [.int (u_22.1 0), .int (u_22.1 1), .int (u_22.1 2), .int (u_22.1 3), .int (u_22.1 4), .int (u_22.1 5), .ref (a2 1), .ref (a2 2), .ref (a2 3), .ref (a2 4), .ref (a2 5), .ref (a2 6), .ref (a2 7), .ref (a2 8), .ref (a2 9), .ref (a2 10), .ref (a2 11), .ref (a2 12)])), ((a2 1), .inl (q 0, 4, .inl (u_22.2.1 0))), ((a2 2), .inl (q 0, 4, .inl (u_22.2.1 1))), ((a2 3), .inl (q 0, 160, .inl (u_22.2.1 2))), ((a2 4), .inl (q 0, 40, .inl (u_22.2.1 3))), ((a2 5), .inl (q 0, 40, .inl (u_22.2.1 4))), ((a2 6), .inl (q 0, 40, .inl (u_22.2.1 5))), ((a2 7), .inl (q 0, 40, .inl (u_22.2.1 6))), ((a2 8), .inl (q 0, 40, .inl (u_22.2.1 7))), ((a2 9), .inl (q 0, 40, .inl (u_22.2.1 8))), ((a2 10), .inl (q 0, 40, .inl (u_22.2.1 9))), ((a2 11), .inl (q 1, 40, .inr (.inl u_22.2.2.1))), ((a2 12), .inl (q 0, u_22.2.2.2.1, .inl u_22.2.2.2.2))] H := hP
    have hD : va_D _ [((a0 0), .inr (5, [.ref (a1 0), .ref (a2 0), .ref (a3 0), .ref (a4 0), .ref (a5 0), .ref p8, .ref s8])), ((a1 0), .inr (4, [.ref (a1 1), .int (s1.1 0), .int (s1.1 1), .int (s1.1 2), .int (s1.1 3), .int (s1.1 4), .int (s1.1 5)])), ((a1 1), .inl (q 0, 400, .inl s1.2)), ((a4 0), .inr (1, [.ref (a4 1), .ref (a4 2), .ref (a4 3), .int (s4.1 0), .int (s4.1 1), .int (s4.1 2), .int (s4.1 3), .int (s4.1 4), .int (s4.1 5), .int (s4.1 6), .int (s4.1 7), .int (s4.1 8)])), ((a4 1), .inl (q 0, 40, .inl (s4.2 0))), ((a4 2), .inl (q 0, 40, .inl (s4.2 1))), ((a4 3), .inl (q 0, 40, .inl (s4.2 2))), ((a5 0), .inr (3, [.ref (a5 1), .ref (a5 2), .ref (a5 3), .ref (a5 4), .ref (a5 5), .ref (a5 6), .ref (a5 7), .int (s5.1 0), .int (s5.1 1), .int (s5.1 2)])), ((a5 1), .inl (q 0, 80, .inl (s5.2 0))), ((a5 2), .inl (q 0, 80, .inl (s5.2 1))), ((a5 3), .inl (q 0, 80, .inl (s5.2 2))), ((a5 4), .inl (q 0, 80, .inl (s5.2 3))), ((a5 5), .inl (q 0, 80, .inl (s5.2 4))), ((a5 6), .inl (q 0, 3, .inl (s5.2 5))), ((a5 7), .inl (q 0, 3, .inl (s5.2 6))), ((a2 0), .inr (0, [.int (u_22.1 0), .int (u_22.1 1), .int (u_22.1 2), .int (u_22.1 3), .int (u_22.1 4), .int (u_22.1 5), .ref (a2 1), .ref (a2 2), .ref (a2 3), .ref (a2 4), .ref (a2 5), .ref (a2 6), .ref (a2 7), .ref (a2 8), .ref (a2 9), .ref (a2 10), .ref (a2 11), .ref (a2 12)])), ((a2 1), .inl (q 0, 4, .inl (u_22.2.1 0))), ((a2 2), .inl (q 0, 4, .inl (u_22.2.1 1))), ((a2 3), .inl (q 0, 160, .inl (u_22.2.1 2))), ((a2 4), .inl (q 0, 40, .inl (u_22.2.1 3))), ((a2 5), .inl (q 0, 40, .inl (u_22.2.1 4))), ((a2 6), .inl (q 0, 40, .inl (u_22.2.1 5))), ((a2 7), .inl (q 0, 40, .inl (u_22.2.1 6))), ((a2 8), .inl (q 0, 40, .inl (u_22.2.1 7))), ((a2 9), .inl (q 0, 40, .inl (u_22.2.1 8))), ((a2 10), .inl (q 0, 40, .inl (u_22.2.1 9))), ((a2 11), .inl (q 1, 40, .inr (.inl u_22.2.2.1))), ((a2 12), .inl (q 0, u_22.2.2.2.1, .inl u_22.2.2.2.2))] := hD
    refine lv_goto (tgt := 168) hx hb dX6_doStep_121 (by decide) ?_
    exact mt_vret (u_22, s4) hx hb hr hk h (hP.sub (ws' := fo_w (a0 0) (a1 0) (a2 0) (a3 0) (a4 0) (a5 0) p8 s8 ++ tp_w a1 q s1 ++ bd_w a2 q u_22 ++ mo_w a4 q s4 ++ pg_w a5 q s5) [0, 1, 2, 15, 16, 17, 18, 19, 20, 21, 22, 23, 24, 25, 26, 27, 3, 4, 5, 6, 7, 8, 9, 10, 11, 12, 13, 14] rfl) (hD.sub (ws' := fo_w (a0 0) (a1 0) (a2 0) (a3 0) (a4 0) (a5 0) p8 s8 ++ tp_w a1 q s1 ++ bd_w a2 q u_22 ++ mo_w a4 q s4 ++ pg_w a5 q s5) [0, 1, 2, 15, 16, 17, 18, 19, 20, 21, 22, 23, 24, 25, 26, 27, 3, 4, 5, 6, 7, 8, 9, 10, 11, 12, 13, 14] (by decide) rfl) hS dX6_doStep_168
  replace h := h.2 k_20
  by_cases k_23 : r_5 = 10
  · replace h := h.1 k_23
    refine lv_tableIn (tgt := 124) hx hb dX6_doStep_26 (by rw [k_23]; decide) (by rw [k_23]; decide) (by rw [k_23]; rfl) (by decide) ?_
    refine lv_aload_n hx hb dX6_doStep_124 rfl (lv_at hl 2 rfl) ?_
    refine fl_get (C := RX6) (T := TX6) (N := 7) (ci := 5) (v := .ref (a4 0)) hx hb ht in_X6 hown hK hP 0 rfl rfl 3 (by decide) mw_358 rfl dX6_doStep_125 ?_
    refine lv_aload_n hx hb dX6_doStep_128 rfl (lv_at hl 2 rfl) ?_
    refine fl_get (C := RX6) (T := TX6) (N := 7) (ci := 5) (v := .ref (a2 0)) hx hb ht in_X6 hown hK hP 0 rfl rfl 1 (by decide) mw_356 rfl dX6_doStep_129 ?_
    refine lv_iload_n hx hb dX6_doStep_132 rfl (lv_at hl 1 rfl) ?_
    refine mt_gov (mt_wV (wc := mo_w a4 q s4 ++ bd_w a2 q s2) (As := [.ref (a2 0), .int r_1]) (rest := []) hx hb hml hown ht (c2_X2_turn h) wd_X2_turn mw_681 hQ hV hS hA (hP.sub [16, 17, 18, 19, 3, 4, 5, 6, 7, 8, 9, 10, 11, 12, 13, 14, 15] rfl) (hD.sub [16, 17, 18, 19, 3, 4, 5, 6, 7, 8, 9, 10, 11, 12, 13, 14, 15] (by decide) rfl) rfl rfl rfl hl.1 rfl (Nat.le_of_ble_eq_true rfl) dX6_doStep_133 ⟨Nat.le_of_ble_eq_true rfl, Nat.le_of_ble_eq_true rfl, rfl, rfl⟩ ⟨Nat.le_of_ble_eq_true rfl, Nat.le_of_ble_eq_true rfl⟩) (wr := [((a0 0), .inr (5, [.ref (a1 0), .ref (a2 0), .ref (a3 0), .ref (a4 0), .ref (a5 0), .ref p8, .ref s8])), ((a1 0), .inr (4, [.ref (a1 1), .int (s1.1 0), .int (s1.1 1), .int (s1.1 2), .int (s1.1 3), .int (s1.1 4), .int (s1.1 5)])), ((a1 1), .inl (q 0, 400, .inl s1.2)), ((a5 0), .inr (3, [.ref (a5 1), .ref (a5 2), .ref (a5 3), .ref (a5 4), .ref (a5 5), .ref (a5 6), .ref (a5 7), .int (s5.1 0), .int (s5.1 1), .int (s5.1 2)])), ((a5 1), .inl (q 0, 80, .inl (s5.2 0))), ((a5 2), .inl (q 0, 80, .inl (s5.2 1))), ((a5 3), .inl (q 0, 80, .inl (s5.2 2))), ((a5 4), .inl (q 0, 80, .inl (s5.2 3))), ((a5 5), .inl (q 0, 80, .inl (s5.2 4))), ((a5 6), .inl (q 0, 3, .inl (s5.2 5))), ((a5 7), .inl (q 0, 3, .inl (s5.2 6)))]) hP hD hS hA [16, 17, 18, 19, 3, 4, 5, 6, 7, 8, 9, 10, 11, 12, 13, 14, 15] [0, 1, 2, 20, 21, 22, 23, 24, 25, 26, 27] rfl rfl (by decide) (by decide) (fun u_25 H locs h hP hD hS => ?_)
    obtain ⟨u_25a, u_25b⟩ := u_25
    try dsimp only at h
    have hP : va_P D vwCl [((a0 0), .inr (5, [.ref (a1 0), .ref (a2 0), .ref (a3 0), .ref (a4 0), .ref (a5 0), .ref p8, .ref s8])), ((a1 0), .inr (4, [.ref (a1 1), .int (s1.1 0), .int (s1.1 1), .int (s1.1 2), .int (s1.1 3), .int (s1.1 4), .int (s1.1 5)])), ((a1 1), .inl (q 0, 400, .inl s1.2)), ((a5 0), .inr (3, [.ref (a5 1), .ref (a5 2), .ref (a5 3), .ref (a5 4), .ref (a5 5), .ref (a5 6), .ref (a5 7), .int (s5.1 0), .int (s5.1 1), .int (s5.1 2)])), ((a5 1), .inl (q 0, 80, .inl (s5.2 0))), ((a5 2), .inl (q 0, 80, .inl (s5.2 1))), ((a5 3), .inl (q 0, 80, .inl (s5.2 2))), ((a5 4), .inl (q 0, 80, .inl (s5.2 3))), ((a5 5), .inl (q 0, 80, .inl (s5.2 4))), ((a5 6), .inl (q 0, 3, .inl (s5.2 5))), ((a5 7), .inl (q 0, 3, .inl (s5.2 6))), ((a4 0), .inr (1, [.ref (a4 1), .ref (a4 2), .ref (a4 3), .int (u_25a.1 0), .int (u_25a.1 1), .int (u_25a.1 2), .int (u_25a.1 3), .int (u_25a.1 4), .int (u_25a.1 5), .int (u_25a.1 6), .int (u_25a.1 7), .int (u_25a.1 8)])), ((a4 1), .inl (q 0, 40, .inl (u_25a.2 0))), ((a4 2), .inl (q 0, 40, .inl (u_25a.2 1))), ((a4 3), .inl (q 0, 40, .inl (u_25a.2 2))), ((a2 0), .inr (0, [.int (u_25b.1 0), .int (u_25b.1 1), .int (u_25b.1 2), .int (u_25b.1 3), .int (u_25b.1 4), .int (u_25b.1 5), .ref (a2 1), .ref (a2 2), .ref (a2 3), .ref (a2 4), .ref (a2 5), .ref (a2 6), .ref (a2 7), .ref (a2 8), .ref (a2 9), .ref (a2 10), .ref (a2 11), .ref (a2 12)])), ((a2 1), .inl (q 0, 4, .inl (u_25b.2.1 0))), ((a2 2), .inl (q 0, 4, .inl (u_25b.2.1 1))), ((a2 3), .inl (q 0, 160, .inl (u_25b.2.1 2))), ((a2 4), .inl (q 0, 40, .inl (u_25b.2.1 3))), ((a2 5), .inl (q 0, 40, .inl (u_25b.2.1 4))), ((a2 6), .inl (q 0, 40, .inl (u_25b.2.1 5))), ((a2 7), .inl (q 0, 40, .inl (u_25b.2.1 6))), ((a2 8), .inl (q 0, 40, .inl (u_25b.2.1 7))), ((a2 9), .inl (q 0, 40, .inl (u_25b.2.1 8))), ((a2 10), .inl (q 0, 40, .inl (u_25b.2.1 9))), ((a2 11), .inl (q 1, 40, .inr (.inl u_25b.2.2.1))), ((a2 12), .inl (q 0, u_25b.2.2.2.1, .inl u_25b.2.2.2.2))] H := hP
    have hD : va_D _ [((a0 0), .inr (5, [.ref (a1 0), .ref (a2 0), .ref (a3 0), .ref (a4 0), .ref (a5 0), .ref p8, .ref s8])), ((a1 0), .inr (4, [.ref (a1 1), .int (s1.1 0), .int (s1.1 1), .int (s1.1 2), .int (s1.1 3), .int (s1.1 4), .int (s1.1 5)])), ((a1 1), .inl (q 0, 400, .inl s1.2)), ((a5 0), .inr (3, [.ref (a5 1), .ref (a5 2), .ref (a5 3), .ref (a5 4), .ref (a5 5), .ref (a5 6), .ref (a5 7), .int (s5.1 0), .int (s5.1 1), .int (s5.1 2)])), ((a5 1), .inl (q 0, 80, .inl (s5.2 0))), ((a5 2), .inl (q 0, 80, .inl (s5.2 1))), ((a5 3), .inl (q 0, 80, .inl (s5.2 2))), ((a5 4), .inl (q 0, 80, .inl (s5.2 3))), ((a5 5), .inl (q 0, 80, .inl (s5.2 4))), ((a5 6), .inl (q 0, 3, .inl (s5.2 5))), ((a5 7), .inl (q 0, 3, .inl (s5.2 6))), ((a4 0), .inr (1, [.ref (a4 1), .ref (a4 2), .ref (a4 3), .int (u_25a.1 0), .int (u_25a.1 1), .int (u_25a.1 2), .int (u_25a.1 3), .int (u_25a.1 4), .int (u_25a.1 5), .int (u_25a.1 6), .int (u_25a.1 7), .int (u_25a.1 8)])), ((a4 1), .inl (q 0, 40, .inl (u_25a.2 0))), ((a4 2), .inl (q 0, 40, .inl (u_25a.2 1))), ((a4 3), .inl (q 0, 40, .inl (u_25a.2 2))), ((a2 0), .inr (0, [.int (u_25b.1 0), .int (u_25b.1 1), .int (u_25b.1 2), .int (u_25b.1 3), .int (u_25b.1 4), .int (u_25b.1 5), .ref (a2 1), .ref (a2 2), .ref (a2 3), .ref (a2 4), .ref (a2 5), .ref (a2 6), .ref (a2 7), .ref (a2 8), .ref (a2 9), .ref (a2 10), .ref (a2 11), .ref (a2 12)])), ((a2 1), .inl (q 0, 4, .inl (u_25b.2.1 0))), ((a2 2), .inl (q 0, 4, .inl (u_25b.2.1 1))), ((a2 3), .inl (q 0, 160, .inl (u_25b.2.1 2))), ((a2 4), .inl (q 0, 40, .inl (u_25b.2.1 3))), ((a2 5), .inl (q 0, 40, .inl (u_25b.2.1 4))), ((a2 6), .inl (q 0, 40, .inl (u_25b.2.1 5))), ((a2 7), .inl (q 0, 40, .inl (u_25b.2.1 6))), ((a2 8), .inl (q 0, 40, .inl (u_25b.2.1 7))), ((a2 9), .inl (q 0, 40, .inl (u_25b.2.1 8))), ((a2 10), .inl (q 0, 40, .inl (u_25b.2.1 9))), ((a2 11), .inl (q 1, 40, .inr (.inl u_25b.2.2.1))), ((a2 12), .inl (q 0, u_25b.2.2.2.1, .inl u_25b.2.2.2.2))] := hD
    refine lv_goto (tgt := 168) hx hb dX6_doStep_136 (by decide) ?_
    exact mt_vret (u_25b, u_25a) hx hb hr hk h (hP.sub (ws' := fo_w (a0 0) (a1 0) (a2 0) (a3 0) (a4 0) (a5 0) p8 s8 ++ tp_w a1 q s1 ++ bd_w a2 q u_25b ++ mo_w a4 q u_25a ++ pg_w a5 q s5) [0, 1, 2, 15, 16, 17, 18, 19, 20, 21, 22, 23, 24, 25, 26, 27, 11, 12, 13, 14, 3, 4, 5, 6, 7, 8, 9, 10] rfl) (hD.sub (ws' := fo_w (a0 0) (a1 0) (a2 0) (a3 0) (a4 0) (a5 0) p8 s8 ++ tp_w a1 q s1 ++ bd_w a2 q u_25b ++ mo_w a4 q u_25a ++ pg_w a5 q s5) [0, 1, 2, 15, 16, 17, 18, 19, 20, 21, 22, 23, 24, 25, 26, 27, 11, 12, 13, 14, 3, 4, 5, 6, 7, 8, 9, 10] (by decide) rfl) hS dX6_doStep_168
  replace h := h.2 k_23
  by_cases k_26 : r_5 = 11
  · replace h := h.1 k_26
    refine lv_tableIn (tgt := 139) hx hb dX6_doStep_26 (by rw [k_26]; decide) (by rw [k_26]; decide) (by rw [k_26]; rfl) (by decide) ?_
    refine lv_aload_n hx hb dX6_doStep_139 rfl (lv_at hl 2 rfl) ?_
    refine fl_get (C := RX6) (T := TX6) (N := 7) (ci := 5) (v := .ref (a4 0)) hx hb ht in_X6 hown hK hP 0 rfl rfl 3 (by decide) mw_358 rfl dX6_doStep_140 ?_
    refine lv_aload_n hx hb dX6_doStep_143 rfl (lv_at hl 2 rfl) ?_
    refine fl_get (C := RX6) (T := TX6) (N := 7) (ci := 5) (v := .ref (a2 0)) hx hb ht in_X6 hown hK hP 0 rfl rfl 1 (by decide) mw_356 rfl dX6_doStep_144 ?_
    refine lv_sipush (v := 9999) hx hb dX6_doStep_147 (by decide) ?_
    refine mt_gov (mt_wV (wc := mo_w a4 q s4 ++ bd_w a2 q s2) (As := [.ref (a2 0), .int 9999]) (rest := []) hx hb hml hown ht (c2_X2_turn h) wd_X2_turn mw_681 hQ hV hS hA (hP.sub [16, 17, 18, 19, 3, 4, 5, 6, 7, 8, 9, 10, 11, 12, 13, 14, 15] rfl) (hD.sub [16, 17, 18, 19, 3, 4, 5, 6, 7, 8, 9, 10, 11, 12, 13, 14, 15] (by decide) rfl) rfl rfl rfl hl.1 rfl (Nat.le_of_ble_eq_true rfl) dX6_doStep_150 ⟨Nat.le_of_ble_eq_true rfl, Nat.le_of_ble_eq_true rfl, rfl, rfl⟩ ⟨Nat.le_of_ble_eq_true rfl, Nat.le_of_ble_eq_true rfl⟩) (wr := [((a0 0), .inr (5, [.ref (a1 0), .ref (a2 0), .ref (a3 0), .ref (a4 0), .ref (a5 0), .ref p8, .ref s8])), ((a1 0), .inr (4, [.ref (a1 1), .int (s1.1 0), .int (s1.1 1), .int (s1.1 2), .int (s1.1 3), .int (s1.1 4), .int (s1.1 5)])), ((a1 1), .inl (q 0, 400, .inl s1.2)), ((a5 0), .inr (3, [.ref (a5 1), .ref (a5 2), .ref (a5 3), .ref (a5 4), .ref (a5 5), .ref (a5 6), .ref (a5 7), .int (s5.1 0), .int (s5.1 1), .int (s5.1 2)])), ((a5 1), .inl (q 0, 80, .inl (s5.2 0))), ((a5 2), .inl (q 0, 80, .inl (s5.2 1))), ((a5 3), .inl (q 0, 80, .inl (s5.2 2))), ((a5 4), .inl (q 0, 80, .inl (s5.2 3))), ((a5 5), .inl (q 0, 80, .inl (s5.2 4))), ((a5 6), .inl (q 0, 3, .inl (s5.2 5))), ((a5 7), .inl (q 0, 3, .inl (s5.2 6)))]) hP hD hS hA [16, 17, 18, 19, 3, 4, 5, 6, 7, 8, 9, 10, 11, 12, 13, 14, 15] [0, 1, 2, 20, 21, 22, 23, 24, 25, 26, 27] rfl rfl (by decide) (by decide) (fun u_28 H locs h hP hD hS => ?_)
    obtain ⟨u_28a, u_28b⟩ := u_28
    try dsimp only at h
    have hP : va_P D vwCl [((a0 0), .inr (5, [.ref (a1 0), .ref (a2 0), .ref (a3 0), .ref (a4 0), .ref (a5 0), .ref p8, .ref s8])), ((a1 0), .inr (4, [.ref (a1 1), .int (s1.1 0), .int (s1.1 1), .int (s1.1 2), .int (s1.1 3), .int (s1.1 4), .int (s1.1 5)])), ((a1 1), .inl (q 0, 400, .inl s1.2)), ((a5 0), .inr (3, [.ref (a5 1), .ref (a5 2), .ref (a5 3), .ref (a5 4), .ref (a5 5), .ref (a5 6), .ref (a5 7), .int (s5.1 0), .int (s5.1 1), .int (s5.1 2)])), ((a5 1), .inl (q 0, 80, .inl (s5.2 0))), ((a5 2), .inl (q 0, 80, .inl (s5.2 1))), ((a5 3), .inl (q 0, 80, .inl (s5.2 2))), ((a5 4), .inl (q 0, 80, .inl (s5.2 3))), ((a5 5), .inl (q 0, 80, .inl (s5.2 4))), ((a5 6), .inl (q 0, 3, .inl (s5.2 5))), ((a5 7), .inl (q 0, 3, .inl (s5.2 6))), ((a4 0), .inr (1, [.ref (a4 1), .ref (a4 2), .ref (a4 3), .int (u_28a.1 0), .int (u_28a.1 1), .int (u_28a.1 2), .int (u_28a.1 3), .int (u_28a.1 4), .int (u_28a.1 5), .int (u_28a.1 6), .int (u_28a.1 7), .int (u_28a.1 8)])), ((a4 1), .inl (q 0, 40, .inl (u_28a.2 0))), ((a4 2), .inl (q 0, 40, .inl (u_28a.2 1))), ((a4 3), .inl (q 0, 40, .inl (u_28a.2 2))), ((a2 0), .inr (0, [.int (u_28b.1 0), .int (u_28b.1 1), .int (u_28b.1 2), .int (u_28b.1 3), .int (u_28b.1 4), .int (u_28b.1 5), .ref (a2 1), .ref (a2 2), .ref (a2 3), .ref (a2 4), .ref (a2 5), .ref (a2 6), .ref (a2 7), .ref (a2 8), .ref (a2 9), .ref (a2 10), .ref (a2 11), .ref (a2 12)])), ((a2 1), .inl (q 0, 4, .inl (u_28b.2.1 0))), ((a2 2), .inl (q 0, 4, .inl (u_28b.2.1 1))), ((a2 3), .inl (q 0, 160, .inl (u_28b.2.1 2))), ((a2 4), .inl (q 0, 40, .inl (u_28b.2.1 3))), ((a2 5), .inl (q 0, 40, .inl (u_28b.2.1 4))), ((a2 6), .inl (q 0, 40, .inl (u_28b.2.1 5))), ((a2 7), .inl (q 0, 40, .inl (u_28b.2.1 6))), ((a2 8), .inl (q 0, 40, .inl (u_28b.2.1 7))), ((a2 9), .inl (q 0, 40, .inl (u_28b.2.1 8))), ((a2 10), .inl (q 0, 40, .inl (u_28b.2.1 9))), ((a2 11), .inl (q 1, 40, .inr (.inl u_28b.2.2.1))), ((a2 12), .inl (q 0, u_28b.2.2.2.1, .inl u_28b.2.2.2.2))] H := hP
    have hD : va_D _ [((a0 0), .inr (5, [.ref (a1 0), .ref (a2 0), .ref (a3 0), .ref (a4 0), .ref (a5 0), .ref p8, .ref s8])), ((a1 0), .inr (4, [.ref (a1 1), .int (s1.1 0), .int (s1.1 1), .int (s1.1 2), .int (s1.1 3), .int (s1.1 4), .int (s1.1 5)])), ((a1 1), .inl (q 0, 400, .inl s1.2)), ((a5 0), .inr (3, [.ref (a5 1), .ref (a5 2), .ref (a5 3), .ref (a5 4), .ref (a5 5), .ref (a5 6), .ref (a5 7), .int (s5.1 0), .int (s5.1 1), .int (s5.1 2)])), ((a5 1), .inl (q 0, 80, .inl (s5.2 0))), ((a5 2), .inl (q 0, 80, .inl (s5.2 1))), ((a5 3), .inl (q 0, 80, .inl (s5.2 2))), ((a5 4), .inl (q 0, 80, .inl (s5.2 3))), ((a5 5), .inl (q 0, 80, .inl (s5.2 4))), ((a5 6), .inl (q 0, 3, .inl (s5.2 5))), ((a5 7), .inl (q 0, 3, .inl (s5.2 6))), ((a4 0), .inr (1, [.ref (a4 1), .ref (a4 2), .ref (a4 3), .int (u_28a.1 0), .int (u_28a.1 1), .int (u_28a.1 2), .int (u_28a.1 3), .int (u_28a.1 4), .int (u_28a.1 5), .int (u_28a.1 6), .int (u_28a.1 7), .int (u_28a.1 8)])), ((a4 1), .inl (q 0, 40, .inl (u_28a.2 0))), ((a4 2), .inl (q 0, 40, .inl (u_28a.2 1))), ((a4 3), .inl (q 0, 40, .inl (u_28a.2 2))), ((a2 0), .inr (0, [.int (u_28b.1 0), .int (u_28b.1 1), .int (u_28b.1 2), .int (u_28b.1 3), .int (u_28b.1 4), .int (u_28b.1 5), .ref (a2 1), .ref (a2 2), .ref (a2 3), .ref (a2 4), .ref (a2 5), .ref (a2 6), .ref (a2 7), .ref (a2 8), .ref (a2 9), .ref (a2 10), .ref (a2 11), .ref (a2 12)])), ((a2 1), .inl (q 0, 4, .inl (u_28b.2.1 0))), ((a2 2), .inl (q 0, 4, .inl (u_28b.2.1 1))), ((a2 3), .inl (q 0, 160, .inl (u_28b.2.1 2))), ((a2 4), .inl (q 0, 40, .inl (u_28b.2.1 3))), ((a2 5), .inl (q 0, 40, .inl (u_28b.2.1 4))), ((a2 6), .inl (q 0, 40, .inl (u_28b.2.1 5))), ((a2 7), .inl (q 0, 40, .inl (u_28b.2.1 6))), ((a2 8), .inl (q 0, 40, .inl (u_28b.2.1 7))), ((a2 9), .inl (q 0, 40, .inl (u_28b.2.1 8))), ((a2 10), .inl (q 0, 40, .inl (u_28b.2.1 9))), ((a2 11), .inl (q 1, 40, .inr (.inl u_28b.2.2.1))), ((a2 12), .inl (q 0, u_28b.2.2.2.1, .inl u_28b.2.2.2.2))] := hD
    refine lv_goto (tgt := 168) hx hb dX6_doStep_153 (by decide) ?_
    exact mt_vret (u_28b, u_28a) hx hb hr hk h (hP.sub (ws' := fo_w (a0 0) (a1 0) (a2 0) (a3 0) (a4 0) (a5 0) p8 s8 ++ tp_w a1 q s1 ++ bd_w a2 q u_28b ++ mo_w a4 q u_28a ++ pg_w a5 q s5) [0, 1, 2, 15, 16, 17, 18, 19, 20, 21, 22, 23, 24, 25, 26, 27, 11, 12, 13, 14, 3, 4, 5, 6, 7, 8, 9, 10] rfl) (hD.sub (ws' := fo_w (a0 0) (a1 0) (a2 0) (a3 0) (a4 0) (a5 0) p8 s8 ++ tp_w a1 q s1 ++ bd_w a2 q u_28b ++ mo_w a4 q u_28a ++ pg_w a5 q s5) [0, 1, 2, 15, 16, 17, 18, 19, 20, 21, 22, 23, 24, 25, 26, 27, 11, 12, 13, 14, 3, 4, 5, 6, 7, 8, 9, 10] (by decide) rfl) hS dX6_doStep_168
  replace h := h.2 k_26
  refine lv_tableOut (tgt := 168) hx hb dX6_doStep_26 (by have g0 := k_7; have g1 := k_12; have g2 := k_15; have g3 := k_20; have g4 := k_23; have g5 := k_26; (try simp only [lg_cmp_ge, lg_cmp_le, lg_cmp_gt, lg_cmp_lt, lg_cmp_eq] at g0 g1 g2 g3 g4 g5); (try simp only [Int32.lt_iff_toInt_lt, Int32.le_iff_toInt_le, ← Int32.toInt_inj, Int32.reduceToInt, Int64.lt_iff_toInt_lt, Int64.le_iff_toInt_le, ← Int64.toInt_inj, Int64.reduceToInt, Int32.toInt_toInt64] at g0 g1 g2 g3 g4 g5); omega) (by decide) ?_
  exact mt_vret (s2, s4) hx hb hr hk h (hP.sub (ws' := fo_w (a0 0) (a1 0) (a2 0) (a3 0) (a4 0) (a5 0) p8 s8 ++ tp_w a1 q s1 ++ bd_w a2 q s2 ++ mo_w a4 q s4 ++ pg_w a5 q s5) [0, 1, 2, 3, 4, 5, 6, 7, 8, 9, 10, 11, 12, 13, 14, 15, 16, 17, 18, 19, 20, 21, 22, 23, 24, 25, 26, 27] rfl) (hD.sub (ws' := fo_w (a0 0) (a1 0) (a2 0) (a3 0) (a4 0) (a5 0) p8 s8 ++ tp_w a1 q s1 ++ bd_w a2 q s2 ++ mo_w a4 q s4 ++ pg_w a5 q s5) [0, 1, 2, 3, 4, 5, 6, 7, 8, 9, 10, 11, 12, 13, 14, 15, 16, 17, 18, 19, 20, 21, 22, 23, 24, 25, 26, 27] (by decide) rfl) hS dX6_doStep_168

def wp_X6_doProgram_L9 (s1 : Tp) (post : Int32 → Bd → Mo → Pg → Prop) (e59 : Bd → Mo → Pg → Int32 → Prop) : Nat → Bd → Mo → Pg → Int32 → Prop
  | 0, _, _, _, _ => False
  | n9 + 1, t2, t3, t4, z1 => ((200 ≤ z1 → e59 t2 t3 t4 z1) ∧ (¬ 200 ≤ z1 → wp_X4_hasStep (fun r_4 => ((¬ r_4 = 0 → wp_X6_doStep (fun u_8a u_8b => wp_X4_goOn (fun u_10 => wp_X6_doProgram_L9 s1 post e59 n9 u_8a u_8b u_10 (z1 + 1)) t4) s1 t2 t3 t4 (t4.1 2)) ∧ (r_4 = 0 → post z1 t2 t3 t4))) t4 (t4.1 2)))
def wp_X6_doProgram (post : Int32 → Bd → Mo → Pg → Prop) (s1 : Tp) (s2 : Bd) (s4 : Mo) (s5 : Pg) : Prop := wp_X4_startDoing (fun u_2 => (∃ n9, wp_X6_doProgram_L9 s1 post (fun t2 t3 t4 z1 => post 200 t2 t3 t4) n9 s2 s4 u_2 0)) s5
set_option maxHeartbeats 4000000 in
set_option maxRecDepth 100000 in
theorem c2_X6_doProgram {l : Launch} {D : va_G} {q : Nat → ClassId} {sz : Nat} {a0 a1 a2 a3 a4 a5 : Nat → Nat} {p8 s8 : Nat} {s1 : Tp} {s2 : Bd} {s4 : Mo} {s5 : Pg} {post : Int32 → Bd → Mo → Pg → Prop} (h : wp_X6_doProgram post s1 s2 s4 s5) : Met l yX6_doProgram (Cond.code yX6_doProgram cX6_doProgram 2 (some .int) :: w_all) ({ frames := 5, cells := 0, slots := 0, locals := 137 } : Room) (mt_P D q [.ref (a0 0)] (fo_w (a0 0) (a1 0) (a2 0) (a3 0) (a4 0) (a5 0) p8 s8 ++ tp_w a1 q s1 ++ bd_w a2 q s2 ++ mo_w a4 q s4 ++ pg_w a5 q s5) sz) (va_Qi (fun r (u : Bd × Mo × Pg) => post r u.1 u.2.1 u.2.2) (mt_B D (fo_w (a0 0) (a1 0) (a2 0) (a3 0) (a4 0) (a5 0) p8 s8 ++ tp_w a1 q s1 ++ bd_w a2 q s2 ++ mo_w a4 q s4 ++ pg_w a5 q s5) sz (fun u : Bd × Mo × Pg => fo_w (a0 0) (a1 0) (a2 0) (a3 0) (a4 0) (a5 0) p8 s8 ++ tp_w a1 q s1 ++ bd_w a2 q u.1 ++ mo_w a4 q u.2.1 ++ pg_w a5 q u.2.2)) (va_A (fo_w (a0 0) (a1 0) (a2 0) (a3 0) (a4 0) (a5 0) p8 s8 ++ tp_w a1 q s1 ++ bd_w a2 q s2 ++ mo_w a4 q s4 ++ pg_w a5 q s5) sz)) 0 0 (va_A (fo_w (a0 0) (a1 0) (a2 0) (a3 0) (a4 0) (a5 0) p8 s8 ++ tp_w a1 q s1 ++ bd_w a2 q s2 ++ mo_w a4 q s4 ++ pg_w a5 q s5) sz) := by
  refine mt_start (by decide) (Nat.le_of_ble_eq_true rfl) ?_
  intro p e s m below meth c ls hx hb hr hml hown ht hk hin hP hQ hD hA hS hV hl
  have hK := hQ.1
  have hown : s.vm.findClass RX6 = some m.cls := hown
  have hl : lv_has ls 2 [(0, .ref (a0 0))] := hl
  have hP : va_P D vwCl [((a0 0), .inr (5, [.ref (a1 0), .ref (a2 0), .ref (a3 0), .ref (a4 0), .ref (a5 0), .ref p8, .ref s8])), ((a1 0), .inr (4, [.ref (a1 1), .int (s1.1 0), .int (s1.1 1), .int (s1.1 2), .int (s1.1 3), .int (s1.1 4), .int (s1.1 5)])), ((a1 1), .inl (q 0, 400, .inl s1.2)), ((a2 0), .inr (0, [.int (s2.1 0), .int (s2.1 1), .int (s2.1 2), .int (s2.1 3), .int (s2.1 4), .int (s2.1 5), .ref (a2 1), .ref (a2 2), .ref (a2 3), .ref (a2 4), .ref (a2 5), .ref (a2 6), .ref (a2 7), .ref (a2 8), .ref (a2 9), .ref (a2 10), .ref (a2 11), .ref (a2 12)])), ((a2 1), .inl (q 0, 4, .inl (s2.2.1 0))), ((a2 2), .inl (q 0, 4, .inl (s2.2.1 1))), ((a2 3), .inl (q 0, 160, .inl (s2.2.1 2))), ((a2 4), .inl (q 0, 40, .inl (s2.2.1 3))), ((a2 5), .inl (q 0, 40, .inl (s2.2.1 4))), ((a2 6), .inl (q 0, 40, .inl (s2.2.1 5))), ((a2 7), .inl (q 0, 40, .inl (s2.2.1 6))), ((a2 8), .inl (q 0, 40, .inl (s2.2.1 7))), ((a2 9), .inl (q 0, 40, .inl (s2.2.1 8))), ((a2 10), .inl (q 0, 40, .inl (s2.2.1 9))), ((a2 11), .inl (q 1, 40, .inr (.inl s2.2.2.1))), ((a2 12), .inl (q 0, s2.2.2.2.1, .inl s2.2.2.2.2)), ((a4 0), .inr (1, [.ref (a4 1), .ref (a4 2), .ref (a4 3), .int (s4.1 0), .int (s4.1 1), .int (s4.1 2), .int (s4.1 3), .int (s4.1 4), .int (s4.1 5), .int (s4.1 6), .int (s4.1 7), .int (s4.1 8)])), ((a4 1), .inl (q 0, 40, .inl (s4.2 0))), ((a4 2), .inl (q 0, 40, .inl (s4.2 1))), ((a4 3), .inl (q 0, 40, .inl (s4.2 2))), ((a5 0), .inr (3, [.ref (a5 1), .ref (a5 2), .ref (a5 3), .ref (a5 4), .ref (a5 5), .ref (a5 6), .ref (a5 7), .int (s5.1 0), .int (s5.1 1), .int (s5.1 2)])), ((a5 1), .inl (q 0, 80, .inl (s5.2 0))), ((a5 2), .inl (q 0, 80, .inl (s5.2 1))), ((a5 3), .inl (q 0, 80, .inl (s5.2 2))), ((a5 4), .inl (q 0, 80, .inl (s5.2 3))), ((a5 5), .inl (q 0, 80, .inl (s5.2 4))), ((a5 6), .inl (q 0, 3, .inl (s5.2 5))), ((a5 7), .inl (q 0, 3, .inl (s5.2 6)))] s.heap := hP
  have hD : va_D _ [((a0 0), .inr (5, [.ref (a1 0), .ref (a2 0), .ref (a3 0), .ref (a4 0), .ref (a5 0), .ref p8, .ref s8])), ((a1 0), .inr (4, [.ref (a1 1), .int (s1.1 0), .int (s1.1 1), .int (s1.1 2), .int (s1.1 3), .int (s1.1 4), .int (s1.1 5)])), ((a1 1), .inl (q 0, 400, .inl s1.2)), ((a2 0), .inr (0, [.int (s2.1 0), .int (s2.1 1), .int (s2.1 2), .int (s2.1 3), .int (s2.1 4), .int (s2.1 5), .ref (a2 1), .ref (a2 2), .ref (a2 3), .ref (a2 4), .ref (a2 5), .ref (a2 6), .ref (a2 7), .ref (a2 8), .ref (a2 9), .ref (a2 10), .ref (a2 11), .ref (a2 12)])), ((a2 1), .inl (q 0, 4, .inl (s2.2.1 0))), ((a2 2), .inl (q 0, 4, .inl (s2.2.1 1))), ((a2 3), .inl (q 0, 160, .inl (s2.2.1 2))), ((a2 4), .inl (q 0, 40, .inl (s2.2.1 3))), ((a2 5), .inl (q 0, 40, .inl (s2.2.1 4))), ((a2 6), .inl (q 0, 40, .inl (s2.2.1 5))), ((a2 7), .inl (q 0, 40, .inl (s2.2.1 6))), ((a2 8), .inl (q 0, 40, .inl (s2.2.1 7))), ((a2 9), .inl (q 0, 40, .inl (s2.2.1 8))), ((a2 10), .inl (q 0, 40, .inl (s2.2.1 9))), ((a2 11), .inl (q 1, 40, .inr (.inl s2.2.2.1))), ((a2 12), .inl (q 0, s2.2.2.2.1, .inl s2.2.2.2.2)), ((a4 0), .inr (1, [.ref (a4 1), .ref (a4 2), .ref (a4 3), .int (s4.1 0), .int (s4.1 1), .int (s4.1 2), .int (s4.1 3), .int (s4.1 4), .int (s4.1 5), .int (s4.1 6), .int (s4.1 7), .int (s4.1 8)])), ((a4 1), .inl (q 0, 40, .inl (s4.2 0))), ((a4 2), .inl (q 0, 40, .inl (s4.2 1))), ((a4 3), .inl (q 0, 40, .inl (s4.2 2))), ((a5 0), .inr (3, [.ref (a5 1), .ref (a5 2), .ref (a5 3), .ref (a5 4), .ref (a5 5), .ref (a5 6), .ref (a5 7), .int (s5.1 0), .int (s5.1 1), .int (s5.1 2)])), ((a5 1), .inl (q 0, 80, .inl (s5.2 0))), ((a5 2), .inl (q 0, 80, .inl (s5.2 1))), ((a5 3), .inl (q 0, 80, .inl (s5.2 2))), ((a5 4), .inl (q 0, 80, .inl (s5.2 3))), ((a5 5), .inl (q 0, 80, .inl (s5.2 4))), ((a5 6), .inl (q 0, 3, .inl (s5.2 5))), ((a5 7), .inl (q 0, 3, .inl (s5.2 6)))] := hD
  unfold wp_X6_doProgram at h
  refine lv_aload_n hx hb dX6_doProgram_0 rfl (lv_at hl 0 rfl) ?_
  refine fl_get (C := RX6) (T := TX6) (N := 7) (ci := 5) (v := .ref (a5 0)) hx hb ht in_X6 hown hK hP 0 rfl rfl 4 (by decide) mw_359 rfl dX6_doProgram_1 ?_
  refine mt_gov (mt_wV (wc := pg_w a5 q s5) (As := []) (rest := []) hx hb hml hown ht (c2_X4_startDoing h) wd_X4_startDoing mw_830 hQ hV hS hA (hP.sub [20, 21, 22, 23, 24, 25, 26, 27] rfl) (hD.sub [20, 21, 22, 23, 24, 25, 26, 27] (by decide) rfl) rfl rfl rfl hl.1 rfl (Nat.le_of_ble_eq_true rfl) dX6_doProgram_4 ⟨Nat.le_of_ble_eq_true rfl, Nat.le_of_ble_eq_true rfl, rfl, rfl⟩ ⟨Nat.le_of_ble_eq_true rfl, Nat.le_of_ble_eq_true rfl⟩) (wr := [((a0 0), .inr (5, [.ref (a1 0), .ref (a2 0), .ref (a3 0), .ref (a4 0), .ref (a5 0), .ref p8, .ref s8])), ((a1 0), .inr (4, [.ref (a1 1), .int (s1.1 0), .int (s1.1 1), .int (s1.1 2), .int (s1.1 3), .int (s1.1 4), .int (s1.1 5)])), ((a1 1), .inl (q 0, 400, .inl s1.2)), ((a2 0), .inr (0, [.int (s2.1 0), .int (s2.1 1), .int (s2.1 2), .int (s2.1 3), .int (s2.1 4), .int (s2.1 5), .ref (a2 1), .ref (a2 2), .ref (a2 3), .ref (a2 4), .ref (a2 5), .ref (a2 6), .ref (a2 7), .ref (a2 8), .ref (a2 9), .ref (a2 10), .ref (a2 11), .ref (a2 12)])), ((a2 1), .inl (q 0, 4, .inl (s2.2.1 0))), ((a2 2), .inl (q 0, 4, .inl (s2.2.1 1))), ((a2 3), .inl (q 0, 160, .inl (s2.2.1 2))), ((a2 4), .inl (q 0, 40, .inl (s2.2.1 3))), ((a2 5), .inl (q 0, 40, .inl (s2.2.1 4))), ((a2 6), .inl (q 0, 40, .inl (s2.2.1 5))), ((a2 7), .inl (q 0, 40, .inl (s2.2.1 6))), ((a2 8), .inl (q 0, 40, .inl (s2.2.1 7))), ((a2 9), .inl (q 0, 40, .inl (s2.2.1 8))), ((a2 10), .inl (q 0, 40, .inl (s2.2.1 9))), ((a2 11), .inl (q 1, 40, .inr (.inl s2.2.2.1))), ((a2 12), .inl (q 0, s2.2.2.2.1, .inl s2.2.2.2.2)), ((a4 0), .inr (1, [.ref (a4 1), .ref (a4 2), .ref (a4 3), .int (s4.1 0), .int (s4.1 1), .int (s4.1 2), .int (s4.1 3), .int (s4.1 4), .int (s4.1 5), .int (s4.1 6), .int (s4.1 7), .int (s4.1 8)])), ((a4 1), .inl (q 0, 40, .inl (s4.2 0))), ((a4 2), .inl (q 0, 40, .inl (s4.2 1))), ((a4 3), .inl (q 0, 40, .inl (s4.2 2)))]) hP hD hS hA [20, 21, 22, 23, 24, 25, 26, 27] [0, 1, 2, 3, 4, 5, 6, 7, 8, 9, 10, 11, 12, 13, 14, 15, 16, 17, 18, 19] rfl rfl (by decide) (by decide) (fun u_2 H locs h hP hD hS => ?_)
  try dsimp only at h
  have hP : va_P D vwCl [((a0 0), .inr (5, [.ref (a1 0), .ref (a2 0), .ref (a3 0), .ref (a4 0), .ref (a5 0), .ref p8, .ref s8])), ((a1 0), .inr (4, [.ref (a1 1), .int (s1.1 0), .int (s1.1 1), .int (s1.1 2), .int (s1.1 3), .int (s1.1 4), .int (s1.1 5)])), ((a1 1), .inl (q 0, 400, .inl s1.2)), ((a2 0), .inr (0, [.int (s2.1 0), .int (s2.1 1), .int (s2.1 2), .int (s2.1 3), .int (s2.1 4), .int (s2.1 5), .ref (a2 1), .ref (a2 2), .ref (a2 3), .ref (a2 4), .ref (a2 5), .ref (a2 6), .ref (a2 7), .ref (a2 8), .ref (a2 9), .ref (a2 10), .ref (a2 11), .ref (a2 12)])), ((a2 1), .inl (q 0, 4, .inl (s2.2.1 0))), ((a2 2), .inl (q 0, 4, .inl (s2.2.1 1))), ((a2 3), .inl (q 0, 160, .inl (s2.2.1 2))), ((a2 4), .inl (q 0, 40, .inl (s2.2.1 3))), ((a2 5), .inl (q 0, 40, .inl (s2.2.1 4))), ((a2 6), .inl (q 0, 40, .inl (s2.2.1 5))), ((a2 7), .inl (q 0, 40, .inl (s2.2.1 6))), ((a2 8), .inl (q 0, 40, .inl (s2.2.1 7))), ((a2 9), .inl (q 0, 40, .inl (s2.2.1 8))), ((a2 10), .inl (q 0, 40, .inl (s2.2.1 9))), ((a2 11), .inl (q 1, 40, .inr (.inl s2.2.2.1))), ((a2 12), .inl (q 0, s2.2.2.2.1, .inl s2.2.2.2.2)), ((a4 0), .inr (1, [.ref (a4 1), .ref (a4 2), .ref (a4 3), .int (s4.1 0), .int (s4.1 1), .int (s4.1 2), .int (s4.1 3), .int (s4.1 4), .int (s4.1 5), .int (s4.1 6), .int (s4.1 7), .int (s4.1 8)])), ((a4 1), .inl (q 0, 40, .inl (s4.2 0))), ((a4 2), .inl (q 0, 40, .inl (s4.2 1))), ((a4 3), .inl (q 0, 40, .inl (s4.2 2))), ((a5 0), .inr (3, [.ref (a5 1), .ref (a5 2), .ref (a5 3), .ref (a5 4), .ref (a5 5), .ref (a5 6), .ref (a5 7), .int (u_2.1 0), .int (u_2.1 1), .int (u_2.1 2)])), ((a5 1), .inl (q 0, 80, .inl (u_2.2 0))), ((a5 2), .inl (q 0, 80, .inl (u_2.2 1))), ((a5 3), .inl (q 0, 80, .inl (u_2.2 2))), ((a5 4), .inl (q 0, 80, .inl (u_2.2 3))), ((a5 5), .inl (q 0, 80, .inl (u_2.2 4))), ((a5 6), .inl (q 0, 3, .inl (u_2.2 5))), ((a5 7), .inl (q 0, 3, .inl (u_2.2 6)))] H := hP
  have hD : va_D _ [((a0 0), .inr (5, [.ref (a1 0), .ref (a2 0), .ref (a3 0), .ref (a4 0), .ref (a5 0), .ref p8, .ref s8])), ((a1 0), .inr (4, [.ref (a1 1), .int (s1.1 0), .int (s1.1 1), .int (s1.1 2), .int (s1.1 3), .int (s1.1 4), .int (s1.1 5)])), ((a1 1), .inl (q 0, 400, .inl s1.2)), ((a2 0), .inr (0, [.int (s2.1 0), .int (s2.1 1), .int (s2.1 2), .int (s2.1 3), .int (s2.1 4), .int (s2.1 5), .ref (a2 1), .ref (a2 2), .ref (a2 3), .ref (a2 4), .ref (a2 5), .ref (a2 6), .ref (a2 7), .ref (a2 8), .ref (a2 9), .ref (a2 10), .ref (a2 11), .ref (a2 12)])), ((a2 1), .inl (q 0, 4, .inl (s2.2.1 0))), ((a2 2), .inl (q 0, 4, .inl (s2.2.1 1))), ((a2 3), .inl (q 0, 160, .inl (s2.2.1 2))), ((a2 4), .inl (q 0, 40, .inl (s2.2.1 3))), ((a2 5), .inl (q 0, 40, .inl (s2.2.1 4))), ((a2 6), .inl (q 0, 40, .inl (s2.2.1 5))), ((a2 7), .inl (q 0, 40, .inl (s2.2.1 6))), ((a2 8), .inl (q 0, 40, .inl (s2.2.1 7))), ((a2 9), .inl (q 0, 40, .inl (s2.2.1 8))), ((a2 10), .inl (q 0, 40, .inl (s2.2.1 9))), ((a2 11), .inl (q 1, 40, .inr (.inl s2.2.2.1))), ((a2 12), .inl (q 0, s2.2.2.2.1, .inl s2.2.2.2.2)), ((a4 0), .inr (1, [.ref (a4 1), .ref (a4 2), .ref (a4 3), .int (s4.1 0), .int (s4.1 1), .int (s4.1 2), .int (s4.1 3), .int (s4.1 4), .int (s4.1 5), .int (s4.1 6), .int (s4.1 7), .int (s4.1 8)])), ((a4 1), .inl (q 0, 40, .inl (s4.2 0))), ((a4 2), .inl (q 0, 40, .inl (s4.2 1))), ((a4 3), .inl (q 0, 40, .inl (s4.2 2))), ((a5 0), .inr (3, [.ref (a5 1), .ref (a5 2), .ref (a5 3), .ref (a5 4), .ref (a5 5), .ref (a5 6), .ref (a5 7), .int (u_2.1 0), .int (u_2.1 1), .int (u_2.1 2)])), ((a5 1), .inl (q 0, 80, .inl (u_2.2 0))), ((a5 2), .inl (q 0, 80, .inl (u_2.2 1))), ((a5 3), .inl (q 0, 80, .inl (u_2.2 2))), ((a5 4), .inl (q 0, 80, .inl (u_2.2 3))), ((a5 5), .inl (q 0, 80, .inl (u_2.2 4))), ((a5 6), .inl (q 0, 3, .inl (u_2.2 5))), ((a5 7), .inl (q 0, 3, .inl (u_2.2 6)))] := hD
  refine lv_iconst (v := 0) hx hb dX6_doProgram_7 (by decide) ?_
  refine lv_istore_n (lv' := [(1, .int 0), (0, .ref (a0 0))]) hx hb dX6_doProgram_8 rfl hl (by decide) rfl (fun ls hl => ?_)
  have lp9 : ∀ (e59 : Bd → Mo → Pg → Int32 → Prop) (k59 : ∀ (t2 : Bd) (t3 : Mo) (t4 : Pg) (z1 : Int32) (H : Heap) (locs : List Loc) (ls : Array Slot), e59 t2 t3 t4 z1 → va_P D vwCl (fo_w (a0 0) (a1 0) (a2 0) (a3 0) (a4 0) (a5 0) p8 s8 ++ tp_w a1 q s1 ++ bd_w a2 q t2 ++ mo_w a4 q t3 ++ pg_w a5 q t4) H → va_D (va_A (fo_w (a0 0) (a1 0) (a2 0) (a3 0) (a4 0) (a5 0) p8 s8 ++ tp_w a1 q s1 ++ bd_w a2 q s2 ++ mo_w a4 q s4 ++ pg_w a5 q s5) sz) (fo_w (a0 0) (a1 0) (a2 0) (a3 0) (a4 0) (a5 0) p8 s8 ++ tp_w a1 q s1 ++ bd_w a2 q t2 ++ mo_w a4 q t3 ++ pg_w a5 q t4) → va_S (va_A (fo_w (a0 0) (a1 0) (a2 0) (a3 0) (a4 0) (a5 0) p8 s8 ++ tp_w a1 q s1 ++ bd_w a2 q s2 ++ mo_w a4 q s4 ++ pg_w a5 q s5) sz) s.heap H locs → lv_has ls 2 [(1, .int z1), (0, .ref (a0 0))] → W p l e ({ frames := 5, cells := 0, slots := 0, locals := 137 } : Room) s m [.ref (a0 0)].toArray below meth c H locs 0 0 (MQ below (va_Qi (fun r (u : Bd × Mo × Pg) => post r u.1 u.2.1 u.2.2) (mt_B D (fo_w (a0 0) (a1 0) (a2 0) (a3 0) (a4 0) (a5 0) p8 s8 ++ tp_w a1 q s1 ++ bd_w a2 q s2 ++ mo_w a4 q s4 ++ pg_w a5 q s5) sz (fun u : Bd × Mo × Pg => fo_w (a0 0) (a1 0) (a2 0) (a3 0) (a4 0) (a5 0) p8 s8 ++ tp_w a1 q s1 ++ bd_w a2 q u.1 ++ mo_w a4 q u.2.1 ++ pg_w a5 q u.2.2)) (va_A (fo_w (a0 0) (a1 0) (a2 0) (a3 0) (a4 0) (a5 0) p8 s8 ++ tp_w a1 q s1 ++ bd_w a2 q s2 ++ mo_w a4 q s4 ++ pg_w a5 q s5) sz)) [.ref (a0 0)].toArray s 0 0 (va_A (fo_w (a0 0) (a1 0) (a2 0) (a3 0) (a4 0) (a5 0) p8 s8 ++ tp_w a1 q s1 ++ bd_w a2 q s2 ++ mo_w a4 q s4 ++ pg_w a5 q s5) sz)) (F0 m 59 ls [])) (n : Nat) (t2 : Bd) (t3 : Mo) (t4 : Pg) (z1 : Int32) (H : Heap) (locs : List Loc) (ls : Array Slot), wp_X6_doProgram_L9 s1 post e59 n t2 t3 t4 z1 → va_P D vwCl (fo_w (a0 0) (a1 0) (a2 0) (a3 0) (a4 0) (a5 0) p8 s8 ++ tp_w a1 q s1 ++ bd_w a2 q t2 ++ mo_w a4 q t3 ++ pg_w a5 q t4) H → va_D (va_A (fo_w (a0 0) (a1 0) (a2 0) (a3 0) (a4 0) (a5 0) p8 s8 ++ tp_w a1 q s1 ++ bd_w a2 q s2 ++ mo_w a4 q s4 ++ pg_w a5 q s5) sz) (fo_w (a0 0) (a1 0) (a2 0) (a3 0) (a4 0) (a5 0) p8 s8 ++ tp_w a1 q s1 ++ bd_w a2 q t2 ++ mo_w a4 q t3 ++ pg_w a5 q t4) → va_S (va_A (fo_w (a0 0) (a1 0) (a2 0) (a3 0) (a4 0) (a5 0) p8 s8 ++ tp_w a1 q s1 ++ bd_w a2 q s2 ++ mo_w a4 q s4 ++ pg_w a5 q s5) sz) s.heap H locs → lv_has ls 2 [(1, .int z1), (0, .ref (a0 0))] → W p l e ({ frames := 5, cells := 0, slots := 0, locals := 137 } : Room) s m [.ref (a0 0)].toArray below meth c H locs 0 0 (MQ below (va_Qi (fun r (u : Bd × Mo × Pg) => post r u.1 u.2.1 u.2.2) (mt_B D (fo_w (a0 0) (a1 0) (a2 0) (a3 0) (a4 0) (a5 0) p8 s8 ++ tp_w a1 q s1 ++ bd_w a2 q s2 ++ mo_w a4 q s4 ++ pg_w a5 q s5) sz (fun u : Bd × Mo × Pg => fo_w (a0 0) (a1 0) (a2 0) (a3 0) (a4 0) (a5 0) p8 s8 ++ tp_w a1 q s1 ++ bd_w a2 q u.1 ++ mo_w a4 q u.2.1 ++ pg_w a5 q u.2.2)) (va_A (fo_w (a0 0) (a1 0) (a2 0) (a3 0) (a4 0) (a5 0) p8 s8 ++ tp_w a1 q s1 ++ bd_w a2 q s2 ++ mo_w a4 q s4 ++ pg_w a5 q s5) sz)) [.ref (a0 0)].toArray s 0 0 (va_A (fo_w (a0 0) (a1 0) (a2 0) (a3 0) (a4 0) (a5 0) p8 s8 ++ tp_w a1 q s1 ++ bd_w a2 q s2 ++ mo_w a4 q s4 ++ pg_w a5 q s5) sz)) (F0 m 9 ls []) := by
    intro e59 k59 n
    induction n with
    | zero =>
      intro t2 t3 t4 z1 H locs ls h
      exact h.elim
    | succ n ih =>
      intro t2 t3 t4 z1 H locs ls h hP hD hS hl
      have hP : va_P D vwCl [((a0 0), .inr (5, [.ref (a1 0), .ref (a2 0), .ref (a3 0), .ref (a4 0), .ref (a5 0), .ref p8, .ref s8])), ((a1 0), .inr (4, [.ref (a1 1), .int (s1.1 0), .int (s1.1 1), .int (s1.1 2), .int (s1.1 3), .int (s1.1 4), .int (s1.1 5)])), ((a1 1), .inl (q 0, 400, .inl s1.2)), ((a2 0), .inr (0, [.int (t2.1 0), .int (t2.1 1), .int (t2.1 2), .int (t2.1 3), .int (t2.1 4), .int (t2.1 5), .ref (a2 1), .ref (a2 2), .ref (a2 3), .ref (a2 4), .ref (a2 5), .ref (a2 6), .ref (a2 7), .ref (a2 8), .ref (a2 9), .ref (a2 10), .ref (a2 11), .ref (a2 12)])), ((a2 1), .inl (q 0, 4, .inl (t2.2.1 0))), ((a2 2), .inl (q 0, 4, .inl (t2.2.1 1))), ((a2 3), .inl (q 0, 160, .inl (t2.2.1 2))), ((a2 4), .inl (q 0, 40, .inl (t2.2.1 3))), ((a2 5), .inl (q 0, 40, .inl (t2.2.1 4))), ((a2 6), .inl (q 0, 40, .inl (t2.2.1 5))), ((a2 7), .inl (q 0, 40, .inl (t2.2.1 6))), ((a2 8), .inl (q 0, 40, .inl (t2.2.1 7))), ((a2 9), .inl (q 0, 40, .inl (t2.2.1 8))), ((a2 10), .inl (q 0, 40, .inl (t2.2.1 9))), ((a2 11), .inl (q 1, 40, .inr (.inl t2.2.2.1))), ((a2 12), .inl (q 0, t2.2.2.2.1, .inl t2.2.2.2.2)), ((a4 0), .inr (1, [.ref (a4 1), .ref (a4 2), .ref (a4 3), .int (t3.1 0), .int (t3.1 1), .int (t3.1 2), .int (t3.1 3), .int (t3.1 4), .int (t3.1 5), .int (t3.1 6), .int (t3.1 7), .int (t3.1 8)])), ((a4 1), .inl (q 0, 40, .inl (t3.2 0))), ((a4 2), .inl (q 0, 40, .inl (t3.2 1))), ((a4 3), .inl (q 0, 40, .inl (t3.2 2))), ((a5 0), .inr (3, [.ref (a5 1), .ref (a5 2), .ref (a5 3), .ref (a5 4), .ref (a5 5), .ref (a5 6), .ref (a5 7), .int (t4.1 0), .int (t4.1 1), .int (t4.1 2)])), ((a5 1), .inl (q 0, 80, .inl (t4.2 0))), ((a5 2), .inl (q 0, 80, .inl (t4.2 1))), ((a5 3), .inl (q 0, 80, .inl (t4.2 2))), ((a5 4), .inl (q 0, 80, .inl (t4.2 3))), ((a5 5), .inl (q 0, 80, .inl (t4.2 4))), ((a5 6), .inl (q 0, 3, .inl (t4.2 5))), ((a5 7), .inl (q 0, 3, .inl (t4.2 6)))] H := hP
      have hD : va_D _ [((a0 0), .inr (5, [.ref (a1 0), .ref (a2 0), .ref (a3 0), .ref (a4 0), .ref (a5 0), .ref p8, .ref s8])), ((a1 0), .inr (4, [.ref (a1 1), .int (s1.1 0), .int (s1.1 1), .int (s1.1 2), .int (s1.1 3), .int (s1.1 4), .int (s1.1 5)])), ((a1 1), .inl (q 0, 400, .inl s1.2)), ((a2 0), .inr (0, [.int (t2.1 0), .int (t2.1 1), .int (t2.1 2), .int (t2.1 3), .int (t2.1 4), .int (t2.1 5), .ref (a2 1), .ref (a2 2), .ref (a2 3), .ref (a2 4), .ref (a2 5), .ref (a2 6), .ref (a2 7), .ref (a2 8), .ref (a2 9), .ref (a2 10), .ref (a2 11), .ref (a2 12)])), ((a2 1), .inl (q 0, 4, .inl (t2.2.1 0))), ((a2 2), .inl (q 0, 4, .inl (t2.2.1 1))), ((a2 3), .inl (q 0, 160, .inl (t2.2.1 2))), ((a2 4), .inl (q 0, 40, .inl (t2.2.1 3))), ((a2 5), .inl (q 0, 40, .inl (t2.2.1 4))), ((a2 6), .inl (q 0, 40, .inl (t2.2.1 5))), ((a2 7), .inl (q 0, 40, .inl (t2.2.1 6))), ((a2 8), .inl (q 0, 40, .inl (t2.2.1 7))), ((a2 9), .inl (q 0, 40, .inl (t2.2.1 8))), ((a2 10), .inl (q 0, 40, .inl (t2.2.1 9))), ((a2 11), .inl (q 1, 40, .inr (.inl t2.2.2.1))), ((a2 12), .inl (q 0, t2.2.2.2.1, .inl t2.2.2.2.2)), ((a4 0), .inr (1, [.ref (a4 1), .ref (a4 2), .ref (a4 3), .int (t3.1 0), .int (t3.1 1), .int (t3.1 2), .int (t3.1 3), .int (t3.1 4), .int (t3.1 5), .int (t3.1 6), .int (t3.1 7), .int (t3.1 8)])), ((a4 1), .inl (q 0, 40, .inl (t3.2 0))), ((a4 2), .inl (q 0, 40, .inl (t3.2 1))), ((a4 3), .inl (q 0, 40, .inl (t3.2 2))), ((a5 0), .inr (3, [.ref (a5 1), .ref (a5 2), .ref (a5 3), .ref (a5 4), .ref (a5 5), .ref (a5 6), .ref (a5 7), .int (t4.1 0), .int (t4.1 1), .int (t4.1 2)])), ((a5 1), .inl (q 0, 80, .inl (t4.2 0))), ((a5 2), .inl (q 0, 80, .inl (t4.2 1))), ((a5 3), .inl (q 0, 80, .inl (t4.2 2))), ((a5 4), .inl (q 0, 80, .inl (t4.2 3))), ((a5 5), .inl (q 0, 80, .inl (t4.2 4))), ((a5 6), .inl (q 0, 3, .inl (t4.2 5))), ((a5 7), .inl (q 0, 3, .inl (t4.2 6)))] := hD
      unfold wp_X6_doProgram_L9 at h
      refine lv_iload_n hx hb dX6_doProgram_9 rfl (lv_at hl 0 rfl) ?_
      refine lv_sipush (v := 200) hx hb dX6_doProgram_10 (by decide) ?_
      refine lv_icmp_ge (tgt := 59) hx hb dX6_doProgram_13 (by decide) (fun c_3 => ?_) (fun c_3 => ?_)
      · replace h := h.1 c_3
        exact k59 _ _ _ _ _ _ ls h (hP.sub (ws' := fo_w (a0 0) (a1 0) (a2 0) (a3 0) (a4 0) (a5 0) p8 s8 ++ tp_w a1 q s1 ++ bd_w a2 q t2 ++ mo_w a4 q t3 ++ pg_w a5 q t4) [0, 1, 2, 3, 4, 5, 6, 7, 8, 9, 10, 11, 12, 13, 14, 15, 16, 17, 18, 19, 20, 21, 22, 23, 24, 25, 26, 27] rfl) (hD.sub (ws' := fo_w (a0 0) (a1 0) (a2 0) (a3 0) (a4 0) (a5 0) p8 s8 ++ tp_w a1 q s1 ++ bd_w a2 q t2 ++ mo_w a4 q t3 ++ pg_w a5 q t4) [0, 1, 2, 3, 4, 5, 6, 7, 8, 9, 10, 11, 12, 13, 14, 15, 16, 17, 18, 19, 20, 21, 22, 23, 24, 25, 26, 27] (by decide) rfl) hS (lv_sub hl [0, 1] rfl)
      · replace h := h.2 c_3
        refine lv_aload_n hx hb dX6_doProgram_16 rfl (lv_at hl 1 rfl) ?_
        refine fl_get (C := RX6) (T := TX6) (N := 7) (ci := 5) (v := .ref (a5 0)) hx hb ht in_X6 hown hK hP 0 rfl rfl 4 (by decide) mw_359 rfl dX6_doProgram_17 ?_
        refine lv_aload_n hx hb dX6_doProgram_20 rfl (lv_at hl 1 rfl) ?_
        refine fl_get (C := RX6) (T := TX6) (N := 7) (ci := 5) (v := .ref (a5 0)) hx hb ht in_X6 hown hK hP 0 rfl rfl 4 (by decide) mw_359 rfl dX6_doProgram_21 ?_
        refine fl_get (C := RX4) (T := TX4) (N := 10) (ci := 3) (v := .int (t4.1 2)) hx hb ht in_X4 hown hK hP 20 rfl rfl 9 (by decide) mw_314 rfl dX6_doProgram_24 ?_
        refine vp_callSi (rd_wV (wc := pg_w a5 q t4) (As := [.int (t4.1 2)]) (rest := []) hx hb hml hown ht (c2_X4_hasStep h) wd_X4_hasStep mw_834 hQ hV hS (hP.sub [20, 21, 22, 23, 24, 25, 26, 27] rfl) rfl rfl rfl hl.1 rfl (Nat.le_of_ble_eq_true rfl) dX6_doProgram_27 ⟨Nat.le_of_ble_eq_true rfl, Nat.le_of_ble_eq_true rfl, rfl, rfl⟩ ⟨Nat.le_of_ble_eq_true rfl, Nat.le_of_ble_eq_true rfl⟩) (fun r_4 h => ?_)
        try dsimp only at h
        refine lv_if_ne (tgt := 35) hx hb dX6_doProgram_30 (by decide) (fun c_6 => ?_) (fun c_6 => ?_)
        · replace h := h.1 c_6
          refine lv_aload_n hx hb dX6_doProgram_35 rfl (lv_at hl 1 rfl) ?_
          refine lv_aload_n hx hb dX6_doProgram_36 rfl (lv_at hl 1 rfl) ?_
          refine fl_get (C := RX6) (T := TX6) (N := 7) (ci := 5) (v := .ref (a5 0)) hx hb ht in_X6 hown hK hP 0 rfl rfl 4 (by decide) mw_359 rfl dX6_doProgram_37 ?_
          refine fl_get (C := RX4) (T := TX4) (N := 10) (ci := 3) (v := .int (t4.1 2)) hx hb ht in_X4 hown hK hP 20 rfl rfl 9 (by decide) mw_314 rfl dX6_doProgram_40 ?_
          refine mt_gov (mt_wV (wc := fo_w (a0 0) (a1 0) (a2 0) (a3 0) (a4 0) (a5 0) p8 s8 ++ tp_w a1 q s1 ++ bd_w a2 q t2 ++ mo_w a4 q t3 ++ pg_w a5 q t4) (As := [.int (t4.1 2)]) (rest := []) hx hb hml hown ht (c2_X6_doStep h) wd_X6_doStep mw_835 hQ hV hS hA (hP.sub [0, 1, 2, 3, 4, 5, 6, 7, 8, 9, 10, 11, 12, 13, 14, 15, 16, 17, 18, 19, 20, 21, 22, 23, 24, 25, 26, 27] rfl) (hD.sub [0, 1, 2, 3, 4, 5, 6, 7, 8, 9, 10, 11, 12, 13, 14, 15, 16, 17, 18, 19, 20, 21, 22, 23, 24, 25, 26, 27] (by decide) rfl) rfl rfl rfl hl.1 rfl (Nat.le_of_ble_eq_true rfl) dX6_doProgram_43 ⟨Nat.le_of_ble_eq_true rfl, Nat.le_of_ble_eq_true rfl, rfl, rfl⟩ ⟨Nat.le_of_ble_eq_true rfl, Nat.le_of_ble_eq_true rfl⟩) (wr := []) hP hD hS hA [0, 1, 2, 3, 4, 5, 6, 7, 8, 9, 10, 11, 12, 13, 14, 15, 16, 17, 18, 19, 20, 21, 22, 23, 24, 25, 26, 27] [] rfl rfl (by decide) (by decide) (fun u_8 H locs h hP hD hS => ?_)
          obtain ⟨u_8a, u_8b⟩ := u_8
          try dsimp only at h
          have hP : va_P D vwCl [((a0 0), .inr (5, [.ref (a1 0), .ref (a2 0), .ref (a3 0), .ref (a4 0), .ref (a5 0), .ref p8, .ref s8])), ((a1 0), .inr (4, [.ref (a1 1), .int (s1.1 0), .int (s1.1 1), .int (s1.1 2), .int (s1.1 3), .int (s1.1 4), .int (s1.1 5)])), ((a1 1), .inl (q 0, 400, .inl s1.2)), ((a2 0), .inr (0, [.int (u_8a.1 0), .int (u_8a.1 1), .int (u_8a.1 2), .int (u_8a.1 3), .int (u_8a.1 4), .int (u_8a.1 5), .ref (a2 1), .ref (a2 2), .ref (a2 3), .ref (a2 4), .ref (a2 5), .ref (a2 6), .ref (a2 7), .ref (a2 8), .ref (a2 9), .ref (a2 10), .ref (a2 11), .ref (a2 12)])), ((a2 1), .inl (q 0, 4, .inl (u_8a.2.1 0))), ((a2 2), .inl (q 0, 4, .inl (u_8a.2.1 1))), ((a2 3), .inl (q 0, 160, .inl (u_8a.2.1 2))), ((a2 4), .inl (q 0, 40, .inl (u_8a.2.1 3))), ((a2 5), .inl (q 0, 40, .inl (u_8a.2.1 4))), ((a2 6), .inl (q 0, 40, .inl (u_8a.2.1 5))), ((a2 7), .inl (q 0, 40, .inl (u_8a.2.1 6))), ((a2 8), .inl (q 0, 40, .inl (u_8a.2.1 7))), ((a2 9), .inl (q 0, 40, .inl (u_8a.2.1 8))), ((a2 10), .inl (q 0, 40, .inl (u_8a.2.1 9))), ((a2 11), .inl (q 1, 40, .inr (.inl u_8a.2.2.1))), ((a2 12), .inl (q 0, u_8a.2.2.2.1, .inl u_8a.2.2.2.2)), ((a4 0), .inr (1, [.ref (a4 1), .ref (a4 2), .ref (a4 3), .int (u_8b.1 0), .int (u_8b.1 1), .int (u_8b.1 2), .int (u_8b.1 3), .int (u_8b.1 4), .int (u_8b.1 5), .int (u_8b.1 6), .int (u_8b.1 7), .int (u_8b.1 8)])), ((a4 1), .inl (q 0, 40, .inl (u_8b.2 0))), ((a4 2), .inl (q 0, 40, .inl (u_8b.2 1))), ((a4 3), .inl (q 0, 40, .inl (u_8b.2 2))), ((a5 0), .inr (3, [.ref (a5 1), .ref (a5 2), .ref (a5 3), .ref (a5 4), .ref (a5 5), .ref (a5 6), .ref (a5 7), .int (t4.1 0), .int (t4.1 1), .int (t4.1 2)])), ((a5 1), .inl (q 0, 80, .inl (t4.2 0))), ((a5 2), .inl (q 0, 80, .inl (t4.2 1))), ((a5 3), .inl (q 0, 80, .inl (t4.2 2))), ((a5 4), .inl (q 0, 80, .inl (t4.2 3))), ((a5 5), .inl (q 0, 80, .inl (t4.2 4))), ((a5 6), .inl (q 0, 3, .inl (t4.2 5))), ((a5 7), .inl (q 0, 3, .inl (t4.2 6)))] H := hP
          have hD : va_D _ [((a0 0), .inr (5, [.ref (a1 0), .ref (a2 0), .ref (a3 0), .ref (a4 0), .ref (a5 0), .ref p8, .ref s8])), ((a1 0), .inr (4, [.ref (a1 1), .int (s1.1 0), .int (s1.1 1), .int (s1.1 2), .int (s1.1 3), .int (s1.1 4), .int (s1.1 5)])), ((a1 1), .inl (q 0, 400, .inl s1.2)), ((a2 0), .inr (0, [.int (u_8a.1 0), .int (u_8a.1 1), .int (u_8a.1 2), .int (u_8a.1 3), .int (u_8a.1 4), .int (u_8a.1 5), .ref (a2 1), .ref (a2 2), .ref (a2 3), .ref (a2 4), .ref (a2 5), .ref (a2 6), .ref (a2 7), .ref (a2 8), .ref (a2 9), .ref (a2 10), .ref (a2 11), .ref (a2 12)])), ((a2 1), .inl (q 0, 4, .inl (u_8a.2.1 0))), ((a2 2), .inl (q 0, 4, .inl (u_8a.2.1 1))), ((a2 3), .inl (q 0, 160, .inl (u_8a.2.1 2))), ((a2 4), .inl (q 0, 40, .inl (u_8a.2.1 3))), ((a2 5), .inl (q 0, 40, .inl (u_8a.2.1 4))), ((a2 6), .inl (q 0, 40, .inl (u_8a.2.1 5))), ((a2 7), .inl (q 0, 40, .inl (u_8a.2.1 6))), ((a2 8), .inl (q 0, 40, .inl (u_8a.2.1 7))), ((a2 9), .inl (q 0, 40, .inl (u_8a.2.1 8))), ((a2 10), .inl (q 0, 40, .inl (u_8a.2.1 9))), ((a2 11), .inl (q 1, 40, .inr (.inl u_8a.2.2.1))), ((a2 12), .inl (q 0, u_8a.2.2.2.1, .inl u_8a.2.2.2.2)), ((a4 0), .inr (1, [.ref (a4 1), .ref (a4 2), .ref (a4 3), .int (u_8b.1 0), .int (u_8b.1 1), .int (u_8b.1 2), .int (u_8b.1 3), .int (u_8b.1 4), .int (u_8b.1 5), .int (u_8b.1 6), .int (u_8b.1 7), .int (u_8b.1 8)])), ((a4 1), .inl (q 0, 40, .inl (u_8b.2 0))), ((a4 2), .inl (q 0, 40, .inl (u_8b.2 1))), ((a4 3), .inl (q 0, 40, .inl (u_8b.2 2))), ((a5 0), .inr (3, [.ref (a5 1), .ref (a5 2), .ref (a5 3), .ref (a5 4), .ref (a5 5), .ref (a5 6), .ref (a5 7), .int (t4.1 0), .int (t4.1 1), .int (t4.1 2)])), ((a5 1), .inl (q 0, 80, .inl (t4.2 0))), ((a5 2), .inl (q 0, 80, .inl (t4.2 1))), ((a5 3), .inl (q 0, 80, .inl (t4.2 2))), ((a5 4), .inl (q 0, 80, .inl (t4.2 3))), ((a5 5), .inl (q 0, 80, .inl (t4.2 4))), ((a5 6), .inl (q 0, 3, .inl (t4.2 5))), ((a5 7), .inl (q 0, 3, .inl (t4.2 6)))] := hD
          refine lv_aload_n hx hb dX6_doProgram_46 rfl (lv_at hl 1 rfl) ?_
          refine fl_get (C := RX6) (T := TX6) (N := 7) (ci := 5) (v := .ref (a5 0)) hx hb ht in_X6 hown hK hP 0 rfl rfl 4 (by decide) mw_359 rfl dX6_doProgram_47 ?_
          refine mt_gov (mt_wV (wc := pg_w a5 q t4) (As := []) (rest := []) hx hb hml hown ht (c2_X4_goOn h) wd_X4_goOn mw_859 hQ hV hS hA (hP.sub [20, 21, 22, 23, 24, 25, 26, 27] rfl) (hD.sub [20, 21, 22, 23, 24, 25, 26, 27] (by decide) rfl) rfl rfl rfl hl.1 rfl (Nat.le_of_ble_eq_true rfl) dX6_doProgram_50 ⟨Nat.le_of_ble_eq_true rfl, Nat.le_of_ble_eq_true rfl, rfl, rfl⟩ ⟨Nat.le_of_ble_eq_true rfl, Nat.le_of_ble_eq_true rfl⟩) (wr := [((a0 0), .inr (5, [.ref (a1 0), .ref (a2 0), .ref (a3 0), .ref (a4 0), .ref (a5 0), .ref p8, .ref s8])), ((a1 0), .inr (4, [.ref (a1 1), .int (s1.1 0), .int (s1.1 1), .int (s1.1 2), .int (s1.1 3), .int (s1.1 4), .int (s1.1 5)])), ((a1 1), .inl (q 0, 400, .inl s1.2)), ((a2 0), .inr (0, [.int (u_8a.1 0), .int (u_8a.1 1), .int (u_8a.1 2), .int (u_8a.1 3), .int (u_8a.1 4), .int (u_8a.1 5), .ref (a2 1), .ref (a2 2), .ref (a2 3), .ref (a2 4), .ref (a2 5), .ref (a2 6), .ref (a2 7), .ref (a2 8), .ref (a2 9), .ref (a2 10), .ref (a2 11), .ref (a2 12)])), ((a2 1), .inl (q 0, 4, .inl (u_8a.2.1 0))), ((a2 2), .inl (q 0, 4, .inl (u_8a.2.1 1))), ((a2 3), .inl (q 0, 160, .inl (u_8a.2.1 2))), ((a2 4), .inl (q 0, 40, .inl (u_8a.2.1 3))), ((a2 5), .inl (q 0, 40, .inl (u_8a.2.1 4))), ((a2 6), .inl (q 0, 40, .inl (u_8a.2.1 5))), ((a2 7), .inl (q 0, 40, .inl (u_8a.2.1 6))), ((a2 8), .inl (q 0, 40, .inl (u_8a.2.1 7))), ((a2 9), .inl (q 0, 40, .inl (u_8a.2.1 8))), ((a2 10), .inl (q 0, 40, .inl (u_8a.2.1 9))), ((a2 11), .inl (q 1, 40, .inr (.inl u_8a.2.2.1))), ((a2 12), .inl (q 0, u_8a.2.2.2.1, .inl u_8a.2.2.2.2)), ((a4 0), .inr (1, [.ref (a4 1), .ref (a4 2), .ref (a4 3), .int (u_8b.1 0), .int (u_8b.1 1), .int (u_8b.1 2), .int (u_8b.1 3), .int (u_8b.1 4), .int (u_8b.1 5), .int (u_8b.1 6), .int (u_8b.1 7), .int (u_8b.1 8)])), ((a4 1), .inl (q 0, 40, .inl (u_8b.2 0))), ((a4 2), .inl (q 0, 40, .inl (u_8b.2 1))), ((a4 3), .inl (q 0, 40, .inl (u_8b.2 2)))]) hP hD hS hA [20, 21, 22, 23, 24, 25, 26, 27] [0, 1, 2, 3, 4, 5, 6, 7, 8, 9, 10, 11, 12, 13, 14, 15, 16, 17, 18, 19] rfl rfl (by decide) (by decide) (fun u_10 H locs h hP hD hS => ?_)
          try dsimp only at h
          have hP : va_P D vwCl [((a0 0), .inr (5, [.ref (a1 0), .ref (a2 0), .ref (a3 0), .ref (a4 0), .ref (a5 0), .ref p8, .ref s8])), ((a1 0), .inr (4, [.ref (a1 1), .int (s1.1 0), .int (s1.1 1), .int (s1.1 2), .int (s1.1 3), .int (s1.1 4), .int (s1.1 5)])), ((a1 1), .inl (q 0, 400, .inl s1.2)), ((a2 0), .inr (0, [.int (u_8a.1 0), .int (u_8a.1 1), .int (u_8a.1 2), .int (u_8a.1 3), .int (u_8a.1 4), .int (u_8a.1 5), .ref (a2 1), .ref (a2 2), .ref (a2 3), .ref (a2 4), .ref (a2 5), .ref (a2 6), .ref (a2 7), .ref (a2 8), .ref (a2 9), .ref (a2 10), .ref (a2 11), .ref (a2 12)])), ((a2 1), .inl (q 0, 4, .inl (u_8a.2.1 0))), ((a2 2), .inl (q 0, 4, .inl (u_8a.2.1 1))), ((a2 3), .inl (q 0, 160, .inl (u_8a.2.1 2))), ((a2 4), .inl (q 0, 40, .inl (u_8a.2.1 3))), ((a2 5), .inl (q 0, 40, .inl (u_8a.2.1 4))), ((a2 6), .inl (q 0, 40, .inl (u_8a.2.1 5))), ((a2 7), .inl (q 0, 40, .inl (u_8a.2.1 6))), ((a2 8), .inl (q 0, 40, .inl (u_8a.2.1 7))), ((a2 9), .inl (q 0, 40, .inl (u_8a.2.1 8))), ((a2 10), .inl (q 0, 40, .inl (u_8a.2.1 9))), ((a2 11), .inl (q 1, 40, .inr (.inl u_8a.2.2.1))), ((a2 12), .inl (q 0, u_8a.2.2.2.1, .inl u_8a.2.2.2.2)), ((a4 0), .inr (1, [.ref (a4 1), .ref (a4 2), .ref (a4 3), .int (u_8b.1 0), .int (u_8b.1 1), .int (u_8b.1 2), .int (u_8b.1 3), .int (u_8b.1 4), .int (u_8b.1 5), .int (u_8b.1 6), .int (u_8b.1 7), .int (u_8b.1 8)])), ((a4 1), .inl (q 0, 40, .inl (u_8b.2 0))), ((a4 2), .inl (q 0, 40, .inl (u_8b.2 1))), ((a4 3), .inl (q 0, 40, .inl (u_8b.2 2))), ((a5 0), .inr (3, [.ref (a5 1), .ref (a5 2), .ref (a5 3), .ref (a5 4), .ref (a5 5), .ref (a5 6), .ref (a5 7), .int (u_10.1 0), .int (u_10.1 1), .int (u_10.1 2)])), ((a5 1), .inl (q 0, 80, .inl (u_10.2 0))), ((a5 2), .inl (q 0, 80, .inl (u_10.2 1))), ((a5 3), .inl (q 0, 80, .inl (u_10.2 2))), ((a5 4), .inl (q 0, 80, .inl (u_10.2 3))), ((a5 5), .inl (q 0, 80, .inl (u_10.2 4))), ((a5 6), .inl (q 0, 3, .inl (u_10.2 5))), ((a5 7), .inl (q 0, 3, .inl (u_10.2 6)))] H := hP
          have hD : va_D _ [((a0 0), .inr (5, [.ref (a1 0), .ref (a2 0), .ref (a3 0), .ref (a4 0), .ref (a5 0), .ref p8, .ref s8])), ((a1 0), .inr (4, [.ref (a1 1), .int (s1.1 0), .int (s1.1 1), .int (s1.1 2), .int (s1.1 3), .int (s1.1 4), .int (s1.1 5)])), ((a1 1), .inl (q 0, 400, .inl s1.2)), ((a2 0), .inr (0, [.int (u_8a.1 0), .int (u_8a.1 1), .int (u_8a.1 2), .int (u_8a.1 3), .int (u_8a.1 4), .int (u_8a.1 5), .ref (a2 1), .ref (a2 2), .ref (a2 3), .ref (a2 4), .ref (a2 5), .ref (a2 6), .ref (a2 7), .ref (a2 8), .ref (a2 9), .ref (a2 10), .ref (a2 11), .ref (a2 12)])), ((a2 1), .inl (q 0, 4, .inl (u_8a.2.1 0))), ((a2 2), .inl (q 0, 4, .inl (u_8a.2.1 1))), ((a2 3), .inl (q 0, 160, .inl (u_8a.2.1 2))), ((a2 4), .inl (q 0, 40, .inl (u_8a.2.1 3))), ((a2 5), .inl (q 0, 40, .inl (u_8a.2.1 4))), ((a2 6), .inl (q 0, 40, .inl (u_8a.2.1 5))), ((a2 7), .inl (q 0, 40, .inl (u_8a.2.1 6))), ((a2 8), .inl (q 0, 40, .inl (u_8a.2.1 7))), ((a2 9), .inl (q 0, 40, .inl (u_8a.2.1 8))), ((a2 10), .inl (q 0, 40, .inl (u_8a.2.1 9))), ((a2 11), .inl (q 1, 40, .inr (.inl u_8a.2.2.1))), ((a2 12), .inl (q 0, u_8a.2.2.2.1, .inl u_8a.2.2.2.2)), ((a4 0), .inr (1, [.ref (a4 1), .ref (a4 2), .ref (a4 3), .int (u_8b.1 0), .int (u_8b.1 1), .int (u_8b.1 2), .int (u_8b.1 3), .int (u_8b.1 4), .int (u_8b.1 5), .int (u_8b.1 6), .int (u_8b.1 7), .int (u_8b.1 8)])), ((a4 1), .inl (q 0, 40, .inl (u_8b.2 0))), ((a4 2), .inl (q 0, 40, .inl (u_8b.2 1))), ((a4 3), .inl (q 0, 40, .inl (u_8b.2 2))), ((a5 0), .inr (3, [.ref (a5 1), .ref (a5 2), .ref (a5 3), .ref (a5 4), .ref (a5 5), .ref (a5 6), .ref (a5 7), .int (u_10.1 0), .int (u_10.1 1), .int (u_10.1 2)])), ((a5 1), .inl (q 0, 80, .inl (u_10.2 0))), ((a5 2), .inl (q 0, 80, .inl (u_10.2 1))), ((a5 3), .inl (q 0, 80, .inl (u_10.2 2))), ((a5 4), .inl (q 0, 80, .inl (u_10.2 3))), ((a5 5), .inl (q 0, 80, .inl (u_10.2 4))), ((a5 6), .inl (q 0, 3, .inl (u_10.2 5))), ((a5 7), .inl (q 0, 3, .inl (u_10.2 6)))] := hD
          refine lv_iinc (v := (z1 + 1)) (lv' := [(1, .int (z1 + 1)), (0, .ref (a0 0))]) hx hb dX6_doProgram_53 hl (k := 0) rfl rfl (by decide) rfl (fun ls hl => ?_)
          refine lv_goto (tgt := 9) hx hb dX6_doProgram_56 (by decide) ?_
          exact ih _ _ _ _ _ _ ls h (hP.sub (ws' := fo_w (a0 0) (a1 0) (a2 0) (a3 0) (a4 0) (a5 0) p8 s8 ++ tp_w a1 q s1 ++ bd_w a2 q u_8a ++ mo_w a4 q u_8b ++ pg_w a5 q u_10) [0, 1, 2, 3, 4, 5, 6, 7, 8, 9, 10, 11, 12, 13, 14, 15, 16, 17, 18, 19, 20, 21, 22, 23, 24, 25, 26, 27] rfl) (hD.sub (ws' := fo_w (a0 0) (a1 0) (a2 0) (a3 0) (a4 0) (a5 0) p8 s8 ++ tp_w a1 q s1 ++ bd_w a2 q u_8a ++ mo_w a4 q u_8b ++ pg_w a5 q u_10) [0, 1, 2, 3, 4, 5, 6, 7, 8, 9, 10, 11, 12, 13, 14, 15, 16, 17, 18, 19, 20, 21, 22, 23, 24, 25, 26, 27] (by decide) rfl) hS (lv_sub hl [0, 1] rfl)
        · replace h := h.2 c_6
          refine lv_iload_n hx hb dX6_doProgram_33 rfl (lv_at hl 0 rfl) ?_
          exact mt_iret (t2, t3, t4) hx hb hr hk h (hP.sub (ws' := fo_w (a0 0) (a1 0) (a2 0) (a3 0) (a4 0) (a5 0) p8 s8 ++ tp_w a1 q s1 ++ bd_w a2 q t2 ++ mo_w a4 q t3 ++ pg_w a5 q t4) [0, 1, 2, 3, 4, 5, 6, 7, 8, 9, 10, 11, 12, 13, 14, 15, 16, 17, 18, 19, 20, 21, 22, 23, 24, 25, 26, 27] rfl) (hD.sub (ws' := fo_w (a0 0) (a1 0) (a2 0) (a3 0) (a4 0) (a5 0) p8 s8 ++ tp_w a1 q s1 ++ bd_w a2 q t2 ++ mo_w a4 q t3 ++ pg_w a5 q t4) [0, 1, 2, 3, 4, 5, 6, 7, 8, 9, 10, 11, 12, 13, 14, 15, 16, 17, 18, 19, 20, 21, 22, 23, 24, 25, 26, 27] (by decide) rfl) hS dX6_doProgram_34
  obtain ⟨n9, h⟩ := h
  refine lp9 _ ?_ n9 _ _ _ _ _ _ ls h (hP.sub (ws' := fo_w (a0 0) (a1 0) (a2 0) (a3 0) (a4 0) (a5 0) p8 s8 ++ tp_w a1 q s1 ++ bd_w a2 q s2 ++ mo_w a4 q s4 ++ pg_w a5 q u_2) [0, 1, 2, 3, 4, 5, 6, 7, 8, 9, 10, 11, 12, 13, 14, 15, 16, 17, 18, 19, 20, 21, 22, 23, 24, 25, 26, 27] rfl) (hD.sub (ws' := fo_w (a0 0) (a1 0) (a2 0) (a3 0) (a4 0) (a5 0) p8 s8 ++ tp_w a1 q s1 ++ bd_w a2 q s2 ++ mo_w a4 q s4 ++ pg_w a5 q u_2) [0, 1, 2, 3, 4, 5, 6, 7, 8, 9, 10, 11, 12, 13, 14, 15, 16, 17, 18, 19, 20, 21, 22, 23, 24, 25, 26, 27] (by decide) rfl) hS (lv_sub hl [0, 1] rfl)
  · intro t2 t3 t4 z1 H locs ls h hP hD hS hl
    try dsimp only at h
    have hP : va_P D vwCl [((a0 0), .inr (5, [.ref (a1 0), .ref (a2 0), .ref (a3 0), .ref (a4 0), .ref (a5 0), .ref p8, .ref s8])), ((a1 0), .inr (4, [.ref (a1 1), .int (s1.1 0), .int (s1.1 1), .int (s1.1 2), .int (s1.1 3), .int (s1.1 4), .int (s1.1 5)])), ((a1 1), .inl (q 0, 400, .inl s1.2)), ((a2 0), .inr (0, [.int (t2.1 0), .int (t2.1 1), .int (t2.1 2), .int (t2.1 3), .int (t2.1 4), .int (t2.1 5), .ref (a2 1), .ref (a2 2), .ref (a2 3), .ref (a2 4), .ref (a2 5), .ref (a2 6), .ref (a2 7), .ref (a2 8), .ref (a2 9), .ref (a2 10), .ref (a2 11), .ref (a2 12)])), ((a2 1), .inl (q 0, 4, .inl (t2.2.1 0))), ((a2 2), .inl (q 0, 4, .inl (t2.2.1 1))), ((a2 3), .inl (q 0, 160, .inl (t2.2.1 2))), ((a2 4), .inl (q 0, 40, .inl (t2.2.1 3))), ((a2 5), .inl (q 0, 40, .inl (t2.2.1 4))), ((a2 6), .inl (q 0, 40, .inl (t2.2.1 5))), ((a2 7), .inl (q 0, 40, .inl (t2.2.1 6))), ((a2 8), .inl (q 0, 40, .inl (t2.2.1 7))), ((a2 9), .inl (q 0, 40, .inl (t2.2.1 8))), ((a2 10), .inl (q 0, 40, .inl (t2.2.1 9))), ((a2 11), .inl (q 1, 40, .inr (.inl t2.2.2.1))), ((a2 12), .inl (q 0, t2.2.2.2.1, .inl t2.2.2.2.2)), ((a4 0), .inr (1, [.ref (a4 1), .ref (a4 2), .ref (a4 3), .int (t3.1 0), .int (t3.1 1), .int (t3.1 2), .int (t3.1 3), .int (t3.1 4), .int (t3.1 5), .int (t3.1 6), .int (t3.1 7), .int (t3.1 8)])), ((a4 1), .inl (q 0, 40, .inl (t3.2 0))), ((a4 2), .inl (q 0, 40, .inl (t3.2 1))), ((a4 3), .inl (q 0, 40, .inl (t3.2 2))), ((a5 0), .inr (3, [.ref (a5 1), .ref (a5 2), .ref (a5 3), .ref (a5 4), .ref (a5 5), .ref (a5 6), .ref (a5 7), .int (t4.1 0), .int (t4.1 1), .int (t4.1 2)])), ((a5 1), .inl (q 0, 80, .inl (t4.2 0))), ((a5 2), .inl (q 0, 80, .inl (t4.2 1))), ((a5 3), .inl (q 0, 80, .inl (t4.2 2))), ((a5 4), .inl (q 0, 80, .inl (t4.2 3))), ((a5 5), .inl (q 0, 80, .inl (t4.2 4))), ((a5 6), .inl (q 0, 3, .inl (t4.2 5))), ((a5 7), .inl (q 0, 3, .inl (t4.2 6)))] H := hP
    have hD : va_D _ [((a0 0), .inr (5, [.ref (a1 0), .ref (a2 0), .ref (a3 0), .ref (a4 0), .ref (a5 0), .ref p8, .ref s8])), ((a1 0), .inr (4, [.ref (a1 1), .int (s1.1 0), .int (s1.1 1), .int (s1.1 2), .int (s1.1 3), .int (s1.1 4), .int (s1.1 5)])), ((a1 1), .inl (q 0, 400, .inl s1.2)), ((a2 0), .inr (0, [.int (t2.1 0), .int (t2.1 1), .int (t2.1 2), .int (t2.1 3), .int (t2.1 4), .int (t2.1 5), .ref (a2 1), .ref (a2 2), .ref (a2 3), .ref (a2 4), .ref (a2 5), .ref (a2 6), .ref (a2 7), .ref (a2 8), .ref (a2 9), .ref (a2 10), .ref (a2 11), .ref (a2 12)])), ((a2 1), .inl (q 0, 4, .inl (t2.2.1 0))), ((a2 2), .inl (q 0, 4, .inl (t2.2.1 1))), ((a2 3), .inl (q 0, 160, .inl (t2.2.1 2))), ((a2 4), .inl (q 0, 40, .inl (t2.2.1 3))), ((a2 5), .inl (q 0, 40, .inl (t2.2.1 4))), ((a2 6), .inl (q 0, 40, .inl (t2.2.1 5))), ((a2 7), .inl (q 0, 40, .inl (t2.2.1 6))), ((a2 8), .inl (q 0, 40, .inl (t2.2.1 7))), ((a2 9), .inl (q 0, 40, .inl (t2.2.1 8))), ((a2 10), .inl (q 0, 40, .inl (t2.2.1 9))), ((a2 11), .inl (q 1, 40, .inr (.inl t2.2.2.1))), ((a2 12), .inl (q 0, t2.2.2.2.1, .inl t2.2.2.2.2)), ((a4 0), .inr (1, [.ref (a4 1), .ref (a4 2), .ref (a4 3), .int (t3.1 0), .int (t3.1 1), .int (t3.1 2), .int (t3.1 3), .int (t3.1 4), .int (t3.1 5), .int (t3.1 6), .int (t3.1 7), .int (t3.1 8)])), ((a4 1), .inl (q 0, 40, .inl (t3.2 0))), ((a4 2), .inl (q 0, 40, .inl (t3.2 1))), ((a4 3), .inl (q 0, 40, .inl (t3.2 2))), ((a5 0), .inr (3, [.ref (a5 1), .ref (a5 2), .ref (a5 3), .ref (a5 4), .ref (a5 5), .ref (a5 6), .ref (a5 7), .int (t4.1 0), .int (t4.1 1), .int (t4.1 2)])), ((a5 1), .inl (q 0, 80, .inl (t4.2 0))), ((a5 2), .inl (q 0, 80, .inl (t4.2 1))), ((a5 3), .inl (q 0, 80, .inl (t4.2 2))), ((a5 4), .inl (q 0, 80, .inl (t4.2 3))), ((a5 5), .inl (q 0, 80, .inl (t4.2 4))), ((a5 6), .inl (q 0, 3, .inl (t4.2 5))), ((a5 7), .inl (q 0, 3, .inl (t4.2 6)))] := hD
    refine lv_sipush (v := 200) hx hb dX6_doProgram_59 (by decide) ?_
    exact mt_iret (t2, t3, t4) hx hb hr hk h (hP.sub (ws' := fo_w (a0 0) (a1 0) (a2 0) (a3 0) (a4 0) (a5 0) p8 s8 ++ tp_w a1 q s1 ++ bd_w a2 q t2 ++ mo_w a4 q t3 ++ pg_w a5 q t4) [0, 1, 2, 3, 4, 5, 6, 7, 8, 9, 10, 11, 12, 13, 14, 15, 16, 17, 18, 19, 20, 21, 22, 23, 24, 25, 26, 27] rfl) (hD.sub (ws' := fo_w (a0 0) (a1 0) (a2 0) (a3 0) (a4 0) (a5 0) p8 s8 ++ tp_w a1 q s1 ++ bd_w a2 q t2 ++ mo_w a4 q t3 ++ pg_w a5 q t4) [0, 1, 2, 3, 4, 5, 6, 7, 8, 9, 10, 11, 12, 13, 14, 15, 16, 17, 18, 19, 20, 21, 22, 23, 24, 25, 26, 27] (by decide) rfl) hS dX6_doProgram_62

def wp_X6_isShelf (post : Int32 → Prop) (x0 : Int32) : Prop := ((x0 < 0 → post 0) ∧ (¬ x0 < 0 → ((2 ≤ x0 → post 0) ∧ (¬ 2 ≤ x0 → post 1))))
set_option maxHeartbeats 4000000 in
set_option maxRecDepth 100000 in
theorem c2_X6_isShelf {l : Launch} {D : va_G} {q : Nat → ClassId} {x0 : Int32} {post : Int32 → Prop} (h : wp_X6_isShelf post x0) : Met l yX6_isShelf (Cond.code yX6_isShelf cX6_isShelf 1 (some .boolean) :: w_all) ({ frames := 0, cells := 0, slots := 0, locals := 0 } : Room) (rd_P D q [.int x0] (([] : va_W))) (vp_Si post) 0 0 (fun _ => False) := by
  refine rd_start (by decide) (Nat.le_of_ble_eq_true rfl) ?_
  intro p e s m below meth c ls hx hb hr hml hown ht hk hP hQ hV hl
  have hK := hQ.1
  have hown : s.vm.findClass RX6 = some m.cls := hown
  have hl : lv_has ls 1 [(0, .int x0)] := hl
  unfold wp_X6_isShelf at h
  refine lv_iload_n hx hb dX6_isShelf_0 rfl (lv_at hl 0 rfl) ?_
  refine lv_if_lt (tgt := 13) hx hb dX6_isShelf_1 (by decide) (fun c_1 => ?_) (fun c_1 => ?_)
  · replace h := h.1 c_1
    refine lv_iconst (v := 0) hx hb dX6_isShelf_13 (by decide) ?_
    exact rd_zret hx hb hr hk rfl h dX6_isShelf_14
  · replace h := h.2 c_1
    refine lv_iload_n hx hb dX6_isShelf_4 rfl (lv_at hl 0 rfl) ?_
    refine lv_iconst (v := 2) hx hb dX6_isShelf_5 (by decide) ?_
    refine lv_icmp_ge (tgt := 13) hx hb dX6_isShelf_6 (by decide) (fun c_2 => ?_) (fun c_2 => ?_)
    · replace h := h.1 c_2
      refine lv_iconst (v := 0) hx hb dX6_isShelf_13 (by decide) ?_
      exact rd_zret hx hb hr hk rfl h dX6_isShelf_14
    · replace h := h.2 c_2
      refine lv_iconst (v := 1) hx hb dX6_isShelf_9 (by decide) ?_
      refine lv_goto (tgt := 14) hx hb dX6_isShelf_10 (by decide) ?_
      exact rd_zret hx hb hr hk rfl h dX6_isShelf_14

def wp_X6_cell (post : Int32 → Prop) (s2 : Bd) (x1 : Int32) (x2 : Int32) : Prop := wp_X0_hasCell (fun r_1 => ((¬ r_1 = 0 → ((x2 = 0 → vp_in x1 40 ∧ post ((s2.2.1 3) (Int32.toNatClampNeg x1))) ∧ (¬ x2 = 0 → ((x2 = 1 → vp_in x1 40 ∧ post ((s2.2.1 4) (Int32.toNatClampNeg x1))) ∧ (¬ x2 = 1 → ((x2 = 2 → vp_in x1 40 ∧ post ((s2.2.1 5) (Int32.toNatClampNeg x1))) ∧ (¬ x2 = 2 → ((x2 = 3 → vp_in x1 40 ∧ post ((s2.2.1 6) (Int32.toNatClampNeg x1))) ∧ (¬ x2 = 3 → ((x2 = 4 → wp_X0_leftOf (fun r_13 => post r_13) s2 x1) ∧ (¬ x2 = 4 → ((x2 = 5 → vp_in x1 40 ∧ post ((s2.2.1 7) (Int32.toNatClampNeg x1))) ∧ (¬ x2 = 5 → ((x2 = 6 → vp_in x1 40 ∧ post ((s2.2.1 8) (Int32.toNatClampNeg x1))) ∧ (¬ x2 = 6 → ((x2 = 7 → vp_in x1 40 ∧ post ((s2.2.1 9) (Int32.toNatClampNeg x1))) ∧ (¬ x2 = 7 → ((x2 = 8 → wp_X0_wornCount (fun r_22 => post r_22) s2 x1) ∧ (¬ x2 = 8 → post (-1)))))))))))))))))))) ∧ (r_1 = 0 → post (-1)))) s2 x1
set_option maxHeartbeats 4000000 in
set_option maxRecDepth 100000 in
theorem c2_X6_cell {l : Launch} {D : va_G} {q : Nat → ClassId} {a0 a1 a2 a3 a4 a5 : Nat → Nat} {p8 s8 : Nat} {s2 : Bd} {x1 : Int32} {x2 : Int32} {post : Int32 → Prop} (h : wp_X6_cell post s2 x1 x2) : Met l yX6_cell (Cond.code yX6_cell cX6_cell 3 (some .int) :: w_all) ({ frames := 2, cells := 0, slots := 0, locals := 42 } : Room) (rd_P D q [.ref (a0 0), .int x1, .int x2] (fo_w (a0 0) (a1 0) (a2 0) (a3 0) (a4 0) (a5 0) p8 s8 ++ bd_w a2 q s2)) (vp_Si post) 0 0 (fun _ => False) := by
  refine rd_start (by decide) (Nat.le_of_ble_eq_true rfl) ?_
  intro p e s m below meth c ls hx hb hr hml hown ht hk hP hQ hV hl
  have hK := hQ.1
  have hown : s.vm.findClass RX6 = some m.cls := hown
  have hl : lv_has ls 3 [(0, .ref (a0 0)), (1, .int x1), (2, .int x2)] := hl
  have hP : va_P D vwCl [((a0 0), .inr (5, [.ref (a1 0), .ref (a2 0), .ref (a3 0), .ref (a4 0), .ref (a5 0), .ref p8, .ref s8])), ((a2 0), .inr (0, [.int (s2.1 0), .int (s2.1 1), .int (s2.1 2), .int (s2.1 3), .int (s2.1 4), .int (s2.1 5), .ref (a2 1), .ref (a2 2), .ref (a2 3), .ref (a2 4), .ref (a2 5), .ref (a2 6), .ref (a2 7), .ref (a2 8), .ref (a2 9), .ref (a2 10), .ref (a2 11), .ref (a2 12)])), ((a2 1), .inl (q 0, 4, .inl (s2.2.1 0))), ((a2 2), .inl (q 0, 4, .inl (s2.2.1 1))), ((a2 3), .inl (q 0, 160, .inl (s2.2.1 2))), ((a2 4), .inl (q 0, 40, .inl (s2.2.1 3))), ((a2 5), .inl (q 0, 40, .inl (s2.2.1 4))), ((a2 6), .inl (q 0, 40, .inl (s2.2.1 5))), ((a2 7), .inl (q 0, 40, .inl (s2.2.1 6))), ((a2 8), .inl (q 0, 40, .inl (s2.2.1 7))), ((a2 9), .inl (q 0, 40, .inl (s2.2.1 8))), ((a2 10), .inl (q 0, 40, .inl (s2.2.1 9))), ((a2 11), .inl (q 1, 40, .inr (.inl s2.2.2.1))), ((a2 12), .inl (q 0, s2.2.2.2.1, .inl s2.2.2.2.2))] s.heap := hP
  unfold wp_X6_cell at h
  refine lv_aload_n hx hb dX6_cell_0 rfl (lv_at hl 0 rfl) ?_
  refine fl_get (C := RX6) (T := TX6) (N := 7) (ci := 5) (v := .ref (a2 0)) hx hb ht in_X6 hown hK hP 0 rfl rfl 1 (by decide) mw_356 rfl dX6_cell_1 ?_
  refine lv_iload_n hx hb dX6_cell_4 rfl (lv_at hl 1 rfl) ?_
  refine vp_callSi (rd_wV (wc := bd_w a2 q s2) (As := [.int x1]) (rest := []) hx hb hml hown ht (c2_X0_hasCell h) wd_X0_hasCell mw_730 hQ hV va_S.rf (hP.sub [1, 2, 3, 4, 5, 6, 7, 8, 9, 10, 11, 12, 13] rfl) rfl rfl rfl hl.1 rfl (Nat.le_of_ble_eq_true rfl) dX6_cell_5 ⟨Nat.le_of_ble_eq_true rfl, Nat.le_of_ble_eq_true rfl, rfl, rfl⟩ ⟨Nat.le_of_ble_eq_true rfl, Nat.le_of_ble_eq_true rfl⟩) (fun r_1 h => ?_)
  try dsimp only at h
  refine lv_if_ne (tgt := 13) hx hb dX6_cell_8 (by decide) (fun c_3 => ?_) (fun c_3 => ?_)
  · replace h := h.1 c_3
    refine lv_iload_n hx hb dX6_cell_13 rfl (lv_at hl 2 rfl) ?_
    by_cases k_4 : x2 = 0
    · replace h := h.1 k_4
      refine lv_tableIn (tgt := 64) hx hb dX6_cell_14 (by rw [k_4]; decide) (by rw [k_4]; decide) (by rw [k_4]; rfl) (by decide) ?_
      refine lv_aload_n hx hb dX6_cell_64 rfl (lv_at hl 0 rfl) ?_
      refine fl_get (C := RX6) (T := TX6) (N := 7) (ci := 5) (v := .ref (a2 0)) hx hb ht in_X6 hown hK hP 0 rfl rfl 1 (by decide) mw_356 rfl dX6_cell_65 ?_
      refine fl_get (C := RX0) (T := TX0) (N := 18) (ci := 0) (v := .ref (a2 4)) hx hb ht in_X0 hown hK hP 1 rfl rfl 9 (by decide) mw_193 rfl dX6_cell_68 ?_
      refine lv_iload_n hx hb dX6_cell_71 rfl (lv_at hl 1 rfl) ?_
      obtain ⟨g_5, h⟩ := h
      refine va_iald hx hb hK hP 5 0 rfl rfl g_5 dX6_cell_72 ?_
      exact rd_iret hx hb hr hk h dX6_cell_73
    replace h := h.2 k_4
    by_cases k_6 : x2 = 1
    · replace h := h.1 k_6
      refine lv_tableIn (tgt := 74) hx hb dX6_cell_14 (by rw [k_6]; decide) (by rw [k_6]; decide) (by rw [k_6]; rfl) (by decide) ?_
      refine lv_aload_n hx hb dX6_cell_74 rfl (lv_at hl 0 rfl) ?_
      refine fl_get (C := RX6) (T := TX6) (N := 7) (ci := 5) (v := .ref (a2 0)) hx hb ht in_X6 hown hK hP 0 rfl rfl 1 (by decide) mw_356 rfl dX6_cell_75 ?_
      refine fl_get (C := RX0) (T := TX0) (N := 18) (ci := 0) (v := .ref (a2 5)) hx hb ht in_X0 hown hK hP 1 rfl rfl 10 (by decide) mw_195 rfl dX6_cell_78 ?_
      refine lv_iload_n hx hb dX6_cell_81 rfl (lv_at hl 1 rfl) ?_
      obtain ⟨g_7, h⟩ := h
      refine va_iald hx hb hK hP 6 0 rfl rfl g_7 dX6_cell_82 ?_
      exact rd_iret hx hb hr hk h dX6_cell_83
    replace h := h.2 k_6
    by_cases k_8 : x2 = 2
    · replace h := h.1 k_8
      refine lv_tableIn (tgt := 84) hx hb dX6_cell_14 (by rw [k_8]; decide) (by rw [k_8]; decide) (by rw [k_8]; rfl) (by decide) ?_
      refine lv_aload_n hx hb dX6_cell_84 rfl (lv_at hl 0 rfl) ?_
      refine fl_get (C := RX6) (T := TX6) (N := 7) (ci := 5) (v := .ref (a2 0)) hx hb ht in_X6 hown hK hP 0 rfl rfl 1 (by decide) mw_356 rfl dX6_cell_85 ?_
      refine fl_get (C := RX0) (T := TX0) (N := 18) (ci := 0) (v := .ref (a2 6)) hx hb ht in_X0 hown hK hP 1 rfl rfl 11 (by decide) mw_197 rfl dX6_cell_88 ?_
      refine lv_iload_n hx hb dX6_cell_91 rfl (lv_at hl 1 rfl) ?_
      obtain ⟨g_9, h⟩ := h
      refine va_iald hx hb hK hP 7 0 rfl rfl g_9 dX6_cell_92 ?_
      exact rd_iret hx hb hr hk h dX6_cell_93
    replace h := h.2 k_8
    by_cases k_10 : x2 = 3
    · replace h := h.1 k_10
      refine lv_tableIn (tgt := 94) hx hb dX6_cell_14 (by rw [k_10]; decide) (by rw [k_10]; decide) (by rw [k_10]; rfl) (by decide) ?_
      refine lv_aload_n hx hb dX6_cell_94 rfl (lv_at hl 0 rfl) ?_
      refine fl_get (C := RX6) (T := TX6) (N := 7) (ci := 5) (v := .ref (a2 0)) hx hb ht in_X6 hown hK hP 0 rfl rfl 1 (by decide) mw_356 rfl dX6_cell_95 ?_
      refine fl_get (C := RX0) (T := TX0) (N := 18) (ci := 0) (v := .ref (a2 7)) hx hb ht in_X0 hown hK hP 1 rfl rfl 12 (by decide) mw_199 rfl dX6_cell_98 ?_
      refine lv_iload_n hx hb dX6_cell_101 rfl (lv_at hl 1 rfl) ?_
      obtain ⟨g_11, h⟩ := h
      refine va_iald hx hb hK hP 8 0 rfl rfl g_11 dX6_cell_102 ?_
      exact rd_iret hx hb hr hk h dX6_cell_103
    replace h := h.2 k_10
    by_cases k_12 : x2 = 4
    · replace h := h.1 k_12
      refine lv_tableIn (tgt := 104) hx hb dX6_cell_14 (by rw [k_12]; decide) (by rw [k_12]; decide) (by rw [k_12]; rfl) (by decide) ?_
      refine lv_aload_n hx hb dX6_cell_104 rfl (lv_at hl 0 rfl) ?_
      refine fl_get (C := RX6) (T := TX6) (N := 7) (ci := 5) (v := .ref (a2 0)) hx hb ht in_X6 hown hK hP 0 rfl rfl 1 (by decide) mw_356 rfl dX6_cell_105 ?_
      refine lv_iload_n hx hb dX6_cell_108 rfl (lv_at hl 1 rfl) ?_
      refine vp_callSi (rd_wV (wc := bd_w a2 q s2) (As := [.int x1]) (rest := []) hx hb hml hown ht (c2_X0_leftOf h) wd_X0_leftOf mw_894 hQ hV va_S.rf (hP.sub [1, 2, 3, 4, 5, 6, 7, 8, 9, 10, 11, 12, 13] rfl) rfl rfl rfl hl.1 rfl (Nat.le_of_ble_eq_true rfl) dX6_cell_109 ⟨Nat.le_of_ble_eq_true rfl, Nat.le_of_ble_eq_true rfl, rfl, rfl⟩ ⟨Nat.le_of_ble_eq_true rfl, Nat.le_of_ble_eq_true rfl⟩) (fun r_13 h => ?_)
      try dsimp only at h
      exact rd_iret hx hb hr hk h dX6_cell_112
    replace h := h.2 k_12
    by_cases k_15 : x2 = 5
    · replace h := h.1 k_15
      refine lv_tableIn (tgt := 113) hx hb dX6_cell_14 (by rw [k_15]; decide) (by rw [k_15]; decide) (by rw [k_15]; rfl) (by decide) ?_
      refine lv_aload_n hx hb dX6_cell_113 rfl (lv_at hl 0 rfl) ?_
      refine fl_get (C := RX6) (T := TX6) (N := 7) (ci := 5) (v := .ref (a2 0)) hx hb ht in_X6 hown hK hP 0 rfl rfl 1 (by decide) mw_356 rfl dX6_cell_114 ?_
      refine fl_get (C := RX0) (T := TX0) (N := 18) (ci := 0) (v := .ref (a2 8)) hx hb ht in_X0 hown hK hP 1 rfl rfl 13 (by decide) mw_201 rfl dX6_cell_117 ?_
      refine lv_iload_n hx hb dX6_cell_120 rfl (lv_at hl 1 rfl) ?_
      obtain ⟨g_16, h⟩ := h
      refine va_iald hx hb hK hP 9 0 rfl rfl g_16 dX6_cell_121 ?_
      exact rd_iret hx hb hr hk h dX6_cell_122
    replace h := h.2 k_15
    by_cases k_17 : x2 = 6
    · replace h := h.1 k_17
      refine lv_tableIn (tgt := 123) hx hb dX6_cell_14 (by rw [k_17]; decide) (by rw [k_17]; decide) (by rw [k_17]; rfl) (by decide) ?_
      refine lv_aload_n hx hb dX6_cell_123 rfl (lv_at hl 0 rfl) ?_
      refine fl_get (C := RX6) (T := TX6) (N := 7) (ci := 5) (v := .ref (a2 0)) hx hb ht in_X6 hown hK hP 0 rfl rfl 1 (by decide) mw_356 rfl dX6_cell_124 ?_
      refine fl_get (C := RX0) (T := TX0) (N := 18) (ci := 0) (v := .ref (a2 9)) hx hb ht in_X0 hown hK hP 1 rfl rfl 14 (by decide) mw_203 rfl dX6_cell_127 ?_
      refine lv_iload_n hx hb dX6_cell_130 rfl (lv_at hl 1 rfl) ?_
      obtain ⟨g_18, h⟩ := h
      refine va_iald hx hb hK hP 10 0 rfl rfl g_18 dX6_cell_131 ?_
      exact rd_iret hx hb hr hk h dX6_cell_132
    replace h := h.2 k_17
    by_cases k_19 : x2 = 7
    · replace h := h.1 k_19
      refine lv_tableIn (tgt := 133) hx hb dX6_cell_14 (by rw [k_19]; decide) (by rw [k_19]; decide) (by rw [k_19]; rfl) (by decide) ?_
      refine lv_aload_n hx hb dX6_cell_133 rfl (lv_at hl 0 rfl) ?_
      refine fl_get (C := RX6) (T := TX6) (N := 7) (ci := 5) (v := .ref (a2 0)) hx hb ht in_X6 hown hK hP 0 rfl rfl 1 (by decide) mw_356 rfl dX6_cell_134 ?_
      refine fl_get (C := RX0) (T := TX0) (N := 18) (ci := 0) (v := .ref (a2 10)) hx hb ht in_X0 hown hK hP 1 rfl rfl 15 (by decide) mw_205 rfl dX6_cell_137 ?_
      refine lv_iload_n hx hb dX6_cell_140 rfl (lv_at hl 1 rfl) ?_
      obtain ⟨g_20, h⟩ := h
      refine va_iald hx hb hK hP 11 0 rfl rfl g_20 dX6_cell_141 ?_
      exact rd_iret hx hb hr hk h dX6_cell_142
    replace h := h.2 k_19
    by_cases k_21 : x2 = 8
    · replace h := h.1 k_21
      refine lv_tableIn (tgt := 143) hx hb dX6_cell_14 (by rw [k_21]; decide) (by rw [k_21]; decide) (by rw [k_21]; rfl) (by decide) ?_
      refine lv_aload_n hx hb dX6_cell_143 rfl (lv_at hl 0 rfl) ?_
      refine fl_get (C := RX6) (T := TX6) (N := 7) (ci := 5) (v := .ref (a2 0)) hx hb ht in_X6 hown hK hP 0 rfl rfl 1 (by decide) mw_356 rfl dX6_cell_144 ?_
      refine lv_iload_n hx hb dX6_cell_147 rfl (lv_at hl 1 rfl) ?_
      refine vp_callSi (rd_wV (wc := bd_w a2 q s2) (As := [.int x1]) (rest := []) hx hb hml hown ht (c2_X0_wornCount h) wd_X0_wornCount mw_742 hQ hV va_S.rf (hP.sub [1, 2, 3, 4, 5, 6, 7, 8, 9, 10, 11, 12, 13] rfl) rfl rfl rfl hl.1 rfl (Nat.le_of_ble_eq_true rfl) dX6_cell_148 ⟨Nat.le_of_ble_eq_true rfl, Nat.le_of_ble_eq_true rfl, rfl, rfl⟩ ⟨Nat.le_of_ble_eq_true rfl, Nat.le_of_ble_eq_true rfl⟩) (fun r_22 h => ?_)
      try dsimp only at h
      exact rd_iret hx hb hr hk h dX6_cell_151
    replace h := h.2 k_21
    refine lv_tableOut (tgt := 152) hx hb dX6_cell_14 (by have g0 := k_4; have g1 := k_6; have g2 := k_8; have g3 := k_10; have g4 := k_12; have g5 := k_15; have g6 := k_17; have g7 := k_19; have g8 := k_21; (try simp only [lg_cmp_ge, lg_cmp_le, lg_cmp_gt, lg_cmp_lt, lg_cmp_eq] at g0 g1 g2 g3 g4 g5 g6 g7 g8); (try simp only [Int32.lt_iff_toInt_lt, Int32.le_iff_toInt_le, ← Int32.toInt_inj, Int32.reduceToInt, Int64.lt_iff_toInt_lt, Int64.le_iff_toInt_le, ← Int64.toInt_inj, Int64.reduceToInt, Int32.toInt_toInt64] at g0 g1 g2 g3 g4 g5 g6 g7 g8); omega) (by decide) ?_
    refine lv_iconst (v := (-1)) hx hb dX6_cell_152 (by decide) ?_
    exact rd_iret hx hb hr hk h dX6_cell_153
  · replace h := h.2 c_3
    refine lv_iconst (v := (-1)) hx hb dX6_cell_11 (by decide) ?_
    exact rd_iret hx hb hr hk h dX6_cell_12

def wp_X6_worn (post : Int64 → Prop) (s2 : Bd) (x1 : Int32) : Prop := wp_X0_hasCell (fun r_1 => ((r_1 = 0 → post (-1)) ∧ (¬ r_1 = 0 → vp_in x1 40 ∧ post (s2.2.2.1 (Int32.toNatClampNeg x1))))) s2 x1
set_option maxHeartbeats 4000000 in
set_option maxRecDepth 100000 in
theorem c2_X6_worn {l : Launch} {D : va_G} {q : Nat → ClassId} {a0 a1 a2 a3 a4 a5 : Nat → Nat} {p8 s8 : Nat} {s2 : Bd} {x1 : Int32} {post : Int64 → Prop} (h : wp_X6_worn post s2 x1) : Met l yX6_worn (Cond.code yX6_worn cX6_worn 2 (some .long) :: w_all) ({ frames := 2, cells := 0, slots := 0, locals := 41 } : Room) (rd_P D q [.ref (a0 0), .int x1] (fo_w (a0 0) (a1 0) (a2 0) (a3 0) (a4 0) (a5 0) p8 s8 ++ bd_w a2 q s2)) (vp_Sl post) 0 0 (fun _ => False) := by
  refine rd_start (by decide) (Nat.le_of_ble_eq_true rfl) ?_
  intro p e s m below meth c ls hx hb hr hml hown ht hk hP hQ hV hl
  have hK := hQ.1
  have hown : s.vm.findClass RX6 = some m.cls := hown
  have hl : lv_has ls 2 [(0, .ref (a0 0)), (1, .int x1)] := hl
  have hP : va_P D vwCl [((a0 0), .inr (5, [.ref (a1 0), .ref (a2 0), .ref (a3 0), .ref (a4 0), .ref (a5 0), .ref p8, .ref s8])), ((a2 0), .inr (0, [.int (s2.1 0), .int (s2.1 1), .int (s2.1 2), .int (s2.1 3), .int (s2.1 4), .int (s2.1 5), .ref (a2 1), .ref (a2 2), .ref (a2 3), .ref (a2 4), .ref (a2 5), .ref (a2 6), .ref (a2 7), .ref (a2 8), .ref (a2 9), .ref (a2 10), .ref (a2 11), .ref (a2 12)])), ((a2 1), .inl (q 0, 4, .inl (s2.2.1 0))), ((a2 2), .inl (q 0, 4, .inl (s2.2.1 1))), ((a2 3), .inl (q 0, 160, .inl (s2.2.1 2))), ((a2 4), .inl (q 0, 40, .inl (s2.2.1 3))), ((a2 5), .inl (q 0, 40, .inl (s2.2.1 4))), ((a2 6), .inl (q 0, 40, .inl (s2.2.1 5))), ((a2 7), .inl (q 0, 40, .inl (s2.2.1 6))), ((a2 8), .inl (q 0, 40, .inl (s2.2.1 7))), ((a2 9), .inl (q 0, 40, .inl (s2.2.1 8))), ((a2 10), .inl (q 0, 40, .inl (s2.2.1 9))), ((a2 11), .inl (q 1, 40, .inr (.inl s2.2.2.1))), ((a2 12), .inl (q 0, s2.2.2.2.1, .inl s2.2.2.2.2))] s.heap := hP
  unfold wp_X6_worn at h
  refine lv_aload_n hx hb dX6_worn_0 rfl (lv_at hl 0 rfl) ?_
  refine fl_get (C := RX6) (T := TX6) (N := 7) (ci := 5) (v := .ref (a2 0)) hx hb ht in_X6 hown hK hP 0 rfl rfl 1 (by decide) mw_356 rfl dX6_worn_1 ?_
  refine lv_iload_n hx hb dX6_worn_4 rfl (lv_at hl 1 rfl) ?_
  refine vp_callSi (rd_wV (wc := bd_w a2 q s2) (As := [.int x1]) (rest := []) hx hb hml hown ht (c2_X0_hasCell h) wd_X0_hasCell mw_730 hQ hV va_S.rf (hP.sub [1, 2, 3, 4, 5, 6, 7, 8, 9, 10, 11, 12, 13] rfl) rfl rfl rfl hl.1 rfl (Nat.le_of_ble_eq_true rfl) dX6_worn_5 ⟨Nat.le_of_ble_eq_true rfl, Nat.le_of_ble_eq_true rfl, rfl, rfl⟩ ⟨Nat.le_of_ble_eq_true rfl, Nat.le_of_ble_eq_true rfl⟩) (fun r_1 h => ?_)
  try dsimp only at h
  refine lv_if_eq (tgt := 23) hx hb dX6_worn_8 (by decide) (fun c_3 => ?_) (fun c_3 => ?_)
  · replace h := h.1 c_3
    refine lv_ldc2 (v := (-1)) hx hb hown (ht _ mw_899) dX6_worn_23 ?_
    exact rd_lret hx hb hr hk h dX6_worn_26
  · replace h := h.2 c_3
    refine lv_aload_n hx hb dX6_worn_11 rfl (lv_at hl 0 rfl) ?_
    refine fl_get (C := RX6) (T := TX6) (N := 7) (ci := 5) (v := .ref (a2 0)) hx hb ht in_X6 hown hK hP 0 rfl rfl 1 (by decide) mw_356 rfl dX6_worn_12 ?_
    refine fl_get (C := RX0) (T := TX0) (N := 18) (ci := 0) (v := .ref (a2 11)) hx hb ht in_X0 hown hK hP 1 rfl rfl 16 (by decide) mw_207 rfl dX6_worn_15 ?_
    refine lv_iload_n hx hb dX6_worn_18 rfl (lv_at hl 1 rfl) ?_
    obtain ⟨g_4, h⟩ := h
    refine va_lald hx hb hK hP 12 1 rfl rfl g_4 dX6_worn_19 ?_
    refine lv_goto (tgt := 26) hx hb dX6_worn_20 (by decide) ?_
    exact rd_lret hx hb hr hk h dX6_worn_26

def wp_X6_drum (post : Int32 → Prop) (s2 : Bd) (x1 : Int32) (x2 : Int32) : Prop := wp_X0_hasDrum (fun r_1 => ((¬ r_1 = 0 → ((x2 = 0 → vp_in x1 4 ∧ post ((s2.2.1 0) (Int32.toNatClampNeg x1))) ∧ (¬ x2 = 0 → ((x2 = 1 → wp_X0_flapsOn (fun r_7 => post r_7) s2 x1) ∧ (¬ x2 = 1 → ((x2 = 2 → wp_X0_cellsWith (fun r_10 => post r_10) s2 x1) ∧ (¬ x2 = 2 → ((x2 = 3 → wp_X0_unlikeSigns (fun r_13 => post r_13) s2 x1) ∧ (¬ x2 = 3 → ((x2 = 4 → wp_X0_mostOfOneSign (fun r_16 => post r_16) s2 x1) ∧ (¬ x2 = 4 → post (-1)))))))))))) ∧ (r_1 = 0 → post (-1)))) s2 x1
set_option maxHeartbeats 4000000 in
set_option maxRecDepth 100000 in
theorem c2_X6_drum {l : Launch} {D : va_G} {q : Nat → ClassId} {a0 a1 a2 a3 a4 a5 : Nat → Nat} {p8 s8 : Nat} {s2 : Bd} {x1 : Int32} {x2 : Int32} {post : Int32 → Prop} (h : wp_X6_drum post s2 x1 x2) : Met l yX6_drum (Cond.code yX6_drum cX6_drum 3 (some .int) :: w_all) ({ frames := 4, cells := 0, slots := 0, locals := 93 } : Room) (rd_P D q [.ref (a0 0), .int x1, .int x2] (fo_w (a0 0) (a1 0) (a2 0) (a3 0) (a4 0) (a5 0) p8 s8 ++ bd_w a2 q s2)) (vp_Si post) 0 0 (fun _ => False) := by
  refine rd_start (by decide) (Nat.le_of_ble_eq_true rfl) ?_
  intro p e s m below meth c ls hx hb hr hml hown ht hk hP hQ hV hl
  have hK := hQ.1
  have hown : s.vm.findClass RX6 = some m.cls := hown
  have hl : lv_has ls 3 [(0, .ref (a0 0)), (1, .int x1), (2, .int x2)] := hl
  have hP : va_P D vwCl [((a0 0), .inr (5, [.ref (a1 0), .ref (a2 0), .ref (a3 0), .ref (a4 0), .ref (a5 0), .ref p8, .ref s8])), ((a2 0), .inr (0, [.int (s2.1 0), .int (s2.1 1), .int (s2.1 2), .int (s2.1 3), .int (s2.1 4), .int (s2.1 5), .ref (a2 1), .ref (a2 2), .ref (a2 3), .ref (a2 4), .ref (a2 5), .ref (a2 6), .ref (a2 7), .ref (a2 8), .ref (a2 9), .ref (a2 10), .ref (a2 11), .ref (a2 12)])), ((a2 1), .inl (q 0, 4, .inl (s2.2.1 0))), ((a2 2), .inl (q 0, 4, .inl (s2.2.1 1))), ((a2 3), .inl (q 0, 160, .inl (s2.2.1 2))), ((a2 4), .inl (q 0, 40, .inl (s2.2.1 3))), ((a2 5), .inl (q 0, 40, .inl (s2.2.1 4))), ((a2 6), .inl (q 0, 40, .inl (s2.2.1 5))), ((a2 7), .inl (q 0, 40, .inl (s2.2.1 6))), ((a2 8), .inl (q 0, 40, .inl (s2.2.1 7))), ((a2 9), .inl (q 0, 40, .inl (s2.2.1 8))), ((a2 10), .inl (q 0, 40, .inl (s2.2.1 9))), ((a2 11), .inl (q 1, 40, .inr (.inl s2.2.2.1))), ((a2 12), .inl (q 0, s2.2.2.2.1, .inl s2.2.2.2.2))] s.heap := hP
  unfold wp_X6_drum at h
  refine lv_aload_n hx hb dX6_drum_0 rfl (lv_at hl 0 rfl) ?_
  refine fl_get (C := RX6) (T := TX6) (N := 7) (ci := 5) (v := .ref (a2 0)) hx hb ht in_X6 hown hK hP 0 rfl rfl 1 (by decide) mw_356 rfl dX6_drum_1 ?_
  refine lv_iload_n hx hb dX6_drum_4 rfl (lv_at hl 1 rfl) ?_
  refine vp_callSi (rd_wV (wc := bd_w a2 q s2) (As := [.int x1]) (rest := []) hx hb hml hown ht (c2_X0_hasDrum h) wd_X0_hasDrum mw_904 hQ hV va_S.rf (hP.sub [1, 2, 3, 4, 5, 6, 7, 8, 9, 10, 11, 12, 13] rfl) rfl rfl rfl hl.1 rfl (Nat.le_of_ble_eq_true rfl) dX6_drum_5 ⟨Nat.le_of_ble_eq_true rfl, Nat.le_of_ble_eq_true rfl, rfl, rfl⟩ ⟨Nat.le_of_ble_eq_true rfl, Nat.le_of_ble_eq_true rfl⟩) (fun r_1 h => ?_)
  try dsimp only at h
  refine lv_if_ne (tgt := 13) hx hb dX6_drum_8 (by decide) (fun c_3 => ?_) (fun c_3 => ?_)
  · replace h := h.1 c_3
    refine lv_iload_n hx hb dX6_drum_13 rfl (lv_at hl 2 rfl) ?_
    by_cases k_4 : x2 = 0
    · replace h := h.1 k_4
      refine lv_tableIn (tgt := 48) hx hb dX6_drum_14 (by rw [k_4]; decide) (by rw [k_4]; decide) (by rw [k_4]; rfl) (by decide) ?_
      refine lv_aload_n hx hb dX6_drum_48 rfl (lv_at hl 0 rfl) ?_
      refine fl_get (C := RX6) (T := TX6) (N := 7) (ci := 5) (v := .ref (a2 0)) hx hb ht in_X6 hown hK hP 0 rfl rfl 1 (by decide) mw_356 rfl dX6_drum_49 ?_
      refine fl_get (C := RX0) (T := TX0) (N := 18) (ci := 0) (v := .ref (a2 1)) hx hb ht in_X0 hown hK hP 1 rfl rfl 6 (by decide) mw_189 rfl dX6_drum_52 ?_
      refine lv_iload_n hx hb dX6_drum_55 rfl (lv_at hl 1 rfl) ?_
      obtain ⟨g_5, h⟩ := h
      refine va_iald hx hb hK hP 2 0 rfl rfl g_5 dX6_drum_56 ?_
      exact rd_iret hx hb hr hk h dX6_drum_57
    replace h := h.2 k_4
    by_cases k_6 : x2 = 1
    · replace h := h.1 k_6
      refine lv_tableIn (tgt := 58) hx hb dX6_drum_14 (by rw [k_6]; decide) (by rw [k_6]; decide) (by rw [k_6]; rfl) (by decide) ?_
      refine lv_aload_n hx hb dX6_drum_58 rfl (lv_at hl 0 rfl) ?_
      refine fl_get (C := RX6) (T := TX6) (N := 7) (ci := 5) (v := .ref (a2 0)) hx hb ht in_X6 hown hK hP 0 rfl rfl 1 (by decide) mw_356 rfl dX6_drum_59 ?_
      refine lv_iload_n hx hb dX6_drum_62 rfl (lv_at hl 1 rfl) ?_
      refine vp_callSi (rd_wV (wc := bd_w a2 q s2) (As := [.int x1]) (rest := []) hx hb hml hown ht (c2_X0_flapsOn h) wd_X0_flapsOn mw_908 hQ hV va_S.rf (hP.sub [1, 2, 3, 4, 5, 6, 7, 8, 9, 10, 11, 12, 13] rfl) rfl rfl rfl hl.1 rfl (Nat.le_of_ble_eq_true rfl) dX6_drum_63 ⟨Nat.le_of_ble_eq_true rfl, Nat.le_of_ble_eq_true rfl, rfl, rfl⟩ ⟨Nat.le_of_ble_eq_true rfl, Nat.le_of_ble_eq_true rfl⟩) (fun r_7 h => ?_)
      try dsimp only at h
      exact rd_iret hx hb hr hk h dX6_drum_66
    replace h := h.2 k_6
    by_cases k_9 : x2 = 2
    · replace h := h.1 k_9
      refine lv_tableIn (tgt := 67) hx hb dX6_drum_14 (by rw [k_9]; decide) (by rw [k_9]; decide) (by rw [k_9]; rfl) (by decide) ?_
      refine lv_aload_n hx hb dX6_drum_67 rfl (lv_at hl 0 rfl) ?_
      refine fl_get (C := RX6) (T := TX6) (N := 7) (ci := 5) (v := .ref (a2 0)) hx hb ht in_X6 hown hK hP 0 rfl rfl 1 (by decide) mw_356 rfl dX6_drum_68 ?_
      refine lv_iload_n hx hb dX6_drum_71 rfl (lv_at hl 1 rfl) ?_
      refine vp_callSi (rd_wV (wc := bd_w a2 q s2) (As := [.int x1]) (rest := []) hx hb hml hown ht (c2_X0_cellsWith h) wd_X0_cellsWith mw_909 hQ hV va_S.rf (hP.sub [1, 2, 3, 4, 5, 6, 7, 8, 9, 10, 11, 12, 13] rfl) rfl rfl rfl hl.1 rfl (Nat.le_of_ble_eq_true rfl) dX6_drum_72 ⟨Nat.le_of_ble_eq_true rfl, Nat.le_of_ble_eq_true rfl, rfl, rfl⟩ ⟨Nat.le_of_ble_eq_true rfl, Nat.le_of_ble_eq_true rfl⟩) (fun r_10 h => ?_)
      try dsimp only at h
      exact rd_iret hx hb hr hk h dX6_drum_75
    replace h := h.2 k_9
    by_cases k_12 : x2 = 3
    · replace h := h.1 k_12
      refine lv_tableIn (tgt := 76) hx hb dX6_drum_14 (by rw [k_12]; decide) (by rw [k_12]; decide) (by rw [k_12]; rfl) (by decide) ?_
      refine lv_aload_n hx hb dX6_drum_76 rfl (lv_at hl 0 rfl) ?_
      refine fl_get (C := RX6) (T := TX6) (N := 7) (ci := 5) (v := .ref (a2 0)) hx hb ht in_X6 hown hK hP 0 rfl rfl 1 (by decide) mw_356 rfl dX6_drum_77 ?_
      refine lv_iload_n hx hb dX6_drum_80 rfl (lv_at hl 1 rfl) ?_
      refine vp_callSi (rd_wV (wc := bd_w a2 q s2) (As := [.int x1]) (rest := []) hx hb hml hown ht (c2_X0_unlikeSigns h) wd_X0_unlikeSigns mw_913 hQ hV va_S.rf (hP.sub [1, 2, 3, 4, 5, 6, 7, 8, 9, 10, 11, 12, 13] rfl) rfl rfl rfl hl.1 rfl (Nat.le_of_ble_eq_true rfl) dX6_drum_81 ⟨Nat.le_of_ble_eq_true rfl, Nat.le_of_ble_eq_true rfl, rfl, rfl⟩ ⟨Nat.le_of_ble_eq_true rfl, Nat.le_of_ble_eq_true rfl⟩) (fun r_13 h => ?_)
      try dsimp only at h
      exact rd_iret hx hb hr hk h dX6_drum_84
    replace h := h.2 k_12
    by_cases k_15 : x2 = 4
    · replace h := h.1 k_15
      refine lv_tableIn (tgt := 85) hx hb dX6_drum_14 (by rw [k_15]; decide) (by rw [k_15]; decide) (by rw [k_15]; rfl) (by decide) ?_
      refine lv_aload_n hx hb dX6_drum_85 rfl (lv_at hl 0 rfl) ?_
      refine fl_get (C := RX6) (T := TX6) (N := 7) (ci := 5) (v := .ref (a2 0)) hx hb ht in_X6 hown hK hP 0 rfl rfl 1 (by decide) mw_356 rfl dX6_drum_86 ?_
      refine lv_iload_n hx hb dX6_drum_89 rfl (lv_at hl 1 rfl) ?_
      refine vp_callSi (rd_wV (wc := bd_w a2 q s2) (As := [.int x1]) (rest := []) hx hb hml hown ht (c2_X0_mostOfOneSign h) wd_X0_mostOfOneSign mw_925 hQ hV va_S.rf (hP.sub [1, 2, 3, 4, 5, 6, 7, 8, 9, 10, 11, 12, 13] rfl) rfl rfl rfl hl.1 rfl (Nat.le_of_ble_eq_true rfl) dX6_drum_90 ⟨Nat.le_of_ble_eq_true rfl, Nat.le_of_ble_eq_true rfl, rfl, rfl⟩ ⟨Nat.le_of_ble_eq_true rfl, Nat.le_of_ble_eq_true rfl⟩) (fun r_16 h => ?_)
      try dsimp only at h
      exact rd_iret hx hb hr hk h dX6_drum_93
    replace h := h.2 k_15
    refine lv_tableOut (tgt := 94) hx hb dX6_drum_14 (by have g0 := k_4; have g1 := k_6; have g2 := k_9; have g3 := k_12; have g4 := k_15; (try simp only [lg_cmp_ge, lg_cmp_le, lg_cmp_gt, lg_cmp_lt, lg_cmp_eq] at g0 g1 g2 g3 g4); (try simp only [Int32.lt_iff_toInt_lt, Int32.le_iff_toInt_le, ← Int32.toInt_inj, Int32.reduceToInt, Int64.lt_iff_toInt_lt, Int64.le_iff_toInt_le, ← Int64.toInt_inj, Int64.reduceToInt, Int32.toInt_toInt64] at g0 g1 g2 g3 g4); omega) (by decide) ?_
    refine lv_iconst (v := (-1)) hx hb dX6_drum_94 (by decide) ?_
    exact rd_iret hx hb hr hk h dX6_drum_95
  · replace h := h.2 c_3
    refine lv_iconst (v := (-1)) hx hb dX6_drum_11 (by decide) ?_
    exact rd_iret hx hb hr hk h dX6_drum_12

def wp_X6_sign (post : Int32 → Prop) (s2 : Bd) (x1 : Int32) (x2 : Int32) : Prop := wp_X0_signOf (fun r_1 => post r_1) s2 x1 x2
set_option maxHeartbeats 4000000 in
set_option maxRecDepth 100000 in
theorem c2_X6_sign {l : Launch} {D : va_G} {q : Nat → ClassId} {a0 a1 a2 a3 a4 a5 : Nat → Nat} {p8 s8 : Nat} {s2 : Bd} {x1 : Int32} {x2 : Int32} {post : Int32 → Prop} (h : wp_X6_sign post s2 x1 x2) : Met l yX6_sign (Cond.code yX6_sign cX6_sign 3 (some .int) :: w_all) ({ frames := 1, cells := 0, slots := 0, locals := 22 } : Room) (rd_P D q [.ref (a0 0), .int x1, .int x2] (fo_w (a0 0) (a1 0) (a2 0) (a3 0) (a4 0) (a5 0) p8 s8 ++ bd_w a2 q s2)) (vp_Si post) 0 0 (fun _ => False) := by
  refine rd_start (by decide) (Nat.le_of_ble_eq_true rfl) ?_
  intro p e s m below meth c ls hx hb hr hml hown ht hk hP hQ hV hl
  have hK := hQ.1
  have hown : s.vm.findClass RX6 = some m.cls := hown
  have hl : lv_has ls 3 [(0, .ref (a0 0)), (1, .int x1), (2, .int x2)] := hl
  have hP : va_P D vwCl [((a0 0), .inr (5, [.ref (a1 0), .ref (a2 0), .ref (a3 0), .ref (a4 0), .ref (a5 0), .ref p8, .ref s8])), ((a2 0), .inr (0, [.int (s2.1 0), .int (s2.1 1), .int (s2.1 2), .int (s2.1 3), .int (s2.1 4), .int (s2.1 5), .ref (a2 1), .ref (a2 2), .ref (a2 3), .ref (a2 4), .ref (a2 5), .ref (a2 6), .ref (a2 7), .ref (a2 8), .ref (a2 9), .ref (a2 10), .ref (a2 11), .ref (a2 12)])), ((a2 1), .inl (q 0, 4, .inl (s2.2.1 0))), ((a2 2), .inl (q 0, 4, .inl (s2.2.1 1))), ((a2 3), .inl (q 0, 160, .inl (s2.2.1 2))), ((a2 4), .inl (q 0, 40, .inl (s2.2.1 3))), ((a2 5), .inl (q 0, 40, .inl (s2.2.1 4))), ((a2 6), .inl (q 0, 40, .inl (s2.2.1 5))), ((a2 7), .inl (q 0, 40, .inl (s2.2.1 6))), ((a2 8), .inl (q 0, 40, .inl (s2.2.1 7))), ((a2 9), .inl (q 0, 40, .inl (s2.2.1 8))), ((a2 10), .inl (q 0, 40, .inl (s2.2.1 9))), ((a2 11), .inl (q 1, 40, .inr (.inl s2.2.2.1))), ((a2 12), .inl (q 0, s2.2.2.2.1, .inl s2.2.2.2.2))] s.heap := hP
  unfold wp_X6_sign at h
  refine lv_aload_n hx hb dX6_sign_0 rfl (lv_at hl 0 rfl) ?_
  refine fl_get (C := RX6) (T := TX6) (N := 7) (ci := 5) (v := .ref (a2 0)) hx hb ht in_X6 hown hK hP 0 rfl rfl 1 (by decide) mw_356 rfl dX6_sign_1 ?_
  refine lv_iload_n hx hb dX6_sign_4 rfl (lv_at hl 1 rfl) ?_
  refine lv_iload_n hx hb dX6_sign_5 rfl (lv_at hl 2 rfl) ?_
  refine vp_callSi (rd_wV (wc := bd_w a2 q s2) (As := [.int x1, .int x2]) (rest := []) hx hb hml hown ht (c2_X0_signOf h) wd_X0_signOf mw_934 hQ hV va_S.rf (hP.sub [1, 2, 3, 4, 5, 6, 7, 8, 9, 10, 11, 12, 13] rfl) rfl rfl rfl hl.1 rfl (Nat.le_of_ble_eq_true rfl) dX6_sign_6 ⟨Nat.le_of_ble_eq_true rfl, Nat.le_of_ble_eq_true rfl, rfl, rfl⟩ ⟨Nat.le_of_ble_eq_true rfl, Nat.le_of_ble_eq_true rfl⟩) (fun r_1 h => ?_)
  try dsimp only at h
  exact rd_iret hx hb hr hk h dX6_sign_9

def wp_X6_at (post : Int32 → Prop) (s2 : Bd) (x1 : Int32) (x2 : Int32) (x3 : Int32) : Prop := wp_X0_hasRow (fun r_1 => ((r_1 = 0 → post (-1)) ∧ (¬ r_1 = 0 → ((x2 < 0 → post (-1)) ∧ (¬ x2 < 0 → ((x2 < (s2.1 1) → ((x3 = 0 → vp_in ((x1 * (s2.1 1)) + x2) 40 ∧ wp_X0_signOn (fun r_8 => post r_8) s2 ((x1 * (s2.1 1)) + x2) ((s2.2.1 4) (Int32.toNatClampNeg ((x1 * (s2.1 1)) + x2)))) ∧ (¬ x3 = 0 → ((x3 = 1 → vp_in ((x1 * (s2.1 1)) + x2) 40 ∧ wp_X0_signOn (fun r_12 => post r_12) s2 ((x1 * (s2.1 1)) + x2) ((s2.2.1 5) (Int32.toNatClampNeg ((x1 * (s2.1 1)) + x2)))) ∧ (¬ x3 = 1 → ((x3 = 2 → vp_in ((x1 * (s2.1 1)) + x2) 40 ∧ wp_X0_signOn (fun r_16 => post r_16) s2 ((x1 * (s2.1 1)) + x2) ((s2.2.1 6) (Int32.toNatClampNeg ((x1 * (s2.1 1)) + x2)))) ∧ (¬ x3 = 2 → post (-1)))))))) ∧ (¬ x2 < (s2.1 1) → post (-1)))))))) s2 x1
set_option maxHeartbeats 4000000 in
set_option maxRecDepth 100000 in
theorem c2_X6_at {l : Launch} {D : va_G} {q : Nat → ClassId} {a0 a1 a2 a3 a4 a5 : Nat → Nat} {p8 s8 : Nat} {s2 : Bd} {x1 : Int32} {x2 : Int32} {x3 : Int32} {post : Int32 → Prop} (h : wp_X6_at post s2 x1 x2 x3) : Met l yX6_at (Cond.code yX6_at cX6_at 5 (some .int) :: w_all) ({ frames := 2, cells := 0, slots := 0, locals := 44 } : Room) (rd_P D q [.ref (a0 0), .int x1, .int x2, .int x3] (fo_w (a0 0) (a1 0) (a2 0) (a3 0) (a4 0) (a5 0) p8 s8 ++ bd_w a2 q s2)) (vp_Si post) 0 0 (fun _ => False) := by
  refine rd_start (by decide) (Nat.le_of_ble_eq_true rfl) ?_
  intro p e s m below meth c ls hx hb hr hml hown ht hk hP hQ hV hl
  have hK := hQ.1
  have hown : s.vm.findClass RX6 = some m.cls := hown
  have hl : lv_has ls 5 [(0, .ref (a0 0)), (1, .int x1), (2, .int x2), (3, .int x3)] := hl
  have hP : va_P D vwCl [((a0 0), .inr (5, [.ref (a1 0), .ref (a2 0), .ref (a3 0), .ref (a4 0), .ref (a5 0), .ref p8, .ref s8])), ((a2 0), .inr (0, [.int (s2.1 0), .int (s2.1 1), .int (s2.1 2), .int (s2.1 3), .int (s2.1 4), .int (s2.1 5), .ref (a2 1), .ref (a2 2), .ref (a2 3), .ref (a2 4), .ref (a2 5), .ref (a2 6), .ref (a2 7), .ref (a2 8), .ref (a2 9), .ref (a2 10), .ref (a2 11), .ref (a2 12)])), ((a2 1), .inl (q 0, 4, .inl (s2.2.1 0))), ((a2 2), .inl (q 0, 4, .inl (s2.2.1 1))), ((a2 3), .inl (q 0, 160, .inl (s2.2.1 2))), ((a2 4), .inl (q 0, 40, .inl (s2.2.1 3))), ((a2 5), .inl (q 0, 40, .inl (s2.2.1 4))), ((a2 6), .inl (q 0, 40, .inl (s2.2.1 5))), ((a2 7), .inl (q 0, 40, .inl (s2.2.1 6))), ((a2 8), .inl (q 0, 40, .inl (s2.2.1 7))), ((a2 9), .inl (q 0, 40, .inl (s2.2.1 8))), ((a2 10), .inl (q 0, 40, .inl (s2.2.1 9))), ((a2 11), .inl (q 1, 40, .inr (.inl s2.2.2.1))), ((a2 12), .inl (q 0, s2.2.2.2.1, .inl s2.2.2.2.2))] s.heap := hP
  unfold wp_X6_at at h
  refine lv_aload_n hx hb dX6_at_0 rfl (lv_at hl 0 rfl) ?_
  refine fl_get (C := RX6) (T := TX6) (N := 7) (ci := 5) (v := .ref (a2 0)) hx hb ht in_X6 hown hK hP 0 rfl rfl 1 (by decide) mw_356 rfl dX6_at_1 ?_
  refine lv_iload_n hx hb dX6_at_4 rfl (lv_at hl 1 rfl) ?_
  refine vp_callSi (rd_wV (wc := bd_w a2 q s2) (As := [.int x1]) (rest := []) hx hb hml hown ht (c2_X0_hasRow h) wd_X0_hasRow mw_621 hQ hV va_S.rf (hP.sub [1, 2, 3, 4, 5, 6, 7, 8, 9, 10, 11, 12, 13] rfl) rfl rfl rfl hl.1 rfl (Nat.le_of_ble_eq_true rfl) dX6_at_5 ⟨Nat.le_of_ble_eq_true rfl, Nat.le_of_ble_eq_true rfl, rfl, rfl⟩ ⟨Nat.le_of_ble_eq_true rfl, Nat.le_of_ble_eq_true rfl⟩) (fun r_1 h => ?_)
  try dsimp only at h
  refine lv_if_eq (tgt := 26) hx hb dX6_at_8 (by decide) (fun c_3 => ?_) (fun c_3 => ?_)
  · replace h := h.1 c_3
    refine lv_iconst (v := (-1)) hx hb dX6_at_26 (by decide) ?_
    exact rd_iret hx hb hr hk h dX6_at_27
  · replace h := h.2 c_3
    refine lv_iload_n hx hb dX6_at_11 rfl (lv_at hl 2 rfl) ?_
    refine lv_if_lt (tgt := 26) hx hb dX6_at_12 (by decide) (fun c_4 => ?_) (fun c_4 => ?_)
    · replace h := h.1 c_4
      refine lv_iconst (v := (-1)) hx hb dX6_at_26 (by decide) ?_
      exact rd_iret hx hb hr hk h dX6_at_27
    · replace h := h.2 c_4
      refine lv_iload_n hx hb dX6_at_15 rfl (lv_at hl 2 rfl) ?_
      refine lv_aload_n hx hb dX6_at_16 rfl (lv_at hl 0 rfl) ?_
      refine fl_get (C := RX6) (T := TX6) (N := 7) (ci := 5) (v := .ref (a2 0)) hx hb ht in_X6 hown hK hP 0 rfl rfl 1 (by decide) mw_356 rfl dX6_at_17 ?_
      refine fl_get (C := RX0) (T := TX0) (N := 18) (ci := 0) (v := .int (s2.1 1)) hx hb ht in_X0 hown hK hP 1 rfl rfl 1 (by decide) mw_174 rfl dX6_at_20 ?_
      refine lv_icmp_lt (tgt := 28) hx hb dX6_at_23 (by decide) (fun c_5 => ?_) (fun c_5 => ?_)
      · replace h := h.1 c_5
        refine lv_iload_n hx hb dX6_at_28 rfl (lv_at hl 1 rfl) ?_
        refine lv_aload_n hx hb dX6_at_29 rfl (lv_at hl 0 rfl) ?_
        refine fl_get (C := RX6) (T := TX6) (N := 7) (ci := 5) (v := .ref (a2 0)) hx hb ht in_X6 hown hK hP 0 rfl rfl 1 (by decide) mw_356 rfl dX6_at_30 ?_
        refine fl_get (C := RX0) (T := TX0) (N := 18) (ci := 0) (v := .int (s2.1 1)) hx hb ht in_X0 hown hK hP 1 rfl rfl 1 (by decide) mw_174 rfl dX6_at_33 ?_
        refine lv_imul hx hb dX6_at_36 ?_
        refine lv_iload_n hx hb dX6_at_37 rfl (lv_at hl 2 rfl) ?_
        refine lv_iadd hx hb dX6_at_38 ?_
        refine lv_istore (lv' := [(4, .int ((x1 * (s2.1 1)) + x2)), (0, .ref (a0 0)), (1, .int x1), (2, .int x2), (3, .int x3)]) hx hb dX6_at_39 hl (by decide) rfl (fun ls hl => ?_)
        refine lv_iload_n hx hb dX6_at_41 rfl (lv_at hl 4 rfl) ?_
        by_cases k_6 : x3 = 0
        · replace h := h.1 k_6
          refine lv_tableIn (tgt := 68) hx hb dX6_at_42 (by rw [k_6]; decide) (by rw [k_6]; decide) (by rw [k_6]; rfl) (by decide) ?_
          refine lv_aload_n hx hb dX6_at_68 rfl (lv_at hl 1 rfl) ?_
          refine fl_get (C := RX6) (T := TX6) (N := 7) (ci := 5) (v := .ref (a2 0)) hx hb ht in_X6 hown hK hP 0 rfl rfl 1 (by decide) mw_356 rfl dX6_at_69 ?_
          refine lv_iload hx hb dX6_at_72 (lv_at hl 0 rfl) ?_
          refine lv_aload_n hx hb dX6_at_74 rfl (lv_at hl 1 rfl) ?_
          refine fl_get (C := RX6) (T := TX6) (N := 7) (ci := 5) (v := .ref (a2 0)) hx hb ht in_X6 hown hK hP 0 rfl rfl 1 (by decide) mw_356 rfl dX6_at_75 ?_
          refine fl_get (C := RX0) (T := TX0) (N := 18) (ci := 0) (v := .ref (a2 5)) hx hb ht in_X0 hown hK hP 1 rfl rfl 10 (by decide) mw_195 rfl dX6_at_78 ?_
          refine lv_iload hx hb dX6_at_81 (lv_at hl 0 rfl) ?_
          obtain ⟨g_7, h⟩ := h
          refine va_iald hx hb hK hP 6 0 rfl rfl g_7 dX6_at_83 ?_
          refine vp_callSi (rd_wV (wc := bd_w a2 q s2) (As := [.int ((x1 * (s2.1 1)) + x2), .int ((s2.2.1 4) (Int32.toNatClampNeg ((x1 * (s2.1 1)) + x2)))]) (rest := []) hx hb hml hown ht (c2_X0_signOn h) wd_X0_signOn mw_939 hQ hV va_S.rf (hP.sub [1, 2, 3, 4, 5, 6, 7, 8, 9, 10, 11, 12, 13] rfl) rfl rfl rfl hl.1 rfl (Nat.le_of_ble_eq_true rfl) dX6_at_84 ⟨Nat.le_of_ble_eq_true rfl, Nat.le_of_ble_eq_true rfl, rfl, rfl⟩ ⟨Nat.le_of_ble_eq_true rfl, Nat.le_of_ble_eq_true rfl⟩) (fun r_8 h => ?_)
          try dsimp only at h
          exact rd_iret hx hb hr hk h dX6_at_87
        replace h := h.2 k_6
        by_cases k_10 : x3 = 1
        · replace h := h.1 k_10
          refine lv_tableIn (tgt := 88) hx hb dX6_at_42 (by rw [k_10]; decide) (by rw [k_10]; decide) (by rw [k_10]; rfl) (by decide) ?_
          refine lv_aload_n hx hb dX6_at_88 rfl (lv_at hl 1 rfl) ?_
          refine fl_get (C := RX6) (T := TX6) (N := 7) (ci := 5) (v := .ref (a2 0)) hx hb ht in_X6 hown hK hP 0 rfl rfl 1 (by decide) mw_356 rfl dX6_at_89 ?_
          refine lv_iload hx hb dX6_at_92 (lv_at hl 0 rfl) ?_
          refine lv_aload_n hx hb dX6_at_94 rfl (lv_at hl 1 rfl) ?_
          refine fl_get (C := RX6) (T := TX6) (N := 7) (ci := 5) (v := .ref (a2 0)) hx hb ht in_X6 hown hK hP 0 rfl rfl 1 (by decide) mw_356 rfl dX6_at_95 ?_
          refine fl_get (C := RX0) (T := TX0) (N := 18) (ci := 0) (v := .ref (a2 6)) hx hb ht in_X0 hown hK hP 1 rfl rfl 11 (by decide) mw_197 rfl dX6_at_98 ?_
          refine lv_iload hx hb dX6_at_101 (lv_at hl 0 rfl) ?_
          obtain ⟨g_11, h⟩ := h
          refine va_iald hx hb hK hP 7 0 rfl rfl g_11 dX6_at_103 ?_
          refine vp_callSi (rd_wV (wc := bd_w a2 q s2) (As := [.int ((x1 * (s2.1 1)) + x2), .int ((s2.2.1 5) (Int32.toNatClampNeg ((x1 * (s2.1 1)) + x2)))]) (rest := []) hx hb hml hown ht (c2_X0_signOn h) wd_X0_signOn mw_939 hQ hV va_S.rf (hP.sub [1, 2, 3, 4, 5, 6, 7, 8, 9, 10, 11, 12, 13] rfl) rfl rfl rfl hl.1 rfl (Nat.le_of_ble_eq_true rfl) dX6_at_104 ⟨Nat.le_of_ble_eq_true rfl, Nat.le_of_ble_eq_true rfl, rfl, rfl⟩ ⟨Nat.le_of_ble_eq_true rfl, Nat.le_of_ble_eq_true rfl⟩) (fun r_12 h => ?_)
          try dsimp only at h
          exact rd_iret hx hb hr hk h dX6_at_107
        replace h := h.2 k_10
        by_cases k_14 : x3 = 2
        · replace h := h.1 k_14
          refine lv_tableIn (tgt := 108) hx hb dX6_at_42 (by rw [k_14]; decide) (by rw [k_14]; decide) (by rw [k_14]; rfl) (by decide) ?_
          refine lv_aload_n hx hb dX6_at_108 rfl (lv_at hl 1 rfl) ?_
          refine fl_get (C := RX6) (T := TX6) (N := 7) (ci := 5) (v := .ref (a2 0)) hx hb ht in_X6 hown hK hP 0 rfl rfl 1 (by decide) mw_356 rfl dX6_at_109 ?_
          refine lv_iload hx hb dX6_at_112 (lv_at hl 0 rfl) ?_
          refine lv_aload_n hx hb dX6_at_114 rfl (lv_at hl 1 rfl) ?_
          refine fl_get (C := RX6) (T := TX6) (N := 7) (ci := 5) (v := .ref (a2 0)) hx hb ht in_X6 hown hK hP 0 rfl rfl 1 (by decide) mw_356 rfl dX6_at_115 ?_
          refine fl_get (C := RX0) (T := TX0) (N := 18) (ci := 0) (v := .ref (a2 7)) hx hb ht in_X0 hown hK hP 1 rfl rfl 12 (by decide) mw_199 rfl dX6_at_118 ?_
          refine lv_iload hx hb dX6_at_121 (lv_at hl 0 rfl) ?_
          obtain ⟨g_15, h⟩ := h
          refine va_iald hx hb hK hP 8 0 rfl rfl g_15 dX6_at_123 ?_
          refine vp_callSi (rd_wV (wc := bd_w a2 q s2) (As := [.int ((x1 * (s2.1 1)) + x2), .int ((s2.2.1 6) (Int32.toNatClampNeg ((x1 * (s2.1 1)) + x2)))]) (rest := []) hx hb hml hown ht (c2_X0_signOn h) wd_X0_signOn mw_939 hQ hV va_S.rf (hP.sub [1, 2, 3, 4, 5, 6, 7, 8, 9, 10, 11, 12, 13] rfl) rfl rfl rfl hl.1 rfl (Nat.le_of_ble_eq_true rfl) dX6_at_124 ⟨Nat.le_of_ble_eq_true rfl, Nat.le_of_ble_eq_true rfl, rfl, rfl⟩ ⟨Nat.le_of_ble_eq_true rfl, Nat.le_of_ble_eq_true rfl⟩) (fun r_16 h => ?_)
          try dsimp only at h
          exact rd_iret hx hb hr hk h dX6_at_127
        replace h := h.2 k_14
        refine lv_tableOut (tgt := 128) hx hb dX6_at_42 (by have g0 := k_6; have g1 := k_10; have g2 := k_14; (try simp only [lg_cmp_ge, lg_cmp_le, lg_cmp_gt, lg_cmp_lt, lg_cmp_eq] at g0 g1 g2); (try simp only [Int32.lt_iff_toInt_lt, Int32.le_iff_toInt_le, ← Int32.toInt_inj, Int32.reduceToInt, Int64.lt_iff_toInt_lt, Int64.le_iff_toInt_le, ← Int64.toInt_inj, Int64.reduceToInt, Int32.toInt_toInt64] at g0 g1 g2); omega) (by decide) ?_
        refine lv_iconst (v := (-1)) hx hb dX6_at_128 (by decide) ?_
        exact rd_iret hx hb hr hk h dX6_at_129
      · replace h := h.2 c_5
        refine lv_iconst (v := (-1)) hx hb dX6_at_26 (by decide) ?_
        exact rd_iret hx hb hr hk h dX6_at_27

def wp_X6_isSuch (post : Int32 → Prop) (s2 : Bd) (x1 : Int32) (x2 : Int32) : Prop := ((x2 = 0 → wp_X0_leftOf (fun r_2 => ((r_2 ≤ 0 → post 0) ∧ (¬ r_2 ≤ 0 → post 1))) s2 x1) ∧ (¬ x2 = 0 → ((x2 = 1 → vp_in x1 40 ∧ vp_in x1 40 ∧ ((((s2.2.1 4) (Int32.toNatClampNeg x1)) = ((s2.2.1 5) (Int32.toNatClampNeg x1)) → post 0) ∧ (¬ ((s2.2.1 4) (Int32.toNatClampNeg x1)) = ((s2.2.1 5) (Int32.toNatClampNeg x1)) → post 1))) ∧ (¬ x2 = 1 → ((x2 = 2 → wp_X0_showsWrong (fun r_10 => narrow .boolean (.int r_10) = .int r_10 ∧ post r_10) s2 x1) ∧ (¬ x2 = 2 → ((x2 = 3 → post 0) ∧ (¬ x2 = 3 → ((x2 = 4 → wp_X0_currentOf (fun r_15 => ((r_15 ≤ (s2.1 2) → post 0) ∧ (¬ r_15 ≤ (s2.1 2) → post 1))) s2 x1) ∧ (¬ x2 = 4 → post 0))))))))))
set_option maxHeartbeats 4000000 in
set_option maxRecDepth 100000 in
theorem c2_X6_isSuch {l : Launch} {D : va_G} {q : Nat → ClassId} {a0 a1 a2 a3 a4 a5 : Nat → Nat} {p8 s8 : Nat} {s2 : Bd} {x1 : Int32} {x2 : Int32} {post : Int32 → Prop} (h : wp_X6_isSuch post s2 x1 x2) : Met l yX6_isSuch (Cond.code yX6_isSuch cX6_isSuch 3 (some .boolean) :: w_all) ({ frames := 4, cells := 0, slots := 0, locals := 86 } : Room) (rd_P D q [.ref (a0 0), .int x1, .int x2] (fo_w (a0 0) (a1 0) (a2 0) (a3 0) (a4 0) (a5 0) p8 s8 ++ bd_w a2 q s2)) (vp_Si post) 0 0 (fun _ => False) := by
  refine rd_start (by decide) (Nat.le_of_ble_eq_true rfl) ?_
  intro p e s m below meth c ls hx hb hr hml hown ht hk hP hQ hV hl
  have hK := hQ.1
  have hown : s.vm.findClass RX6 = some m.cls := hown
  have hl : lv_has ls 3 [(0, .ref (a0 0)), (1, .int x1), (2, .int x2)] := hl
  have hP : va_P D vwCl [((a0 0), .inr (5, [.ref (a1 0), .ref (a2 0), .ref (a3 0), .ref (a4 0), .ref (a5 0), .ref p8, .ref s8])), ((a2 0), .inr (0, [.int (s2.1 0), .int (s2.1 1), .int (s2.1 2), .int (s2.1 3), .int (s2.1 4), .int (s2.1 5), .ref (a2 1), .ref (a2 2), .ref (a2 3), .ref (a2 4), .ref (a2 5), .ref (a2 6), .ref (a2 7), .ref (a2 8), .ref (a2 9), .ref (a2 10), .ref (a2 11), .ref (a2 12)])), ((a2 1), .inl (q 0, 4, .inl (s2.2.1 0))), ((a2 2), .inl (q 0, 4, .inl (s2.2.1 1))), ((a2 3), .inl (q 0, 160, .inl (s2.2.1 2))), ((a2 4), .inl (q 0, 40, .inl (s2.2.1 3))), ((a2 5), .inl (q 0, 40, .inl (s2.2.1 4))), ((a2 6), .inl (q 0, 40, .inl (s2.2.1 5))), ((a2 7), .inl (q 0, 40, .inl (s2.2.1 6))), ((a2 8), .inl (q 0, 40, .inl (s2.2.1 7))), ((a2 9), .inl (q 0, 40, .inl (s2.2.1 8))), ((a2 10), .inl (q 0, 40, .inl (s2.2.1 9))), ((a2 11), .inl (q 1, 40, .inr (.inl s2.2.2.1))), ((a2 12), .inl (q 0, s2.2.2.2.1, .inl s2.2.2.2.2))] s.heap := hP
  unfold wp_X6_isSuch at h
  refine lv_iload_n hx hb dX6_isSuch_0 rfl (lv_at hl 2 rfl) ?_
  by_cases k_1 : x2 = 0
  · replace h := h.1 k_1
    refine lv_tableIn (tgt := 36) hx hb dX6_isSuch_1 (by rw [k_1]; decide) (by rw [k_1]; decide) (by rw [k_1]; rfl) (by decide) ?_
    refine lv_aload_n hx hb dX6_isSuch_36 rfl (lv_at hl 0 rfl) ?_
    refine fl_get (C := RX6) (T := TX6) (N := 7) (ci := 5) (v := .ref (a2 0)) hx hb ht in_X6 hown hK hP 0 rfl rfl 1 (by decide) mw_356 rfl dX6_isSuch_37 ?_
    refine lv_iload_n hx hb dX6_isSuch_40 rfl (lv_at hl 1 rfl) ?_
    refine vp_callSi (rd_wV (wc := bd_w a2 q s2) (As := [.int x1]) (rest := []) hx hb hml hown ht (c2_X0_leftOf h) wd_X0_leftOf mw_894 hQ hV va_S.rf (hP.sub [1, 2, 3, 4, 5, 6, 7, 8, 9, 10, 11, 12, 13] rfl) rfl rfl rfl hl.1 rfl (Nat.le_of_ble_eq_true rfl) dX6_isSuch_41 ⟨Nat.le_of_ble_eq_true rfl, Nat.le_of_ble_eq_true rfl, rfl, rfl⟩ ⟨Nat.le_of_ble_eq_true rfl, Nat.le_of_ble_eq_true rfl⟩) (fun r_2 h => ?_)
    try dsimp only at h
    refine lv_if_le (tgt := 51) hx hb dX6_isSuch_44 (by decide) (fun c_4 => ?_) (fun c_4 => ?_)
    · replace h := h.1 c_4
      refine lv_iconst (v := 0) hx hb dX6_isSuch_51 (by decide) ?_
      exact rd_zret hx hb hr hk rfl h dX6_isSuch_52
    · replace h := h.2 c_4
      refine lv_iconst (v := 1) hx hb dX6_isSuch_47 (by decide) ?_
      refine lv_goto (tgt := 52) hx hb dX6_isSuch_48 (by decide) ?_
      exact rd_zret hx hb hr hk rfl h dX6_isSuch_52
  replace h := h.2 k_1
  by_cases k_5 : x2 = 1
  · replace h := h.1 k_5
    refine lv_tableIn (tgt := 53) hx hb dX6_isSuch_1 (by rw [k_5]; decide) (by rw [k_5]; decide) (by rw [k_5]; rfl) (by decide) ?_
    refine lv_aload_n hx hb dX6_isSuch_53 rfl (lv_at hl 0 rfl) ?_
    refine fl_get (C := RX6) (T := TX6) (N := 7) (ci := 5) (v := .ref (a2 0)) hx hb ht in_X6 hown hK hP 0 rfl rfl 1 (by decide) mw_356 rfl dX6_isSuch_54 ?_
    refine fl_get (C := RX0) (T := TX0) (N := 18) (ci := 0) (v := .ref (a2 5)) hx hb ht in_X0 hown hK hP 1 rfl rfl 10 (by decide) mw_195 rfl dX6_isSuch_57 ?_
    refine lv_iload_n hx hb dX6_isSuch_60 rfl (lv_at hl 1 rfl) ?_
    obtain ⟨g_6, h⟩ := h
    refine va_iald hx hb hK hP 6 0 rfl rfl g_6 dX6_isSuch_61 ?_
    refine lv_aload_n hx hb dX6_isSuch_62 rfl (lv_at hl 0 rfl) ?_
    refine fl_get (C := RX6) (T := TX6) (N := 7) (ci := 5) (v := .ref (a2 0)) hx hb ht in_X6 hown hK hP 0 rfl rfl 1 (by decide) mw_356 rfl dX6_isSuch_63 ?_
    refine fl_get (C := RX0) (T := TX0) (N := 18) (ci := 0) (v := .ref (a2 6)) hx hb ht in_X0 hown hK hP 1 rfl rfl 11 (by decide) mw_197 rfl dX6_isSuch_66 ?_
    refine lv_iload_n hx hb dX6_isSuch_69 rfl (lv_at hl 1 rfl) ?_
    obtain ⟨g_7, h⟩ := h
    refine va_iald hx hb hK hP 7 0 rfl rfl g_7 dX6_isSuch_70 ?_
    refine lv_icmp_eq (tgt := 78) hx hb dX6_isSuch_71 (by decide) (fun c_8 => ?_) (fun c_8 => ?_)
    · replace h := h.1 c_8
      refine lv_iconst (v := 0) hx hb dX6_isSuch_78 (by decide) ?_
      exact rd_zret hx hb hr hk rfl h dX6_isSuch_79
    · replace h := h.2 c_8
      refine lv_iconst (v := 1) hx hb dX6_isSuch_74 (by decide) ?_
      refine lv_goto (tgt := 79) hx hb dX6_isSuch_75 (by decide) ?_
      exact rd_zret hx hb hr hk rfl h dX6_isSuch_79
  replace h := h.2 k_5
  by_cases k_9 : x2 = 2
  · replace h := h.1 k_9
    refine lv_tableIn (tgt := 80) hx hb dX6_isSuch_1 (by rw [k_9]; decide) (by rw [k_9]; decide) (by rw [k_9]; rfl) (by decide) ?_
    refine lv_aload_n hx hb dX6_isSuch_80 rfl (lv_at hl 0 rfl) ?_
    refine fl_get (C := RX6) (T := TX6) (N := 7) (ci := 5) (v := .ref (a2 0)) hx hb ht in_X6 hown hK hP 0 rfl rfl 1 (by decide) mw_356 rfl dX6_isSuch_81 ?_
    refine lv_iload_n hx hb dX6_isSuch_84 rfl (lv_at hl 1 rfl) ?_
    refine vp_callSi (rd_wV (wc := bd_w a2 q s2) (As := [.int x1]) (rest := []) hx hb hml hown ht (c2_X0_showsWrong h) wd_X0_showsWrong mw_952 hQ hV va_S.rf (hP.sub [1, 2, 3, 4, 5, 6, 7, 8, 9, 10, 11, 12, 13] rfl) rfl rfl rfl hl.1 rfl (Nat.le_of_ble_eq_true rfl) dX6_isSuch_85 ⟨Nat.le_of_ble_eq_true rfl, Nat.le_of_ble_eq_true rfl, rfl, rfl⟩ ⟨Nat.le_of_ble_eq_true rfl, Nat.le_of_ble_eq_true rfl⟩) (fun r_10 h => ?_)
    try dsimp only at h
    obtain ⟨g_12, h⟩ := h
    exact rd_zret hx hb hr hk g_12 h dX6_isSuch_88
  replace h := h.2 k_9
  by_cases k_13 : x2 = 3
  · replace h := h.1 k_13
    refine lv_tableIn (tgt := 113) hx hb dX6_isSuch_1 (by rw [k_13]; decide) (by rw [k_13]; decide) (by rw [k_13]; rfl) (by decide) ?_
    refine lv_iconst (v := 0) hx hb dX6_isSuch_113 (by decide) ?_
    exact rd_zret hx hb hr hk rfl h dX6_isSuch_114
  replace h := h.2 k_13
  by_cases k_14 : x2 = 4
  · replace h := h.1 k_14
    refine lv_tableIn (tgt := 89) hx hb dX6_isSuch_1 (by rw [k_14]; decide) (by rw [k_14]; decide) (by rw [k_14]; rfl) (by decide) ?_
    refine lv_aload_n hx hb dX6_isSuch_89 rfl (lv_at hl 0 rfl) ?_
    refine fl_get (C := RX6) (T := TX6) (N := 7) (ci := 5) (v := .ref (a2 0)) hx hb ht in_X6 hown hK hP 0 rfl rfl 1 (by decide) mw_356 rfl dX6_isSuch_90 ?_
    refine lv_iload_n hx hb dX6_isSuch_93 rfl (lv_at hl 1 rfl) ?_
    refine vp_callSi (rd_wV (wc := bd_w a2 q s2) (As := [.int x1]) (rest := []) hx hb hml hown ht (c2_X0_currentOf h) wd_X0_currentOf mw_956 hQ hV va_S.rf (hP.sub [1, 2, 3, 4, 5, 6, 7, 8, 9, 10, 11, 12, 13] rfl) rfl rfl rfl hl.1 rfl (Nat.le_of_ble_eq_true rfl) dX6_isSuch_94 ⟨Nat.le_of_ble_eq_true rfl, Nat.le_of_ble_eq_true rfl, rfl, rfl⟩ ⟨Nat.le_of_ble_eq_true rfl, Nat.le_of_ble_eq_true rfl⟩) (fun r_15 h => ?_)
    try dsimp only at h
    refine lv_aload_n hx hb dX6_isSuch_97 rfl (lv_at hl 0 rfl) ?_
    refine fl_get (C := RX6) (T := TX6) (N := 7) (ci := 5) (v := .ref (a2 0)) hx hb ht in_X6 hown hK hP 0 rfl rfl 1 (by decide) mw_356 rfl dX6_isSuch_98 ?_
    refine fl_get (C := RX0) (T := TX0) (N := 18) (ci := 0) (v := .int (s2.1 2)) hx hb ht in_X0 hown hK hP 1 rfl rfl 2 (by decide) mw_178 rfl dX6_isSuch_101 ?_
    refine lv_icmp_le (tgt := 111) hx hb dX6_isSuch_104 (by decide) (fun c_17 => ?_) (fun c_17 => ?_)
    · replace h := h.1 c_17
      refine lv_iconst (v := 0) hx hb dX6_isSuch_111 (by decide) ?_
      exact rd_zret hx hb hr hk rfl h dX6_isSuch_112
    · replace h := h.2 c_17
      refine lv_iconst (v := 1) hx hb dX6_isSuch_107 (by decide) ?_
      refine lv_goto (tgt := 112) hx hb dX6_isSuch_108 (by decide) ?_
      exact rd_zret hx hb hr hk rfl h dX6_isSuch_112
  replace h := h.2 k_14
  refine lv_tableOut (tgt := 113) hx hb dX6_isSuch_1 (by have g0 := k_1; have g1 := k_5; have g2 := k_9; have g3 := k_13; have g4 := k_14; (try simp only [lg_cmp_ge, lg_cmp_le, lg_cmp_gt, lg_cmp_lt, lg_cmp_eq] at g0 g1 g2 g3 g4); (try simp only [Int32.lt_iff_toInt_lt, Int32.le_iff_toInt_le, ← Int32.toInt_inj, Int32.reduceToInt, Int64.lt_iff_toInt_lt, Int64.le_iff_toInt_le, ← Int64.toInt_inj, Int64.reduceToInt, Int32.toInt_toInt64] at g0 g1 g2 g3 g4); omega) (by decide) ?_
  refine lv_iconst (v := 0) hx hb dX6_isSuch_113 (by decide) ?_
  exact rd_zret hx hb hr hk rfl h dX6_isSuch_114

def wp_X6_which_L52 (s2 : Bd) (post : Int64 → Mo → Prop) (e87 : Mo → Int32 → Int64 → Int32 → Prop) : Nat → Mo → Int32 → Int64 → Int32 → Prop
  | 0, _, _, _, _ => False
  | n52 + 1, t2, z1, w2, z4 => wp_X0_cells (fun r_7 => ((r_7 ≤ z4 → e87 t2 z1 w2 z4) ∧ (¬ r_7 ≤ z4 → wp_X6_isSuch (fun r_10 => ((r_10 = 0 → wp_X6_which_L52 s2 post e87 n52 t2 z1 w2 (z4 + 1)) ∧ (¬ r_10 = 0 → wp_X6_which_L52 s2 post e87 n52 t2 z1 (w2 ||| ((1 : Int64) <<< (Int32.toInt64 z4 &&& 63))) (z4 + 1)))) s2 z4 z1))) s2
def wp_X6_which (post : Int64 → Mo → Prop) (s2 : Bd) (s4 : Mo) (x1 : Int32) : Prop := wp_X0_isThere (fun r_1 => ((r_1 = 0 → post (-1) s4) ∧ (¬ r_1 = 0 → ((x1 < 0 → post (-1) s4) ∧ (¬ x1 < 0 → ((x1 ≤ 4 → ((¬ x1 = 3 → (∃ n52, wp_X6_which_L52 s2 post (fun t2 z1 w2 z4 => post w2 t2) n52 s4 x1 0 0)) ∧ (x1 = 3 → wp_X2_choose (fun u_14 => wp_X2_chosenBits (fun r_15 => post r_15 u_14) u_14) s4 s2))) ∧ (¬ x1 ≤ 4 → post (-1) s4))))))) s2
set_option maxHeartbeats 4000000 in
set_option maxRecDepth 100000 in
theorem c2_X6_which {l : Launch} {D : va_G} {q : Nat → ClassId} {sz : Nat} {a0 a1 a2 a3 a4 a5 : Nat → Nat} {p8 s8 : Nat} {s2 : Bd} {s4 : Mo} {x1 : Int32} {post : Int64 → Mo → Prop} (h : wp_X6_which post s2 s4 x1) : Met l yX6_which (Cond.code yX6_which cX6_which 5 (some .long) :: w_all) ({ frames := 5, cells := 0, slots := 0, locals := 108 } : Room) (mt_P D q [.ref (a0 0), .int x1] (fo_w (a0 0) (a1 0) (a2 0) (a3 0) (a4 0) (a5 0) p8 s8 ++ bd_w a2 q s2 ++ mo_w a4 q s4) sz) (va_Ql (fun r (u : Mo) => post r u) (mt_B D (fo_w (a0 0) (a1 0) (a2 0) (a3 0) (a4 0) (a5 0) p8 s8 ++ bd_w a2 q s2 ++ mo_w a4 q s4) sz (fun u : Mo => fo_w (a0 0) (a1 0) (a2 0) (a3 0) (a4 0) (a5 0) p8 s8 ++ bd_w a2 q s2 ++ mo_w a4 q u)) (va_A (fo_w (a0 0) (a1 0) (a2 0) (a3 0) (a4 0) (a5 0) p8 s8 ++ bd_w a2 q s2 ++ mo_w a4 q s4) sz)) 0 0 (va_A (fo_w (a0 0) (a1 0) (a2 0) (a3 0) (a4 0) (a5 0) p8 s8 ++ bd_w a2 q s2 ++ mo_w a4 q s4) sz) := by
  refine mt_start (by decide) (Nat.le_of_ble_eq_true rfl) ?_
  intro p e s m below meth c ls hx hb hr hml hown ht hk hin hP hQ hD hA hS hV hl
  have hK := hQ.1
  have hown : s.vm.findClass RX6 = some m.cls := hown
  have hl : lv_has ls 5 [(0, .ref (a0 0)), (1, .int x1)] := hl
  have hP : va_P D vwCl [((a0 0), .inr (5, [.ref (a1 0), .ref (a2 0), .ref (a3 0), .ref (a4 0), .ref (a5 0), .ref p8, .ref s8])), ((a2 0), .inr (0, [.int (s2.1 0), .int (s2.1 1), .int (s2.1 2), .int (s2.1 3), .int (s2.1 4), .int (s2.1 5), .ref (a2 1), .ref (a2 2), .ref (a2 3), .ref (a2 4), .ref (a2 5), .ref (a2 6), .ref (a2 7), .ref (a2 8), .ref (a2 9), .ref (a2 10), .ref (a2 11), .ref (a2 12)])), ((a2 1), .inl (q 0, 4, .inl (s2.2.1 0))), ((a2 2), .inl (q 0, 4, .inl (s2.2.1 1))), ((a2 3), .inl (q 0, 160, .inl (s2.2.1 2))), ((a2 4), .inl (q 0, 40, .inl (s2.2.1 3))), ((a2 5), .inl (q 0, 40, .inl (s2.2.1 4))), ((a2 6), .inl (q 0, 40, .inl (s2.2.1 5))), ((a2 7), .inl (q 0, 40, .inl (s2.2.1 6))), ((a2 8), .inl (q 0, 40, .inl (s2.2.1 7))), ((a2 9), .inl (q 0, 40, .inl (s2.2.1 8))), ((a2 10), .inl (q 0, 40, .inl (s2.2.1 9))), ((a2 11), .inl (q 1, 40, .inr (.inl s2.2.2.1))), ((a2 12), .inl (q 0, s2.2.2.2.1, .inl s2.2.2.2.2)), ((a4 0), .inr (1, [.ref (a4 1), .ref (a4 2), .ref (a4 3), .int (s4.1 0), .int (s4.1 1), .int (s4.1 2), .int (s4.1 3), .int (s4.1 4), .int (s4.1 5), .int (s4.1 6), .int (s4.1 7), .int (s4.1 8)])), ((a4 1), .inl (q 0, 40, .inl (s4.2 0))), ((a4 2), .inl (q 0, 40, .inl (s4.2 1))), ((a4 3), .inl (q 0, 40, .inl (s4.2 2)))] s.heap := hP
  have hD : va_D _ [((a0 0), .inr (5, [.ref (a1 0), .ref (a2 0), .ref (a3 0), .ref (a4 0), .ref (a5 0), .ref p8, .ref s8])), ((a2 0), .inr (0, [.int (s2.1 0), .int (s2.1 1), .int (s2.1 2), .int (s2.1 3), .int (s2.1 4), .int (s2.1 5), .ref (a2 1), .ref (a2 2), .ref (a2 3), .ref (a2 4), .ref (a2 5), .ref (a2 6), .ref (a2 7), .ref (a2 8), .ref (a2 9), .ref (a2 10), .ref (a2 11), .ref (a2 12)])), ((a2 1), .inl (q 0, 4, .inl (s2.2.1 0))), ((a2 2), .inl (q 0, 4, .inl (s2.2.1 1))), ((a2 3), .inl (q 0, 160, .inl (s2.2.1 2))), ((a2 4), .inl (q 0, 40, .inl (s2.2.1 3))), ((a2 5), .inl (q 0, 40, .inl (s2.2.1 4))), ((a2 6), .inl (q 0, 40, .inl (s2.2.1 5))), ((a2 7), .inl (q 0, 40, .inl (s2.2.1 6))), ((a2 8), .inl (q 0, 40, .inl (s2.2.1 7))), ((a2 9), .inl (q 0, 40, .inl (s2.2.1 8))), ((a2 10), .inl (q 0, 40, .inl (s2.2.1 9))), ((a2 11), .inl (q 1, 40, .inr (.inl s2.2.2.1))), ((a2 12), .inl (q 0, s2.2.2.2.1, .inl s2.2.2.2.2)), ((a4 0), .inr (1, [.ref (a4 1), .ref (a4 2), .ref (a4 3), .int (s4.1 0), .int (s4.1 1), .int (s4.1 2), .int (s4.1 3), .int (s4.1 4), .int (s4.1 5), .int (s4.1 6), .int (s4.1 7), .int (s4.1 8)])), ((a4 1), .inl (q 0, 40, .inl (s4.2 0))), ((a4 2), .inl (q 0, 40, .inl (s4.2 1))), ((a4 3), .inl (q 0, 40, .inl (s4.2 2)))] := hD
  unfold wp_X6_which at h
  refine lv_aload_n hx hb dX6_which_0 rfl (lv_at hl 0 rfl) ?_
  refine fl_get (C := RX6) (T := TX6) (N := 7) (ci := 5) (v := .ref (a2 0)) hx hb ht in_X6 hown hK hP 0 rfl rfl 1 (by decide) mw_356 rfl dX6_which_1 ?_
  refine vp_callSi (rd_wV (wc := bd_w a2 q s2) (As := []) (rest := []) hx hb hml hown ht (c2_X0_isThere h) wd_X0_isThere mw_677 hQ hV hS (hP.sub [1, 2, 3, 4, 5, 6, 7, 8, 9, 10, 11, 12, 13] rfl) rfl rfl rfl hl.1 rfl (Nat.le_of_ble_eq_true rfl) dX6_which_4 ⟨Nat.le_of_ble_eq_true rfl, Nat.le_of_ble_eq_true rfl, rfl, rfl⟩ ⟨Nat.le_of_ble_eq_true rfl, Nat.le_of_ble_eq_true rfl⟩) (fun r_1 h => ?_)
  try dsimp only at h
  refine lv_if_eq (tgt := 19) hx hb dX6_which_7 (by decide) (fun c_3 => ?_) (fun c_3 => ?_)
  · replace h := h.1 c_3
    refine lv_ldc2 (v := (-1)) hx hb hown (ht _ mw_899) dX6_which_19 ?_
    exact mt_lret s4 hx hb hr hk h (hP.sub (ws' := fo_w (a0 0) (a1 0) (a2 0) (a3 0) (a4 0) (a5 0) p8 s8 ++ bd_w a2 q s2 ++ mo_w a4 q s4) [0, 1, 2, 3, 4, 5, 6, 7, 8, 9, 10, 11, 12, 13, 14, 15, 16, 17] rfl) (hD.sub (ws' := fo_w (a0 0) (a1 0) (a2 0) (a3 0) (a4 0) (a5 0) p8 s8 ++ bd_w a2 q s2 ++ mo_w a4 q s4) [0, 1, 2, 3, 4, 5, 6, 7, 8, 9, 10, 11, 12, 13, 14, 15, 16, 17] (by decide) rfl) hS dX6_which_22
  · replace h := h.2 c_3
    refine lv_iload_n hx hb dX6_which_10 rfl (lv_at hl 1 rfl) ?_
    refine lv_if_lt (tgt := 19) hx hb dX6_which_11 (by decide) (fun c_4 => ?_) (fun c_4 => ?_)
    · replace h := h.1 c_4
      refine lv_ldc2 (v := (-1)) hx hb hown (ht _ mw_899) dX6_which_19 ?_
      exact mt_lret s4 hx hb hr hk h (hP.sub (ws' := fo_w (a0 0) (a1 0) (a2 0) (a3 0) (a4 0) (a5 0) p8 s8 ++ bd_w a2 q s2 ++ mo_w a4 q s4) [0, 1, 2, 3, 4, 5, 6, 7, 8, 9, 10, 11, 12, 13, 14, 15, 16, 17] rfl) (hD.sub (ws' := fo_w (a0 0) (a1 0) (a2 0) (a3 0) (a4 0) (a5 0) p8 s8 ++ bd_w a2 q s2 ++ mo_w a4 q s4) [0, 1, 2, 3, 4, 5, 6, 7, 8, 9, 10, 11, 12, 13, 14, 15, 16, 17] (by decide) rfl) hS dX6_which_22
    · replace h := h.2 c_4
      refine lv_iload_n hx hb dX6_which_14 rfl (lv_at hl 1 rfl) ?_
      refine lv_iconst (v := 4) hx hb dX6_which_15 (by decide) ?_
      refine lv_icmp_le (tgt := 23) hx hb dX6_which_16 (by decide) (fun c_5 => ?_) (fun c_5 => ?_)
      · replace h := h.1 c_5
        refine lv_iload_n hx hb dX6_which_23 rfl (lv_at hl 1 rfl) ?_
        refine lv_iconst (v := 3) hx hb dX6_which_24 (by decide) ?_
        refine lv_icmp_ne (tgt := 47) hx hb dX6_which_25 (by decide) (fun c_6 => ?_) (fun c_6 => ?_)
        · replace h := h.1 c_6
          refine lv_lconst (v := 0) hx hb dX6_which_47 (by decide) ?_
          refine lv_lstore_n (lv' := [(2, .long 0), (0, .ref (a0 0)), (1, .int x1)]) hx hb dX6_which_48 rfl hl (by decide) rfl (fun ls hl => ?_)
          refine lv_iconst (v := 0) hx hb dX6_which_49 (by decide) ?_
          refine lv_istore (lv' := [(4, .int 0), (2, .long 0), (0, .ref (a0 0)), (1, .int x1)]) hx hb dX6_which_50 hl (by decide) rfl (fun ls hl => ?_)
          have lp52 : ∀ (e87 : Mo → Int32 → Int64 → Int32 → Prop) (k87 : ∀ (t2 : Mo) (z1 : Int32) (w2 : Int64) (z4 : Int32) (H : Heap) (locs : List Loc) (ls : Array Slot), e87 t2 z1 w2 z4 → va_P D vwCl (fo_w (a0 0) (a1 0) (a2 0) (a3 0) (a4 0) (a5 0) p8 s8 ++ bd_w a2 q s2 ++ mo_w a4 q t2) H → va_D (va_A (fo_w (a0 0) (a1 0) (a2 0) (a3 0) (a4 0) (a5 0) p8 s8 ++ bd_w a2 q s2 ++ mo_w a4 q s4) sz) (fo_w (a0 0) (a1 0) (a2 0) (a3 0) (a4 0) (a5 0) p8 s8 ++ bd_w a2 q s2 ++ mo_w a4 q t2) → va_S (va_A (fo_w (a0 0) (a1 0) (a2 0) (a3 0) (a4 0) (a5 0) p8 s8 ++ bd_w a2 q s2 ++ mo_w a4 q s4) sz) s.heap H locs → lv_has ls 5 [(1, .int z1), (2, .long w2), (4, .int z4), (0, .ref (a0 0))] → W p l e ({ frames := 5, cells := 0, slots := 0, locals := 108 } : Room) s m [.ref (a0 0), .int x1].toArray below meth c H locs 0 0 (MQ below (va_Ql (fun r (u : Mo) => post r u) (mt_B D (fo_w (a0 0) (a1 0) (a2 0) (a3 0) (a4 0) (a5 0) p8 s8 ++ bd_w a2 q s2 ++ mo_w a4 q s4) sz (fun u : Mo => fo_w (a0 0) (a1 0) (a2 0) (a3 0) (a4 0) (a5 0) p8 s8 ++ bd_w a2 q s2 ++ mo_w a4 q u)) (va_A (fo_w (a0 0) (a1 0) (a2 0) (a3 0) (a4 0) (a5 0) p8 s8 ++ bd_w a2 q s2 ++ mo_w a4 q s4) sz)) [.ref (a0 0), .int x1].toArray s 0 0 (va_A (fo_w (a0 0) (a1 0) (a2 0) (a3 0) (a4 0) (a5 0) p8 s8 ++ bd_w a2 q s2 ++ mo_w a4 q s4) sz)) (F0 m 87 ls [])) (n : Nat) (t2 : Mo) (z1 : Int32) (w2 : Int64) (z4 : Int32) (H : Heap) (locs : List Loc) (ls : Array Slot), wp_X6_which_L52 s2 post e87 n t2 z1 w2 z4 → va_P D vwCl (fo_w (a0 0) (a1 0) (a2 0) (a3 0) (a4 0) (a5 0) p8 s8 ++ bd_w a2 q s2 ++ mo_w a4 q t2) H → va_D (va_A (fo_w (a0 0) (a1 0) (a2 0) (a3 0) (a4 0) (a5 0) p8 s8 ++ bd_w a2 q s2 ++ mo_w a4 q s4) sz) (fo_w (a0 0) (a1 0) (a2 0) (a3 0) (a4 0) (a5 0) p8 s8 ++ bd_w a2 q s2 ++ mo_w a4 q t2) → va_S (va_A (fo_w (a0 0) (a1 0) (a2 0) (a3 0) (a4 0) (a5 0) p8 s8 ++ bd_w a2 q s2 ++ mo_w a4 q s4) sz) s.heap H locs → lv_has ls 5 [(1, .int z1), (2, .long w2), (4, .int z4), (0, .ref (a0 0))] → W p l e ({ frames := 5, cells := 0, slots := 0, locals := 108 } : Room) s m [.ref (a0 0), .int x1].toArray below meth c H locs 0 0 (MQ below (va_Ql (fun r (u : Mo) => post r u) (mt_B D (fo_w (a0 0) (a1 0) (a2 0) (a3 0) (a4 0) (a5 0) p8 s8 ++ bd_w a2 q s2 ++ mo_w a4 q s4) sz (fun u : Mo => fo_w (a0 0) (a1 0) (a2 0) (a3 0) (a4 0) (a5 0) p8 s8 ++ bd_w a2 q s2 ++ mo_w a4 q u)) (va_A (fo_w (a0 0) (a1 0) (a2 0) (a3 0) (a4 0) (a5 0) p8 s8 ++ bd_w a2 q s2 ++ mo_w a4 q s4) sz)) [.ref (a0 0), .int x1].toArray s 0 0 (va_A (fo_w (a0 0) (a1 0) (a2 0) (a3 0) (a4 0) (a5 0) p8 s8 ++ bd_w a2 q s2 ++ mo_w a4 q s4) sz)) (F0 m 52 ls []) := by
            intro e87 k87 n
            induction n with
            | zero =>
              intro t2 z1 w2 z4 H locs ls h
              exact h.elim
            | succ n ih =>
              intro t2 z1 w2 z4 H locs ls h hP hD hS hl
              have hP : va_P D vwCl [((a0 0), .inr (5, [.ref (a1 0), .ref (a2 0), .ref (a3 0), .ref (a4 0), .ref (a5 0), .ref p8, .ref s8])), ((a2 0), .inr (0, [.int (s2.1 0), .int (s2.1 1), .int (s2.1 2), .int (s2.1 3), .int (s2.1 4), .int (s2.1 5), .ref (a2 1), .ref (a2 2), .ref (a2 3), .ref (a2 4), .ref (a2 5), .ref (a2 6), .ref (a2 7), .ref (a2 8), .ref (a2 9), .ref (a2 10), .ref (a2 11), .ref (a2 12)])), ((a2 1), .inl (q 0, 4, .inl (s2.2.1 0))), ((a2 2), .inl (q 0, 4, .inl (s2.2.1 1))), ((a2 3), .inl (q 0, 160, .inl (s2.2.1 2))), ((a2 4), .inl (q 0, 40, .inl (s2.2.1 3))), ((a2 5), .inl (q 0, 40, .inl (s2.2.1 4))), ((a2 6), .inl (q 0, 40, .inl (s2.2.1 5))), ((a2 7), .inl (q 0, 40, .inl (s2.2.1 6))), ((a2 8), .inl (q 0, 40, .inl (s2.2.1 7))), ((a2 9), .inl (q 0, 40, .inl (s2.2.1 8))), ((a2 10), .inl (q 0, 40, .inl (s2.2.1 9))), ((a2 11), .inl (q 1, 40, .inr (.inl s2.2.2.1))), ((a2 12), .inl (q 0, s2.2.2.2.1, .inl s2.2.2.2.2)), ((a4 0), .inr (1, [.ref (a4 1), .ref (a4 2), .ref (a4 3), .int (t2.1 0), .int (t2.1 1), .int (t2.1 2), .int (t2.1 3), .int (t2.1 4), .int (t2.1 5), .int (t2.1 6), .int (t2.1 7), .int (t2.1 8)])), ((a4 1), .inl (q 0, 40, .inl (t2.2 0))), ((a4 2), .inl (q 0, 40, .inl (t2.2 1))), ((a4 3), .inl (q 0, 40, .inl (t2.2 2)))] H := hP
              have hD : va_D _ [((a0 0), .inr (5, [.ref (a1 0), .ref (a2 0), .ref (a3 0), .ref (a4 0), .ref (a5 0), .ref p8, .ref s8])), ((a2 0), .inr (0, [.int (s2.1 0), .int (s2.1 1), .int (s2.1 2), .int (s2.1 3), .int (s2.1 4), .int (s2.1 5), .ref (a2 1), .ref (a2 2), .ref (a2 3), .ref (a2 4), .ref (a2 5), .ref (a2 6), .ref (a2 7), .ref (a2 8), .ref (a2 9), .ref (a2 10), .ref (a2 11), .ref (a2 12)])), ((a2 1), .inl (q 0, 4, .inl (s2.2.1 0))), ((a2 2), .inl (q 0, 4, .inl (s2.2.1 1))), ((a2 3), .inl (q 0, 160, .inl (s2.2.1 2))), ((a2 4), .inl (q 0, 40, .inl (s2.2.1 3))), ((a2 5), .inl (q 0, 40, .inl (s2.2.1 4))), ((a2 6), .inl (q 0, 40, .inl (s2.2.1 5))), ((a2 7), .inl (q 0, 40, .inl (s2.2.1 6))), ((a2 8), .inl (q 0, 40, .inl (s2.2.1 7))), ((a2 9), .inl (q 0, 40, .inl (s2.2.1 8))), ((a2 10), .inl (q 0, 40, .inl (s2.2.1 9))), ((a2 11), .inl (q 1, 40, .inr (.inl s2.2.2.1))), ((a2 12), .inl (q 0, s2.2.2.2.1, .inl s2.2.2.2.2)), ((a4 0), .inr (1, [.ref (a4 1), .ref (a4 2), .ref (a4 3), .int (t2.1 0), .int (t2.1 1), .int (t2.1 2), .int (t2.1 3), .int (t2.1 4), .int (t2.1 5), .int (t2.1 6), .int (t2.1 7), .int (t2.1 8)])), ((a4 1), .inl (q 0, 40, .inl (t2.2 0))), ((a4 2), .inl (q 0, 40, .inl (t2.2 1))), ((a4 3), .inl (q 0, 40, .inl (t2.2 2)))] := hD
              unfold wp_X6_which_L52 at h
              refine lv_iload hx hb dX6_which_52 (lv_at hl 2 rfl) ?_
              refine lv_aload_n hx hb dX6_which_54 rfl (lv_at hl 3 rfl) ?_
              refine fl_get (C := RX6) (T := TX6) (N := 7) (ci := 5) (v := .ref (a2 0)) hx hb ht in_X6 hown hK hP 0 rfl rfl 1 (by decide) mw_356 rfl dX6_which_55 ?_
              refine vp_callSi (rd_wV (wc := bd_w a2 q s2) (As := []) (rest := [.int z4]) hx hb hml hown ht (c2_X0_cells h) wd_X0_cells mw_885 hQ hV hS (hP.sub [1, 2, 3, 4, 5, 6, 7, 8, 9, 10, 11, 12, 13] rfl) rfl rfl rfl hl.1 rfl (Nat.le_of_ble_eq_true rfl) dX6_which_58 ⟨Nat.le_of_ble_eq_true rfl, Nat.le_of_ble_eq_true rfl, rfl, rfl⟩ ⟨Nat.le_of_ble_eq_true rfl, Nat.le_of_ble_eq_true rfl⟩) (fun r_7 h => ?_)
              try dsimp only at h
              refine lv_icmp_ge (tgt := 87) hx hb dX6_which_61 (by decide) (fun c_9 => ?_) (fun c_9 => ?_)
              · replace h := h.1 c_9
                exact k87 _ _ _ _ _ _ ls h (hP.sub (ws' := fo_w (a0 0) (a1 0) (a2 0) (a3 0) (a4 0) (a5 0) p8 s8 ++ bd_w a2 q s2 ++ mo_w a4 q t2) [0, 1, 2, 3, 4, 5, 6, 7, 8, 9, 10, 11, 12, 13, 14, 15, 16, 17] rfl) (hD.sub (ws' := fo_w (a0 0) (a1 0) (a2 0) (a3 0) (a4 0) (a5 0) p8 s8 ++ bd_w a2 q s2 ++ mo_w a4 q t2) [0, 1, 2, 3, 4, 5, 6, 7, 8, 9, 10, 11, 12, 13, 14, 15, 16, 17] (by decide) rfl) hS (lv_sub hl [0, 1, 2, 3] rfl)
              · replace h := h.2 c_9
                refine lv_aload_n hx hb dX6_which_64 rfl (lv_at hl 3 rfl) ?_
                refine lv_iload hx hb dX6_which_65 (lv_at hl 2 rfl) ?_
                refine lv_iload_n hx hb dX6_which_67 rfl (lv_at hl 0 rfl) ?_
                refine vp_callSi (rd_wV (wc := fo_w (a0 0) (a1 0) (a2 0) (a3 0) (a4 0) (a5 0) p8 s8 ++ bd_w a2 q s2) (As := [.int z4, .int z1]) (rest := []) hx hb hml hown ht (c2_X6_isSuch h) wd_X6_isSuch mw_948 hQ hV hS (hP.sub [0, 1, 2, 3, 4, 5, 6, 7, 8, 9, 10, 11, 12, 13] rfl) rfl rfl rfl hl.1 rfl (Nat.le_of_ble_eq_true rfl) dX6_which_68 ⟨Nat.le_of_ble_eq_true rfl, Nat.le_of_ble_eq_true rfl, rfl, rfl⟩ ⟨Nat.le_of_ble_eq_true rfl, Nat.le_of_ble_eq_true rfl⟩) (fun r_10 h => ?_)
                try dsimp only at h
                refine lv_if_eq (tgt := 81) hx hb dX6_which_71 (by decide) (fun c_12 => ?_) (fun c_12 => ?_)
                · replace h := h.1 c_12
                  refine lv_iinc (v := (z4 + 1)) (lv' := [(4, .int (z4 + 1)), (1, .int z1), (2, .long w2), (0, .ref (a0 0))]) hx hb dX6_which_81 hl (k := 2) rfl rfl (by decide) rfl (fun ls hl => ?_)
                  refine lv_goto (tgt := 52) hx hb dX6_which_84 (by decide) ?_
                  exact ih _ _ _ _ _ _ ls h (hP.sub (ws' := fo_w (a0 0) (a1 0) (a2 0) (a3 0) (a4 0) (a5 0) p8 s8 ++ bd_w a2 q s2 ++ mo_w a4 q t2) [0, 1, 2, 3, 4, 5, 6, 7, 8, 9, 10, 11, 12, 13, 14, 15, 16, 17] rfl) (hD.sub (ws' := fo_w (a0 0) (a1 0) (a2 0) (a3 0) (a4 0) (a5 0) p8 s8 ++ bd_w a2 q s2 ++ mo_w a4 q t2) [0, 1, 2, 3, 4, 5, 6, 7, 8, 9, 10, 11, 12, 13, 14, 15, 16, 17] (by decide) rfl) hS (lv_sub hl [1, 2, 0, 3] rfl)
                · replace h := h.2 c_12
                  refine lv_lload_n hx hb dX6_which_74 rfl (lv_at hl 1 rfl) ?_
                  refine lv_lconst (v := 1) hx hb dX6_which_75 (by decide) ?_
                  refine lv_iload hx hb dX6_which_76 (lv_at hl 2 rfl) ?_
                  refine lv_lshl (v := ((1 : Int64) <<< (Int32.toInt64 z4 &&& 63))) hx hb dX6_which_78 rfl ?_
                  refine lv_lor hx hb dX6_which_79 ?_
                  refine lv_lstore_n (lv' := [(2, .long (w2 ||| ((1 : Int64) <<< (Int32.toInt64 z4 &&& 63)))), (1, .int z1), (4, .int z4), (0, .ref (a0 0))]) hx hb dX6_which_80 rfl hl (by decide) rfl (fun ls hl => ?_)
                  refine lv_iinc (v := (z4 + 1)) (lv' := [(4, .int (z4 + 1)), (2, .long (w2 ||| ((1 : Int64) <<< (Int32.toInt64 z4 &&& 63)))), (1, .int z1), (0, .ref (a0 0))]) hx hb dX6_which_81 hl (k := 2) rfl rfl (by decide) rfl (fun ls hl => ?_)
                  refine lv_goto (tgt := 52) hx hb dX6_which_84 (by decide) ?_
                  exact ih _ _ _ _ _ _ ls h (hP.sub (ws' := fo_w (a0 0) (a1 0) (a2 0) (a3 0) (a4 0) (a5 0) p8 s8 ++ bd_w a2 q s2 ++ mo_w a4 q t2) [0, 1, 2, 3, 4, 5, 6, 7, 8, 9, 10, 11, 12, 13, 14, 15, 16, 17] rfl) (hD.sub (ws' := fo_w (a0 0) (a1 0) (a2 0) (a3 0) (a4 0) (a5 0) p8 s8 ++ bd_w a2 q s2 ++ mo_w a4 q t2) [0, 1, 2, 3, 4, 5, 6, 7, 8, 9, 10, 11, 12, 13, 14, 15, 16, 17] (by decide) rfl) hS (lv_sub hl [2, 1, 0, 3] rfl)
          obtain ⟨n52, h⟩ := h
          refine lp52 _ ?_ n52 _ _ _ _ _ _ ls h (hP.sub (ws' := fo_w (a0 0) (a1 0) (a2 0) (a3 0) (a4 0) (a5 0) p8 s8 ++ bd_w a2 q s2 ++ mo_w a4 q s4) [0, 1, 2, 3, 4, 5, 6, 7, 8, 9, 10, 11, 12, 13, 14, 15, 16, 17] rfl) (hD.sub (ws' := fo_w (a0 0) (a1 0) (a2 0) (a3 0) (a4 0) (a5 0) p8 s8 ++ bd_w a2 q s2 ++ mo_w a4 q s4) [0, 1, 2, 3, 4, 5, 6, 7, 8, 9, 10, 11, 12, 13, 14, 15, 16, 17] (by decide) rfl) hS (lv_sub hl [3, 1, 0, 2] rfl)
          · intro t2 z1 w2 z4 H locs ls h hP hD hS hl
            try dsimp only at h
            have hP : va_P D vwCl [((a0 0), .inr (5, [.ref (a1 0), .ref (a2 0), .ref (a3 0), .ref (a4 0), .ref (a5 0), .ref p8, .ref s8])), ((a2 0), .inr (0, [.int (s2.1 0), .int (s2.1 1), .int (s2.1 2), .int (s2.1 3), .int (s2.1 4), .int (s2.1 5), .ref (a2 1), .ref (a2 2), .ref (a2 3), .ref (a2 4), .ref (a2 5), .ref (a2 6), .ref (a2 7), .ref (a2 8), .ref (a2 9), .ref (a2 10), .ref (a2 11), .ref (a2 12)])), ((a2 1), .inl (q 0, 4, .inl (s2.2.1 0))), ((a2 2), .inl (q 0, 4, .inl (s2.2.1 1))), ((a2 3), .inl (q 0, 160, .inl (s2.2.1 2))), ((a2 4), .inl (q 0, 40, .inl (s2.2.1 3))), ((a2 5), .inl (q 0, 40, .inl (s2.2.1 4))), ((a2 6), .inl (q 0, 40, .inl (s2.2.1 5))), ((a2 7), .inl (q 0, 40, .inl (s2.2.1 6))), ((a2 8), .inl (q 0, 40, .inl (s2.2.1 7))), ((a2 9), .inl (q 0, 40, .inl (s2.2.1 8))), ((a2 10), .inl (q 0, 40, .inl (s2.2.1 9))), ((a2 11), .inl (q 1, 40, .inr (.inl s2.2.2.1))), ((a2 12), .inl (q 0, s2.2.2.2.1, .inl s2.2.2.2.2)), ((a4 0), .inr (1, [.ref (a4 1), .ref (a4 2), .ref (a4 3), .int (t2.1 0), .int (t2.1 1), .int (t2.1 2), .int (t2.1 3), .int (t2.1 4), .int (t2.1 5), .int (t2.1 6), .int (t2.1 7), .int (t2.1 8)])), ((a4 1), .inl (q 0, 40, .inl (t2.2 0))), ((a4 2), .inl (q 0, 40, .inl (t2.2 1))), ((a4 3), .inl (q 0, 40, .inl (t2.2 2)))] H := hP
            have hD : va_D _ [((a0 0), .inr (5, [.ref (a1 0), .ref (a2 0), .ref (a3 0), .ref (a4 0), .ref (a5 0), .ref p8, .ref s8])), ((a2 0), .inr (0, [.int (s2.1 0), .int (s2.1 1), .int (s2.1 2), .int (s2.1 3), .int (s2.1 4), .int (s2.1 5), .ref (a2 1), .ref (a2 2), .ref (a2 3), .ref (a2 4), .ref (a2 5), .ref (a2 6), .ref (a2 7), .ref (a2 8), .ref (a2 9), .ref (a2 10), .ref (a2 11), .ref (a2 12)])), ((a2 1), .inl (q 0, 4, .inl (s2.2.1 0))), ((a2 2), .inl (q 0, 4, .inl (s2.2.1 1))), ((a2 3), .inl (q 0, 160, .inl (s2.2.1 2))), ((a2 4), .inl (q 0, 40, .inl (s2.2.1 3))), ((a2 5), .inl (q 0, 40, .inl (s2.2.1 4))), ((a2 6), .inl (q 0, 40, .inl (s2.2.1 5))), ((a2 7), .inl (q 0, 40, .inl (s2.2.1 6))), ((a2 8), .inl (q 0, 40, .inl (s2.2.1 7))), ((a2 9), .inl (q 0, 40, .inl (s2.2.1 8))), ((a2 10), .inl (q 0, 40, .inl (s2.2.1 9))), ((a2 11), .inl (q 1, 40, .inr (.inl s2.2.2.1))), ((a2 12), .inl (q 0, s2.2.2.2.1, .inl s2.2.2.2.2)), ((a4 0), .inr (1, [.ref (a4 1), .ref (a4 2), .ref (a4 3), .int (t2.1 0), .int (t2.1 1), .int (t2.1 2), .int (t2.1 3), .int (t2.1 4), .int (t2.1 5), .int (t2.1 6), .int (t2.1 7), .int (t2.1 8)])), ((a4 1), .inl (q 0, 40, .inl (t2.2 0))), ((a4 2), .inl (q 0, 40, .inl (t2.2 1))), ((a4 3), .inl (q 0, 40, .inl (t2.2 2)))] := hD
            refine lv_lload_n hx hb dX6_which_87 rfl (lv_at hl 1 rfl) ?_
            exact mt_lret t2 hx hb hr hk h (hP.sub (ws' := fo_w (a0 0) (a1 0) (a2 0) (a3 0) (a4 0) (a5 0) p8 s8 ++ bd_w a2 q s2 ++ mo_w a4 q t2) [0, 1, 2, 3, 4, 5, 6, 7, 8, 9, 10, 11, 12, 13, 14, 15, 16, 17] rfl) (hD.sub (ws' := fo_w (a0 0) (a1 0) (a2 0) (a3 0) (a4 0) (a5 0) p8 s8 ++ bd_w a2 q s2 ++ mo_w a4 q t2) [0, 1, 2, 3, 4, 5, 6, 7, 8, 9, 10, 11, 12, 13, 14, 15, 16, 17] (by decide) rfl) hS dX6_which_88
        · replace h := h.2 c_6
          refine lv_aload_n hx hb dX6_which_28 rfl (lv_at hl 0 rfl) ?_
          refine fl_get (C := RX6) (T := TX6) (N := 7) (ci := 5) (v := .ref (a4 0)) hx hb ht in_X6 hown hK hP 0 rfl rfl 3 (by decide) mw_358 rfl dX6_which_29 ?_
          refine lv_aload_n hx hb dX6_which_32 rfl (lv_at hl 0 rfl) ?_
          refine fl_get (C := RX6) (T := TX6) (N := 7) (ci := 5) (v := .ref (a2 0)) hx hb ht in_X6 hown hK hP 0 rfl rfl 1 (by decide) mw_356 rfl dX6_which_33 ?_
          refine mt_gov (mt_wV (wc := mo_w a4 q s4 ++ bd_w a2 q s2) (As := [.ref (a2 0)]) (rest := []) hx hb hml hown ht (c2_X2_choose h) wd_X2_choose mw_725 hQ hV hS hA (hP.sub [14, 15, 16, 17, 1, 2, 3, 4, 5, 6, 7, 8, 9, 10, 11, 12, 13] rfl) (hD.sub [14, 15, 16, 17, 1, 2, 3, 4, 5, 6, 7, 8, 9, 10, 11, 12, 13] (by decide) rfl) rfl rfl rfl hl.1 rfl (Nat.le_of_ble_eq_true rfl) dX6_which_36 ⟨Nat.le_of_ble_eq_true rfl, Nat.le_of_ble_eq_true rfl, rfl, rfl⟩ ⟨Nat.le_of_ble_eq_true rfl, Nat.le_of_ble_eq_true rfl⟩) (wr := [((a0 0), .inr (5, [.ref (a1 0), .ref (a2 0), .ref (a3 0), .ref (a4 0), .ref (a5 0), .ref p8, .ref s8]))]) hP hD hS hA [14, 15, 16, 17, 1, 2, 3, 4, 5, 6, 7, 8, 9, 10, 11, 12, 13] [0] rfl rfl (by decide) (by decide) (fun u_14 H locs h hP hD hS => ?_)
          try dsimp only at h
          have hP : va_P D vwCl [((a0 0), .inr (5, [.ref (a1 0), .ref (a2 0), .ref (a3 0), .ref (a4 0), .ref (a5 0), .ref p8, .ref s8])), ((a4 0), .inr (1, [.ref (a4 1), .ref (a4 2), .ref (a4 3), .int (u_14.1 0), .int (u_14.1 1), .int (u_14.1 2), .int (u_14.1 3), .int (u_14.1 4), .int (u_14.1 5), .int (u_14.1 6), .int (u_14.1 7), .int (u_14.1 8)])), ((a4 1), .inl (q 0, 40, .inl (u_14.2 0))), ((a4 2), .inl (q 0, 40, .inl (u_14.2 1))), ((a4 3), .inl (q 0, 40, .inl (u_14.2 2))), ((a2 0), .inr (0, [.int (s2.1 0), .int (s2.1 1), .int (s2.1 2), .int (s2.1 3), .int (s2.1 4), .int (s2.1 5), .ref (a2 1), .ref (a2 2), .ref (a2 3), .ref (a2 4), .ref (a2 5), .ref (a2 6), .ref (a2 7), .ref (a2 8), .ref (a2 9), .ref (a2 10), .ref (a2 11), .ref (a2 12)])), ((a2 1), .inl (q 0, 4, .inl (s2.2.1 0))), ((a2 2), .inl (q 0, 4, .inl (s2.2.1 1))), ((a2 3), .inl (q 0, 160, .inl (s2.2.1 2))), ((a2 4), .inl (q 0, 40, .inl (s2.2.1 3))), ((a2 5), .inl (q 0, 40, .inl (s2.2.1 4))), ((a2 6), .inl (q 0, 40, .inl (s2.2.1 5))), ((a2 7), .inl (q 0, 40, .inl (s2.2.1 6))), ((a2 8), .inl (q 0, 40, .inl (s2.2.1 7))), ((a2 9), .inl (q 0, 40, .inl (s2.2.1 8))), ((a2 10), .inl (q 0, 40, .inl (s2.2.1 9))), ((a2 11), .inl (q 1, 40, .inr (.inl s2.2.2.1))), ((a2 12), .inl (q 0, s2.2.2.2.1, .inl s2.2.2.2.2))] H := hP
          have hD : va_D _ [((a0 0), .inr (5, [.ref (a1 0), .ref (a2 0), .ref (a3 0), .ref (a4 0), .ref (a5 0), .ref p8, .ref s8])), ((a4 0), .inr (1, [.ref (a4 1), .ref (a4 2), .ref (a4 3), .int (u_14.1 0), .int (u_14.1 1), .int (u_14.1 2), .int (u_14.1 3), .int (u_14.1 4), .int (u_14.1 5), .int (u_14.1 6), .int (u_14.1 7), .int (u_14.1 8)])), ((a4 1), .inl (q 0, 40, .inl (u_14.2 0))), ((a4 2), .inl (q 0, 40, .inl (u_14.2 1))), ((a4 3), .inl (q 0, 40, .inl (u_14.2 2))), ((a2 0), .inr (0, [.int (s2.1 0), .int (s2.1 1), .int (s2.1 2), .int (s2.1 3), .int (s2.1 4), .int (s2.1 5), .ref (a2 1), .ref (a2 2), .ref (a2 3), .ref (a2 4), .ref (a2 5), .ref (a2 6), .ref (a2 7), .ref (a2 8), .ref (a2 9), .ref (a2 10), .ref (a2 11), .ref (a2 12)])), ((a2 1), .inl (q 0, 4, .inl (s2.2.1 0))), ((a2 2), .inl (q 0, 4, .inl (s2.2.1 1))), ((a2 3), .inl (q 0, 160, .inl (s2.2.1 2))), ((a2 4), .inl (q 0, 40, .inl (s2.2.1 3))), ((a2 5), .inl (q 0, 40, .inl (s2.2.1 4))), ((a2 6), .inl (q 0, 40, .inl (s2.2.1 5))), ((a2 7), .inl (q 0, 40, .inl (s2.2.1 6))), ((a2 8), .inl (q 0, 40, .inl (s2.2.1 7))), ((a2 9), .inl (q 0, 40, .inl (s2.2.1 8))), ((a2 10), .inl (q 0, 40, .inl (s2.2.1 9))), ((a2 11), .inl (q 1, 40, .inr (.inl s2.2.2.1))), ((a2 12), .inl (q 0, s2.2.2.2.1, .inl s2.2.2.2.2))] := hD
          refine lv_aload_n hx hb dX6_which_39 rfl (lv_at hl 0 rfl) ?_
          refine fl_get (C := RX6) (T := TX6) (N := 7) (ci := 5) (v := .ref (a4 0)) hx hb ht in_X6 hown hK hP 0 rfl rfl 3 (by decide) mw_358 rfl dX6_which_40 ?_
          refine vp_callSl (rd_wV (wc := mo_w a4 q u_14) (As := []) (rest := []) hx hb hml hown ht (c2_X2_chosenBits h) wd_X2_chosenBits mw_944 hQ hV hS (hP.sub [1, 2, 3, 4] rfl) rfl rfl rfl hl.1 rfl (Nat.le_of_ble_eq_true rfl) dX6_which_43 ⟨Nat.le_of_ble_eq_true rfl, Nat.le_of_ble_eq_true rfl, rfl, rfl⟩ ⟨Nat.le_of_ble_eq_true rfl, Nat.le_of_ble_eq_true rfl⟩) (fun r_15 h => ?_)
          try dsimp only at h
          exact mt_lret u_14 hx hb hr hk h (hP.sub (ws' := fo_w (a0 0) (a1 0) (a2 0) (a3 0) (a4 0) (a5 0) p8 s8 ++ bd_w a2 q s2 ++ mo_w a4 q u_14) [0, 5, 6, 7, 8, 9, 10, 11, 12, 13, 14, 15, 16, 17, 1, 2, 3, 4] rfl) (hD.sub (ws' := fo_w (a0 0) (a1 0) (a2 0) (a3 0) (a4 0) (a5 0) p8 s8 ++ bd_w a2 q s2 ++ mo_w a4 q u_14) [0, 5, 6, 7, 8, 9, 10, 11, 12, 13, 14, 15, 16, 17, 1, 2, 3, 4] (by decide) rfl) hS dX6_which_46
      · replace h := h.2 c_5
        refine lv_ldc2 (v := (-1)) hx hb hown (ht _ mw_899) dX6_which_19 ?_
        exact mt_lret s4 hx hb hr hk h (hP.sub (ws' := fo_w (a0 0) (a1 0) (a2 0) (a3 0) (a4 0) (a5 0) p8 s8 ++ bd_w a2 q s2 ++ mo_w a4 q s4) [0, 1, 2, 3, 4, 5, 6, 7, 8, 9, 10, 11, 12, 13, 14, 15, 16, 17] rfl) (hD.sub (ws' := fo_w (a0 0) (a1 0) (a2 0) (a3 0) (a4 0) (a5 0) p8 s8 ++ bd_w a2 q s2 ++ mo_w a4 q s4) [0, 1, 2, 3, 4, 5, 6, 7, 8, 9, 10, 11, 12, 13, 14, 15, 16, 17] (by decide) rfl) hS dX6_which_22

def wp_X6_leastTicks (post : Int32 → Prop) (s2 : Bd) : Prop := wp_X0_leftOfAll (fun r_1 => ¬ (if (1 : Int32) < (s2.1 2) then (s2.1 2) else (1 : Int32)) = 0 ∧ wp_X0_mostLeft (fun r_4 => post (if r_4 < (((r_1 + (if (1 : Int32) < (s2.1 2) then (s2.1 2) else (1 : Int32))) - 1) / (if (1 : Int32) < (s2.1 2) then (s2.1 2) else (1 : Int32))) then (((r_1 + (if (1 : Int32) < (s2.1 2) then (s2.1 2) else (1 : Int32))) - 1) / (if (1 : Int32) < (s2.1 2) then (s2.1 2) else (1 : Int32))) else r_4)) s2) s2 (1 : Int32)
set_option maxHeartbeats 4000000 in
set_option maxRecDepth 100000 in
theorem c2_X6_leastTicks {l : Launch} {D : va_G} {q : Nat → ClassId} {a0 a1 a2 a3 a4 a5 : Nat → Nat} {p8 s8 : Nat} {s2 : Bd} {post : Int32 → Prop} (h : wp_X6_leastTicks post s2) : Met l yX6_leastTicks (Cond.code yX6_leastTicks cX6_leastTicks 3 (some .int) :: w_all) ({ frames := 2, cells := 0, slots := 0, locals := 62 } : Room) (rd_P D q [.ref (a0 0)] (fo_w (a0 0) (a1 0) (a2 0) (a3 0) (a4 0) (a5 0) p8 s8 ++ bd_w a2 q s2)) (vp_Si post) 0 0 (fun _ => False) := by
  refine rd_start (by decide) (Nat.le_of_ble_eq_true rfl) ?_
  intro p e s m below meth c ls hx hb hr hml hown ht hk hP hQ hV hl
  have hK := hQ.1
  have hown : s.vm.findClass RX6 = some m.cls := hown
  have hl : lv_has ls 3 [(0, .ref (a0 0))] := hl
  have hP : va_P D vwCl [((a0 0), .inr (5, [.ref (a1 0), .ref (a2 0), .ref (a3 0), .ref (a4 0), .ref (a5 0), .ref p8, .ref s8])), ((a2 0), .inr (0, [.int (s2.1 0), .int (s2.1 1), .int (s2.1 2), .int (s2.1 3), .int (s2.1 4), .int (s2.1 5), .ref (a2 1), .ref (a2 2), .ref (a2 3), .ref (a2 4), .ref (a2 5), .ref (a2 6), .ref (a2 7), .ref (a2 8), .ref (a2 9), .ref (a2 10), .ref (a2 11), .ref (a2 12)])), ((a2 1), .inl (q 0, 4, .inl (s2.2.1 0))), ((a2 2), .inl (q 0, 4, .inl (s2.2.1 1))), ((a2 3), .inl (q 0, 160, .inl (s2.2.1 2))), ((a2 4), .inl (q 0, 40, .inl (s2.2.1 3))), ((a2 5), .inl (q 0, 40, .inl (s2.2.1 4))), ((a2 6), .inl (q 0, 40, .inl (s2.2.1 5))), ((a2 7), .inl (q 0, 40, .inl (s2.2.1 6))), ((a2 8), .inl (q 0, 40, .inl (s2.2.1 7))), ((a2 9), .inl (q 0, 40, .inl (s2.2.1 8))), ((a2 10), .inl (q 0, 40, .inl (s2.2.1 9))), ((a2 11), .inl (q 1, 40, .inr (.inl s2.2.2.1))), ((a2 12), .inl (q 0, s2.2.2.2.1, .inl s2.2.2.2.2))] s.heap := hP
  unfold wp_X6_leastTicks at h
  refine lv_iconst (v := 1) hx hb dX6_leastTicks_0 (by decide) ?_
  refine lv_aload_n hx hb dX6_leastTicks_1 rfl (lv_at hl 0 rfl) ?_
  refine fl_get (C := RX6) (T := TX6) (N := 7) (ci := 5) (v := .ref (a2 0)) hx hb ht in_X6 hown hK hP 0 rfl rfl 1 (by decide) mw_356 rfl dX6_leastTicks_2 ?_
  refine fl_get (C := RX0) (T := TX0) (N := 18) (ci := 0) (v := .int (s2.1 2)) hx hb ht in_X0 hown hK hP 1 rfl rfl 2 (by decide) mw_178 rfl dX6_leastTicks_5 ?_
  refine va_mmax hx hb (hml.trans hl.1.symm) hown (ht _ mw_975) (ht _ mw_704) (ht _ mw_110) (ht _ mw_705) (Nat.le_of_ble_eq_true rfl) (Nat.le_of_ble_eq_true rfl) (Nat.le_of_ble_eq_true rfl) (Nat.le_of_ble_eq_true rfl) dX6_leastTicks_8 ?_
  refine lv_istore_n (lv' := [(1, .int (if (1 : Int32) < (s2.1 2) then (s2.1 2) else (1 : Int32))), (0, .ref (a0 0))]) hx hb dX6_leastTicks_11 rfl hl (by decide) rfl (fun ls hl => ?_)
  refine lv_aload_n hx hb dX6_leastTicks_12 rfl (lv_at hl 1 rfl) ?_
  refine fl_get (C := RX6) (T := TX6) (N := 7) (ci := 5) (v := .ref (a2 0)) hx hb ht in_X6 hown hK hP 0 rfl rfl 1 (by decide) mw_356 rfl dX6_leastTicks_13 ?_
  refine lv_iconst (v := 1) hx hb dX6_leastTicks_16 (by decide) ?_
  refine vp_callSi (rd_wV (wc := bd_w a2 q s2) (As := [.int 1]) (rest := []) hx hb hml hown ht (c2_X0_leftOfAll h) wd_X0_leftOfAll mw_961 hQ hV va_S.rf (hP.sub [1, 2, 3, 4, 5, 6, 7, 8, 9, 10, 11, 12, 13] rfl) rfl rfl rfl hl.1 rfl (Nat.le_of_ble_eq_true rfl) dX6_leastTicks_17 ⟨Nat.le_of_ble_eq_true rfl, Nat.le_of_ble_eq_true rfl, rfl, rfl⟩ ⟨Nat.le_of_ble_eq_true rfl, Nat.le_of_ble_eq_true rfl⟩) (fun r_1 h => ?_)
  try dsimp only at h
  refine lv_iload_n hx hb dX6_leastTicks_20 rfl (lv_at hl 0 rfl) ?_
  refine lv_iadd hx hb dX6_leastTicks_21 ?_
  refine lv_iconst (v := 1) hx hb dX6_leastTicks_22 (by decide) ?_
  refine lv_isub hx hb dX6_leastTicks_23 ?_
  refine lv_iload_n hx hb dX6_leastTicks_24 rfl (lv_at hl 0 rfl) ?_
  obtain ⟨g_3, h⟩ := h
  refine lv_idiv hx hb dX6_leastTicks_25 g_3 ?_
  refine lv_istore_n (lv' := [(2, .int (((r_1 + (if (1 : Int32) < (s2.1 2) then (s2.1 2) else (1 : Int32))) - 1) / (if (1 : Int32) < (s2.1 2) then (s2.1 2) else (1 : Int32)))), (1, .int (if (1 : Int32) < (s2.1 2) then (s2.1 2) else (1 : Int32))), (0, .ref (a0 0))]) hx hb dX6_leastTicks_26 rfl hl (by decide) rfl (fun ls hl => ?_)
  refine lv_aload_n hx hb dX6_leastTicks_27 rfl (lv_at hl 2 rfl) ?_
  refine fl_get (C := RX6) (T := TX6) (N := 7) (ci := 5) (v := .ref (a2 0)) hx hb ht in_X6 hown hK hP 0 rfl rfl 1 (by decide) mw_356 rfl dX6_leastTicks_28 ?_
  refine vp_callSi (rd_wV (wc := bd_w a2 q s2) (As := []) (rest := []) hx hb hml hown ht (c2_X0_mostLeft h) wd_X0_mostLeft mw_967 hQ hV va_S.rf (hP.sub [1, 2, 3, 4, 5, 6, 7, 8, 9, 10, 11, 12, 13] rfl) rfl rfl rfl hl.1 rfl (Nat.le_of_ble_eq_true rfl) dX6_leastTicks_31 ⟨Nat.le_of_ble_eq_true rfl, Nat.le_of_ble_eq_true rfl, rfl, rfl⟩ ⟨Nat.le_of_ble_eq_true rfl, Nat.le_of_ble_eq_true rfl⟩) (fun r_4 h => ?_)
  try dsimp only at h
  refine lv_iload_n hx hb dX6_leastTicks_34 rfl (lv_at hl 0 rfl) ?_
  refine va_mmax hx hb (hml.trans hl.1.symm) hown (ht _ mw_975) (ht _ mw_704) (ht _ mw_110) (ht _ mw_705) (Nat.le_of_ble_eq_true rfl) (Nat.le_of_ble_eq_true rfl) (Nat.le_of_ble_eq_true rfl) (Nat.le_of_ble_eq_true rfl) dX6_leastTicks_35 ?_
  exact rd_iret hx hb hr hk h dX6_leastTicks_38

def wp_X6_left (post : Int32 → Prop) (s2 : Bd) (x1 : Int32) : Prop := wp_X0_isThere (fun r_1 => ((¬ r_1 = 0 → ((x1 = 0 → wp_X0_leftOfAll (fun r_5 => post r_5) s2 (0 : Int32)) ∧ (¬ x1 = 0 → ((x1 = 1 → wp_X0_mostLeft (fun r_8 => post r_8) s2) ∧ (¬ x1 = 1 → ((x1 = 2 → wp_X0_leftOfAll (fun r_11 => post r_11) s2 (1 : Int32)) ∧ (¬ x1 = 2 → ((x1 = 3 → wp_X6_leastTicks (fun r_14 => post r_14) s2) ∧ (¬ x1 = 3 → post (-1)))))))))) ∧ (r_1 = 0 → post (-1)))) s2
set_option maxHeartbeats 4000000 in
set_option maxRecDepth 100000 in
theorem c2_X6_left {l : Launch} {D : va_G} {q : Nat → ClassId} {a0 a1 a2 a3 a4 a5 : Nat → Nat} {p8 s8 : Nat} {s2 : Bd} {x1 : Int32} {post : Int32 → Prop} (h : wp_X6_left post s2 x1) : Met l yX6_left (Cond.code yX6_left cX6_left 2 (some .int) :: w_all) ({ frames := 3, cells := 0, slots := 0, locals := 84 } : Room) (rd_P D q [.ref (a0 0), .int x1] (fo_w (a0 0) (a1 0) (a2 0) (a3 0) (a4 0) (a5 0) p8 s8 ++ bd_w a2 q s2)) (vp_Si post) 0 0 (fun _ => False) := by
  refine rd_start (by decide) (Nat.le_of_ble_eq_true rfl) ?_
  intro p e s m below meth c ls hx hb hr hml hown ht hk hP hQ hV hl
  have hK := hQ.1
  have hown : s.vm.findClass RX6 = some m.cls := hown
  have hl : lv_has ls 2 [(0, .ref (a0 0)), (1, .int x1)] := hl
  have hP : va_P D vwCl [((a0 0), .inr (5, [.ref (a1 0), .ref (a2 0), .ref (a3 0), .ref (a4 0), .ref (a5 0), .ref p8, .ref s8])), ((a2 0), .inr (0, [.int (s2.1 0), .int (s2.1 1), .int (s2.1 2), .int (s2.1 3), .int (s2.1 4), .int (s2.1 5), .ref (a2 1), .ref (a2 2), .ref (a2 3), .ref (a2 4), .ref (a2 5), .ref (a2 6), .ref (a2 7), .ref (a2 8), .ref (a2 9), .ref (a2 10), .ref (a2 11), .ref (a2 12)])), ((a2 1), .inl (q 0, 4, .inl (s2.2.1 0))), ((a2 2), .inl (q 0, 4, .inl (s2.2.1 1))), ((a2 3), .inl (q 0, 160, .inl (s2.2.1 2))), ((a2 4), .inl (q 0, 40, .inl (s2.2.1 3))), ((a2 5), .inl (q 0, 40, .inl (s2.2.1 4))), ((a2 6), .inl (q 0, 40, .inl (s2.2.1 5))), ((a2 7), .inl (q 0, 40, .inl (s2.2.1 6))), ((a2 8), .inl (q 0, 40, .inl (s2.2.1 7))), ((a2 9), .inl (q 0, 40, .inl (s2.2.1 8))), ((a2 10), .inl (q 0, 40, .inl (s2.2.1 9))), ((a2 11), .inl (q 1, 40, .inr (.inl s2.2.2.1))), ((a2 12), .inl (q 0, s2.2.2.2.1, .inl s2.2.2.2.2))] s.heap := hP
  unfold wp_X6_left at h
  refine lv_aload_n hx hb dX6_left_0 rfl (lv_at hl 0 rfl) ?_
  refine fl_get (C := RX6) (T := TX6) (N := 7) (ci := 5) (v := .ref (a2 0)) hx hb ht in_X6 hown hK hP 0 rfl rfl 1 (by decide) mw_356 rfl dX6_left_1 ?_
  refine vp_callSi (rd_wV (wc := bd_w a2 q s2) (As := []) (rest := []) hx hb hml hown ht (c2_X0_isThere h) wd_X0_isThere mw_677 hQ hV va_S.rf (hP.sub [1, 2, 3, 4, 5, 6, 7, 8, 9, 10, 11, 12, 13] rfl) rfl rfl rfl hl.1 rfl (Nat.le_of_ble_eq_true rfl) dX6_left_4 ⟨Nat.le_of_ble_eq_true rfl, Nat.le_of_ble_eq_true rfl, rfl, rfl⟩ ⟨Nat.le_of_ble_eq_true rfl, Nat.le_of_ble_eq_true rfl⟩) (fun r_1 h => ?_)
  try dsimp only at h
  refine lv_if_ne (tgt := 12) hx hb dX6_left_7 (by decide) (fun c_3 => ?_) (fun c_3 => ?_)
  · replace h := h.1 c_3
    refine lv_iload_n hx hb dX6_left_12 rfl (lv_at hl 1 rfl) ?_
    by_cases k_4 : x1 = 0
    · replace h := h.1 k_4
      refine lv_tableIn (tgt := 44) hx hb dX6_left_13 (by rw [k_4]; decide) (by rw [k_4]; decide) (by rw [k_4]; rfl) (by decide) ?_
      refine lv_aload_n hx hb dX6_left_44 rfl (lv_at hl 0 rfl) ?_
      refine fl_get (C := RX6) (T := TX6) (N := 7) (ci := 5) (v := .ref (a2 0)) hx hb ht in_X6 hown hK hP 0 rfl rfl 1 (by decide) mw_356 rfl dX6_left_45 ?_
      refine lv_iconst (v := 0) hx hb dX6_left_48 (by decide) ?_
      refine vp_callSi (rd_wV (wc := bd_w a2 q s2) (As := [.int 0]) (rest := []) hx hb hml hown ht (c2_X0_leftOfAll h) wd_X0_leftOfAll mw_961 hQ hV va_S.rf (hP.sub [1, 2, 3, 4, 5, 6, 7, 8, 9, 10, 11, 12, 13] rfl) rfl rfl rfl hl.1 rfl (Nat.le_of_ble_eq_true rfl) dX6_left_49 ⟨Nat.le_of_ble_eq_true rfl, Nat.le_of_ble_eq_true rfl, rfl, rfl⟩ ⟨Nat.le_of_ble_eq_true rfl, Nat.le_of_ble_eq_true rfl⟩) (fun r_5 h => ?_)
      try dsimp only at h
      exact rd_iret hx hb hr hk h dX6_left_52
    replace h := h.2 k_4
    by_cases k_7 : x1 = 1
    · replace h := h.1 k_7
      refine lv_tableIn (tgt := 53) hx hb dX6_left_13 (by rw [k_7]; decide) (by rw [k_7]; decide) (by rw [k_7]; rfl) (by decide) ?_
      refine lv_aload_n hx hb dX6_left_53 rfl (lv_at hl 0 rfl) ?_
      refine fl_get (C := RX6) (T := TX6) (N := 7) (ci := 5) (v := .ref (a2 0)) hx hb ht in_X6 hown hK hP 0 rfl rfl 1 (by decide) mw_356 rfl dX6_left_54 ?_
      refine vp_callSi (rd_wV (wc := bd_w a2 q s2) (As := []) (rest := []) hx hb hml hown ht (c2_X0_mostLeft h) wd_X0_mostLeft mw_967 hQ hV va_S.rf (hP.sub [1, 2, 3, 4, 5, 6, 7, 8, 9, 10, 11, 12, 13] rfl) rfl rfl rfl hl.1 rfl (Nat.le_of_ble_eq_true rfl) dX6_left_57 ⟨Nat.le_of_ble_eq_true rfl, Nat.le_of_ble_eq_true rfl, rfl, rfl⟩ ⟨Nat.le_of_ble_eq_true rfl, Nat.le_of_ble_eq_true rfl⟩) (fun r_8 h => ?_)
      try dsimp only at h
      exact rd_iret hx hb hr hk h dX6_left_60
    replace h := h.2 k_7
    by_cases k_10 : x1 = 2
    · replace h := h.1 k_10
      refine lv_tableIn (tgt := 61) hx hb dX6_left_13 (by rw [k_10]; decide) (by rw [k_10]; decide) (by rw [k_10]; rfl) (by decide) ?_
      refine lv_aload_n hx hb dX6_left_61 rfl (lv_at hl 0 rfl) ?_
      refine fl_get (C := RX6) (T := TX6) (N := 7) (ci := 5) (v := .ref (a2 0)) hx hb ht in_X6 hown hK hP 0 rfl rfl 1 (by decide) mw_356 rfl dX6_left_62 ?_
      refine lv_iconst (v := 1) hx hb dX6_left_65 (by decide) ?_
      refine vp_callSi (rd_wV (wc := bd_w a2 q s2) (As := [.int 1]) (rest := []) hx hb hml hown ht (c2_X0_leftOfAll h) wd_X0_leftOfAll mw_961 hQ hV va_S.rf (hP.sub [1, 2, 3, 4, 5, 6, 7, 8, 9, 10, 11, 12, 13] rfl) rfl rfl rfl hl.1 rfl (Nat.le_of_ble_eq_true rfl) dX6_left_66 ⟨Nat.le_of_ble_eq_true rfl, Nat.le_of_ble_eq_true rfl, rfl, rfl⟩ ⟨Nat.le_of_ble_eq_true rfl, Nat.le_of_ble_eq_true rfl⟩) (fun r_11 h => ?_)
      try dsimp only at h
      exact rd_iret hx hb hr hk h dX6_left_69
    replace h := h.2 k_10
    by_cases k_13 : x1 = 3
    · replace h := h.1 k_13
      refine lv_tableIn (tgt := 70) hx hb dX6_left_13 (by rw [k_13]; decide) (by rw [k_13]; decide) (by rw [k_13]; rfl) (by decide) ?_
      refine lv_aload_n hx hb dX6_left_70 rfl (lv_at hl 0 rfl) ?_
      refine vp_callSi (rd_wV (wc := fo_w (a0 0) (a1 0) (a2 0) (a3 0) (a4 0) (a5 0) p8 s8 ++ bd_w a2 q s2) (As := []) (rest := []) hx hb hml hown ht (c2_X6_leastTicks h) wd_X6_leastTicks mw_971 hQ hV va_S.rf (hP.sub [0, 1, 2, 3, 4, 5, 6, 7, 8, 9, 10, 11, 12, 13] rfl) rfl rfl rfl hl.1 rfl (Nat.le_of_ble_eq_true rfl) dX6_left_71 ⟨Nat.le_of_ble_eq_true rfl, Nat.le_of_ble_eq_true rfl, rfl, rfl⟩ ⟨Nat.le_of_ble_eq_true rfl, Nat.le_of_ble_eq_true rfl⟩) (fun r_14 h => ?_)
      try dsimp only at h
      exact rd_iret hx hb hr hk h dX6_left_74
    replace h := h.2 k_13
    refine lv_tableOut (tgt := 75) hx hb dX6_left_13 (by have g0 := k_4; have g1 := k_7; have g2 := k_10; have g3 := k_13; (try simp only [lg_cmp_ge, lg_cmp_le, lg_cmp_gt, lg_cmp_lt, lg_cmp_eq] at g0 g1 g2 g3); (try simp only [Int32.lt_iff_toInt_lt, Int32.le_iff_toInt_le, ← Int32.toInt_inj, Int32.reduceToInt, Int64.lt_iff_toInt_lt, Int64.le_iff_toInt_le, ← Int64.toInt_inj, Int64.reduceToInt, Int32.toInt_toInt64] at g0 g1 g2 g3); omega) (by decide) ?_
    refine lv_iconst (v := (-1)) hx hb dX6_left_75 (by decide) ?_
    exact rd_iret hx hb hr hk h dX6_left_76
  · replace h := h.2 c_3
    refine lv_iconst (v := (-1)) hx hb dX6_left_10 (by decide) ?_
    exact rd_iret hx hb hr hk h dX6_left_11

def wp_X6_tryToSettle (post : Bd → Mo → Prop) (s2 : Bd) (s3 : Bd) (s4 : Mo) : Prop := wp_X0_copyAllButLog (fun u_2 => wp_X2_turn (fun u_4a u_4b => post u_4b u_4a) s4 u_2 (9999 : Int32)) s3 s2
set_option maxHeartbeats 4000000 in
set_option maxRecDepth 100000 in
theorem c2_X6_tryToSettle {l : Launch} {D : va_G} {q : Nat → ClassId} {sz : Nat} {a0 a1 a2 a3 a4 a5 : Nat → Nat} {p8 s8 : Nat} {s2 : Bd} {s3 : Bd} {s4 : Mo} {post : Bd → Mo → Prop} (h : wp_X6_tryToSettle post s2 s3 s4) : Met l yX6_tryToSettle (Cond.code yX6_tryToSettle cX6_tryToSettle 1 none :: w_all) ({ frames := 4, cells := 0, slots := 0, locals := 114 } : Room) (mt_P D q [.ref (a0 0)] (fo_w (a0 0) (a1 0) (a2 0) (a3 0) (a4 0) (a5 0) p8 s8 ++ bd_w a2 q s2 ++ bd_w a3 q s3 ++ mo_w a4 q s4) sz) (va_Qv (fun u : Bd × Mo => post u.1 u.2) (mt_B D (fo_w (a0 0) (a1 0) (a2 0) (a3 0) (a4 0) (a5 0) p8 s8 ++ bd_w a2 q s2 ++ bd_w a3 q s3 ++ mo_w a4 q s4) sz (fun u : Bd × Mo => fo_w (a0 0) (a1 0) (a2 0) (a3 0) (a4 0) (a5 0) p8 s8 ++ bd_w a2 q s2 ++ bd_w a3 q u.1 ++ mo_w a4 q u.2)) (va_A (fo_w (a0 0) (a1 0) (a2 0) (a3 0) (a4 0) (a5 0) p8 s8 ++ bd_w a2 q s2 ++ bd_w a3 q s3 ++ mo_w a4 q s4) sz)) 0 0 (va_A (fo_w (a0 0) (a1 0) (a2 0) (a3 0) (a4 0) (a5 0) p8 s8 ++ bd_w a2 q s2 ++ bd_w a3 q s3 ++ mo_w a4 q s4) sz) := by
  refine mt_start (by decide) (Nat.le_of_ble_eq_true rfl) ?_
  intro p e s m below meth c ls hx hb hr hml hown ht hk hin hP hQ hD hA hS hV hl
  have hK := hQ.1
  have hown : s.vm.findClass RX6 = some m.cls := hown
  have hl : lv_has ls 1 [(0, .ref (a0 0))] := hl
  have hP : va_P D vwCl [((a0 0), .inr (5, [.ref (a1 0), .ref (a2 0), .ref (a3 0), .ref (a4 0), .ref (a5 0), .ref p8, .ref s8])), ((a2 0), .inr (0, [.int (s2.1 0), .int (s2.1 1), .int (s2.1 2), .int (s2.1 3), .int (s2.1 4), .int (s2.1 5), .ref (a2 1), .ref (a2 2), .ref (a2 3), .ref (a2 4), .ref (a2 5), .ref (a2 6), .ref (a2 7), .ref (a2 8), .ref (a2 9), .ref (a2 10), .ref (a2 11), .ref (a2 12)])), ((a2 1), .inl (q 0, 4, .inl (s2.2.1 0))), ((a2 2), .inl (q 0, 4, .inl (s2.2.1 1))), ((a2 3), .inl (q 0, 160, .inl (s2.2.1 2))), ((a2 4), .inl (q 0, 40, .inl (s2.2.1 3))), ((a2 5), .inl (q 0, 40, .inl (s2.2.1 4))), ((a2 6), .inl (q 0, 40, .inl (s2.2.1 5))), ((a2 7), .inl (q 0, 40, .inl (s2.2.1 6))), ((a2 8), .inl (q 0, 40, .inl (s2.2.1 7))), ((a2 9), .inl (q 0, 40, .inl (s2.2.1 8))), ((a2 10), .inl (q 0, 40, .inl (s2.2.1 9))), ((a2 11), .inl (q 1, 40, .inr (.inl s2.2.2.1))), ((a2 12), .inl (q 0, s2.2.2.2.1, .inl s2.2.2.2.2)), ((a3 0), .inr (0, [.int (s3.1 0), .int (s3.1 1), .int (s3.1 2), .int (s3.1 3), .int (s3.1 4), .int (s3.1 5), .ref (a3 1), .ref (a3 2), .ref (a3 3), .ref (a3 4), .ref (a3 5), .ref (a3 6), .ref (a3 7), .ref (a3 8), .ref (a3 9), .ref (a3 10), .ref (a3 11), .ref (a3 12)])), ((a3 1), .inl (q 0, 4, .inl (s3.2.1 0))), ((a3 2), .inl (q 0, 4, .inl (s3.2.1 1))), ((a3 3), .inl (q 0, 160, .inl (s3.2.1 2))), ((a3 4), .inl (q 0, 40, .inl (s3.2.1 3))), ((a3 5), .inl (q 0, 40, .inl (s3.2.1 4))), ((a3 6), .inl (q 0, 40, .inl (s3.2.1 5))), ((a3 7), .inl (q 0, 40, .inl (s3.2.1 6))), ((a3 8), .inl (q 0, 40, .inl (s3.2.1 7))), ((a3 9), .inl (q 0, 40, .inl (s3.2.1 8))), ((a3 10), .inl (q 0, 40, .inl (s3.2.1 9))), ((a3 11), .inl (q 1, 40, .inr (.inl s3.2.2.1))), ((a3 12), .inl (q 0, s3.2.2.2.1, .inl s3.2.2.2.2)), ((a4 0), .inr (1, [.ref (a4 1), .ref (a4 2), .ref (a4 3), .int (s4.1 0), .int (s4.1 1), .int (s4.1 2), .int (s4.1 3), .int (s4.1 4), .int (s4.1 5), .int (s4.1 6), .int (s4.1 7), .int (s4.1 8)])), ((a4 1), .inl (q 0, 40, .inl (s4.2 0))), ((a4 2), .inl (q 0, 40, .inl (s4.2 1))), ((a4 3), .inl (q 0, 40, .inl (s4.2 2)))] s.heap := hP
  have hD : va_D _ [((a0 0), .inr (5, [.ref (a1 0), .ref (a2 0), .ref (a3 0), .ref (a4 0), .ref (a5 0), .ref p8, .ref s8])), ((a2 0), .inr (0, [.int (s2.1 0), .int (s2.1 1), .int (s2.1 2), .int (s2.1 3), .int (s2.1 4), .int (s2.1 5), .ref (a2 1), .ref (a2 2), .ref (a2 3), .ref (a2 4), .ref (a2 5), .ref (a2 6), .ref (a2 7), .ref (a2 8), .ref (a2 9), .ref (a2 10), .ref (a2 11), .ref (a2 12)])), ((a2 1), .inl (q 0, 4, .inl (s2.2.1 0))), ((a2 2), .inl (q 0, 4, .inl (s2.2.1 1))), ((a2 3), .inl (q 0, 160, .inl (s2.2.1 2))), ((a2 4), .inl (q 0, 40, .inl (s2.2.1 3))), ((a2 5), .inl (q 0, 40, .inl (s2.2.1 4))), ((a2 6), .inl (q 0, 40, .inl (s2.2.1 5))), ((a2 7), .inl (q 0, 40, .inl (s2.2.1 6))), ((a2 8), .inl (q 0, 40, .inl (s2.2.1 7))), ((a2 9), .inl (q 0, 40, .inl (s2.2.1 8))), ((a2 10), .inl (q 0, 40, .inl (s2.2.1 9))), ((a2 11), .inl (q 1, 40, .inr (.inl s2.2.2.1))), ((a2 12), .inl (q 0, s2.2.2.2.1, .inl s2.2.2.2.2)), ((a3 0), .inr (0, [.int (s3.1 0), .int (s3.1 1), .int (s3.1 2), .int (s3.1 3), .int (s3.1 4), .int (s3.1 5), .ref (a3 1), .ref (a3 2), .ref (a3 3), .ref (a3 4), .ref (a3 5), .ref (a3 6), .ref (a3 7), .ref (a3 8), .ref (a3 9), .ref (a3 10), .ref (a3 11), .ref (a3 12)])), ((a3 1), .inl (q 0, 4, .inl (s3.2.1 0))), ((a3 2), .inl (q 0, 4, .inl (s3.2.1 1))), ((a3 3), .inl (q 0, 160, .inl (s3.2.1 2))), ((a3 4), .inl (q 0, 40, .inl (s3.2.1 3))), ((a3 5), .inl (q 0, 40, .inl (s3.2.1 4))), ((a3 6), .inl (q 0, 40, .inl (s3.2.1 5))), ((a3 7), .inl (q 0, 40, .inl (s3.2.1 6))), ((a3 8), .inl (q 0, 40, .inl (s3.2.1 7))), ((a3 9), .inl (q 0, 40, .inl (s3.2.1 8))), ((a3 10), .inl (q 0, 40, .inl (s3.2.1 9))), ((a3 11), .inl (q 1, 40, .inr (.inl s3.2.2.1))), ((a3 12), .inl (q 0, s3.2.2.2.1, .inl s3.2.2.2.2)), ((a4 0), .inr (1, [.ref (a4 1), .ref (a4 2), .ref (a4 3), .int (s4.1 0), .int (s4.1 1), .int (s4.1 2), .int (s4.1 3), .int (s4.1 4), .int (s4.1 5), .int (s4.1 6), .int (s4.1 7), .int (s4.1 8)])), ((a4 1), .inl (q 0, 40, .inl (s4.2 0))), ((a4 2), .inl (q 0, 40, .inl (s4.2 1))), ((a4 3), .inl (q 0, 40, .inl (s4.2 2)))] := hD
  unfold wp_X6_tryToSettle at h
  refine lv_aload_n hx hb dX6_tryToSettle_0 rfl (lv_at hl 0 rfl) ?_
  refine fl_get (C := RX6) (T := TX6) (N := 7) (ci := 5) (v := .ref (a3 0)) hx hb ht in_X6 hown hK hP 0 rfl rfl 2 (by decide) mw_357 rfl dX6_tryToSettle_1 ?_
  refine lv_aload_n hx hb dX6_tryToSettle_4 rfl (lv_at hl 0 rfl) ?_
  refine fl_get (C := RX6) (T := TX6) (N := 7) (ci := 5) (v := .ref (a2 0)) hx hb ht in_X6 hown hK hP 0 rfl rfl 1 (by decide) mw_356 rfl dX6_tryToSettle_5 ?_
  refine mt_gov (mt_wV (wc := bd_w a3 q s3 ++ bd_w a2 q s2) (As := [.ref (a2 0)]) (rest := []) hx hb hml hown ht (c2_X0_copyAllButLog h) wd_X0_copyAllButLog mw_590 hQ hV hS hA (hP.sub [14, 15, 16, 17, 18, 19, 20, 21, 22, 23, 24, 25, 26, 1, 2, 3, 4, 5, 6, 7, 8, 9, 10, 11, 12, 13] rfl) (hD.sub [14, 15, 16, 17, 18, 19, 20, 21, 22, 23, 24, 25, 26, 1, 2, 3, 4, 5, 6, 7, 8, 9, 10, 11, 12, 13] (by decide) rfl) rfl rfl rfl hl.1 rfl (Nat.le_of_ble_eq_true rfl) dX6_tryToSettle_8 ⟨Nat.le_of_ble_eq_true rfl, Nat.le_of_ble_eq_true rfl, rfl, rfl⟩ ⟨Nat.le_of_ble_eq_true rfl, Nat.le_of_ble_eq_true rfl⟩) (wr := [((a0 0), .inr (5, [.ref (a1 0), .ref (a2 0), .ref (a3 0), .ref (a4 0), .ref (a5 0), .ref p8, .ref s8])), ((a4 0), .inr (1, [.ref (a4 1), .ref (a4 2), .ref (a4 3), .int (s4.1 0), .int (s4.1 1), .int (s4.1 2), .int (s4.1 3), .int (s4.1 4), .int (s4.1 5), .int (s4.1 6), .int (s4.1 7), .int (s4.1 8)])), ((a4 1), .inl (q 0, 40, .inl (s4.2 0))), ((a4 2), .inl (q 0, 40, .inl (s4.2 1))), ((a4 3), .inl (q 0, 40, .inl (s4.2 2)))]) hP hD hS hA [14, 15, 16, 17, 18, 19, 20, 21, 22, 23, 24, 25, 26, 1, 2, 3, 4, 5, 6, 7, 8, 9, 10, 11, 12, 13] [0, 27, 28, 29, 30] rfl rfl (by decide) (by decide) (fun u_2 H locs h hP hD hS => ?_)
  try dsimp only at h
  have hP : va_P D vwCl [((a0 0), .inr (5, [.ref (a1 0), .ref (a2 0), .ref (a3 0), .ref (a4 0), .ref (a5 0), .ref p8, .ref s8])), ((a4 0), .inr (1, [.ref (a4 1), .ref (a4 2), .ref (a4 3), .int (s4.1 0), .int (s4.1 1), .int (s4.1 2), .int (s4.1 3), .int (s4.1 4), .int (s4.1 5), .int (s4.1 6), .int (s4.1 7), .int (s4.1 8)])), ((a4 1), .inl (q 0, 40, .inl (s4.2 0))), ((a4 2), .inl (q 0, 40, .inl (s4.2 1))), ((a4 3), .inl (q 0, 40, .inl (s4.2 2))), ((a3 0), .inr (0, [.int (u_2.1 0), .int (u_2.1 1), .int (u_2.1 2), .int (u_2.1 3), .int (u_2.1 4), .int (u_2.1 5), .ref (a3 1), .ref (a3 2), .ref (a3 3), .ref (a3 4), .ref (a3 5), .ref (a3 6), .ref (a3 7), .ref (a3 8), .ref (a3 9), .ref (a3 10), .ref (a3 11), .ref (a3 12)])), ((a3 1), .inl (q 0, 4, .inl (u_2.2.1 0))), ((a3 2), .inl (q 0, 4, .inl (u_2.2.1 1))), ((a3 3), .inl (q 0, 160, .inl (u_2.2.1 2))), ((a3 4), .inl (q 0, 40, .inl (u_2.2.1 3))), ((a3 5), .inl (q 0, 40, .inl (u_2.2.1 4))), ((a3 6), .inl (q 0, 40, .inl (u_2.2.1 5))), ((a3 7), .inl (q 0, 40, .inl (u_2.2.1 6))), ((a3 8), .inl (q 0, 40, .inl (u_2.2.1 7))), ((a3 9), .inl (q 0, 40, .inl (u_2.2.1 8))), ((a3 10), .inl (q 0, 40, .inl (u_2.2.1 9))), ((a3 11), .inl (q 1, 40, .inr (.inl u_2.2.2.1))), ((a3 12), .inl (q 0, u_2.2.2.2.1, .inl u_2.2.2.2.2)), ((a2 0), .inr (0, [.int (s2.1 0), .int (s2.1 1), .int (s2.1 2), .int (s2.1 3), .int (s2.1 4), .int (s2.1 5), .ref (a2 1), .ref (a2 2), .ref (a2 3), .ref (a2 4), .ref (a2 5), .ref (a2 6), .ref (a2 7), .ref (a2 8), .ref (a2 9), .ref (a2 10), .ref (a2 11), .ref (a2 12)])), ((a2 1), .inl (q 0, 4, .inl (s2.2.1 0))), ((a2 2), .inl (q 0, 4, .inl (s2.2.1 1))), ((a2 3), .inl (q 0, 160, .inl (s2.2.1 2))), ((a2 4), .inl (q 0, 40, .inl (s2.2.1 3))), ((a2 5), .inl (q 0, 40, .inl (s2.2.1 4))), ((a2 6), .inl (q 0, 40, .inl (s2.2.1 5))), ((a2 7), .inl (q 0, 40, .inl (s2.2.1 6))), ((a2 8), .inl (q 0, 40, .inl (s2.2.1 7))), ((a2 9), .inl (q 0, 40, .inl (s2.2.1 8))), ((a2 10), .inl (q 0, 40, .inl (s2.2.1 9))), ((a2 11), .inl (q 1, 40, .inr (.inl s2.2.2.1))), ((a2 12), .inl (q 0, s2.2.2.2.1, .inl s2.2.2.2.2))] H := hP
  have hD : va_D _ [((a0 0), .inr (5, [.ref (a1 0), .ref (a2 0), .ref (a3 0), .ref (a4 0), .ref (a5 0), .ref p8, .ref s8])), ((a4 0), .inr (1, [.ref (a4 1), .ref (a4 2), .ref (a4 3), .int (s4.1 0), .int (s4.1 1), .int (s4.1 2), .int (s4.1 3), .int (s4.1 4), .int (s4.1 5), .int (s4.1 6), .int (s4.1 7), .int (s4.1 8)])), ((a4 1), .inl (q 0, 40, .inl (s4.2 0))), ((a4 2), .inl (q 0, 40, .inl (s4.2 1))), ((a4 3), .inl (q 0, 40, .inl (s4.2 2))), ((a3 0), .inr (0, [.int (u_2.1 0), .int (u_2.1 1), .int (u_2.1 2), .int (u_2.1 3), .int (u_2.1 4), .int (u_2.1 5), .ref (a3 1), .ref (a3 2), .ref (a3 3), .ref (a3 4), .ref (a3 5), .ref (a3 6), .ref (a3 7), .ref (a3 8), .ref (a3 9), .ref (a3 10), .ref (a3 11), .ref (a3 12)])), ((a3 1), .inl (q 0, 4, .inl (u_2.2.1 0))), ((a3 2), .inl (q 0, 4, .inl (u_2.2.1 1))), ((a3 3), .inl (q 0, 160, .inl (u_2.2.1 2))), ((a3 4), .inl (q 0, 40, .inl (u_2.2.1 3))), ((a3 5), .inl (q 0, 40, .inl (u_2.2.1 4))), ((a3 6), .inl (q 0, 40, .inl (u_2.2.1 5))), ((a3 7), .inl (q 0, 40, .inl (u_2.2.1 6))), ((a3 8), .inl (q 0, 40, .inl (u_2.2.1 7))), ((a3 9), .inl (q 0, 40, .inl (u_2.2.1 8))), ((a3 10), .inl (q 0, 40, .inl (u_2.2.1 9))), ((a3 11), .inl (q 1, 40, .inr (.inl u_2.2.2.1))), ((a3 12), .inl (q 0, u_2.2.2.2.1, .inl u_2.2.2.2.2)), ((a2 0), .inr (0, [.int (s2.1 0), .int (s2.1 1), .int (s2.1 2), .int (s2.1 3), .int (s2.1 4), .int (s2.1 5), .ref (a2 1), .ref (a2 2), .ref (a2 3), .ref (a2 4), .ref (a2 5), .ref (a2 6), .ref (a2 7), .ref (a2 8), .ref (a2 9), .ref (a2 10), .ref (a2 11), .ref (a2 12)])), ((a2 1), .inl (q 0, 4, .inl (s2.2.1 0))), ((a2 2), .inl (q 0, 4, .inl (s2.2.1 1))), ((a2 3), .inl (q 0, 160, .inl (s2.2.1 2))), ((a2 4), .inl (q 0, 40, .inl (s2.2.1 3))), ((a2 5), .inl (q 0, 40, .inl (s2.2.1 4))), ((a2 6), .inl (q 0, 40, .inl (s2.2.1 5))), ((a2 7), .inl (q 0, 40, .inl (s2.2.1 6))), ((a2 8), .inl (q 0, 40, .inl (s2.2.1 7))), ((a2 9), .inl (q 0, 40, .inl (s2.2.1 8))), ((a2 10), .inl (q 0, 40, .inl (s2.2.1 9))), ((a2 11), .inl (q 1, 40, .inr (.inl s2.2.2.1))), ((a2 12), .inl (q 0, s2.2.2.2.1, .inl s2.2.2.2.2))] := hD
  refine lv_aload_n hx hb dX6_tryToSettle_11 rfl (lv_at hl 0 rfl) ?_
  refine fl_get (C := RX6) (T := TX6) (N := 7) (ci := 5) (v := .ref (a4 0)) hx hb ht in_X6 hown hK hP 0 rfl rfl 3 (by decide) mw_358 rfl dX6_tryToSettle_12 ?_
  refine lv_aload_n hx hb dX6_tryToSettle_15 rfl (lv_at hl 0 rfl) ?_
  refine fl_get (C := RX6) (T := TX6) (N := 7) (ci := 5) (v := .ref (a3 0)) hx hb ht in_X6 hown hK hP 0 rfl rfl 2 (by decide) mw_357 rfl dX6_tryToSettle_16 ?_
  refine lv_sipush (v := 9999) hx hb dX6_tryToSettle_19 (by decide) ?_
  refine mt_gov (mt_wV (wc := mo_w a4 q s4 ++ bd_w a3 q u_2) (As := [.ref (a3 0), .int 9999]) (rest := []) hx hb hml hown ht (c2_X2_turn h) wd_X2_turn mw_681 hQ hV hS hA (hP.sub [1, 2, 3, 4, 5, 6, 7, 8, 9, 10, 11, 12, 13, 14, 15, 16, 17] rfl) (hD.sub [1, 2, 3, 4, 5, 6, 7, 8, 9, 10, 11, 12, 13, 14, 15, 16, 17] (by decide) rfl) rfl rfl rfl hl.1 rfl (Nat.le_of_ble_eq_true rfl) dX6_tryToSettle_22 ⟨Nat.le_of_ble_eq_true rfl, Nat.le_of_ble_eq_true rfl, rfl, rfl⟩ ⟨Nat.le_of_ble_eq_true rfl, Nat.le_of_ble_eq_true rfl⟩) (wr := [((a0 0), .inr (5, [.ref (a1 0), .ref (a2 0), .ref (a3 0), .ref (a4 0), .ref (a5 0), .ref p8, .ref s8])), ((a2 0), .inr (0, [.int (s2.1 0), .int (s2.1 1), .int (s2.1 2), .int (s2.1 3), .int (s2.1 4), .int (s2.1 5), .ref (a2 1), .ref (a2 2), .ref (a2 3), .ref (a2 4), .ref (a2 5), .ref (a2 6), .ref (a2 7), .ref (a2 8), .ref (a2 9), .ref (a2 10), .ref (a2 11), .ref (a2 12)])), ((a2 1), .inl (q 0, 4, .inl (s2.2.1 0))), ((a2 2), .inl (q 0, 4, .inl (s2.2.1 1))), ((a2 3), .inl (q 0, 160, .inl (s2.2.1 2))), ((a2 4), .inl (q 0, 40, .inl (s2.2.1 3))), ((a2 5), .inl (q 0, 40, .inl (s2.2.1 4))), ((a2 6), .inl (q 0, 40, .inl (s2.2.1 5))), ((a2 7), .inl (q 0, 40, .inl (s2.2.1 6))), ((a2 8), .inl (q 0, 40, .inl (s2.2.1 7))), ((a2 9), .inl (q 0, 40, .inl (s2.2.1 8))), ((a2 10), .inl (q 0, 40, .inl (s2.2.1 9))), ((a2 11), .inl (q 1, 40, .inr (.inl s2.2.2.1))), ((a2 12), .inl (q 0, s2.2.2.2.1, .inl s2.2.2.2.2))]) hP hD hS hA [1, 2, 3, 4, 5, 6, 7, 8, 9, 10, 11, 12, 13, 14, 15, 16, 17] [0, 18, 19, 20, 21, 22, 23, 24, 25, 26, 27, 28, 29, 30] rfl rfl (by decide) (by decide) (fun u_4 H locs h hP hD hS => ?_)
  obtain ⟨u_4a, u_4b⟩ := u_4
  try dsimp only at h
  have hP : va_P D vwCl [((a0 0), .inr (5, [.ref (a1 0), .ref (a2 0), .ref (a3 0), .ref (a4 0), .ref (a5 0), .ref p8, .ref s8])), ((a2 0), .inr (0, [.int (s2.1 0), .int (s2.1 1), .int (s2.1 2), .int (s2.1 3), .int (s2.1 4), .int (s2.1 5), .ref (a2 1), .ref (a2 2), .ref (a2 3), .ref (a2 4), .ref (a2 5), .ref (a2 6), .ref (a2 7), .ref (a2 8), .ref (a2 9), .ref (a2 10), .ref (a2 11), .ref (a2 12)])), ((a2 1), .inl (q 0, 4, .inl (s2.2.1 0))), ((a2 2), .inl (q 0, 4, .inl (s2.2.1 1))), ((a2 3), .inl (q 0, 160, .inl (s2.2.1 2))), ((a2 4), .inl (q 0, 40, .inl (s2.2.1 3))), ((a2 5), .inl (q 0, 40, .inl (s2.2.1 4))), ((a2 6), .inl (q 0, 40, .inl (s2.2.1 5))), ((a2 7), .inl (q 0, 40, .inl (s2.2.1 6))), ((a2 8), .inl (q 0, 40, .inl (s2.2.1 7))), ((a2 9), .inl (q 0, 40, .inl (s2.2.1 8))), ((a2 10), .inl (q 0, 40, .inl (s2.2.1 9))), ((a2 11), .inl (q 1, 40, .inr (.inl s2.2.2.1))), ((a2 12), .inl (q 0, s2.2.2.2.1, .inl s2.2.2.2.2)), ((a4 0), .inr (1, [.ref (a4 1), .ref (a4 2), .ref (a4 3), .int (u_4a.1 0), .int (u_4a.1 1), .int (u_4a.1 2), .int (u_4a.1 3), .int (u_4a.1 4), .int (u_4a.1 5), .int (u_4a.1 6), .int (u_4a.1 7), .int (u_4a.1 8)])), ((a4 1), .inl (q 0, 40, .inl (u_4a.2 0))), ((a4 2), .inl (q 0, 40, .inl (u_4a.2 1))), ((a4 3), .inl (q 0, 40, .inl (u_4a.2 2))), ((a3 0), .inr (0, [.int (u_4b.1 0), .int (u_4b.1 1), .int (u_4b.1 2), .int (u_4b.1 3), .int (u_4b.1 4), .int (u_4b.1 5), .ref (a3 1), .ref (a3 2), .ref (a3 3), .ref (a3 4), .ref (a3 5), .ref (a3 6), .ref (a3 7), .ref (a3 8), .ref (a3 9), .ref (a3 10), .ref (a3 11), .ref (a3 12)])), ((a3 1), .inl (q 0, 4, .inl (u_4b.2.1 0))), ((a3 2), .inl (q 0, 4, .inl (u_4b.2.1 1))), ((a3 3), .inl (q 0, 160, .inl (u_4b.2.1 2))), ((a3 4), .inl (q 0, 40, .inl (u_4b.2.1 3))), ((a3 5), .inl (q 0, 40, .inl (u_4b.2.1 4))), ((a3 6), .inl (q 0, 40, .inl (u_4b.2.1 5))), ((a3 7), .inl (q 0, 40, .inl (u_4b.2.1 6))), ((a3 8), .inl (q 0, 40, .inl (u_4b.2.1 7))), ((a3 9), .inl (q 0, 40, .inl (u_4b.2.1 8))), ((a3 10), .inl (q 0, 40, .inl (u_4b.2.1 9))), ((a3 11), .inl (q 1, 40, .inr (.inl u_4b.2.2.1))), ((a3 12), .inl (q 0, u_4b.2.2.2.1, .inl u_4b.2.2.2.2))] H := hP
  have hD : va_D _ [((a0 0), .inr (5, [.ref (a1 0), .ref (a2 0), .ref (a3 0), .ref (a4 0), .ref (a5 0), .ref p8, .ref s8])), ((a2 0), .inr (0, [.int (s2.1 0), .int (s2.1 1), .int (s2.1 2), .int (s2.1 3), .int (s2.1 4), .int (s2.1 5), .ref (a2 1), .ref (a2 2), .ref (a2 3), .ref (a2 4), .ref (a2 5), .ref (a2 6), .ref (a2 7), .ref (a2 8), .ref (a2 9), .ref (a2 10), .ref (a2 11), .ref (a2 12)])), ((a2 1), .inl (q 0, 4, .inl (s2.2.1 0))), ((a2 2), .inl (q 0, 4, .inl (s2.2.1 1))), ((a2 3), .inl (q 0, 160, .inl (s2.2.1 2))), ((a2 4), .inl (q 0, 40, .inl (s2.2.1 3))), ((a2 5), .inl (q 0, 40, .inl (s2.2.1 4))), ((a2 6), .inl (q 0, 40, .inl (s2.2.1 5))), ((a2 7), .inl (q 0, 40, .inl (s2.2.1 6))), ((a2 8), .inl (q 0, 40, .inl (s2.2.1 7))), ((a2 9), .inl (q 0, 40, .inl (s2.2.1 8))), ((a2 10), .inl (q 0, 40, .inl (s2.2.1 9))), ((a2 11), .inl (q 1, 40, .inr (.inl s2.2.2.1))), ((a2 12), .inl (q 0, s2.2.2.2.1, .inl s2.2.2.2.2)), ((a4 0), .inr (1, [.ref (a4 1), .ref (a4 2), .ref (a4 3), .int (u_4a.1 0), .int (u_4a.1 1), .int (u_4a.1 2), .int (u_4a.1 3), .int (u_4a.1 4), .int (u_4a.1 5), .int (u_4a.1 6), .int (u_4a.1 7), .int (u_4a.1 8)])), ((a4 1), .inl (q 0, 40, .inl (u_4a.2 0))), ((a4 2), .inl (q 0, 40, .inl (u_4a.2 1))), ((a4 3), .inl (q 0, 40, .inl (u_4a.2 2))), ((a3 0), .inr (0, [.int (u_4b.1 0), .int (u_4b.1 1), .int (u_4b.1 2), .int (u_4b.1 3), .int (u_4b.1 4), .int (u_4b.1 5), .ref (a3 1), .ref (a3 2), .ref (a3 3), .ref (a3 4), .ref (a3 5), .ref (a3 6), .ref (a3 7), .ref (a3 8), .ref (a3 9), .ref (a3 10), .ref (a3 11), .ref (a3 12)])), ((a3 1), .inl (q 0, 4, .inl (u_4b.2.1 0))), ((a3 2), .inl (q 0, 4, .inl (u_4b.2.1 1))), ((a3 3), .inl (q 0, 160, .inl (u_4b.2.1 2))), ((a3 4), .inl (q 0, 40, .inl (u_4b.2.1 3))), ((a3 5), .inl (q 0, 40, .inl (u_4b.2.1 4))), ((a3 6), .inl (q 0, 40, .inl (u_4b.2.1 5))), ((a3 7), .inl (q 0, 40, .inl (u_4b.2.1 6))), ((a3 8), .inl (q 0, 40, .inl (u_4b.2.1 7))), ((a3 9), .inl (q 0, 40, .inl (u_4b.2.1 8))), ((a3 10), .inl (q 0, 40, .inl (u_4b.2.1 9))), ((a3 11), .inl (q 1, 40, .inr (.inl u_4b.2.2.1))), ((a3 12), .inl (q 0, u_4b.2.2.2.1, .inl u_4b.2.2.2.2))] := hD
  exact mt_vret (u_4b, u_4a) hx hb hr hk h (hP.sub (ws' := fo_w (a0 0) (a1 0) (a2 0) (a3 0) (a4 0) (a5 0) p8 s8 ++ bd_w a2 q s2 ++ bd_w a3 q u_4b ++ mo_w a4 q u_4a) [0, 1, 2, 3, 4, 5, 6, 7, 8, 9, 10, 11, 12, 13, 18, 19, 20, 21, 22, 23, 24, 25, 26, 27, 28, 29, 30, 14, 15, 16, 17] rfl) (hD.sub (ws' := fo_w (a0 0) (a1 0) (a2 0) (a3 0) (a4 0) (a5 0) p8 s8 ++ bd_w a2 q s2 ++ bd_w a3 q u_4b ++ mo_w a4 q u_4a) [0, 1, 2, 3, 4, 5, 6, 7, 8, 9, 10, 11, 12, 13, 18, 19, 20, 21, 22, 23, 24, 25, 26, 27, 28, 29, 30, 14, 15, 16, 17] (by decide) rfl) hS dX6_tryToSettle_25

def wp_X6_when (post : Int32 → Bd → Mo → Prop) (s2 : Bd) (s3 : Bd) (s4 : Mo) (x1 : Int32) : Prop := wp_X0_isThere (fun r_1 => ((r_1 = 0 → post (-1) s3 s4) ∧ (¬ r_1 = 0 → ((x1 < 0 → post (-1) s3 s4) ∧ (¬ x1 < 0 → ((x1 ≤ 5 → wp_X6_tryToSettle (fun u_7a u_7b => ((x1 = 0 → post (u_7b.1 2) u_7a u_7b) ∧ (¬ x1 = 0 → ((x1 = 1 → post (u_7b.1 3) u_7a u_7b) ∧ (¬ x1 = 1 → ((x1 = 2 → post (u_7b.1 4) u_7a u_7b) ∧ (¬ x1 = 2 → ((x1 = 3 → post (u_7b.1 5) u_7a u_7b) ∧ (¬ x1 = 3 → ((x1 = 4 → wp_X0_wrongCount (fun r_13 => post r_13 u_7a u_7b) u_7a) ∧ (¬ x1 = 4 → ((x1 = 5 → post (u_7b.1 8) u_7a u_7b) ∧ (¬ x1 = 5 → post (-1) u_7a u_7b))))))))))))) s2 s3 s4) ∧ (¬ x1 ≤ 5 → post (-1) s3 s4))))))) s2
set_option maxHeartbeats 4000000 in
set_option maxRecDepth 100000 in
theorem c2_X6_when {l : Launch} {D : va_G} {q : Nat → ClassId} {sz : Nat} {a0 a1 a2 a3 a4 a5 : Nat → Nat} {p8 s8 : Nat} {s2 : Bd} {s3 : Bd} {s4 : Mo} {x1 : Int32} {post : Int32 → Bd → Mo → Prop} (h : wp_X6_when post s2 s3 s4 x1) : Met l yX6_when (Cond.code yX6_when cX6_when 2 (some .int) :: w_all) ({ frames := 5, cells := 0, slots := 0, locals := 134 } : Room) (mt_P D q [.ref (a0 0), .int x1] (fo_w (a0 0) (a1 0) (a2 0) (a3 0) (a4 0) (a5 0) p8 s8 ++ bd_w a2 q s2 ++ bd_w a3 q s3 ++ mo_w a4 q s4) sz) (va_Qi (fun r (u : Bd × Mo) => post r u.1 u.2) (mt_B D (fo_w (a0 0) (a1 0) (a2 0) (a3 0) (a4 0) (a5 0) p8 s8 ++ bd_w a2 q s2 ++ bd_w a3 q s3 ++ mo_w a4 q s4) sz (fun u : Bd × Mo => fo_w (a0 0) (a1 0) (a2 0) (a3 0) (a4 0) (a5 0) p8 s8 ++ bd_w a2 q s2 ++ bd_w a3 q u.1 ++ mo_w a4 q u.2)) (va_A (fo_w (a0 0) (a1 0) (a2 0) (a3 0) (a4 0) (a5 0) p8 s8 ++ bd_w a2 q s2 ++ bd_w a3 q s3 ++ mo_w a4 q s4) sz)) 0 0 (va_A (fo_w (a0 0) (a1 0) (a2 0) (a3 0) (a4 0) (a5 0) p8 s8 ++ bd_w a2 q s2 ++ bd_w a3 q s3 ++ mo_w a4 q s4) sz) := by
  refine mt_start (by decide) (Nat.le_of_ble_eq_true rfl) ?_
  intro p e s m below meth c ls hx hb hr hml hown ht hk hin hP hQ hD hA hS hV hl
  have hK := hQ.1
  have hown : s.vm.findClass RX6 = some m.cls := hown
  have hl : lv_has ls 2 [(0, .ref (a0 0)), (1, .int x1)] := hl
  have hP : va_P D vwCl [((a0 0), .inr (5, [.ref (a1 0), .ref (a2 0), .ref (a3 0), .ref (a4 0), .ref (a5 0), .ref p8, .ref s8])), ((a2 0), .inr (0, [.int (s2.1 0), .int (s2.1 1), .int (s2.1 2), .int (s2.1 3), .int (s2.1 4), .int (s2.1 5), .ref (a2 1), .ref (a2 2), .ref (a2 3), .ref (a2 4), .ref (a2 5), .ref (a2 6), .ref (a2 7), .ref (a2 8), .ref (a2 9), .ref (a2 10), .ref (a2 11), .ref (a2 12)])), ((a2 1), .inl (q 0, 4, .inl (s2.2.1 0))), ((a2 2), .inl (q 0, 4, .inl (s2.2.1 1))), ((a2 3), .inl (q 0, 160, .inl (s2.2.1 2))), ((a2 4), .inl (q 0, 40, .inl (s2.2.1 3))), ((a2 5), .inl (q 0, 40, .inl (s2.2.1 4))), ((a2 6), .inl (q 0, 40, .inl (s2.2.1 5))), ((a2 7), .inl (q 0, 40, .inl (s2.2.1 6))), ((a2 8), .inl (q 0, 40, .inl (s2.2.1 7))), ((a2 9), .inl (q 0, 40, .inl (s2.2.1 8))), ((a2 10), .inl (q 0, 40, .inl (s2.2.1 9))), ((a2 11), .inl (q 1, 40, .inr (.inl s2.2.2.1))), ((a2 12), .inl (q 0, s2.2.2.2.1, .inl s2.2.2.2.2)), ((a3 0), .inr (0, [.int (s3.1 0), .int (s3.1 1), .int (s3.1 2), .int (s3.1 3), .int (s3.1 4), .int (s3.1 5), .ref (a3 1), .ref (a3 2), .ref (a3 3), .ref (a3 4), .ref (a3 5), .ref (a3 6), .ref (a3 7), .ref (a3 8), .ref (a3 9), .ref (a3 10), .ref (a3 11), .ref (a3 12)])), ((a3 1), .inl (q 0, 4, .inl (s3.2.1 0))), ((a3 2), .inl (q 0, 4, .inl (s3.2.1 1))), ((a3 3), .inl (q 0, 160, .inl (s3.2.1 2))), ((a3 4), .inl (q 0, 40, .inl (s3.2.1 3))), ((a3 5), .inl (q 0, 40, .inl (s3.2.1 4))), ((a3 6), .inl (q 0, 40, .inl (s3.2.1 5))), ((a3 7), .inl (q 0, 40, .inl (s3.2.1 6))), ((a3 8), .inl (q 0, 40, .inl (s3.2.1 7))), ((a3 9), .inl (q 0, 40, .inl (s3.2.1 8))), ((a3 10), .inl (q 0, 40, .inl (s3.2.1 9))), ((a3 11), .inl (q 1, 40, .inr (.inl s3.2.2.1))), ((a3 12), .inl (q 0, s3.2.2.2.1, .inl s3.2.2.2.2)), ((a4 0), .inr (1, [.ref (a4 1), .ref (a4 2), .ref (a4 3), .int (s4.1 0), .int (s4.1 1), .int (s4.1 2), .int (s4.1 3), .int (s4.1 4), .int (s4.1 5), .int (s4.1 6), .int (s4.1 7), .int (s4.1 8)])), ((a4 1), .inl (q 0, 40, .inl (s4.2 0))), ((a4 2), .inl (q 0, 40, .inl (s4.2 1))), ((a4 3), .inl (q 0, 40, .inl (s4.2 2)))] s.heap := hP
  have hD : va_D _ [((a0 0), .inr (5, [.ref (a1 0), .ref (a2 0), .ref (a3 0), .ref (a4 0), .ref (a5 0), .ref p8, .ref s8])), ((a2 0), .inr (0, [.int (s2.1 0), .int (s2.1 1), .int (s2.1 2), .int (s2.1 3), .int (s2.1 4), .int (s2.1 5), .ref (a2 1), .ref (a2 2), .ref (a2 3), .ref (a2 4), .ref (a2 5), .ref (a2 6), .ref (a2 7), .ref (a2 8), .ref (a2 9), .ref (a2 10), .ref (a2 11), .ref (a2 12)])), ((a2 1), .inl (q 0, 4, .inl (s2.2.1 0))), ((a2 2), .inl (q 0, 4, .inl (s2.2.1 1))), ((a2 3), .inl (q 0, 160, .inl (s2.2.1 2))), ((a2 4), .inl (q 0, 40, .inl (s2.2.1 3))), ((a2 5), .inl (q 0, 40, .inl (s2.2.1 4))), ((a2 6), .inl (q 0, 40, .inl (s2.2.1 5))), ((a2 7), .inl (q 0, 40, .inl (s2.2.1 6))), ((a2 8), .inl (q 0, 40, .inl (s2.2.1 7))), ((a2 9), .inl (q 0, 40, .inl (s2.2.1 8))), ((a2 10), .inl (q 0, 40, .inl (s2.2.1 9))), ((a2 11), .inl (q 1, 40, .inr (.inl s2.2.2.1))), ((a2 12), .inl (q 0, s2.2.2.2.1, .inl s2.2.2.2.2)), ((a3 0), .inr (0, [.int (s3.1 0), .int (s3.1 1), .int (s3.1 2), .int (s3.1 3), .int (s3.1 4), .int (s3.1 5), .ref (a3 1), .ref (a3 2), .ref (a3 3), .ref (a3 4), .ref (a3 5), .ref (a3 6), .ref (a3 7), .ref (a3 8), .ref (a3 9), .ref (a3 10), .ref (a3 11), .ref (a3 12)])), ((a3 1), .inl (q 0, 4, .inl (s3.2.1 0))), ((a3 2), .inl (q 0, 4, .inl (s3.2.1 1))), ((a3 3), .inl (q 0, 160, .inl (s3.2.1 2))), ((a3 4), .inl (q 0, 40, .inl (s3.2.1 3))), ((a3 5), .inl (q 0, 40, .inl (s3.2.1 4))), ((a3 6), .inl (q 0, 40, .inl (s3.2.1 5))), ((a3 7), .inl (q 0, 40, .inl (s3.2.1 6))), ((a3 8), .inl (q 0, 40, .inl (s3.2.1 7))), ((a3 9), .inl (q 0, 40, .inl (s3.2.1 8))), ((a3 10), .inl (q 0, 40, .inl (s3.2.1 9))), ((a3 11), .inl (q 1, 40, .inr (.inl s3.2.2.1))), ((a3 12), .inl (q 0, s3.2.2.2.1, .inl s3.2.2.2.2)), ((a4 0), .inr (1, [.ref (a4 1), .ref (a4 2), .ref (a4 3), .int (s4.1 0), .int (s4.1 1), .int (s4.1 2), .int (s4.1 3), .int (s4.1 4), .int (s4.1 5), .int (s4.1 6), .int (s4.1 7), .int (s4.1 8)])), ((a4 1), .inl (q 0, 40, .inl (s4.2 0))), ((a4 2), .inl (q 0, 40, .inl (s4.2 1))), ((a4 3), .inl (q 0, 40, .inl (s4.2 2)))] := hD
  unfold wp_X6_when at h
  refine lv_aload_n hx hb dX6_when_0 rfl (lv_at hl 0 rfl) ?_
  refine fl_get (C := RX6) (T := TX6) (N := 7) (ci := 5) (v := .ref (a2 0)) hx hb ht in_X6 hown hK hP 0 rfl rfl 1 (by decide) mw_356 rfl dX6_when_1 ?_
  refine vp_callSi (rd_wV (wc := bd_w a2 q s2) (As := []) (rest := []) hx hb hml hown ht (c2_X0_isThere h) wd_X0_isThere mw_677 hQ hV hS (hP.sub [1, 2, 3, 4, 5, 6, 7, 8, 9, 10, 11, 12, 13] rfl) rfl rfl rfl hl.1 rfl (Nat.le_of_ble_eq_true rfl) dX6_when_4 ⟨Nat.le_of_ble_eq_true rfl, Nat.le_of_ble_eq_true rfl, rfl, rfl⟩ ⟨Nat.le_of_ble_eq_true rfl, Nat.le_of_ble_eq_true rfl⟩) (fun r_1 h => ?_)
  try dsimp only at h
  refine lv_if_eq (tgt := 19) hx hb dX6_when_7 (by decide) (fun c_3 => ?_) (fun c_3 => ?_)
  · replace h := h.1 c_3
    refine lv_iconst (v := (-1)) hx hb dX6_when_19 (by decide) ?_
    exact mt_iret (s3, s4) hx hb hr hk h (hP.sub (ws' := fo_w (a0 0) (a1 0) (a2 0) (a3 0) (a4 0) (a5 0) p8 s8 ++ bd_w a2 q s2 ++ bd_w a3 q s3 ++ mo_w a4 q s4) [0, 1, 2, 3, 4, 5, 6, 7, 8, 9, 10, 11, 12, 13, 14, 15, 16, 17, 18, 19, 20, 21, 22, 23, 24, 25, 26, 27, 28, 29, 30] rfl) (hD.sub (ws' := fo_w (a0 0) (a1 0) (a2 0) (a3 0) (a4 0) (a5 0) p8 s8 ++ bd_w a2 q s2 ++ bd_w a3 q s3 ++ mo_w a4 q s4) [0, 1, 2, 3, 4, 5, 6, 7, 8, 9, 10, 11, 12, 13, 14, 15, 16, 17, 18, 19, 20, 21, 22, 23, 24, 25, 26, 27, 28, 29, 30] (by decide) rfl) hS dX6_when_20
  · replace h := h.2 c_3
    refine lv_iload_n hx hb dX6_when_10 rfl (lv_at hl 1 rfl) ?_
    refine lv_if_lt (tgt := 19) hx hb dX6_when_11 (by decide) (fun c_4 => ?_) (fun c_4 => ?_)
    · replace h := h.1 c_4
      refine lv_iconst (v := (-1)) hx hb dX6_when_19 (by decide) ?_
      exact mt_iret (s3, s4) hx hb hr hk h (hP.sub (ws' := fo_w (a0 0) (a1 0) (a2 0) (a3 0) (a4 0) (a5 0) p8 s8 ++ bd_w a2 q s2 ++ bd_w a3 q s3 ++ mo_w a4 q s4) [0, 1, 2, 3, 4, 5, 6, 7, 8, 9, 10, 11, 12, 13, 14, 15, 16, 17, 18, 19, 20, 21, 22, 23, 24, 25, 26, 27, 28, 29, 30] rfl) (hD.sub (ws' := fo_w (a0 0) (a1 0) (a2 0) (a3 0) (a4 0) (a5 0) p8 s8 ++ bd_w a2 q s2 ++ bd_w a3 q s3 ++ mo_w a4 q s4) [0, 1, 2, 3, 4, 5, 6, 7, 8, 9, 10, 11, 12, 13, 14, 15, 16, 17, 18, 19, 20, 21, 22, 23, 24, 25, 26, 27, 28, 29, 30] (by decide) rfl) hS dX6_when_20
    · replace h := h.2 c_4
      refine lv_iload_n hx hb dX6_when_14 rfl (lv_at hl 1 rfl) ?_
      refine lv_iconst (v := 5) hx hb dX6_when_15 (by decide) ?_
      refine lv_icmp_le (tgt := 21) hx hb dX6_when_16 (by decide) (fun c_5 => ?_) (fun c_5 => ?_)
      · replace h := h.1 c_5
        refine lv_aload_n hx hb dX6_when_21 rfl (lv_at hl 0 rfl) ?_
        refine mt_gov (mt_wV (wc := fo_w (a0 0) (a1 0) (a2 0) (a3 0) (a4 0) (a5 0) p8 s8 ++ bd_w a2 q s2 ++ bd_w a3 q s3 ++ mo_w a4 q s4) (As := []) (rest := []) hx hb hml hown ht (c2_X6_tryToSettle h) wd_X6_tryToSettle mw_980 hQ hV hS hA (hP.sub [0, 1, 2, 3, 4, 5, 6, 7, 8, 9, 10, 11, 12, 13, 14, 15, 16, 17, 18, 19, 20, 21, 22, 23, 24, 25, 26, 27, 28, 29, 30] rfl) (hD.sub [0, 1, 2, 3, 4, 5, 6, 7, 8, 9, 10, 11, 12, 13, 14, 15, 16, 17, 18, 19, 20, 21, 22, 23, 24, 25, 26, 27, 28, 29, 30] (by decide) rfl) rfl rfl rfl hl.1 rfl (Nat.le_of_ble_eq_true rfl) dX6_when_22 ⟨Nat.le_of_ble_eq_true rfl, Nat.le_of_ble_eq_true rfl, rfl, rfl⟩ ⟨Nat.le_of_ble_eq_true rfl, Nat.le_of_ble_eq_true rfl⟩) (wr := []) hP hD hS hA [0, 1, 2, 3, 4, 5, 6, 7, 8, 9, 10, 11, 12, 13, 14, 15, 16, 17, 18, 19, 20, 21, 22, 23, 24, 25, 26, 27, 28, 29, 30] [] rfl rfl (by decide) (by decide) (fun u_7 H locs h hP hD hS => ?_)
        obtain ⟨u_7a, u_7b⟩ := u_7
        try dsimp only at h
        have hP : va_P D vwCl [((a0 0), .inr (5, [.ref (a1 0), .ref (a2 0), .ref (a3 0), .ref (a4 0), .ref (a5 0), .ref p8, .ref s8])), ((a2 0), .inr (0, [.int (s2.1 0), .int (s2.1 1), .int (s2.1 2), .int (s2.1 3), .int (s2.1 4), .int (s2.1 5), .ref (a2 1), .ref (a2 2), .ref (a2 3), .ref (a2 4), .ref (a2 5), .ref (a2 6), .ref (a2 7), .ref (a2 8), .ref (a2 9), .ref (a2 10), .ref (a2 11), .ref (a2 12)])), ((a2 1), .inl (q 0, 4, .inl (s2.2.1 0))), ((a2 2), .inl (q 0, 4, .inl (s2.2.1 1))), ((a2 3), .inl (q 0, 160, .inl (s2.2.1 2))), ((a2 4), .inl (q 0, 40, .inl (s2.2.1 3))), ((a2 5), .inl (q 0, 40, .inl (s2.2.1 4))), ((a2 6), .inl (q 0, 40, .inl (s2.2.1 5))), ((a2 7), .inl (q 0, 40, .inl (s2.2.1 6))), ((a2 8), .inl (q 0, 40, .inl (s2.2.1 7))), ((a2 9), .inl (q 0, 40, .inl (s2.2.1 8))), ((a2 10), .inl (q 0, 40, .inl (s2.2.1 9))), ((a2 11), .inl (q 1, 40, .inr (.inl s2.2.2.1))), ((a2 12), .inl (q 0, s2.2.2.2.1, .inl s2.2.2.2.2)), ((a3 0), .inr (0, [.int (u_7a.1 0), .int (u_7a.1 1), .int (u_7a.1 2), .int (u_7a.1 3), .int (u_7a.1 4), .int (u_7a.1 5), .ref (a3 1), .ref (a3 2), .ref (a3 3), .ref (a3 4), .ref (a3 5), .ref (a3 6), .ref (a3 7), .ref (a3 8), .ref (a3 9), .ref (a3 10), .ref (a3 11), .ref (a3 12)])), ((a3 1), .inl (q 0, 4, .inl (u_7a.2.1 0))), ((a3 2), .inl (q 0, 4, .inl (u_7a.2.1 1))), ((a3 3), .inl (q 0, 160, .inl (u_7a.2.1 2))), ((a3 4), .inl (q 0, 40, .inl (u_7a.2.1 3))), ((a3 5), .inl (q 0, 40, .inl (u_7a.2.1 4))), ((a3 6), .inl (q 0, 40, .inl (u_7a.2.1 5))), ((a3 7), .inl (q 0, 40, .inl (u_7a.2.1 6))), ((a3 8), .inl (q 0, 40, .inl (u_7a.2.1 7))), ((a3 9), .inl (q 0, 40, .inl (u_7a.2.1 8))), ((a3 10), .inl (q 0, 40, .inl (u_7a.2.1 9))), ((a3 11), .inl (q 1, 40, .inr (.inl u_7a.2.2.1))), ((a3 12), .inl (q 0, u_7a.2.2.2.1, .inl u_7a.2.2.2.2)), ((a4 0), .inr (1, [.ref (a4 1), .ref (a4 2), .ref (a4 3), .int (u_7b.1 0), .int (u_7b.1 1), .int (u_7b.1 2), .int (u_7b.1 3), .int (u_7b.1 4), .int (u_7b.1 5), .int (u_7b.1 6), .int (u_7b.1 7), .int (u_7b.1 8)])), ((a4 1), .inl (q 0, 40, .inl (u_7b.2 0))), ((a4 2), .inl (q 0, 40, .inl (u_7b.2 1))), ((a4 3), .inl (q 0, 40, .inl (u_7b.2 2)))] H := hP
        have hD : va_D _ [((a0 0), .inr (5, [.ref (a1 0), .ref (a2 0), .ref (a3 0), .ref (a4 0), .ref (a5 0), .ref p8, .ref s8])), ((a2 0), .inr (0, [.int (s2.1 0), .int (s2.1 1), .int (s2.1 2), .int (s2.1 3), .int (s2.1 4), .int (s2.1 5), .ref (a2 1), .ref (a2 2), .ref (a2 3), .ref (a2 4), .ref (a2 5), .ref (a2 6), .ref (a2 7), .ref (a2 8), .ref (a2 9), .ref (a2 10), .ref (a2 11), .ref (a2 12)])), ((a2 1), .inl (q 0, 4, .inl (s2.2.1 0))), ((a2 2), .inl (q 0, 4, .inl (s2.2.1 1))), ((a2 3), .inl (q 0, 160, .inl (s2.2.1 2))), ((a2 4), .inl (q 0, 40, .inl (s2.2.1 3))), ((a2 5), .inl (q 0, 40, .inl (s2.2.1 4))), ((a2 6), .inl (q 0, 40, .inl (s2.2.1 5))), ((a2 7), .inl (q 0, 40, .inl (s2.2.1 6))), ((a2 8), .inl (q 0, 40, .inl (s2.2.1 7))), ((a2 9), .inl (q 0, 40, .inl (s2.2.1 8))), ((a2 10), .inl (q 0, 40, .inl (s2.2.1 9))), ((a2 11), .inl (q 1, 40, .inr (.inl s2.2.2.1))), ((a2 12), .inl (q 0, s2.2.2.2.1, .inl s2.2.2.2.2)), ((a3 0), .inr (0, [.int (u_7a.1 0), .int (u_7a.1 1), .int (u_7a.1 2), .int (u_7a.1 3), .int (u_7a.1 4), .int (u_7a.1 5), .ref (a3 1), .ref (a3 2), .ref (a3 3), .ref (a3 4), .ref (a3 5), .ref (a3 6), .ref (a3 7), .ref (a3 8), .ref (a3 9), .ref (a3 10), .ref (a3 11), .ref (a3 12)])), ((a3 1), .inl (q 0, 4, .inl (u_7a.2.1 0))), ((a3 2), .inl (q 0, 4, .inl (u_7a.2.1 1))), ((a3 3), .inl (q 0, 160, .inl (u_7a.2.1 2))), ((a3 4), .inl (q 0, 40, .inl (u_7a.2.1 3))), ((a3 5), .inl (q 0, 40, .inl (u_7a.2.1 4))), ((a3 6), .inl (q 0, 40, .inl (u_7a.2.1 5))), ((a3 7), .inl (q 0, 40, .inl (u_7a.2.1 6))), ((a3 8), .inl (q 0, 40, .inl (u_7a.2.1 7))), ((a3 9), .inl (q 0, 40, .inl (u_7a.2.1 8))), ((a3 10), .inl (q 0, 40, .inl (u_7a.2.1 9))), ((a3 11), .inl (q 1, 40, .inr (.inl u_7a.2.2.1))), ((a3 12), .inl (q 0, u_7a.2.2.2.1, .inl u_7a.2.2.2.2)), ((a4 0), .inr (1, [.ref (a4 1), .ref (a4 2), .ref (a4 3), .int (u_7b.1 0), .int (u_7b.1 1), .int (u_7b.1 2), .int (u_7b.1 3), .int (u_7b.1 4), .int (u_7b.1 5), .int (u_7b.1 6), .int (u_7b.1 7), .int (u_7b.1 8)])), ((a4 1), .inl (q 0, 40, .inl (u_7b.2 0))), ((a4 2), .inl (q 0, 40, .inl (u_7b.2 1))), ((a4 3), .inl (q 0, 40, .inl (u_7b.2 2)))] := hD
        refine lv_iload_n hx hb dX6_when_25 rfl (lv_at hl 1 rfl) ?_
        by_cases k_8 : x1 = 0
        · replace h := h.1 k_8
          refine lv_tableIn (tgt := 64) hx hb dX6_when_26 (by rw [k_8]; decide) (by rw [k_8]; decide) (by rw [k_8]; rfl) (by decide) ?_
          refine lv_aload_n hx hb dX6_when_64 rfl (lv_at hl 0 rfl) ?_
          refine fl_get (C := RX6) (T := TX6) (N := 7) (ci := 5) (v := .ref (a4 0)) hx hb ht in_X6 hown hK hP 0 rfl rfl 3 (by decide) mw_358 rfl dX6_when_65 ?_
          refine fl_get (C := RX2) (T := TX2) (N := 12) (ci := 1) (v := .int (u_7b.1 2)) hx hb ht in_X2 hown hK hP 27 rfl rfl 5 (by decide) mw_260 rfl dX6_when_68 ?_
          exact mt_iret (u_7a, u_7b) hx hb hr hk h (hP.sub (ws' := fo_w (a0 0) (a1 0) (a2 0) (a3 0) (a4 0) (a5 0) p8 s8 ++ bd_w a2 q s2 ++ bd_w a3 q u_7a ++ mo_w a4 q u_7b) [0, 1, 2, 3, 4, 5, 6, 7, 8, 9, 10, 11, 12, 13, 14, 15, 16, 17, 18, 19, 20, 21, 22, 23, 24, 25, 26, 27, 28, 29, 30] rfl) (hD.sub (ws' := fo_w (a0 0) (a1 0) (a2 0) (a3 0) (a4 0) (a5 0) p8 s8 ++ bd_w a2 q s2 ++ bd_w a3 q u_7a ++ mo_w a4 q u_7b) [0, 1, 2, 3, 4, 5, 6, 7, 8, 9, 10, 11, 12, 13, 14, 15, 16, 17, 18, 19, 20, 21, 22, 23, 24, 25, 26, 27, 28, 29, 30] (by decide) rfl) hS dX6_when_71
        replace h := h.2 k_8
        by_cases k_9 : x1 = 1
        · replace h := h.1 k_9
          refine lv_tableIn (tgt := 72) hx hb dX6_when_26 (by rw [k_9]; decide) (by rw [k_9]; decide) (by rw [k_9]; rfl) (by decide) ?_
          refine lv_aload_n hx hb dX6_when_72 rfl (lv_at hl 0 rfl) ?_
          refine fl_get (C := RX6) (T := TX6) (N := 7) (ci := 5) (v := .ref (a4 0)) hx hb ht in_X6 hown hK hP 0 rfl rfl 3 (by decide) mw_358 rfl dX6_when_73 ?_
          refine fl_get (C := RX2) (T := TX2) (N := 12) (ci := 1) (v := .int (u_7b.1 3)) hx hb ht in_X2 hown hK hP 27 rfl rfl 6 (by decide) mw_262 rfl dX6_when_76 ?_
          exact mt_iret (u_7a, u_7b) hx hb hr hk h (hP.sub (ws' := fo_w (a0 0) (a1 0) (a2 0) (a3 0) (a4 0) (a5 0) p8 s8 ++ bd_w a2 q s2 ++ bd_w a3 q u_7a ++ mo_w a4 q u_7b) [0, 1, 2, 3, 4, 5, 6, 7, 8, 9, 10, 11, 12, 13, 14, 15, 16, 17, 18, 19, 20, 21, 22, 23, 24, 25, 26, 27, 28, 29, 30] rfl) (hD.sub (ws' := fo_w (a0 0) (a1 0) (a2 0) (a3 0) (a4 0) (a5 0) p8 s8 ++ bd_w a2 q s2 ++ bd_w a3 q u_7a ++ mo_w a4 q u_7b) [0, 1, 2, 3, 4, 5, 6, 7, 8, 9, 10, 11, 12, 13, 14, 15, 16, 17, 18, 19, 20, 21, 22, 23, 24, 25, 26, 27, 28, 29, 30] (by decide) rfl) hS dX6_when_79
        replace h := h.2 k_9
        by_cases k_10 : x1 = 2
        · replace h := h.1 k_10
          refine lv_tableIn (tgt := 80) hx hb dX6_when_26 (by rw [k_10]; decide) (by rw [k_10]; decide) (by rw [k_10]; rfl) (by decide) ?_
          refine lv_aload_n hx hb dX6_when_80 rfl (lv_at hl 0 rfl) ?_
          refine fl_get (C := RX6) (T := TX6) (N := 7) (ci := 5) (v := .ref (a4 0)) hx hb ht in_X6 hown hK hP 0 rfl rfl 3 (by decide) mw_358 rfl dX6_when_81 ?_
          refine fl_get (C := RX2) (T := TX2) (N := 12) (ci := 1) (v := .int (u_7b.1 4)) hx hb ht in_X2 hown hK hP 27 rfl rfl 7 (by decide) mw_264 rfl dX6_when_84 ?_
          exact mt_iret (u_7a, u_7b) hx hb hr hk h (hP.sub (ws' := fo_w (a0 0) (a1 0) (a2 0) (a3 0) (a4 0) (a5 0) p8 s8 ++ bd_w a2 q s2 ++ bd_w a3 q u_7a ++ mo_w a4 q u_7b) [0, 1, 2, 3, 4, 5, 6, 7, 8, 9, 10, 11, 12, 13, 14, 15, 16, 17, 18, 19, 20, 21, 22, 23, 24, 25, 26, 27, 28, 29, 30] rfl) (hD.sub (ws' := fo_w (a0 0) (a1 0) (a2 0) (a3 0) (a4 0) (a5 0) p8 s8 ++ bd_w a2 q s2 ++ bd_w a3 q u_7a ++ mo_w a4 q u_7b) [0, 1, 2, 3, 4, 5, 6, 7, 8, 9, 10, 11, 12, 13, 14, 15, 16, 17, 18, 19, 20, 21, 22, 23, 24, 25, 26, 27, 28, 29, 30] (by decide) rfl) hS dX6_when_87
        replace h := h.2 k_10
        by_cases k_11 : x1 = 3
        · replace h := h.1 k_11
          refine lv_tableIn (tgt := 88) hx hb dX6_when_26 (by rw [k_11]; decide) (by rw [k_11]; decide) (by rw [k_11]; rfl) (by decide) ?_
          refine lv_aload_n hx hb dX6_when_88 rfl (lv_at hl 0 rfl) ?_
          refine fl_get (C := RX6) (T := TX6) (N := 7) (ci := 5) (v := .ref (a4 0)) hx hb ht in_X6 hown hK hP 0 rfl rfl 3 (by decide) mw_358 rfl dX6_when_89 ?_
          refine fl_get (C := RX2) (T := TX2) (N := 12) (ci := 1) (v := .int (u_7b.1 5)) hx hb ht in_X2 hown hK hP 27 rfl rfl 8 (by decide) mw_266 rfl dX6_when_92 ?_
          exact mt_iret (u_7a, u_7b) hx hb hr hk h (hP.sub (ws' := fo_w (a0 0) (a1 0) (a2 0) (a3 0) (a4 0) (a5 0) p8 s8 ++ bd_w a2 q s2 ++ bd_w a3 q u_7a ++ mo_w a4 q u_7b) [0, 1, 2, 3, 4, 5, 6, 7, 8, 9, 10, 11, 12, 13, 14, 15, 16, 17, 18, 19, 20, 21, 22, 23, 24, 25, 26, 27, 28, 29, 30] rfl) (hD.sub (ws' := fo_w (a0 0) (a1 0) (a2 0) (a3 0) (a4 0) (a5 0) p8 s8 ++ bd_w a2 q s2 ++ bd_w a3 q u_7a ++ mo_w a4 q u_7b) [0, 1, 2, 3, 4, 5, 6, 7, 8, 9, 10, 11, 12, 13, 14, 15, 16, 17, 18, 19, 20, 21, 22, 23, 24, 25, 26, 27, 28, 29, 30] (by decide) rfl) hS dX6_when_95
        replace h := h.2 k_11
        by_cases k_12 : x1 = 4
        · replace h := h.1 k_12
          refine lv_tableIn (tgt := 96) hx hb dX6_when_26 (by rw [k_12]; decide) (by rw [k_12]; decide) (by rw [k_12]; rfl) (by decide) ?_
          refine lv_aload_n hx hb dX6_when_96 rfl (lv_at hl 0 rfl) ?_
          refine fl_get (C := RX6) (T := TX6) (N := 7) (ci := 5) (v := .ref (a3 0)) hx hb ht in_X6 hown hK hP 0 rfl rfl 2 (by decide) mw_357 rfl dX6_when_97 ?_
          refine vp_callSi (rd_wV (wc := bd_w a3 q u_7a) (As := []) (rest := []) hx hb hml hown ht (c2_X0_wrongCount h) wd_X0_wrongCount mw_984 hQ hV hS (hP.sub [14, 15, 16, 17, 18, 19, 20, 21, 22, 23, 24, 25, 26] rfl) rfl rfl rfl hl.1 rfl (Nat.le_of_ble_eq_true rfl) dX6_when_100 ⟨Nat.le_of_ble_eq_true rfl, Nat.le_of_ble_eq_true rfl, rfl, rfl⟩ ⟨Nat.le_of_ble_eq_true rfl, Nat.le_of_ble_eq_true rfl⟩) (fun r_13 h => ?_)
          try dsimp only at h
          exact mt_iret (u_7a, u_7b) hx hb hr hk h (hP.sub (ws' := fo_w (a0 0) (a1 0) (a2 0) (a3 0) (a4 0) (a5 0) p8 s8 ++ bd_w a2 q s2 ++ bd_w a3 q u_7a ++ mo_w a4 q u_7b) [0, 1, 2, 3, 4, 5, 6, 7, 8, 9, 10, 11, 12, 13, 14, 15, 16, 17, 18, 19, 20, 21, 22, 23, 24, 25, 26, 27, 28, 29, 30] rfl) (hD.sub (ws' := fo_w (a0 0) (a1 0) (a2 0) (a3 0) (a4 0) (a5 0) p8 s8 ++ bd_w a2 q s2 ++ bd_w a3 q u_7a ++ mo_w a4 q u_7b) [0, 1, 2, 3, 4, 5, 6, 7, 8, 9, 10, 11, 12, 13, 14, 15, 16, 17, 18, 19, 20, 21, 22, 23, 24, 25, 26, 27, 28, 29, 30] (by decide) rfl) hS dX6_when_103
        replace h := h.2 k_12
        by_cases k_15 : x1 = 5
        · replace h := h.1 k_15
          refine lv_tableIn (tgt := 104) hx hb dX6_when_26 (by rw [k_15]; decide) (by rw [k_15]; decide) (by rw [k_15]; rfl) (by decide) ?_
          refine lv_aload_n hx hb dX6_when_104 rfl (lv_at hl 0 rfl) ?_
          refine fl_get (C := RX6) (T := TX6) (N := 7) (ci := 5) (v := .ref (a4 0)) hx hb ht in_X6 hown hK hP 0 rfl rfl 3 (by decide) mw_358 rfl dX6_when_105 ?_
          refine fl_get (C := RX2) (T := TX2) (N := 12) (ci := 1) (v := .int (u_7b.1 8)) hx hb ht in_X2 hown hK hP 27 rfl rfl 11 (by decide) mw_272 rfl dX6_when_108 ?_
          exact mt_iret (u_7a, u_7b) hx hb hr hk h (hP.sub (ws' := fo_w (a0 0) (a1 0) (a2 0) (a3 0) (a4 0) (a5 0) p8 s8 ++ bd_w a2 q s2 ++ bd_w a3 q u_7a ++ mo_w a4 q u_7b) [0, 1, 2, 3, 4, 5, 6, 7, 8, 9, 10, 11, 12, 13, 14, 15, 16, 17, 18, 19, 20, 21, 22, 23, 24, 25, 26, 27, 28, 29, 30] rfl) (hD.sub (ws' := fo_w (a0 0) (a1 0) (a2 0) (a3 0) (a4 0) (a5 0) p8 s8 ++ bd_w a2 q s2 ++ bd_w a3 q u_7a ++ mo_w a4 q u_7b) [0, 1, 2, 3, 4, 5, 6, 7, 8, 9, 10, 11, 12, 13, 14, 15, 16, 17, 18, 19, 20, 21, 22, 23, 24, 25, 26, 27, 28, 29, 30] (by decide) rfl) hS dX6_when_111
        replace h := h.2 k_15
        refine lv_tableOut (tgt := 112) hx hb dX6_when_26 (by have g0 := k_8; have g1 := k_9; have g2 := k_10; have g3 := k_11; have g4 := k_12; have g5 := k_15; (try simp only [lg_cmp_ge, lg_cmp_le, lg_cmp_gt, lg_cmp_lt, lg_cmp_eq] at g0 g1 g2 g3 g4 g5); (try simp only [Int32.lt_iff_toInt_lt, Int32.le_iff_toInt_le, ← Int32.toInt_inj, Int32.reduceToInt, Int64.lt_iff_toInt_lt, Int64.le_iff_toInt_le, ← Int64.toInt_inj, Int64.reduceToInt, Int32.toInt_toInt64] at g0 g1 g2 g3 g4 g5); omega) (by decide) ?_
        refine lv_iconst (v := (-1)) hx hb dX6_when_112 (by decide) ?_
        exact mt_iret (u_7a, u_7b) hx hb hr hk h (hP.sub (ws' := fo_w (a0 0) (a1 0) (a2 0) (a3 0) (a4 0) (a5 0) p8 s8 ++ bd_w a2 q s2 ++ bd_w a3 q u_7a ++ mo_w a4 q u_7b) [0, 1, 2, 3, 4, 5, 6, 7, 8, 9, 10, 11, 12, 13, 14, 15, 16, 17, 18, 19, 20, 21, 22, 23, 24, 25, 26, 27, 28, 29, 30] rfl) (hD.sub (ws' := fo_w (a0 0) (a1 0) (a2 0) (a3 0) (a4 0) (a5 0) p8 s8 ++ bd_w a2 q s2 ++ bd_w a3 q u_7a ++ mo_w a4 q u_7b) [0, 1, 2, 3, 4, 5, 6, 7, 8, 9, 10, 11, 12, 13, 14, 15, 16, 17, 18, 19, 20, 21, 22, 23, 24, 25, 26, 27, 28, 29, 30] (by decide) rfl) hS dX6_when_113
      · replace h := h.2 c_5
        refine lv_iconst (v := (-1)) hx hb dX6_when_19 (by decide) ?_
        exact mt_iret (s3, s4) hx hb hr hk h (hP.sub (ws' := fo_w (a0 0) (a1 0) (a2 0) (a3 0) (a4 0) (a5 0) p8 s8 ++ bd_w a2 q s2 ++ bd_w a3 q s3 ++ mo_w a4 q s4) [0, 1, 2, 3, 4, 5, 6, 7, 8, 9, 10, 11, 12, 13, 14, 15, 16, 17, 18, 19, 20, 21, 22, 23, 24, 25, 26, 27, 28, 29, 30] rfl) (hD.sub (ws' := fo_w (a0 0) (a1 0) (a2 0) (a3 0) (a4 0) (a5 0) p8 s8 ++ bd_w a2 q s2 ++ bd_w a3 q s3 ++ mo_w a4 q s4) [0, 1, 2, 3, 4, 5, 6, 7, 8, 9, 10, 11, 12, 13, 14, 15, 16, 17, 18, 19, 20, 21, 22, 23, 24, 25, 26, 27, 28, 29, 30] (by decide) rfl) hS dX6_when_20

def wp_X6_loudest (post : Int32 → Bd → Mo → Prop) (s2 : Bd) (s3 : Bd) (s4 : Mo) (x1 : Int32) : Prop := wp_X0_isThere (fun r_1 => ((r_1 = 0 → post (-1) s3 s4) ∧ (¬ r_1 = 0 → ((x1 < 0 → post (-1) s3 s4) ∧ (¬ x1 < 0 → ((x1 ≤ 1 → wp_X6_tryToSettle (fun u_7a u_7b => ((¬ (u_7b.1 2) = 0 → ((¬ x1 = 0 → post (u_7b.1 7) u_7a u_7b) ∧ (x1 = 0 → post (u_7b.1 6) u_7a u_7b))) ∧ ((u_7b.1 2) = 0 → post (-2) u_7a u_7b))) s2 s3 s4) ∧ (¬ x1 ≤ 1 → post (-1) s3 s4))))))) s2
set_option maxHeartbeats 4000000 in
set_option maxRecDepth 100000 in
theorem c2_X6_loudest {l : Launch} {D : va_G} {q : Nat → ClassId} {sz : Nat} {a0 a1 a2 a3 a4 a5 : Nat → Nat} {p8 s8 : Nat} {s2 : Bd} {s3 : Bd} {s4 : Mo} {x1 : Int32} {post : Int32 → Bd → Mo → Prop} (h : wp_X6_loudest post s2 s3 s4 x1) : Met l yX6_loudest (Cond.code yX6_loudest cX6_loudest 2 (some .int) :: w_all) ({ frames := 5, cells := 0, slots := 0, locals := 134 } : Room) (mt_P D q [.ref (a0 0), .int x1] (fo_w (a0 0) (a1 0) (a2 0) (a3 0) (a4 0) (a5 0) p8 s8 ++ bd_w a2 q s2 ++ bd_w a3 q s3 ++ mo_w a4 q s4) sz) (va_Qi (fun r (u : Bd × Mo) => post r u.1 u.2) (mt_B D (fo_w (a0 0) (a1 0) (a2 0) (a3 0) (a4 0) (a5 0) p8 s8 ++ bd_w a2 q s2 ++ bd_w a3 q s3 ++ mo_w a4 q s4) sz (fun u : Bd × Mo => fo_w (a0 0) (a1 0) (a2 0) (a3 0) (a4 0) (a5 0) p8 s8 ++ bd_w a2 q s2 ++ bd_w a3 q u.1 ++ mo_w a4 q u.2)) (va_A (fo_w (a0 0) (a1 0) (a2 0) (a3 0) (a4 0) (a5 0) p8 s8 ++ bd_w a2 q s2 ++ bd_w a3 q s3 ++ mo_w a4 q s4) sz)) 0 0 (va_A (fo_w (a0 0) (a1 0) (a2 0) (a3 0) (a4 0) (a5 0) p8 s8 ++ bd_w a2 q s2 ++ bd_w a3 q s3 ++ mo_w a4 q s4) sz) := by
  refine mt_start (by decide) (Nat.le_of_ble_eq_true rfl) ?_
  intro p e s m below meth c ls hx hb hr hml hown ht hk hin hP hQ hD hA hS hV hl
  have hK := hQ.1
  have hown : s.vm.findClass RX6 = some m.cls := hown
  have hl : lv_has ls 2 [(0, .ref (a0 0)), (1, .int x1)] := hl
  have hP : va_P D vwCl [((a0 0), .inr (5, [.ref (a1 0), .ref (a2 0), .ref (a3 0), .ref (a4 0), .ref (a5 0), .ref p8, .ref s8])), ((a2 0), .inr (0, [.int (s2.1 0), .int (s2.1 1), .int (s2.1 2), .int (s2.1 3), .int (s2.1 4), .int (s2.1 5), .ref (a2 1), .ref (a2 2), .ref (a2 3), .ref (a2 4), .ref (a2 5), .ref (a2 6), .ref (a2 7), .ref (a2 8), .ref (a2 9), .ref (a2 10), .ref (a2 11), .ref (a2 12)])), ((a2 1), .inl (q 0, 4, .inl (s2.2.1 0))), ((a2 2), .inl (q 0, 4, .inl (s2.2.1 1))), ((a2 3), .inl (q 0, 160, .inl (s2.2.1 2))), ((a2 4), .inl (q 0, 40, .inl (s2.2.1 3))), ((a2 5), .inl (q 0, 40, .inl (s2.2.1 4))), ((a2 6), .inl (q 0, 40, .inl (s2.2.1 5))), ((a2 7), .inl (q 0, 40, .inl (s2.2.1 6))), ((a2 8), .inl (q 0, 40, .inl (s2.2.1 7))), ((a2 9), .inl (q 0, 40, .inl (s2.2.1 8))), ((a2 10), .inl (q 0, 40, .inl (s2.2.1 9))), ((a2 11), .inl (q 1, 40, .inr (.inl s2.2.2.1))), ((a2 12), .inl (q 0, s2.2.2.2.1, .inl s2.2.2.2.2)), ((a3 0), .inr (0, [.int (s3.1 0), .int (s3.1 1), .int (s3.1 2), .int (s3.1 3), .int (s3.1 4), .int (s3.1 5), .ref (a3 1), .ref (a3 2), .ref (a3 3), .ref (a3 4), .ref (a3 5), .ref (a3 6), .ref (a3 7), .ref (a3 8), .ref (a3 9), .ref (a3 10), .ref (a3 11), .ref (a3 12)])), ((a3 1), .inl (q 0, 4, .inl (s3.2.1 0))), ((a3 2), .inl (q 0, 4, .inl (s3.2.1 1))), ((a3 3), .inl (q 0, 160, .inl (s3.2.1 2))), ((a3 4), .inl (q 0, 40, .inl (s3.2.1 3))), ((a3 5), .inl (q 0, 40, .inl (s3.2.1 4))), ((a3 6), .inl (q 0, 40, .inl (s3.2.1 5))), ((a3 7), .inl (q 0, 40, .inl (s3.2.1 6))), ((a3 8), .inl (q 0, 40, .inl (s3.2.1 7))), ((a3 9), .inl (q 0, 40, .inl (s3.2.1 8))), ((a3 10), .inl (q 0, 40, .inl (s3.2.1 9))), ((a3 11), .inl (q 1, 40, .inr (.inl s3.2.2.1))), ((a3 12), .inl (q 0, s3.2.2.2.1, .inl s3.2.2.2.2)), ((a4 0), .inr (1, [.ref (a4 1), .ref (a4 2), .ref (a4 3), .int (s4.1 0), .int (s4.1 1), .int (s4.1 2), .int (s4.1 3), .int (s4.1 4), .int (s4.1 5), .int (s4.1 6), .int (s4.1 7), .int (s4.1 8)])), ((a4 1), .inl (q 0, 40, .inl (s4.2 0))), ((a4 2), .inl (q 0, 40, .inl (s4.2 1))), ((a4 3), .inl (q 0, 40, .inl (s4.2 2)))] s.heap := hP
  have hD : va_D _ [((a0 0), .inr (5, [.ref (a1 0), .ref (a2 0), .ref (a3 0), .ref (a4 0), .ref (a5 0), .ref p8, .ref s8])), ((a2 0), .inr (0, [.int (s2.1 0), .int (s2.1 1), .int (s2.1 2), .int (s2.1 3), .int (s2.1 4), .int (s2.1 5), .ref (a2 1), .ref (a2 2), .ref (a2 3), .ref (a2 4), .ref (a2 5), .ref (a2 6), .ref (a2 7), .ref (a2 8), .ref (a2 9), .ref (a2 10), .ref (a2 11), .ref (a2 12)])), ((a2 1), .inl (q 0, 4, .inl (s2.2.1 0))), ((a2 2), .inl (q 0, 4, .inl (s2.2.1 1))), ((a2 3), .inl (q 0, 160, .inl (s2.2.1 2))), ((a2 4), .inl (q 0, 40, .inl (s2.2.1 3))), ((a2 5), .inl (q 0, 40, .inl (s2.2.1 4))), ((a2 6), .inl (q 0, 40, .inl (s2.2.1 5))), ((a2 7), .inl (q 0, 40, .inl (s2.2.1 6))), ((a2 8), .inl (q 0, 40, .inl (s2.2.1 7))), ((a2 9), .inl (q 0, 40, .inl (s2.2.1 8))), ((a2 10), .inl (q 0, 40, .inl (s2.2.1 9))), ((a2 11), .inl (q 1, 40, .inr (.inl s2.2.2.1))), ((a2 12), .inl (q 0, s2.2.2.2.1, .inl s2.2.2.2.2)), ((a3 0), .inr (0, [.int (s3.1 0), .int (s3.1 1), .int (s3.1 2), .int (s3.1 3), .int (s3.1 4), .int (s3.1 5), .ref (a3 1), .ref (a3 2), .ref (a3 3), .ref (a3 4), .ref (a3 5), .ref (a3 6), .ref (a3 7), .ref (a3 8), .ref (a3 9), .ref (a3 10), .ref (a3 11), .ref (a3 12)])), ((a3 1), .inl (q 0, 4, .inl (s3.2.1 0))), ((a3 2), .inl (q 0, 4, .inl (s3.2.1 1))), ((a3 3), .inl (q 0, 160, .inl (s3.2.1 2))), ((a3 4), .inl (q 0, 40, .inl (s3.2.1 3))), ((a3 5), .inl (q 0, 40, .inl (s3.2.1 4))), ((a3 6), .inl (q 0, 40, .inl (s3.2.1 5))), ((a3 7), .inl (q 0, 40, .inl (s3.2.1 6))), ((a3 8), .inl (q 0, 40, .inl (s3.2.1 7))), ((a3 9), .inl (q 0, 40, .inl (s3.2.1 8))), ((a3 10), .inl (q 0, 40, .inl (s3.2.1 9))), ((a3 11), .inl (q 1, 40, .inr (.inl s3.2.2.1))), ((a3 12), .inl (q 0, s3.2.2.2.1, .inl s3.2.2.2.2)), ((a4 0), .inr (1, [.ref (a4 1), .ref (a4 2), .ref (a4 3), .int (s4.1 0), .int (s4.1 1), .int (s4.1 2), .int (s4.1 3), .int (s4.1 4), .int (s4.1 5), .int (s4.1 6), .int (s4.1 7), .int (s4.1 8)])), ((a4 1), .inl (q 0, 40, .inl (s4.2 0))), ((a4 2), .inl (q 0, 40, .inl (s4.2 1))), ((a4 3), .inl (q 0, 40, .inl (s4.2 2)))] := hD
  unfold wp_X6_loudest at h
  refine lv_aload_n hx hb dX6_loudest_0 rfl (lv_at hl 0 rfl) ?_
  refine fl_get (C := RX6) (T := TX6) (N := 7) (ci := 5) (v := .ref (a2 0)) hx hb ht in_X6 hown hK hP 0 rfl rfl 1 (by decide) mw_356 rfl dX6_loudest_1 ?_
  refine vp_callSi (rd_wV (wc := bd_w a2 q s2) (As := []) (rest := []) hx hb hml hown ht (c2_X0_isThere h) wd_X0_isThere mw_677 hQ hV hS (hP.sub [1, 2, 3, 4, 5, 6, 7, 8, 9, 10, 11, 12, 13] rfl) rfl rfl rfl hl.1 rfl (Nat.le_of_ble_eq_true rfl) dX6_loudest_4 ⟨Nat.le_of_ble_eq_true rfl, Nat.le_of_ble_eq_true rfl, rfl, rfl⟩ ⟨Nat.le_of_ble_eq_true rfl, Nat.le_of_ble_eq_true rfl⟩) (fun r_1 h => ?_)
  try dsimp only at h
  refine lv_if_eq (tgt := 19) hx hb dX6_loudest_7 (by decide) (fun c_3 => ?_) (fun c_3 => ?_)
  · replace h := h.1 c_3
    refine lv_iconst (v := (-1)) hx hb dX6_loudest_19 (by decide) ?_
    exact mt_iret (s3, s4) hx hb hr hk h (hP.sub (ws' := fo_w (a0 0) (a1 0) (a2 0) (a3 0) (a4 0) (a5 0) p8 s8 ++ bd_w a2 q s2 ++ bd_w a3 q s3 ++ mo_w a4 q s4) [0, 1, 2, 3, 4, 5, 6, 7, 8, 9, 10, 11, 12, 13, 14, 15, 16, 17, 18, 19, 20, 21, 22, 23, 24, 25, 26, 27, 28, 29, 30] rfl) (hD.sub (ws' := fo_w (a0 0) (a1 0) (a2 0) (a3 0) (a4 0) (a5 0) p8 s8 ++ bd_w a2 q s2 ++ bd_w a3 q s3 ++ mo_w a4 q s4) [0, 1, 2, 3, 4, 5, 6, 7, 8, 9, 10, 11, 12, 13, 14, 15, 16, 17, 18, 19, 20, 21, 22, 23, 24, 25, 26, 27, 28, 29, 30] (by decide) rfl) hS dX6_loudest_20
  · replace h := h.2 c_3
    refine lv_iload_n hx hb dX6_loudest_10 rfl (lv_at hl 1 rfl) ?_
    refine lv_if_lt (tgt := 19) hx hb dX6_loudest_11 (by decide) (fun c_4 => ?_) (fun c_4 => ?_)
    · replace h := h.1 c_4
      refine lv_iconst (v := (-1)) hx hb dX6_loudest_19 (by decide) ?_
      exact mt_iret (s3, s4) hx hb hr hk h (hP.sub (ws' := fo_w (a0 0) (a1 0) (a2 0) (a3 0) (a4 0) (a5 0) p8 s8 ++ bd_w a2 q s2 ++ bd_w a3 q s3 ++ mo_w a4 q s4) [0, 1, 2, 3, 4, 5, 6, 7, 8, 9, 10, 11, 12, 13, 14, 15, 16, 17, 18, 19, 20, 21, 22, 23, 24, 25, 26, 27, 28, 29, 30] rfl) (hD.sub (ws' := fo_w (a0 0) (a1 0) (a2 0) (a3 0) (a4 0) (a5 0) p8 s8 ++ bd_w a2 q s2 ++ bd_w a3 q s3 ++ mo_w a4 q s4) [0, 1, 2, 3, 4, 5, 6, 7, 8, 9, 10, 11, 12, 13, 14, 15, 16, 17, 18, 19, 20, 21, 22, 23, 24, 25, 26, 27, 28, 29, 30] (by decide) rfl) hS dX6_loudest_20
    · replace h := h.2 c_4
      refine lv_iload_n hx hb dX6_loudest_14 rfl (lv_at hl 1 rfl) ?_
      refine lv_iconst (v := 1) hx hb dX6_loudest_15 (by decide) ?_
      refine lv_icmp_le (tgt := 21) hx hb dX6_loudest_16 (by decide) (fun c_5 => ?_) (fun c_5 => ?_)
      · replace h := h.1 c_5
        refine lv_aload_n hx hb dX6_loudest_21 rfl (lv_at hl 0 rfl) ?_
        refine mt_gov (mt_wV (wc := fo_w (a0 0) (a1 0) (a2 0) (a3 0) (a4 0) (a5 0) p8 s8 ++ bd_w a2 q s2 ++ bd_w a3 q s3 ++ mo_w a4 q s4) (As := []) (rest := []) hx hb hml hown ht (c2_X6_tryToSettle h) wd_X6_tryToSettle mw_980 hQ hV hS hA (hP.sub [0, 1, 2, 3, 4, 5, 6, 7, 8, 9, 10, 11, 12, 13, 14, 15, 16, 17, 18, 19, 20, 21, 22, 23, 24, 25, 26, 27, 28, 29, 30] rfl) (hD.sub [0, 1, 2, 3, 4, 5, 6, 7, 8, 9, 10, 11, 12, 13, 14, 15, 16, 17, 18, 19, 20, 21, 22, 23, 24, 25, 26, 27, 28, 29, 30] (by decide) rfl) rfl rfl rfl hl.1 rfl (Nat.le_of_ble_eq_true rfl) dX6_loudest_22 ⟨Nat.le_of_ble_eq_true rfl, Nat.le_of_ble_eq_true rfl, rfl, rfl⟩ ⟨Nat.le_of_ble_eq_true rfl, Nat.le_of_ble_eq_true rfl⟩) (wr := []) hP hD hS hA [0, 1, 2, 3, 4, 5, 6, 7, 8, 9, 10, 11, 12, 13, 14, 15, 16, 17, 18, 19, 20, 21, 22, 23, 24, 25, 26, 27, 28, 29, 30] [] rfl rfl (by decide) (by decide) (fun u_7 H locs h hP hD hS => ?_)
        obtain ⟨u_7a, u_7b⟩ := u_7
        try dsimp only at h
        have hP : va_P D vwCl [((a0 0), .inr (5, [.ref (a1 0), .ref (a2 0), .ref (a3 0), .ref (a4 0), .ref (a5 0), .ref p8, .ref s8])), ((a2 0), .inr (0, [.int (s2.1 0), .int (s2.1 1), .int (s2.1 2), .int (s2.1 3), .int (s2.1 4), .int (s2.1 5), .ref (a2 1), .ref (a2 2), .ref (a2 3), .ref (a2 4), .ref (a2 5), .ref (a2 6), .ref (a2 7), .ref (a2 8), .ref (a2 9), .ref (a2 10), .ref (a2 11), .ref (a2 12)])), ((a2 1), .inl (q 0, 4, .inl (s2.2.1 0))), ((a2 2), .inl (q 0, 4, .inl (s2.2.1 1))), ((a2 3), .inl (q 0, 160, .inl (s2.2.1 2))), ((a2 4), .inl (q 0, 40, .inl (s2.2.1 3))), ((a2 5), .inl (q 0, 40, .inl (s2.2.1 4))), ((a2 6), .inl (q 0, 40, .inl (s2.2.1 5))), ((a2 7), .inl (q 0, 40, .inl (s2.2.1 6))), ((a2 8), .inl (q 0, 40, .inl (s2.2.1 7))), ((a2 9), .inl (q 0, 40, .inl (s2.2.1 8))), ((a2 10), .inl (q 0, 40, .inl (s2.2.1 9))), ((a2 11), .inl (q 1, 40, .inr (.inl s2.2.2.1))), ((a2 12), .inl (q 0, s2.2.2.2.1, .inl s2.2.2.2.2)), ((a3 0), .inr (0, [.int (u_7a.1 0), .int (u_7a.1 1), .int (u_7a.1 2), .int (u_7a.1 3), .int (u_7a.1 4), .int (u_7a.1 5), .ref (a3 1), .ref (a3 2), .ref (a3 3), .ref (a3 4), .ref (a3 5), .ref (a3 6), .ref (a3 7), .ref (a3 8), .ref (a3 9), .ref (a3 10), .ref (a3 11), .ref (a3 12)])), ((a3 1), .inl (q 0, 4, .inl (u_7a.2.1 0))), ((a3 2), .inl (q 0, 4, .inl (u_7a.2.1 1))), ((a3 3), .inl (q 0, 160, .inl (u_7a.2.1 2))), ((a3 4), .inl (q 0, 40, .inl (u_7a.2.1 3))), ((a3 5), .inl (q 0, 40, .inl (u_7a.2.1 4))), ((a3 6), .inl (q 0, 40, .inl (u_7a.2.1 5))), ((a3 7), .inl (q 0, 40, .inl (u_7a.2.1 6))), ((a3 8), .inl (q 0, 40, .inl (u_7a.2.1 7))), ((a3 9), .inl (q 0, 40, .inl (u_7a.2.1 8))), ((a3 10), .inl (q 0, 40, .inl (u_7a.2.1 9))), ((a3 11), .inl (q 1, 40, .inr (.inl u_7a.2.2.1))), ((a3 12), .inl (q 0, u_7a.2.2.2.1, .inl u_7a.2.2.2.2)), ((a4 0), .inr (1, [.ref (a4 1), .ref (a4 2), .ref (a4 3), .int (u_7b.1 0), .int (u_7b.1 1), .int (u_7b.1 2), .int (u_7b.1 3), .int (u_7b.1 4), .int (u_7b.1 5), .int (u_7b.1 6), .int (u_7b.1 7), .int (u_7b.1 8)])), ((a4 1), .inl (q 0, 40, .inl (u_7b.2 0))), ((a4 2), .inl (q 0, 40, .inl (u_7b.2 1))), ((a4 3), .inl (q 0, 40, .inl (u_7b.2 2)))] H := hP
        have hD : va_D _ [((a0 0), .inr (5, [.ref (a1 0), .ref (a2 0), .ref (a3 0), .ref (a4 0), .ref (a5 0), .ref p8, .ref s8])), ((a2 0), .inr (0, [.int (s2.1 0), .int (s2.1 1), .int (s2.1 2), .int (s2.1 3), .int (s2.1 4), .int (s2.1 5), .ref (a2 1), .ref (a2 2), .ref (a2 3), .ref (a2 4), .ref (a2 5), .ref (a2 6), .ref (a2 7), .ref (a2 8), .ref (a2 9), .ref (a2 10), .ref (a2 11), .ref (a2 12)])), ((a2 1), .inl (q 0, 4, .inl (s2.2.1 0))), ((a2 2), .inl (q 0, 4, .inl (s2.2.1 1))), ((a2 3), .inl (q 0, 160, .inl (s2.2.1 2))), ((a2 4), .inl (q 0, 40, .inl (s2.2.1 3))), ((a2 5), .inl (q 0, 40, .inl (s2.2.1 4))), ((a2 6), .inl (q 0, 40, .inl (s2.2.1 5))), ((a2 7), .inl (q 0, 40, .inl (s2.2.1 6))), ((a2 8), .inl (q 0, 40, .inl (s2.2.1 7))), ((a2 9), .inl (q 0, 40, .inl (s2.2.1 8))), ((a2 10), .inl (q 0, 40, .inl (s2.2.1 9))), ((a2 11), .inl (q 1, 40, .inr (.inl s2.2.2.1))), ((a2 12), .inl (q 0, s2.2.2.2.1, .inl s2.2.2.2.2)), ((a3 0), .inr (0, [.int (u_7a.1 0), .int (u_7a.1 1), .int (u_7a.1 2), .int (u_7a.1 3), .int (u_7a.1 4), .int (u_7a.1 5), .ref (a3 1), .ref (a3 2), .ref (a3 3), .ref (a3 4), .ref (a3 5), .ref (a3 6), .ref (a3 7), .ref (a3 8), .ref (a3 9), .ref (a3 10), .ref (a3 11), .ref (a3 12)])), ((a3 1), .inl (q 0, 4, .inl (u_7a.2.1 0))), ((a3 2), .inl (q 0, 4, .inl (u_7a.2.1 1))), ((a3 3), .inl (q 0, 160, .inl (u_7a.2.1 2))), ((a3 4), .inl (q 0, 40, .inl (u_7a.2.1 3))), ((a3 5), .inl (q 0, 40, .inl (u_7a.2.1 4))), ((a3 6), .inl (q 0, 40, .inl (u_7a.2.1 5))), ((a3 7), .inl (q 0, 40, .inl (u_7a.2.1 6))), ((a3 8), .inl (q 0, 40, .inl (u_7a.2.1 7))), ((a3 9), .inl (q 0, 40, .inl (u_7a.2.1 8))), ((a3 10), .inl (q 0, 40, .inl (u_7a.2.1 9))), ((a3 11), .inl (q 1, 40, .inr (.inl u_7a.2.2.1))), ((a3 12), .inl (q 0, u_7a.2.2.2.1, .inl u_7a.2.2.2.2)), ((a4 0), .inr (1, [.ref (a4 1), .ref (a4 2), .ref (a4 3), .int (u_7b.1 0), .int (u_7b.1 1), .int (u_7b.1 2), .int (u_7b.1 3), .int (u_7b.1 4), .int (u_7b.1 5), .int (u_7b.1 6), .int (u_7b.1 7), .int (u_7b.1 8)])), ((a4 1), .inl (q 0, 40, .inl (u_7b.2 0))), ((a4 2), .inl (q 0, 40, .inl (u_7b.2 1))), ((a4 3), .inl (q 0, 40, .inl (u_7b.2 2)))] := hD
        refine lv_aload_n hx hb dX6_loudest_25 rfl (lv_at hl 0 rfl) ?_
        refine fl_get (C := RX6) (T := TX6) (N := 7) (ci := 5) (v := .ref (a4 0)) hx hb ht in_X6 hown hK hP 0 rfl rfl 3 (by decide) mw_358 rfl dX6_loudest_26 ?_
        refine fl_get (C := RX2) (T := TX2) (N := 12) (ci := 1) (v := .int (u_7b.1 2)) hx hb ht in_X2 hown hK hP 27 rfl rfl 5 (by decide) mw_260 rfl dX6_loudest_29 ?_
        refine lv_if_ne (tgt := 38) hx hb dX6_loudest_32 (by decide) (fun c_8 => ?_) (fun c_8 => ?_)
        · replace h := h.1 c_8
          refine lv_iload_n hx hb dX6_loudest_38 rfl (lv_at hl 1 rfl) ?_
          refine lv_if_ne (tgt := 52) hx hb dX6_loudest_39 (by decide) (fun c_9 => ?_) (fun c_9 => ?_)
          · replace h := h.1 c_9
            refine lv_aload_n hx hb dX6_loudest_52 rfl (lv_at hl 0 rfl) ?_
            refine fl_get (C := RX6) (T := TX6) (N := 7) (ci := 5) (v := .ref (a4 0)) hx hb ht in_X6 hown hK hP 0 rfl rfl 3 (by decide) mw_358 rfl dX6_loudest_53 ?_
            refine fl_get (C := RX2) (T := TX2) (N := 12) (ci := 1) (v := .int (u_7b.1 7)) hx hb ht in_X2 hown hK hP 27 rfl rfl 10 (by decide) mw_270 rfl dX6_loudest_56 ?_
            exact mt_iret (u_7a, u_7b) hx hb hr hk h (hP.sub (ws' := fo_w (a0 0) (a1 0) (a2 0) (a3 0) (a4 0) (a5 0) p8 s8 ++ bd_w a2 q s2 ++ bd_w a3 q u_7a ++ mo_w a4 q u_7b) [0, 1, 2, 3, 4, 5, 6, 7, 8, 9, 10, 11, 12, 13, 14, 15, 16, 17, 18, 19, 20, 21, 22, 23, 24, 25, 26, 27, 28, 29, 30] rfl) (hD.sub (ws' := fo_w (a0 0) (a1 0) (a2 0) (a3 0) (a4 0) (a5 0) p8 s8 ++ bd_w a2 q s2 ++ bd_w a3 q u_7a ++ mo_w a4 q u_7b) [0, 1, 2, 3, 4, 5, 6, 7, 8, 9, 10, 11, 12, 13, 14, 15, 16, 17, 18, 19, 20, 21, 22, 23, 24, 25, 26, 27, 28, 29, 30] (by decide) rfl) hS dX6_loudest_59
          · replace h := h.2 c_9
            refine lv_aload_n hx hb dX6_loudest_42 rfl (lv_at hl 0 rfl) ?_
            refine fl_get (C := RX6) (T := TX6) (N := 7) (ci := 5) (v := .ref (a4 0)) hx hb ht in_X6 hown hK hP 0 rfl rfl 3 (by decide) mw_358 rfl dX6_loudest_43 ?_
            refine fl_get (C := RX2) (T := TX2) (N := 12) (ci := 1) (v := .int (u_7b.1 6)) hx hb ht in_X2 hown hK hP 27 rfl rfl 9 (by decide) mw_268 rfl dX6_loudest_46 ?_
            refine lv_goto (tgt := 59) hx hb dX6_loudest_49 (by decide) ?_
            exact mt_iret (u_7a, u_7b) hx hb hr hk h (hP.sub (ws' := fo_w (a0 0) (a1 0) (a2 0) (a3 0) (a4 0) (a5 0) p8 s8 ++ bd_w a2 q s2 ++ bd_w a3 q u_7a ++ mo_w a4 q u_7b) [0, 1, 2, 3, 4, 5, 6, 7, 8, 9, 10, 11, 12, 13, 14, 15, 16, 17, 18, 19, 20, 21, 22, 23, 24, 25, 26, 27, 28, 29, 30] rfl) (hD.sub (ws' := fo_w (a0 0) (a1 0) (a2 0) (a3 0) (a4 0) (a5 0) p8 s8 ++ bd_w a2 q s2 ++ bd_w a3 q u_7a ++ mo_w a4 q u_7b) [0, 1, 2, 3, 4, 5, 6, 7, 8, 9, 10, 11, 12, 13, 14, 15, 16, 17, 18, 19, 20, 21, 22, 23, 24, 25, 26, 27, 28, 29, 30] (by decide) rfl) hS dX6_loudest_59
        · replace h := h.2 c_8
          refine lv_bipush (v := (-2)) hx hb dX6_loudest_35 (by decide) ?_
          exact mt_iret (u_7a, u_7b) hx hb hr hk h (hP.sub (ws' := fo_w (a0 0) (a1 0) (a2 0) (a3 0) (a4 0) (a5 0) p8 s8 ++ bd_w a2 q s2 ++ bd_w a3 q u_7a ++ mo_w a4 q u_7b) [0, 1, 2, 3, 4, 5, 6, 7, 8, 9, 10, 11, 12, 13, 14, 15, 16, 17, 18, 19, 20, 21, 22, 23, 24, 25, 26, 27, 28, 29, 30] rfl) (hD.sub (ws' := fo_w (a0 0) (a1 0) (a2 0) (a3 0) (a4 0) (a5 0) p8 s8 ++ bd_w a2 q s2 ++ bd_w a3 q u_7a ++ mo_w a4 q u_7b) [0, 1, 2, 3, 4, 5, 6, 7, 8, 9, 10, 11, 12, 13, 14, 15, 16, 17, 18, 19, 20, 21, 22, 23, 24, 25, 26, 27, 28, 29, 30] (by decide) rfl) hS dX6_loudest_37
      · replace h := h.2 c_5
        refine lv_iconst (v := (-1)) hx hb dX6_loudest_19 (by decide) ?_
        exact mt_iret (s3, s4) hx hb hr hk h (hP.sub (ws' := fo_w (a0 0) (a1 0) (a2 0) (a3 0) (a4 0) (a5 0) p8 s8 ++ bd_w a2 q s2 ++ bd_w a3 q s3 ++ mo_w a4 q s4) [0, 1, 2, 3, 4, 5, 6, 7, 8, 9, 10, 11, 12, 13, 14, 15, 16, 17, 18, 19, 20, 21, 22, 23, 24, 25, 26, 27, 28, 29, 30] rfl) (hD.sub (ws' := fo_w (a0 0) (a1 0) (a2 0) (a3 0) (a4 0) (a5 0) p8 s8 ++ bd_w a2 q s2 ++ bd_w a3 q s3 ++ mo_w a4 q s4) [0, 1, 2, 3, 4, 5, 6, 7, 8, 9, 10, 11, 12, 13, 14, 15, 16, 17, 18, 19, 20, 21, 22, 23, 24, 25, 26, 27, 28, 29, 30] (by decide) rfl) hS dX6_loudest_20

def wp_X6_total (post : Int32 → Prop) (s2 : Bd) (x1 : Int32) : Prop := wp_X0_isThere (fun r_1 => ((¬ r_1 = 0 → ((x1 = 0 → post (s2.1 4)) ∧ (¬ x1 = 0 → ((x1 = 1 → post (s2.1 5)) ∧ (¬ x1 = 1 → ((x1 = 2 → wp_X0_sumOf_8 (fun r_7 => post r_7) s2) ∧ (¬ x1 = 2 → ((x1 = 3 → wp_X0_sumOf_9 (fun r_10 => post r_10) s2) ∧ (¬ x1 = 3 → post (-1)))))))))) ∧ (r_1 = 0 → post (-1)))) s2
set_option maxHeartbeats 4000000 in
set_option maxRecDepth 100000 in
theorem c2_X6_total {l : Launch} {D : va_G} {q : Nat → ClassId} {a0 a1 a2 a3 a4 a5 : Nat → Nat} {p8 s8 : Nat} {s2 : Bd} {x1 : Int32} {post : Int32 → Prop} (h : wp_X6_total post s2 x1) : Met l yX6_total (Cond.code yX6_total cX6_total 2 (some .int) :: w_all) ({ frames := 2, cells := 0, slots := 0, locals := 43 } : Room) (rd_P D q [.ref (a0 0), .int x1] (fo_w (a0 0) (a1 0) (a2 0) (a3 0) (a4 0) (a5 0) p8 s8 ++ bd_w a2 q s2)) (vp_Si post) 0 0 (fun _ => False) := by
  refine rd_start (by decide) (Nat.le_of_ble_eq_true rfl) ?_
  intro p e s m below meth c ls hx hb hr hml hown ht hk hP hQ hV hl
  have hK := hQ.1
  have hown : s.vm.findClass RX6 = some m.cls := hown
  have hl : lv_has ls 2 [(0, .ref (a0 0)), (1, .int x1)] := hl
  have hP : va_P D vwCl [((a0 0), .inr (5, [.ref (a1 0), .ref (a2 0), .ref (a3 0), .ref (a4 0), .ref (a5 0), .ref p8, .ref s8])), ((a2 0), .inr (0, [.int (s2.1 0), .int (s2.1 1), .int (s2.1 2), .int (s2.1 3), .int (s2.1 4), .int (s2.1 5), .ref (a2 1), .ref (a2 2), .ref (a2 3), .ref (a2 4), .ref (a2 5), .ref (a2 6), .ref (a2 7), .ref (a2 8), .ref (a2 9), .ref (a2 10), .ref (a2 11), .ref (a2 12)])), ((a2 1), .inl (q 0, 4, .inl (s2.2.1 0))), ((a2 2), .inl (q 0, 4, .inl (s2.2.1 1))), ((a2 3), .inl (q 0, 160, .inl (s2.2.1 2))), ((a2 4), .inl (q 0, 40, .inl (s2.2.1 3))), ((a2 5), .inl (q 0, 40, .inl (s2.2.1 4))), ((a2 6), .inl (q 0, 40, .inl (s2.2.1 5))), ((a2 7), .inl (q 0, 40, .inl (s2.2.1 6))), ((a2 8), .inl (q 0, 40, .inl (s2.2.1 7))), ((a2 9), .inl (q 0, 40, .inl (s2.2.1 8))), ((a2 10), .inl (q 0, 40, .inl (s2.2.1 9))), ((a2 11), .inl (q 1, 40, .inr (.inl s2.2.2.1))), ((a2 12), .inl (q 0, s2.2.2.2.1, .inl s2.2.2.2.2))] s.heap := hP
  unfold wp_X6_total at h
  refine lv_aload_n hx hb dX6_total_0 rfl (lv_at hl 0 rfl) ?_
  refine fl_get (C := RX6) (T := TX6) (N := 7) (ci := 5) (v := .ref (a2 0)) hx hb ht in_X6 hown hK hP 0 rfl rfl 1 (by decide) mw_356 rfl dX6_total_1 ?_
  refine vp_callSi (rd_wV (wc := bd_w a2 q s2) (As := []) (rest := []) hx hb hml hown ht (c2_X0_isThere h) wd_X0_isThere mw_677 hQ hV va_S.rf (hP.sub [1, 2, 3, 4, 5, 6, 7, 8, 9, 10, 11, 12, 13] rfl) rfl rfl rfl hl.1 rfl (Nat.le_of_ble_eq_true rfl) dX6_total_4 ⟨Nat.le_of_ble_eq_true rfl, Nat.le_of_ble_eq_true rfl, rfl, rfl⟩ ⟨Nat.le_of_ble_eq_true rfl, Nat.le_of_ble_eq_true rfl⟩) (fun r_1 h => ?_)
  try dsimp only at h
  refine lv_if_ne (tgt := 12) hx hb dX6_total_7 (by decide) (fun c_3 => ?_) (fun c_3 => ?_)
  · replace h := h.1 c_3
    refine lv_iload_n hx hb dX6_total_12 rfl (lv_at hl 1 rfl) ?_
    by_cases k_4 : x1 = 0
    · replace h := h.1 k_4
      refine lv_tableIn (tgt := 44) hx hb dX6_total_13 (by rw [k_4]; decide) (by rw [k_4]; decide) (by rw [k_4]; rfl) (by decide) ?_
      refine lv_aload_n hx hb dX6_total_44 rfl (lv_at hl 0 rfl) ?_
      refine fl_get (C := RX6) (T := TX6) (N := 7) (ci := 5) (v := .ref (a2 0)) hx hb ht in_X6 hown hK hP 0 rfl rfl 1 (by decide) mw_356 rfl dX6_total_45 ?_
      refine fl_get (C := RX0) (T := TX0) (N := 18) (ci := 0) (v := .int (s2.1 4)) hx hb ht in_X0 hown hK hP 1 rfl rfl 4 (by decide) mw_184 rfl dX6_total_48 ?_
      exact rd_iret hx hb hr hk h dX6_total_51
    replace h := h.2 k_4
    by_cases k_5 : x1 = 1
    · replace h := h.1 k_5
      refine lv_tableIn (tgt := 52) hx hb dX6_total_13 (by rw [k_5]; decide) (by rw [k_5]; decide) (by rw [k_5]; rfl) (by decide) ?_
      refine lv_aload_n hx hb dX6_total_52 rfl (lv_at hl 0 rfl) ?_
      refine fl_get (C := RX6) (T := TX6) (N := 7) (ci := 5) (v := .ref (a2 0)) hx hb ht in_X6 hown hK hP 0 rfl rfl 1 (by decide) mw_356 rfl dX6_total_53 ?_
      refine fl_get (C := RX0) (T := TX0) (N := 18) (ci := 0) (v := .int (s2.1 5)) hx hb ht in_X0 hown hK hP 1 rfl rfl 5 (by decide) mw_187 rfl dX6_total_56 ?_
      exact rd_iret hx hb hr hk h dX6_total_59
    replace h := h.2 k_5
    by_cases k_6 : x1 = 2
    · replace h := h.1 k_6
      refine lv_tableIn (tgt := 60) hx hb dX6_total_13 (by rw [k_6]; decide) (by rw [k_6]; decide) (by rw [k_6]; rfl) (by decide) ?_
      refine lv_aload_n hx hb dX6_total_60 rfl (lv_at hl 0 rfl) ?_
      refine fl_get (C := RX6) (T := TX6) (N := 7) (ci := 5) (v := .ref (a2 0)) hx hb ht in_X6 hown hK hP 0 rfl rfl 1 (by decide) mw_356 rfl dX6_total_61 ?_
      refine lv_aload_n hx hb dX6_total_64 rfl (lv_at hl 0 rfl) ?_
      refine fl_get (C := RX6) (T := TX6) (N := 7) (ci := 5) (v := .ref (a2 0)) hx hb ht in_X6 hown hK hP 0 rfl rfl 1 (by decide) mw_356 rfl dX6_total_65 ?_
      refine fl_get (C := RX0) (T := TX0) (N := 18) (ci := 0) (v := .ref (a2 9)) hx hb ht in_X0 hown hK hP 1 rfl rfl 14 (by decide) mw_203 rfl dX6_total_68 ?_
      refine vp_callSi (rd_wV (wc := bd_w a2 q s2) (As := [.ref (a2 9)]) (rest := []) hx hb hml hown ht (c2_X0_sumOf_8 h) wd_X0_sumOf mw_997 hQ hV va_S.rf (hP.sub [1, 2, 3, 4, 5, 6, 7, 8, 9, 10, 11, 12, 13] rfl) rfl rfl rfl hl.1 rfl (Nat.le_of_ble_eq_true rfl) dX6_total_71 ⟨Nat.le_of_ble_eq_true rfl, Nat.le_of_ble_eq_true rfl, rfl, rfl⟩ ⟨Nat.le_of_ble_eq_true rfl, Nat.le_of_ble_eq_true rfl⟩) (fun r_7 h => ?_)
      try dsimp only at h
      exact rd_iret hx hb hr hk h dX6_total_74
    replace h := h.2 k_6
    by_cases k_9 : x1 = 3
    · replace h := h.1 k_9
      refine lv_tableIn (tgt := 75) hx hb dX6_total_13 (by rw [k_9]; decide) (by rw [k_9]; decide) (by rw [k_9]; rfl) (by decide) ?_
      refine lv_aload_n hx hb dX6_total_75 rfl (lv_at hl 0 rfl) ?_
      refine fl_get (C := RX6) (T := TX6) (N := 7) (ci := 5) (v := .ref (a2 0)) hx hb ht in_X6 hown hK hP 0 rfl rfl 1 (by decide) mw_356 rfl dX6_total_76 ?_
      refine lv_aload_n hx hb dX6_total_79 rfl (lv_at hl 0 rfl) ?_
      refine fl_get (C := RX6) (T := TX6) (N := 7) (ci := 5) (v := .ref (a2 0)) hx hb ht in_X6 hown hK hP 0 rfl rfl 1 (by decide) mw_356 rfl dX6_total_80 ?_
      refine fl_get (C := RX0) (T := TX0) (N := 18) (ci := 0) (v := .ref (a2 10)) hx hb ht in_X0 hown hK hP 1 rfl rfl 15 (by decide) mw_205 rfl dX6_total_83 ?_
      refine vp_callSi (rd_wV (wc := bd_w a2 q s2) (As := [.ref (a2 10)]) (rest := []) hx hb hml hown ht (c2_X0_sumOf_9 h) wd_X0_sumOf mw_997 hQ hV va_S.rf (hP.sub [1, 2, 3, 4, 5, 6, 7, 8, 9, 10, 11, 12, 13] rfl) rfl rfl rfl hl.1 rfl (Nat.le_of_ble_eq_true rfl) dX6_total_86 ⟨Nat.le_of_ble_eq_true rfl, Nat.le_of_ble_eq_true rfl, rfl, rfl⟩ ⟨Nat.le_of_ble_eq_true rfl, Nat.le_of_ble_eq_true rfl⟩) (fun r_10 h => ?_)
      try dsimp only at h
      exact rd_iret hx hb hr hk h dX6_total_89
    replace h := h.2 k_9
    refine lv_tableOut (tgt := 90) hx hb dX6_total_13 (by have g0 := k_4; have g1 := k_5; have g2 := k_6; have g3 := k_9; (try simp only [lg_cmp_ge, lg_cmp_le, lg_cmp_gt, lg_cmp_lt, lg_cmp_eq] at g0 g1 g2 g3); (try simp only [Int32.lt_iff_toInt_lt, Int32.le_iff_toInt_le, ← Int32.toInt_inj, Int32.reduceToInt, Int64.lt_iff_toInt_lt, Int64.le_iff_toInt_le, ← Int64.toInt_inj, Int64.reduceToInt, Int32.toInt_toInt64] at g0 g1 g2 g3); omega) (by decide) ?_
    refine lv_iconst (v := (-1)) hx hb dX6_total_90 (by decide) ?_
    exact rd_iret hx hb hr hk h dX6_total_91
  · replace h := h.2 c_3
    refine lv_iconst (v := (-1)) hx hb dX6_total_10 (by decide) ?_
    exact rd_iret hx hb hr hk h dX6_total_11

def wp_X6_rests_L26 (s2 : Bd) (post : Int32 → Bd → Mo → Prop) (e77 : Bd → Mo → Int32 → Int32 → Prop) : Nat → Bd → Mo → Int32 → Int32 → Prop
  | 0, _, _, _, _ => False
  | n26 + 1, t2, t3, z1, z2 => ((9999 < z2 → e77 t2 t3 z1 z2) ∧ (¬ 9999 < z2 → wp_X0_leftOf (fun r_7 => ((¬ r_7 = 0 → wp_X2_turn (fun u_11a u_11b => ((¬ (u_11a.1 2) = 0 → wp_X6_rests_L26 s2 post e77 n26 u_11b u_11a z1 (z2 + 1)) ∧ ((u_11a.1 2) = 0 → post (-2) u_11b u_11a))) t3 t2 (1 : Int32)) ∧ (r_7 = 0 → post z2 t2 t3))) t2 z1))
def wp_X6_rests (post : Int32 → Bd → Mo → Prop) (s2 : Bd) (s3 : Bd) (s4 : Mo) (x1 : Int32) : Prop := wp_X0_hasCell (fun r_1 => ((¬ r_1 = 0 → wp_X0_copyAllButLog (fun u_5 => (∃ n26, wp_X6_rests_L26 s2 post (fun t2 t3 z1 z2 => post (-2) t2 t3) n26 u_5 s4 x1 0)) s3 s2) ∧ (r_1 = 0 → post (-1) s3 s4))) s2 x1
set_option maxHeartbeats 4000000 in
set_option maxRecDepth 100000 in
theorem c2_X6_rests {l : Launch} {D : va_G} {q : Nat → ClassId} {sz : Nat} {a0 a1 a2 a3 a4 a5 : Nat → Nat} {p8 s8 : Nat} {s2 : Bd} {s3 : Bd} {s4 : Mo} {x1 : Int32} {post : Int32 → Bd → Mo → Prop} (h : wp_X6_rests post s2 s3 s4 x1) : Met l yX6_rests (Cond.code yX6_rests cX6_rests 3 (some .int) :: w_all) ({ frames := 4, cells := 0, slots := 0, locals := 114 } : Room) (mt_P D q [.ref (a0 0), .int x1] (fo_w (a0 0) (a1 0) (a2 0) (a3 0) (a4 0) (a5 0) p8 s8 ++ bd_w a2 q s2 ++ bd_w a3 q s3 ++ mo_w a4 q s4) sz) (va_Qi (fun r (u : Bd × Mo) => post r u.1 u.2) (mt_B D (fo_w (a0 0) (a1 0) (a2 0) (a3 0) (a4 0) (a5 0) p8 s8 ++ bd_w a2 q s2 ++ bd_w a3 q s3 ++ mo_w a4 q s4) sz (fun u : Bd × Mo => fo_w (a0 0) (a1 0) (a2 0) (a3 0) (a4 0) (a5 0) p8 s8 ++ bd_w a2 q s2 ++ bd_w a3 q u.1 ++ mo_w a4 q u.2)) (va_A (fo_w (a0 0) (a1 0) (a2 0) (a3 0) (a4 0) (a5 0) p8 s8 ++ bd_w a2 q s2 ++ bd_w a3 q s3 ++ mo_w a4 q s4) sz)) 0 0 (va_A (fo_w (a0 0) (a1 0) (a2 0) (a3 0) (a4 0) (a5 0) p8 s8 ++ bd_w a2 q s2 ++ bd_w a3 q s3 ++ mo_w a4 q s4) sz) := by
  refine mt_start (by decide) (Nat.le_of_ble_eq_true rfl) ?_
  intro p e s m below meth c ls hx hb hr hml hown ht hk hin hP hQ hD hA hS hV hl
  have hK := hQ.1
  have hown : s.vm.findClass RX6 = some m.cls := hown
  have hl : lv_has ls 3 [(0, .ref (a0 0)), (1, .int x1)] := hl
  have hP : va_P D vwCl [((a0 0), .inr (5, [.ref (a1 0), .ref (a2 0), .ref (a3 0), .ref (a4 0), .ref (a5 0), .ref p8, .ref s8])), ((a2 0), .inr (0, [.int (s2.1 0), .int (s2.1 1), .int (s2.1 2), .int (s2.1 3), .int (s2.1 4), .int (s2.1 5), .ref (a2 1), .ref (a2 2), .ref (a2 3), .ref (a2 4), .ref (a2 5), .ref (a2 6), .ref (a2 7), .ref (a2 8), .ref (a2 9), .ref (a2 10), .ref (a2 11), .ref (a2 12)])), ((a2 1), .inl (q 0, 4, .inl (s2.2.1 0))), ((a2 2), .inl (q 0, 4, .inl (s2.2.1 1))), ((a2 3), .inl (q 0, 160, .inl (s2.2.1 2))), ((a2 4), .inl (q 0, 40, .inl (s2.2.1 3))), ((a2 5), .inl (q 0, 40, .inl (s2.2.1 4))), ((a2 6), .inl (q 0, 40, .inl (s2.2.1 5))), ((a2 7), .inl (q 0, 40, .inl (s2.2.1 6))), ((a2 8), .inl (q 0, 40, .inl (s2.2.1 7))), ((a2 9), .inl (q 0, 40, .inl (s2.2.1 8))), ((a2 10), .inl (q 0, 40, .inl (s2.2.1 9))), ((a2 11), .inl (q 1, 40, .inr (.inl s2.2.2.1))), ((a2 12), .inl (q 0, s2.2.2.2.1, .inl s2.2.2.2.2)), ((a3 0), .inr (0, [.int (s3.1 0), .int (s3.1 1), .int (s3.1 2), .int (s3.1 3), .int (s3.1 4), .int (s3.1 5), .ref (a3 1), .ref (a3 2), .ref (a3 3), .ref (a3 4), .ref (a3 5), .ref (a3 6), .ref (a3 7), .ref (a3 8), .ref (a3 9), .ref (a3 10), .ref (a3 11), .ref (a3 12)])), ((a3 1), .inl (q 0, 4, .inl (s3.2.1 0))), ((a3 2), .inl (q 0, 4, .inl (s3.2.1 1))), ((a3 3), .inl (q 0, 160, .inl (s3.2.1 2))), ((a3 4), .inl (q 0, 40, .inl (s3.2.1 3))), ((a3 5), .inl (q 0, 40, .inl (s3.2.1 4))), ((a3 6), .inl (q 0, 40, .inl (s3.2.1 5))), ((a3 7), .inl (q 0, 40, .inl (s3.2.1 6))), ((a3 8), .inl (q 0, 40, .inl (s3.2.1 7))), ((a3 9), .inl (q 0, 40, .inl (s3.2.1 8))), ((a3 10), .inl (q 0, 40, .inl (s3.2.1 9))), ((a3 11), .inl (q 1, 40, .inr (.inl s3.2.2.1))), ((a3 12), .inl (q 0, s3.2.2.2.1, .inl s3.2.2.2.2)), ((a4 0), .inr (1, [.ref (a4 1), .ref (a4 2), .ref (a4 3), .int (s4.1 0), .int (s4.1 1), .int (s4.1 2), .int (s4.1 3), .int (s4.1 4), .int (s4.1 5), .int (s4.1 6), .int (s4.1 7), .int (s4.1 8)])), ((a4 1), .inl (q 0, 40, .inl (s4.2 0))), ((a4 2), .inl (q 0, 40, .inl (s4.2 1))), ((a4 3), .inl (q 0, 40, .inl (s4.2 2)))] s.heap := hP
  have hD : va_D _ [((a0 0), .inr (5, [.ref (a1 0), .ref (a2 0), .ref (a3 0), .ref (a4 0), .ref (a5 0), .ref p8, .ref s8])), ((a2 0), .inr (0, [.int (s2.1 0), .int (s2.1 1), .int (s2.1 2), .int (s2.1 3), .int (s2.1 4), .int (s2.1 5), .ref (a2 1), .ref (a2 2), .ref (a2 3), .ref (a2 4), .ref (a2 5), .ref (a2 6), .ref (a2 7), .ref (a2 8), .ref (a2 9), .ref (a2 10), .ref (a2 11), .ref (a2 12)])), ((a2 1), .inl (q 0, 4, .inl (s2.2.1 0))), ((a2 2), .inl (q 0, 4, .inl (s2.2.1 1))), ((a2 3), .inl (q 0, 160, .inl (s2.2.1 2))), ((a2 4), .inl (q 0, 40, .inl (s2.2.1 3))), ((a2 5), .inl (q 0, 40, .inl (s2.2.1 4))), ((a2 6), .inl (q 0, 40, .inl (s2.2.1 5))), ((a2 7), .inl (q 0, 40, .inl (s2.2.1 6))), ((a2 8), .inl (q 0, 40, .inl (s2.2.1 7))), ((a2 9), .inl (q 0, 40, .inl (s2.2.1 8))), ((a2 10), .inl (q 0, 40, .inl (s2.2.1 9))), ((a2 11), .inl (q 1, 40, .inr (.inl s2.2.2.1))), ((a2 12), .inl (q 0, s2.2.2.2.1, .inl s2.2.2.2.2)), ((a3 0), .inr (0, [.int (s3.1 0), .int (s3.1 1), .int (s3.1 2), .int (s3.1 3), .int (s3.1 4), .int (s3.1 5), .ref (a3 1), .ref (a3 2), .ref (a3 3), .ref (a3 4), .ref (a3 5), .ref (a3 6), .ref (a3 7), .ref (a3 8), .ref (a3 9), .ref (a3 10), .ref (a3 11), .ref (a3 12)])), ((a3 1), .inl (q 0, 4, .inl (s3.2.1 0))), ((a3 2), .inl (q 0, 4, .inl (s3.2.1 1))), ((a3 3), .inl (q 0, 160, .inl (s3.2.1 2))), ((a3 4), .inl (q 0, 40, .inl (s3.2.1 3))), ((a3 5), .inl (q 0, 40, .inl (s3.2.1 4))), ((a3 6), .inl (q 0, 40, .inl (s3.2.1 5))), ((a3 7), .inl (q 0, 40, .inl (s3.2.1 6))), ((a3 8), .inl (q 0, 40, .inl (s3.2.1 7))), ((a3 9), .inl (q 0, 40, .inl (s3.2.1 8))), ((a3 10), .inl (q 0, 40, .inl (s3.2.1 9))), ((a3 11), .inl (q 1, 40, .inr (.inl s3.2.2.1))), ((a3 12), .inl (q 0, s3.2.2.2.1, .inl s3.2.2.2.2)), ((a4 0), .inr (1, [.ref (a4 1), .ref (a4 2), .ref (a4 3), .int (s4.1 0), .int (s4.1 1), .int (s4.1 2), .int (s4.1 3), .int (s4.1 4), .int (s4.1 5), .int (s4.1 6), .int (s4.1 7), .int (s4.1 8)])), ((a4 1), .inl (q 0, 40, .inl (s4.2 0))), ((a4 2), .inl (q 0, 40, .inl (s4.2 1))), ((a4 3), .inl (q 0, 40, .inl (s4.2 2)))] := hD
  unfold wp_X6_rests at h
  refine lv_aload_n hx hb dX6_rests_0 rfl (lv_at hl 0 rfl) ?_
  refine fl_get (C := RX6) (T := TX6) (N := 7) (ci := 5) (v := .ref (a2 0)) hx hb ht in_X6 hown hK hP 0 rfl rfl 1 (by decide) mw_356 rfl dX6_rests_1 ?_
  refine lv_iload_n hx hb dX6_rests_4 rfl (lv_at hl 1 rfl) ?_
  refine vp_callSi (rd_wV (wc := bd_w a2 q s2) (As := [.int x1]) (rest := []) hx hb hml hown ht (c2_X0_hasCell h) wd_X0_hasCell mw_730 hQ hV hS (hP.sub [1, 2, 3, 4, 5, 6, 7, 8, 9, 10, 11, 12, 13] rfl) rfl rfl rfl hl.1 rfl (Nat.le_of_ble_eq_true rfl) dX6_rests_5 ⟨Nat.le_of_ble_eq_true rfl, Nat.le_of_ble_eq_true rfl, rfl, rfl⟩ ⟨Nat.le_of_ble_eq_true rfl, Nat.le_of_ble_eq_true rfl⟩) (fun r_1 h => ?_)
  try dsimp only at h
  refine lv_if_ne (tgt := 13) hx hb dX6_rests_8 (by decide) (fun c_3 => ?_) (fun c_3 => ?_)
  · replace h := h.1 c_3
    refine lv_aload_n hx hb dX6_rests_13 rfl (lv_at hl 0 rfl) ?_
    refine fl_get (C := RX6) (T := TX6) (N := 7) (ci := 5) (v := .ref (a3 0)) hx hb ht in_X6 hown hK hP 0 rfl rfl 2 (by decide) mw_357 rfl dX6_rests_14 ?_
    refine lv_aload_n hx hb dX6_rests_17 rfl (lv_at hl 0 rfl) ?_
    refine fl_get (C := RX6) (T := TX6) (N := 7) (ci := 5) (v := .ref (a2 0)) hx hb ht in_X6 hown hK hP 0 rfl rfl 1 (by decide) mw_356 rfl dX6_rests_18 ?_
    refine mt_gov (mt_wV (wc := bd_w a3 q s3 ++ bd_w a2 q s2) (As := [.ref (a2 0)]) (rest := []) hx hb hml hown ht (c2_X0_copyAllButLog h) wd_X0_copyAllButLog mw_590 hQ hV hS hA (hP.sub [14, 15, 16, 17, 18, 19, 20, 21, 22, 23, 24, 25, 26, 1, 2, 3, 4, 5, 6, 7, 8, 9, 10, 11, 12, 13] rfl) (hD.sub [14, 15, 16, 17, 18, 19, 20, 21, 22, 23, 24, 25, 26, 1, 2, 3, 4, 5, 6, 7, 8, 9, 10, 11, 12, 13] (by decide) rfl) rfl rfl rfl hl.1 rfl (Nat.le_of_ble_eq_true rfl) dX6_rests_21 ⟨Nat.le_of_ble_eq_true rfl, Nat.le_of_ble_eq_true rfl, rfl, rfl⟩ ⟨Nat.le_of_ble_eq_true rfl, Nat.le_of_ble_eq_true rfl⟩) (wr := [((a0 0), .inr (5, [.ref (a1 0), .ref (a2 0), .ref (a3 0), .ref (a4 0), .ref (a5 0), .ref p8, .ref s8])), ((a4 0), .inr (1, [.ref (a4 1), .ref (a4 2), .ref (a4 3), .int (s4.1 0), .int (s4.1 1), .int (s4.1 2), .int (s4.1 3), .int (s4.1 4), .int (s4.1 5), .int (s4.1 6), .int (s4.1 7), .int (s4.1 8)])), ((a4 1), .inl (q 0, 40, .inl (s4.2 0))), ((a4 2), .inl (q 0, 40, .inl (s4.2 1))), ((a4 3), .inl (q 0, 40, .inl (s4.2 2)))]) hP hD hS hA [14, 15, 16, 17, 18, 19, 20, 21, 22, 23, 24, 25, 26, 1, 2, 3, 4, 5, 6, 7, 8, 9, 10, 11, 12, 13] [0, 27, 28, 29, 30] rfl rfl (by decide) (by decide) (fun u_5 H locs h hP hD hS => ?_)
    try dsimp only at h
    have hP : va_P D vwCl [((a0 0), .inr (5, [.ref (a1 0), .ref (a2 0), .ref (a3 0), .ref (a4 0), .ref (a5 0), .ref p8, .ref s8])), ((a4 0), .inr (1, [.ref (a4 1), .ref (a4 2), .ref (a4 3), .int (s4.1 0), .int (s4.1 1), .int (s4.1 2), .int (s4.1 3), .int (s4.1 4), .int (s4.1 5), .int (s4.1 6), .int (s4.1 7), .int (s4.1 8)])), ((a4 1), .inl (q 0, 40, .inl (s4.2 0))), ((a4 2), .inl (q 0, 40, .inl (s4.2 1))), ((a4 3), .inl (q 0, 40, .inl (s4.2 2))), ((a3 0), .inr (0, [.int (u_5.1 0), .int (u_5.1 1), .int (u_5.1 2), .int (u_5.1 3), .int (u_5.1 4), .int (u_5.1 5), .ref (a3 1), .ref (a3 2), .ref (a3 3), .ref (a3 4), .ref (a3 5), .ref (a3 6), .ref (a3 7), .ref (a3 8), .ref (a3 9), .ref (a3 10), .ref (a3 11), .ref (a3 12)])), ((a3 1), .inl (q 0, 4, .inl (u_5.2.1 0))), ((a3 2), .inl (q 0, 4, .inl (u_5.2.1 1))), ((a3 3), .inl (q 0, 160, .inl (u_5.2.1 2))), ((a3 4), .inl (q 0, 40, .inl (u_5.2.1 3))), ((a3 5), .inl (q 0, 40, .inl (u_5.2.1 4))), ((a3 6), .inl (q 0, 40, .inl (u_5.2.1 5))), ((a3 7), .inl (q 0, 40, .inl (u_5.2.1 6))), ((a3 8), .inl (q 0, 40, .inl (u_5.2.1 7))), ((a3 9), .inl (q 0, 40, .inl (u_5.2.1 8))), ((a3 10), .inl (q 0, 40, .inl (u_5.2.1 9))), ((a3 11), .inl (q 1, 40, .inr (.inl u_5.2.2.1))), ((a3 12), .inl (q 0, u_5.2.2.2.1, .inl u_5.2.2.2.2)), ((a2 0), .inr (0, [.int (s2.1 0), .int (s2.1 1), .int (s2.1 2), .int (s2.1 3), .int (s2.1 4), .int (s2.1 5), .ref (a2 1), .ref (a2 2), .ref (a2 3), .ref (a2 4), .ref (a2 5), .ref (a2 6), .ref (a2 7), .ref (a2 8), .ref (a2 9), .ref (a2 10), .ref (a2 11), .ref (a2 12)])), ((a2 1), .inl (q 0, 4, .inl (s2.2.1 0))), ((a2 2), .inl (q 0, 4, .inl (s2.2.1 1))), ((a2 3), .inl (q 0, 160, .inl (s2.2.1 2))), ((a2 4), .inl (q 0, 40, .inl (s2.2.1 3))), ((a2 5), .inl (q 0, 40, .inl (s2.2.1 4))), ((a2 6), .inl (q 0, 40, .inl (s2.2.1 5))), ((a2 7), .inl (q 0, 40, .inl (s2.2.1 6))), ((a2 8), .inl (q 0, 40, .inl (s2.2.1 7))), ((a2 9), .inl (q 0, 40, .inl (s2.2.1 8))), ((a2 10), .inl (q 0, 40, .inl (s2.2.1 9))), ((a2 11), .inl (q 1, 40, .inr (.inl s2.2.2.1))), ((a2 12), .inl (q 0, s2.2.2.2.1, .inl s2.2.2.2.2))] H := hP
    have hD : va_D _ [((a0 0), .inr (5, [.ref (a1 0), .ref (a2 0), .ref (a3 0), .ref (a4 0), .ref (a5 0), .ref p8, .ref s8])), ((a4 0), .inr (1, [.ref (a4 1), .ref (a4 2), .ref (a4 3), .int (s4.1 0), .int (s4.1 1), .int (s4.1 2), .int (s4.1 3), .int (s4.1 4), .int (s4.1 5), .int (s4.1 6), .int (s4.1 7), .int (s4.1 8)])), ((a4 1), .inl (q 0, 40, .inl (s4.2 0))), ((a4 2), .inl (q 0, 40, .inl (s4.2 1))), ((a4 3), .inl (q 0, 40, .inl (s4.2 2))), ((a3 0), .inr (0, [.int (u_5.1 0), .int (u_5.1 1), .int (u_5.1 2), .int (u_5.1 3), .int (u_5.1 4), .int (u_5.1 5), .ref (a3 1), .ref (a3 2), .ref (a3 3), .ref (a3 4), .ref (a3 5), .ref (a3 6), .ref (a3 7), .ref (a3 8), .ref (a3 9), .ref (a3 10), .ref (a3 11), .ref (a3 12)])), ((a3 1), .inl (q 0, 4, .inl (u_5.2.1 0))), ((a3 2), .inl (q 0, 4, .inl (u_5.2.1 1))), ((a3 3), .inl (q 0, 160, .inl (u_5.2.1 2))), ((a3 4), .inl (q 0, 40, .inl (u_5.2.1 3))), ((a3 5), .inl (q 0, 40, .inl (u_5.2.1 4))), ((a3 6), .inl (q 0, 40, .inl (u_5.2.1 5))), ((a3 7), .inl (q 0, 40, .inl (u_5.2.1 6))), ((a3 8), .inl (q 0, 40, .inl (u_5.2.1 7))), ((a3 9), .inl (q 0, 40, .inl (u_5.2.1 8))), ((a3 10), .inl (q 0, 40, .inl (u_5.2.1 9))), ((a3 11), .inl (q 1, 40, .inr (.inl u_5.2.2.1))), ((a3 12), .inl (q 0, u_5.2.2.2.1, .inl u_5.2.2.2.2)), ((a2 0), .inr (0, [.int (s2.1 0), .int (s2.1 1), .int (s2.1 2), .int (s2.1 3), .int (s2.1 4), .int (s2.1 5), .ref (a2 1), .ref (a2 2), .ref (a2 3), .ref (a2 4), .ref (a2 5), .ref (a2 6), .ref (a2 7), .ref (a2 8), .ref (a2 9), .ref (a2 10), .ref (a2 11), .ref (a2 12)])), ((a2 1), .inl (q 0, 4, .inl (s2.2.1 0))), ((a2 2), .inl (q 0, 4, .inl (s2.2.1 1))), ((a2 3), .inl (q 0, 160, .inl (s2.2.1 2))), ((a2 4), .inl (q 0, 40, .inl (s2.2.1 3))), ((a2 5), .inl (q 0, 40, .inl (s2.2.1 4))), ((a2 6), .inl (q 0, 40, .inl (s2.2.1 5))), ((a2 7), .inl (q 0, 40, .inl (s2.2.1 6))), ((a2 8), .inl (q 0, 40, .inl (s2.2.1 7))), ((a2 9), .inl (q 0, 40, .inl (s2.2.1 8))), ((a2 10), .inl (q 0, 40, .inl (s2.2.1 9))), ((a2 11), .inl (q 1, 40, .inr (.inl s2.2.2.1))), ((a2 12), .inl (q 0, s2.2.2.2.1, .inl s2.2.2.2.2))] := hD
    refine lv_iconst (v := 0) hx hb dX6_rests_24 (by decide) ?_
    refine lv_istore_n (lv' := [(2, .int 0), (0, .ref (a0 0)), (1, .int x1)]) hx hb dX6_rests_25 rfl hl (by decide) rfl (fun ls hl => ?_)
    have lp26 : ∀ (e77 : Bd → Mo → Int32 → Int32 → Prop) (k77 : ∀ (t2 : Bd) (t3 : Mo) (z1 : Int32) (z2 : Int32) (H : Heap) (locs : List Loc) (ls : Array Slot), e77 t2 t3 z1 z2 → va_P D vwCl (fo_w (a0 0) (a1 0) (a2 0) (a3 0) (a4 0) (a5 0) p8 s8 ++ bd_w a2 q s2 ++ bd_w a3 q t2 ++ mo_w a4 q t3) H → va_D (va_A (fo_w (a0 0) (a1 0) (a2 0) (a3 0) (a4 0) (a5 0) p8 s8 ++ bd_w a2 q s2 ++ bd_w a3 q s3 ++ mo_w a4 q s4) sz) (fo_w (a0 0) (a1 0) (a2 0) (a3 0) (a4 0) (a5 0) p8 s8 ++ bd_w a2 q s2 ++ bd_w a3 q t2 ++ mo_w a4 q t3) → va_S (va_A (fo_w (a0 0) (a1 0) (a2 0) (a3 0) (a4 0) (a5 0) p8 s8 ++ bd_w a2 q s2 ++ bd_w a3 q s3 ++ mo_w a4 q s4) sz) s.heap H locs → lv_has ls 3 [(1, .int z1), (2, .int z2), (0, .ref (a0 0))] → W p l e ({ frames := 4, cells := 0, slots := 0, locals := 114 } : Room) s m [.ref (a0 0), .int x1].toArray below meth c H locs 0 0 (MQ below (va_Qi (fun r (u : Bd × Mo) => post r u.1 u.2) (mt_B D (fo_w (a0 0) (a1 0) (a2 0) (a3 0) (a4 0) (a5 0) p8 s8 ++ bd_w a2 q s2 ++ bd_w a3 q s3 ++ mo_w a4 q s4) sz (fun u : Bd × Mo => fo_w (a0 0) (a1 0) (a2 0) (a3 0) (a4 0) (a5 0) p8 s8 ++ bd_w a2 q s2 ++ bd_w a3 q u.1 ++ mo_w a4 q u.2)) (va_A (fo_w (a0 0) (a1 0) (a2 0) (a3 0) (a4 0) (a5 0) p8 s8 ++ bd_w a2 q s2 ++ bd_w a3 q s3 ++ mo_w a4 q s4) sz)) [.ref (a0 0), .int x1].toArray s 0 0 (va_A (fo_w (a0 0) (a1 0) (a2 0) (a3 0) (a4 0) (a5 0) p8 s8 ++ bd_w a2 q s2 ++ bd_w a3 q s3 ++ mo_w a4 q s4) sz)) (F0 m 77 ls [])) (n : Nat) (t2 : Bd) (t3 : Mo) (z1 : Int32) (z2 : Int32) (H : Heap) (locs : List Loc) (ls : Array Slot), wp_X6_rests_L26 s2 post e77 n t2 t3 z1 z2 → va_P D vwCl (fo_w (a0 0) (a1 0) (a2 0) (a3 0) (a4 0) (a5 0) p8 s8 ++ bd_w a2 q s2 ++ bd_w a3 q t2 ++ mo_w a4 q t3) H → va_D (va_A (fo_w (a0 0) (a1 0) (a2 0) (a3 0) (a4 0) (a5 0) p8 s8 ++ bd_w a2 q s2 ++ bd_w a3 q s3 ++ mo_w a4 q s4) sz) (fo_w (a0 0) (a1 0) (a2 0) (a3 0) (a4 0) (a5 0) p8 s8 ++ bd_w a2 q s2 ++ bd_w a3 q t2 ++ mo_w a4 q t3) → va_S (va_A (fo_w (a0 0) (a1 0) (a2 0) (a3 0) (a4 0) (a5 0) p8 s8 ++ bd_w a2 q s2 ++ bd_w a3 q s3 ++ mo_w a4 q s4) sz) s.heap H locs → lv_has ls 3 [(1, .int z1), (2, .int z2), (0, .ref (a0 0))] → W p l e ({ frames := 4, cells := 0, slots := 0, locals := 114 } : Room) s m [.ref (a0 0), .int x1].toArray below meth c H locs 0 0 (MQ below (va_Qi (fun r (u : Bd × Mo) => post r u.1 u.2) (mt_B D (fo_w (a0 0) (a1 0) (a2 0) (a3 0) (a4 0) (a5 0) p8 s8 ++ bd_w a2 q s2 ++ bd_w a3 q s3 ++ mo_w a4 q s4) sz (fun u : Bd × Mo => fo_w (a0 0) (a1 0) (a2 0) (a3 0) (a4 0) (a5 0) p8 s8 ++ bd_w a2 q s2 ++ bd_w a3 q u.1 ++ mo_w a4 q u.2)) (va_A (fo_w (a0 0) (a1 0) (a2 0) (a3 0) (a4 0) (a5 0) p8 s8 ++ bd_w a2 q s2 ++ bd_w a3 q s3 ++ mo_w a4 q s4) sz)) [.ref (a0 0), .int x1].toArray s 0 0 (va_A (fo_w (a0 0) (a1 0) (a2 0) (a3 0) (a4 0) (a5 0) p8 s8 ++ bd_w a2 q s2 ++ bd_w a3 q s3 ++ mo_w a4 q s4) sz)) (F0 m 26 ls []) := by
      intro e77 k77 n
      induction n with
      | zero =>
        intro t2 t3 z1 z2 H locs ls h
        exact h.elim
      | succ n ih =>
        intro t2 t3 z1 z2 H locs ls h hP hD hS hl
        have hP : va_P D vwCl [((a0 0), .inr (5, [.ref (a1 0), .ref (a2 0), .ref (a3 0), .ref (a4 0), .ref (a5 0), .ref p8, .ref s8])), ((a2 0), .inr (0, [.int (s2.1 0), .int (s2.1 1), .int (s2.1 2), .int (s2.1 3), .int (s2.1 4), .int (s2.1 5), .ref (a2 1), .ref (a2 2), .ref (a2 3), .ref (a2 4), .ref (a2 5), .ref (a2 6), .ref (a2 7), .ref (a2 8), .ref (a2 9), .ref (a2 10), .ref (a2 11), .ref (a2 12)])), ((a2 1), .inl (q 0, 4, .inl (s2.2.1 0))), ((a2 2), .inl (q 0, 4, .inl (s2.2.1 1))), ((a2 3), .inl (q 0, 160, .inl (s2.2.1 2))), ((a2 4), .inl (q 0, 40, .inl (s2.2.1 3))), ((a2 5), .inl (q 0, 40, .inl (s2.2.1 4))), ((a2 6), .inl (q 0, 40, .inl (s2.2.1 5))), ((a2 7), .inl (q 0, 40, .inl (s2.2.1 6))), ((a2 8), .inl (q 0, 40, .inl (s2.2.1 7))), ((a2 9), .inl (q 0, 40, .inl (s2.2.1 8))), ((a2 10), .inl (q 0, 40, .inl (s2.2.1 9))), ((a2 11), .inl (q 1, 40, .inr (.inl s2.2.2.1))), ((a2 12), .inl (q 0, s2.2.2.2.1, .inl s2.2.2.2.2)), ((a3 0), .inr (0, [.int (t2.1 0), .int (t2.1 1), .int (t2.1 2), .int (t2.1 3), .int (t2.1 4), .int (t2.1 5), .ref (a3 1), .ref (a3 2), .ref (a3 3), .ref (a3 4), .ref (a3 5), .ref (a3 6), .ref (a3 7), .ref (a3 8), .ref (a3 9), .ref (a3 10), .ref (a3 11), .ref (a3 12)])), ((a3 1), .inl (q 0, 4, .inl (t2.2.1 0))), ((a3 2), .inl (q 0, 4, .inl (t2.2.1 1))), ((a3 3), .inl (q 0, 160, .inl (t2.2.1 2))), ((a3 4), .inl (q 0, 40, .inl (t2.2.1 3))), ((a3 5), .inl (q 0, 40, .inl (t2.2.1 4))), ((a3 6), .inl (q 0, 40, .inl (t2.2.1 5))), ((a3 7), .inl (q 0, 40, .inl (t2.2.1 6))), ((a3 8), .inl (q 0, 40, .inl (t2.2.1 7))), ((a3 9), .inl (q 0, 40, .inl (t2.2.1 8))), ((a3 10), .inl (q 0, 40, .inl (t2.2.1 9))), ((a3 11), .inl (q 1, 40, .inr (.inl t2.2.2.1))), ((a3 12), .inl (q 0, t2.2.2.2.1, .inl t2.2.2.2.2)), ((a4 0), .inr (1, [.ref (a4 1), .ref (a4 2), .ref (a4 3), .int (t3.1 0), .int (t3.1 1), .int (t3.1 2), .int (t3.1 3), .int (t3.1 4), .int (t3.1 5), .int (t3.1 6), .int (t3.1 7), .int (t3.1 8)])), ((a4 1), .inl (q 0, 40, .inl (t3.2 0))), ((a4 2), .inl (q 0, 40, .inl (t3.2 1))), ((a4 3), .inl (q 0, 40, .inl (t3.2 2)))] H := hP
        have hD : va_D _ [((a0 0), .inr (5, [.ref (a1 0), .ref (a2 0), .ref (a3 0), .ref (a4 0), .ref (a5 0), .ref p8, .ref s8])), ((a2 0), .inr (0, [.int (s2.1 0), .int (s2.1 1), .int (s2.1 2), .int (s2.1 3), .int (s2.1 4), .int (s2.1 5), .ref (a2 1), .ref (a2 2), .ref (a2 3), .ref (a2 4), .ref (a2 5), .ref (a2 6), .ref (a2 7), .ref (a2 8), .ref (a2 9), .ref (a2 10), .ref (a2 11), .ref (a2 12)])), ((a2 1), .inl (q 0, 4, .inl (s2.2.1 0))), ((a2 2), .inl (q 0, 4, .inl (s2.2.1 1))), ((a2 3), .inl (q 0, 160, .inl (s2.2.1 2))), ((a2 4), .inl (q 0, 40, .inl (s2.2.1 3))), ((a2 5), .inl (q 0, 40, .inl (s2.2.1 4))), ((a2 6), .inl (q 0, 40, .inl (s2.2.1 5))), ((a2 7), .inl (q 0, 40, .inl (s2.2.1 6))), ((a2 8), .inl (q 0, 40, .inl (s2.2.1 7))), ((a2 9), .inl (q 0, 40, .inl (s2.2.1 8))), ((a2 10), .inl (q 0, 40, .inl (s2.2.1 9))), ((a2 11), .inl (q 1, 40, .inr (.inl s2.2.2.1))), ((a2 12), .inl (q 0, s2.2.2.2.1, .inl s2.2.2.2.2)), ((a3 0), .inr (0, [.int (t2.1 0), .int (t2.1 1), .int (t2.1 2), .int (t2.1 3), .int (t2.1 4), .int (t2.1 5), .ref (a3 1), .ref (a3 2), .ref (a3 3), .ref (a3 4), .ref (a3 5), .ref (a3 6), .ref (a3 7), .ref (a3 8), .ref (a3 9), .ref (a3 10), .ref (a3 11), .ref (a3 12)])), ((a3 1), .inl (q 0, 4, .inl (t2.2.1 0))), ((a3 2), .inl (q 0, 4, .inl (t2.2.1 1))), ((a3 3), .inl (q 0, 160, .inl (t2.2.1 2))), ((a3 4), .inl (q 0, 40, .inl (t2.2.1 3))), ((a3 5), .inl (q 0, 40, .inl (t2.2.1 4))), ((a3 6), .inl (q 0, 40, .inl (t2.2.1 5))), ((a3 7), .inl (q 0, 40, .inl (t2.2.1 6))), ((a3 8), .inl (q 0, 40, .inl (t2.2.1 7))), ((a3 9), .inl (q 0, 40, .inl (t2.2.1 8))), ((a3 10), .inl (q 0, 40, .inl (t2.2.1 9))), ((a3 11), .inl (q 1, 40, .inr (.inl t2.2.2.1))), ((a3 12), .inl (q 0, t2.2.2.2.1, .inl t2.2.2.2.2)), ((a4 0), .inr (1, [.ref (a4 1), .ref (a4 2), .ref (a4 3), .int (t3.1 0), .int (t3.1 1), .int (t3.1 2), .int (t3.1 3), .int (t3.1 4), .int (t3.1 5), .int (t3.1 6), .int (t3.1 7), .int (t3.1 8)])), ((a4 1), .inl (q 0, 40, .inl (t3.2 0))), ((a4 2), .inl (q 0, 40, .inl (t3.2 1))), ((a4 3), .inl (q 0, 40, .inl (t3.2 2)))] := hD
        unfold wp_X6_rests_L26 at h
        refine lv_iload_n hx hb dX6_rests_26 rfl (lv_at hl 1 rfl) ?_
        refine lv_sipush (v := 9999) hx hb dX6_rests_27 (by decide) ?_
        refine lv_icmp_gt (tgt := 77) hx hb dX6_rests_30 (by decide) (fun c_6 => ?_) (fun c_6 => ?_)
        · replace h := h.1 c_6
          exact k77 _ _ _ _ _ _ ls h (hP.sub (ws' := fo_w (a0 0) (a1 0) (a2 0) (a3 0) (a4 0) (a5 0) p8 s8 ++ bd_w a2 q s2 ++ bd_w a3 q t2 ++ mo_w a4 q t3) [0, 1, 2, 3, 4, 5, 6, 7, 8, 9, 10, 11, 12, 13, 14, 15, 16, 17, 18, 19, 20, 21, 22, 23, 24, 25, 26, 27, 28, 29, 30] rfl) (hD.sub (ws' := fo_w (a0 0) (a1 0) (a2 0) (a3 0) (a4 0) (a5 0) p8 s8 ++ bd_w a2 q s2 ++ bd_w a3 q t2 ++ mo_w a4 q t3) [0, 1, 2, 3, 4, 5, 6, 7, 8, 9, 10, 11, 12, 13, 14, 15, 16, 17, 18, 19, 20, 21, 22, 23, 24, 25, 26, 27, 28, 29, 30] (by decide) rfl) hS (lv_sub hl [0, 1, 2] rfl)
        · replace h := h.2 c_6
          refine lv_aload_n hx hb dX6_rests_33 rfl (lv_at hl 2 rfl) ?_
          refine fl_get (C := RX6) (T := TX6) (N := 7) (ci := 5) (v := .ref (a3 0)) hx hb ht in_X6 hown hK hP 0 rfl rfl 2 (by decide) mw_357 rfl dX6_rests_34 ?_
          refine lv_iload_n hx hb dX6_rests_37 rfl (lv_at hl 0 rfl) ?_
          refine vp_callSi (rd_wV (wc := bd_w a3 q t2) (As := [.int z1]) (rest := []) hx hb hml hown ht (c2_X0_leftOf h) wd_X0_leftOf mw_894 hQ hV hS (hP.sub [14, 15, 16, 17, 18, 19, 20, 21, 22, 23, 24, 25, 26] rfl) rfl rfl rfl hl.1 rfl (Nat.le_of_ble_eq_true rfl) dX6_rests_38 ⟨Nat.le_of_ble_eq_true rfl, Nat.le_of_ble_eq_true rfl, rfl, rfl⟩ ⟨Nat.le_of_ble_eq_true rfl, Nat.le_of_ble_eq_true rfl⟩) (fun r_7 h => ?_)
          try dsimp only at h
          refine lv_if_ne (tgt := 46) hx hb dX6_rests_41 (by decide) (fun c_9 => ?_) (fun c_9 => ?_)
          · replace h := h.1 c_9
            refine lv_aload_n hx hb dX6_rests_46 rfl (lv_at hl 2 rfl) ?_
            refine fl_get (C := RX6) (T := TX6) (N := 7) (ci := 5) (v := .ref (a4 0)) hx hb ht in_X6 hown hK hP 0 rfl rfl 3 (by decide) mw_358 rfl dX6_rests_47 ?_
            refine lv_aload_n hx hb dX6_rests_50 rfl (lv_at hl 2 rfl) ?_
            refine fl_get (C := RX6) (T := TX6) (N := 7) (ci := 5) (v := .ref (a3 0)) hx hb ht in_X6 hown hK hP 0 rfl rfl 2 (by decide) mw_357 rfl dX6_rests_51 ?_
            refine lv_iconst (v := 1) hx hb dX6_rests_54 (by decide) ?_
            refine mt_gov (mt_wV (wc := mo_w a4 q t3 ++ bd_w a3 q t2) (As := [.ref (a3 0), .int 1]) (rest := []) hx hb hml hown ht (c2_X2_turn h) wd_X2_turn mw_681 hQ hV hS hA (hP.sub [27, 28, 29, 30, 14, 15, 16, 17, 18, 19, 20, 21, 22, 23, 24, 25, 26] rfl) (hD.sub [27, 28, 29, 30, 14, 15, 16, 17, 18, 19, 20, 21, 22, 23, 24, 25, 26] (by decide) rfl) rfl rfl rfl hl.1 rfl (Nat.le_of_ble_eq_true rfl) dX6_rests_55 ⟨Nat.le_of_ble_eq_true rfl, Nat.le_of_ble_eq_true rfl, rfl, rfl⟩ ⟨Nat.le_of_ble_eq_true rfl, Nat.le_of_ble_eq_true rfl⟩) (wr := [((a0 0), .inr (5, [.ref (a1 0), .ref (a2 0), .ref (a3 0), .ref (a4 0), .ref (a5 0), .ref p8, .ref s8])), ((a2 0), .inr (0, [.int (s2.1 0), .int (s2.1 1), .int (s2.1 2), .int (s2.1 3), .int (s2.1 4), .int (s2.1 5), .ref (a2 1), .ref (a2 2), .ref (a2 3), .ref (a2 4), .ref (a2 5), .ref (a2 6), .ref (a2 7), .ref (a2 8), .ref (a2 9), .ref (a2 10), .ref (a2 11), .ref (a2 12)])), ((a2 1), .inl (q 0, 4, .inl (s2.2.1 0))), ((a2 2), .inl (q 0, 4, .inl (s2.2.1 1))), ((a2 3), .inl (q 0, 160, .inl (s2.2.1 2))), ((a2 4), .inl (q 0, 40, .inl (s2.2.1 3))), ((a2 5), .inl (q 0, 40, .inl (s2.2.1 4))), ((a2 6), .inl (q 0, 40, .inl (s2.2.1 5))), ((a2 7), .inl (q 0, 40, .inl (s2.2.1 6))), ((a2 8), .inl (q 0, 40, .inl (s2.2.1 7))), ((a2 9), .inl (q 0, 40, .inl (s2.2.1 8))), ((a2 10), .inl (q 0, 40, .inl (s2.2.1 9))), ((a2 11), .inl (q 1, 40, .inr (.inl s2.2.2.1))), ((a2 12), .inl (q 0, s2.2.2.2.1, .inl s2.2.2.2.2))]) hP hD hS hA [27, 28, 29, 30, 14, 15, 16, 17, 18, 19, 20, 21, 22, 23, 24, 25, 26] [0, 1, 2, 3, 4, 5, 6, 7, 8, 9, 10, 11, 12, 13] rfl rfl (by decide) (by decide) (fun u_11 H locs h hP hD hS => ?_)
            obtain ⟨u_11a, u_11b⟩ := u_11
            try dsimp only at h
            have hP : va_P D vwCl [((a0 0), .inr (5, [.ref (a1 0), .ref (a2 0), .ref (a3 0), .ref (a4 0), .ref (a5 0), .ref p8, .ref s8])), ((a2 0), .inr (0, [.int (s2.1 0), .int (s2.1 1), .int (s2.1 2), .int (s2.1 3), .int (s2.1 4), .int (s2.1 5), .ref (a2 1), .ref (a2 2), .ref (a2 3), .ref (a2 4), .ref (a2 5), .ref (a2 6), .ref (a2 7), .ref (a2 8), .ref (a2 9), .ref (a2 10), .ref (a2 11), .ref (a2 12)])), ((a2 1), .inl (q 0, 4, .inl (s2.2.1 0))), ((a2 2), .inl (q 0, 4, .inl (s2.2.1 1))), ((a2 3), .inl (q 0, 160, .inl (s2.2.1 2))), ((a2 4), .inl (q 0, 40, .inl (s2.2.1 3))), ((a2 5), .inl (q 0, 40, .inl (s2.2.1 4))), ((a2 6), .inl (q 0, 40, .inl (s2.2.1 5))), ((a2 7), .inl (q 0, 40, .inl (s2.2.1 6))), ((a2 8), .inl (q 0, 40, .inl (s2.2.1 7))), ((a2 9), .inl (q 0, 40, .inl (s2.2.1 8))), ((a2 10), .inl (q 0, 40, .inl (s2.2.1 9))), ((a2 11), .inl (q 1, 40, .inr (.inl s2.2.2.1))), ((a2 12), .inl (q 0, s2.2.2.2.1, .inl s2.2.2.2.2)), ((a4 0), .inr (1, [.ref (a4 1), .ref (a4 2), .ref (a4 3), .int (u_11a.1 0), .int (u_11a.1 1), .int (u_11a.1 2), .int (u_11a.1 3), .int (u_11a.1 4), .int (u_11a.1 5), .int (u_11a.1 6), .int (u_11a.1 7), .int (u_11a.1 8)])), ((a4 1), .inl (q 0, 40, .inl (u_11a.2 0))), ((a4 2), .inl (q 0, 40, .inl (u_11a.2 1))), ((a4 3), .inl (q 0, 40, .inl (u_11a.2 2))), ((a3 0), .inr (0, [.int (u_11b.1 0), .int (u_11b.1 1), .int (u_11b.1 2), .int (u_11b.1 3), .int (u_11b.1 4), .int (u_11b.1 5), .ref (a3 1), .ref (a3 2), .ref (a3 3), .ref (a3 4), .ref (a3 5), .ref (a3 6), .ref (a3 7), .ref (a3 8), .ref (a3 9), .ref (a3 10), .ref (a3 11), .ref (a3 12)])), ((a3 1), .inl (q 0, 4, .inl (u_11b.2.1 0))), ((a3 2), .inl (q 0, 4, .inl (u_11b.2.1 1))), ((a3 3), .inl (q 0, 160, .inl (u_11b.2.1 2))), ((a3 4), .inl (q 0, 40, .inl (u_11b.2.1 3))), ((a3 5), .inl (q 0, 40, .inl (u_11b.2.1 4))), ((a3 6), .inl (q 0, 40, .inl (u_11b.2.1 5))), ((a3 7), .inl (q 0, 40, .inl (u_11b.2.1 6))), ((a3 8), .inl (q 0, 40, .inl (u_11b.2.1 7))), ((a3 9), .inl (q 0, 40, .inl (u_11b.2.1 8))), ((a3 10), .inl (q 0, 40, .inl (u_11b.2.1 9))), ((a3 11), .inl (q 1, 40, .inr (.inl u_11b.2.2.1))), ((a3 12), .inl (q 0, u_11b.2.2.2.1, .inl u_11b.2.2.2.2))] H := hP
            have hD : va_D _ [((a0 0), .inr (5, [.ref (a1 0), .ref (a2 0), .ref (a3 0), .ref (a4 0), .ref (a5 0), .ref p8, .ref s8])), ((a2 0), .inr (0, [.int (s2.1 0), .int (s2.1 1), .int (s2.1 2), .int (s2.1 3), .int (s2.1 4), .int (s2.1 5), .ref (a2 1), .ref (a2 2), .ref (a2 3), .ref (a2 4), .ref (a2 5), .ref (a2 6), .ref (a2 7), .ref (a2 8), .ref (a2 9), .ref (a2 10), .ref (a2 11), .ref (a2 12)])), ((a2 1), .inl (q 0, 4, .inl (s2.2.1 0))), ((a2 2), .inl (q 0, 4, .inl (s2.2.1 1))), ((a2 3), .inl (q 0, 160, .inl (s2.2.1 2))), ((a2 4), .inl (q 0, 40, .inl (s2.2.1 3))), ((a2 5), .inl (q 0, 40, .inl (s2.2.1 4))), ((a2 6), .inl (q 0, 40, .inl (s2.2.1 5))), ((a2 7), .inl (q 0, 40, .inl (s2.2.1 6))), ((a2 8), .inl (q 0, 40, .inl (s2.2.1 7))), ((a2 9), .inl (q 0, 40, .inl (s2.2.1 8))), ((a2 10), .inl (q 0, 40, .inl (s2.2.1 9))), ((a2 11), .inl (q 1, 40, .inr (.inl s2.2.2.1))), ((a2 12), .inl (q 0, s2.2.2.2.1, .inl s2.2.2.2.2)), ((a4 0), .inr (1, [.ref (a4 1), .ref (a4 2), .ref (a4 3), .int (u_11a.1 0), .int (u_11a.1 1), .int (u_11a.1 2), .int (u_11a.1 3), .int (u_11a.1 4), .int (u_11a.1 5), .int (u_11a.1 6), .int (u_11a.1 7), .int (u_11a.1 8)])), ((a4 1), .inl (q 0, 40, .inl (u_11a.2 0))), ((a4 2), .inl (q 0, 40, .inl (u_11a.2 1))), ((a4 3), .inl (q 0, 40, .inl (u_11a.2 2))), ((a3 0), .inr (0, [.int (u_11b.1 0), .int (u_11b.1 1), .int (u_11b.1 2), .int (u_11b.1 3), .int (u_11b.1 4), .int (u_11b.1 5), .ref (a3 1), .ref (a3 2), .ref (a3 3), .ref (a3 4), .ref (a3 5), .ref (a3 6), .ref (a3 7), .ref (a3 8), .ref (a3 9), .ref (a3 10), .ref (a3 11), .ref (a3 12)])), ((a3 1), .inl (q 0, 4, .inl (u_11b.2.1 0))), ((a3 2), .inl (q 0, 4, .inl (u_11b.2.1 1))), ((a3 3), .inl (q 0, 160, .inl (u_11b.2.1 2))), ((a3 4), .inl (q 0, 40, .inl (u_11b.2.1 3))), ((a3 5), .inl (q 0, 40, .inl (u_11b.2.1 4))), ((a3 6), .inl (q 0, 40, .inl (u_11b.2.1 5))), ((a3 7), .inl (q 0, 40, .inl (u_11b.2.1 6))), ((a3 8), .inl (q 0, 40, .inl (u_11b.2.1 7))), ((a3 9), .inl (q 0, 40, .inl (u_11b.2.1 8))), ((a3 10), .inl (q 0, 40, .inl (u_11b.2.1 9))), ((a3 11), .inl (q 1, 40, .inr (.inl u_11b.2.2.1))), ((a3 12), .inl (q 0, u_11b.2.2.2.1, .inl u_11b.2.2.2.2))] := hD
            refine lv_aload_n hx hb dX6_rests_58 rfl (lv_at hl 2 rfl) ?_
            refine fl_get (C := RX6) (T := TX6) (N := 7) (ci := 5) (v := .ref (a4 0)) hx hb ht in_X6 hown hK hP 0 rfl rfl 3 (by decide) mw_358 rfl dX6_rests_59 ?_
            refine fl_get (C := RX2) (T := TX2) (N := 12) (ci := 1) (v := .int (u_11a.1 2)) hx hb ht in_X2 hown hK hP 14 rfl rfl 5 (by decide) mw_260 rfl dX6_rests_62 ?_
            refine lv_if_ne (tgt := 71) hx hb dX6_rests_65 (by decide) (fun c_12 => ?_) (fun c_12 => ?_)
            · replace h := h.1 c_12
              refine lv_iinc (v := (z2 + 1)) (lv' := [(2, .int (z2 + 1)), (1, .int z1), (0, .ref (a0 0))]) hx hb dX6_rests_71 hl (k := 1) rfl rfl (by decide) rfl (fun ls hl => ?_)
              refine lv_goto (tgt := 26) hx hb dX6_rests_74 (by decide) ?_
              exact ih _ _ _ _ _ _ ls h (hP.sub (ws' := fo_w (a0 0) (a1 0) (a2 0) (a3 0) (a4 0) (a5 0) p8 s8 ++ bd_w a2 q s2 ++ bd_w a3 q u_11b ++ mo_w a4 q u_11a) [0, 1, 2, 3, 4, 5, 6, 7, 8, 9, 10, 11, 12, 13, 18, 19, 20, 21, 22, 23, 24, 25, 26, 27, 28, 29, 30, 14, 15, 16, 17] rfl) (hD.sub (ws' := fo_w (a0 0) (a1 0) (a2 0) (a3 0) (a4 0) (a5 0) p8 s8 ++ bd_w a2 q s2 ++ bd_w a3 q u_11b ++ mo_w a4 q u_11a) [0, 1, 2, 3, 4, 5, 6, 7, 8, 9, 10, 11, 12, 13, 18, 19, 20, 21, 22, 23, 24, 25, 26, 27, 28, 29, 30, 14, 15, 16, 17] (by decide) rfl) hS (lv_sub hl [1, 0, 2] rfl)
            · replace h := h.2 c_12
              refine lv_bipush (v := (-2)) hx hb dX6_rests_68 (by decide) ?_
              exact mt_iret (u_11b, u_11a) hx hb hr hk h (hP.sub (ws' := fo_w (a0 0) (a1 0) (a2 0) (a3 0) (a4 0) (a5 0) p8 s8 ++ bd_w a2 q s2 ++ bd_w a3 q u_11b ++ mo_w a4 q u_11a) [0, 1, 2, 3, 4, 5, 6, 7, 8, 9, 10, 11, 12, 13, 18, 19, 20, 21, 22, 23, 24, 25, 26, 27, 28, 29, 30, 14, 15, 16, 17] rfl) (hD.sub (ws' := fo_w (a0 0) (a1 0) (a2 0) (a3 0) (a4 0) (a5 0) p8 s8 ++ bd_w a2 q s2 ++ bd_w a3 q u_11b ++ mo_w a4 q u_11a) [0, 1, 2, 3, 4, 5, 6, 7, 8, 9, 10, 11, 12, 13, 18, 19, 20, 21, 22, 23, 24, 25, 26, 27, 28, 29, 30, 14, 15, 16, 17] (by decide) rfl) hS dX6_rests_70
          · replace h := h.2 c_9
            refine lv_iload_n hx hb dX6_rests_44 rfl (lv_at hl 1 rfl) ?_
            exact mt_iret (t2, t3) hx hb hr hk h (hP.sub (ws' := fo_w (a0 0) (a1 0) (a2 0) (a3 0) (a4 0) (a5 0) p8 s8 ++ bd_w a2 q s2 ++ bd_w a3 q t2 ++ mo_w a4 q t3) [0, 1, 2, 3, 4, 5, 6, 7, 8, 9, 10, 11, 12, 13, 14, 15, 16, 17, 18, 19, 20, 21, 22, 23, 24, 25, 26, 27, 28, 29, 30] rfl) (hD.sub (ws' := fo_w (a0 0) (a1 0) (a2 0) (a3 0) (a4 0) (a5 0) p8 s8 ++ bd_w a2 q s2 ++ bd_w a3 q t2 ++ mo_w a4 q t3) [0, 1, 2, 3, 4, 5, 6, 7, 8, 9, 10, 11, 12, 13, 14, 15, 16, 17, 18, 19, 20, 21, 22, 23, 24, 25, 26, 27, 28, 29, 30] (by decide) rfl) hS dX6_rests_45
    obtain ⟨n26, h⟩ := h
    refine lp26 _ ?_ n26 _ _ _ _ _ _ ls h (hP.sub (ws' := fo_w (a0 0) (a1 0) (a2 0) (a3 0) (a4 0) (a5 0) p8 s8 ++ bd_w a2 q s2 ++ bd_w a3 q u_5 ++ mo_w a4 q s4) [0, 18, 19, 20, 21, 22, 23, 24, 25, 26, 27, 28, 29, 30, 5, 6, 7, 8, 9, 10, 11, 12, 13, 14, 15, 16, 17, 1, 2, 3, 4] rfl) (hD.sub (ws' := fo_w (a0 0) (a1 0) (a2 0) (a3 0) (a4 0) (a5 0) p8 s8 ++ bd_w a2 q s2 ++ bd_w a3 q u_5 ++ mo_w a4 q s4) [0, 18, 19, 20, 21, 22, 23, 24, 25, 26, 27, 28, 29, 30, 5, 6, 7, 8, 9, 10, 11, 12, 13, 14, 15, 16, 17, 1, 2, 3, 4] (by decide) rfl) hS (lv_sub hl [2, 0, 1] rfl)
    · intro t2 t3 z1 z2 H locs ls h hP hD hS hl
      try dsimp only at h
      have hP : va_P D vwCl [((a0 0), .inr (5, [.ref (a1 0), .ref (a2 0), .ref (a3 0), .ref (a4 0), .ref (a5 0), .ref p8, .ref s8])), ((a2 0), .inr (0, [.int (s2.1 0), .int (s2.1 1), .int (s2.1 2), .int (s2.1 3), .int (s2.1 4), .int (s2.1 5), .ref (a2 1), .ref (a2 2), .ref (a2 3), .ref (a2 4), .ref (a2 5), .ref (a2 6), .ref (a2 7), .ref (a2 8), .ref (a2 9), .ref (a2 10), .ref (a2 11), .ref (a2 12)])), ((a2 1), .inl (q 0, 4, .inl (s2.2.1 0))), ((a2 2), .inl (q 0, 4, .inl (s2.2.1 1))), ((a2 3), .inl (q 0, 160, .inl (s2.2.1 2))), ((a2 4), .inl (q 0, 40, .inl (s2.2.1 3))), ((a2 5), .inl (q 0, 40, .inl (s2.2.1 4))), ((a2 6), .inl (q 0, 40, .inl (s2.2.1 5))), ((a2 7), .inl (q 0, 40, .inl (s2.2.1 6))), ((a2 8), .inl (q 0, 40, .inl (s2.2.1 7))), ((a2 9), .inl (q 0, 40, .inl (s2.2.1 8))), ((a2 10), .inl (q 0, 40, .inl (s2.2.1 9))), ((a2 11), .inl (q 1, 40, .inr (.inl s2.2.2.1))), ((a2 12), .inl (q 0, s2.2.2.2.1, .inl s2.2.2.2.2)), ((a3 0), .inr (0, [.int (t2.1 0), .int (t2.1 1), .int (t2.1 2), .int (t2.1 3), .int (t2.1 4), .int (t2.1 5), .ref (a3 1), .ref (a3 2), .ref (a3 3), .ref (a3 4), .ref (a3 5), .ref (a3 6), .ref (a3 7), .ref (a3 8), .ref (a3 9), .ref (a3 10), .ref (a3 11), .ref (a3 12)])), ((a3 1), .inl (q 0, 4, .inl (t2.2.1 0))), ((a3 2), .inl (q 0, 4, .inl (t2.2.1 1))), ((a3 3), .inl (q 0, 160, .inl (t2.2.1 2))), ((a3 4), .inl (q 0, 40, .inl (t2.2.1 3))), ((a3 5), .inl (q 0, 40, .inl (t2.2.1 4))), ((a3 6), .inl (q 0, 40, .inl (t2.2.1 5))), ((a3 7), .inl (q 0, 40, .inl (t2.2.1 6))), ((a3 8), .inl (q 0, 40, .inl (t2.2.1 7))), ((a3 9), .inl (q 0, 40, .inl (t2.2.1 8))), ((a3 10), .inl (q 0, 40, .inl (t2.2.1 9))), ((a3 11), .inl (q 1, 40, .inr (.inl t2.2.2.1))), ((a3 12), .inl (q 0, t2.2.2.2.1, .inl t2.2.2.2.2)), ((a4 0), .inr (1, [.ref (a4 1), .ref (a4 2), .ref (a4 3), .int (t3.1 0), .int (t3.1 1), .int (t3.1 2), .int (t3.1 3), .int (t3.1 4), .int (t3.1 5), .int (t3.1 6), .int (t3.1 7), .int (t3.1 8)])), ((a4 1), .inl (q 0, 40, .inl (t3.2 0))), ((a4 2), .inl (q 0, 40, .inl (t3.2 1))), ((a4 3), .inl (q 0, 40, .inl (t3.2 2)))] H := hP
      have hD : va_D _ [((a0 0), .inr (5, [.ref (a1 0), .ref (a2 0), .ref (a3 0), .ref (a4 0), .ref (a5 0), .ref p8, .ref s8])), ((a2 0), .inr (0, [.int (s2.1 0), .int (s2.1 1), .int (s2.1 2), .int (s2.1 3), .int (s2.1 4), .int (s2.1 5), .ref (a2 1), .ref (a2 2), .ref (a2 3), .ref (a2 4), .ref (a2 5), .ref (a2 6), .ref (a2 7), .ref (a2 8), .ref (a2 9), .ref (a2 10), .ref (a2 11), .ref (a2 12)])), ((a2 1), .inl (q 0, 4, .inl (s2.2.1 0))), ((a2 2), .inl (q 0, 4, .inl (s2.2.1 1))), ((a2 3), .inl (q 0, 160, .inl (s2.2.1 2))), ((a2 4), .inl (q 0, 40, .inl (s2.2.1 3))), ((a2 5), .inl (q 0, 40, .inl (s2.2.1 4))), ((a2 6), .inl (q 0, 40, .inl (s2.2.1 5))), ((a2 7), .inl (q 0, 40, .inl (s2.2.1 6))), ((a2 8), .inl (q 0, 40, .inl (s2.2.1 7))), ((a2 9), .inl (q 0, 40, .inl (s2.2.1 8))), ((a2 10), .inl (q 0, 40, .inl (s2.2.1 9))), ((a2 11), .inl (q 1, 40, .inr (.inl s2.2.2.1))), ((a2 12), .inl (q 0, s2.2.2.2.1, .inl s2.2.2.2.2)), ((a3 0), .inr (0, [.int (t2.1 0), .int (t2.1 1), .int (t2.1 2), .int (t2.1 3), .int (t2.1 4), .int (t2.1 5), .ref (a3 1), .ref (a3 2), .ref (a3 3), .ref (a3 4), .ref (a3 5), .ref (a3 6), .ref (a3 7), .ref (a3 8), .ref (a3 9), .ref (a3 10), .ref (a3 11), .ref (a3 12)])), ((a3 1), .inl (q 0, 4, .inl (t2.2.1 0))), ((a3 2), .inl (q 0, 4, .inl (t2.2.1 1))), ((a3 3), .inl (q 0, 160, .inl (t2.2.1 2))), ((a3 4), .inl (q 0, 40, .inl (t2.2.1 3))), ((a3 5), .inl (q 0, 40, .inl (t2.2.1 4))), ((a3 6), .inl (q 0, 40, .inl (t2.2.1 5))), ((a3 7), .inl (q 0, 40, .inl (t2.2.1 6))), ((a3 8), .inl (q 0, 40, .inl (t2.2.1 7))), ((a3 9), .inl (q 0, 40, .inl (t2.2.1 8))), ((a3 10), .inl (q 0, 40, .inl (t2.2.1 9))), ((a3 11), .inl (q 1, 40, .inr (.inl t2.2.2.1))), ((a3 12), .inl (q 0, t2.2.2.2.1, .inl t2.2.2.2.2)), ((a4 0), .inr (1, [.ref (a4 1), .ref (a4 2), .ref (a4 3), .int (t3.1 0), .int (t3.1 1), .int (t3.1 2), .int (t3.1 3), .int (t3.1 4), .int (t3.1 5), .int (t3.1 6), .int (t3.1 7), .int (t3.1 8)])), ((a4 1), .inl (q 0, 40, .inl (t3.2 0))), ((a4 2), .inl (q 0, 40, .inl (t3.2 1))), ((a4 3), .inl (q 0, 40, .inl (t3.2 2)))] := hD
      refine lv_bipush (v := (-2)) hx hb dX6_rests_77 (by decide) ?_
      exact mt_iret (t2, t3) hx hb hr hk h (hP.sub (ws' := fo_w (a0 0) (a1 0) (a2 0) (a3 0) (a4 0) (a5 0) p8 s8 ++ bd_w a2 q s2 ++ bd_w a3 q t2 ++ mo_w a4 q t3) [0, 1, 2, 3, 4, 5, 6, 7, 8, 9, 10, 11, 12, 13, 14, 15, 16, 17, 18, 19, 20, 21, 22, 23, 24, 25, 26, 27, 28, 29, 30] rfl) (hD.sub (ws' := fo_w (a0 0) (a1 0) (a2 0) (a3 0) (a4 0) (a5 0) p8 s8 ++ bd_w a2 q s2 ++ bd_w a3 q t2 ++ mo_w a4 q t3) [0, 1, 2, 3, 4, 5, 6, 7, 8, 9, 10, 11, 12, 13, 14, 15, 16, 17, 18, 19, 20, 21, 22, 23, 24, 25, 26, 27, 28, 29, 30] (by decide) rfl) hS dX6_rests_79
  · replace h := h.2 c_3
    refine lv_iconst (v := (-1)) hx hb dX6_rests_11 (by decide) ?_
    exact mt_iret (s3, s4) hx hb hr hk h (hP.sub (ws' := fo_w (a0 0) (a1 0) (a2 0) (a3 0) (a4 0) (a5 0) p8 s8 ++ bd_w a2 q s2 ++ bd_w a3 q s3 ++ mo_w a4 q s4) [0, 1, 2, 3, 4, 5, 6, 7, 8, 9, 10, 11, 12, 13, 14, 15, 16, 17, 18, 19, 20, 21, 22, 23, 24, 25, 26, 27, 28, 29, 30] rfl) (hD.sub (ws' := fo_w (a0 0) (a1 0) (a2 0) (a3 0) (a4 0) (a5 0) p8 s8 ++ bd_w a2 q s2 ++ bd_w a3 q s3 ++ mo_w a4 q s4) [0, 1, 2, 3, 4, 5, 6, 7, 8, 9, 10, 11, 12, 13, 14, 15, 16, 17, 18, 19, 20, 21, 22, 23, 24, 25, 26, 27, 28, 29, 30] (by decide) rfl) hS dX6_rests_12

def wp_X6_cost (post : Int32 → Prop) (s1 : Tp) (s2 : Bd) (x1 : Int32) : Prop := wp_X6_whyNotRow (fun r_1 => ((¬ r_1 = 0 → post r_1) ∧ (r_1 = 0 → wp_X0_costOf (fun r_4 => post r_4) s2 s1 x1 (0 : Int32) (0 : Int32) (s1.1 0)))) s1 s2 x1
set_option maxHeartbeats 4000000 in
set_option maxRecDepth 100000 in
theorem c2_X6_cost {l : Launch} {D : va_G} {q : Nat → ClassId} {a0 a1 a2 a3 a4 a5 : Nat → Nat} {p8 s8 : Nat} {s1 : Tp} {s2 : Bd} {x1 : Int32} {post : Int32 → Prop} (h : wp_X6_cost post s1 s2 x1) : Met l yX6_cost (Cond.code yX6_cost cX6_cost 3 (some .int) :: w_all) ({ frames := 3, cells := 0, slots := 0, locals := 83 } : Room) (rd_P D q [.ref (a0 0), .int x1] (fo_w (a0 0) (a1 0) (a2 0) (a3 0) (a4 0) (a5 0) p8 s8 ++ tp_w a1 q s1 ++ bd_w a2 q s2)) (vp_Si post) 0 0 (fun _ => False) := by
  refine rd_start (by decide) (Nat.le_of_ble_eq_true rfl) ?_
  intro p e s m below meth c ls hx hb hr hml hown ht hk hP hQ hV hl
  have hK := hQ.1
  have hown : s.vm.findClass RX6 = some m.cls := hown
  have hl : lv_has ls 3 [(0, .ref (a0 0)), (1, .int x1)] := hl
  have hP : va_P D vwCl [((a0 0), .inr (5, [.ref (a1 0), .ref (a2 0), .ref (a3 0), .ref (a4 0), .ref (a5 0), .ref p8, .ref s8])), ((a1 0), .inr (4, [.ref (a1 1), .int (s1.1 0), .int (s1.1 1), .int (s1.1 2), .int (s1.1 3), .int (s1.1 4), .int (s1.1 5)])), ((a1 1), .inl (q 0, 400, .inl s1.2)), ((a2 0), .inr (0, [.int (s2.1 0), .int (s2.1 1), .int (s2.1 2), .int (s2.1 3), .int (s2.1 4), .int (s2.1 5), .ref (a2 1), .ref (a2 2), .ref (a2 3), .ref (a2 4), .ref (a2 5), .ref (a2 6), .ref (a2 7), .ref (a2 8), .ref (a2 9), .ref (a2 10), .ref (a2 11), .ref (a2 12)])), ((a2 1), .inl (q 0, 4, .inl (s2.2.1 0))), ((a2 2), .inl (q 0, 4, .inl (s2.2.1 1))), ((a2 3), .inl (q 0, 160, .inl (s2.2.1 2))), ((a2 4), .inl (q 0, 40, .inl (s2.2.1 3))), ((a2 5), .inl (q 0, 40, .inl (s2.2.1 4))), ((a2 6), .inl (q 0, 40, .inl (s2.2.1 5))), ((a2 7), .inl (q 0, 40, .inl (s2.2.1 6))), ((a2 8), .inl (q 0, 40, .inl (s2.2.1 7))), ((a2 9), .inl (q 0, 40, .inl (s2.2.1 8))), ((a2 10), .inl (q 0, 40, .inl (s2.2.1 9))), ((a2 11), .inl (q 1, 40, .inr (.inl s2.2.2.1))), ((a2 12), .inl (q 0, s2.2.2.2.1, .inl s2.2.2.2.2))] s.heap := hP
  unfold wp_X6_cost at h
  refine lv_aload_n hx hb dX6_cost_0 rfl (lv_at hl 0 rfl) ?_
  refine lv_iload_n hx hb dX6_cost_1 rfl (lv_at hl 1 rfl) ?_
  refine vp_callSi (rd_wV (wc := fo_w (a0 0) (a1 0) (a2 0) (a3 0) (a4 0) (a5 0) p8 s8 ++ tp_w a1 q s1 ++ bd_w a2 q s2) (As := [.int x1]) (rest := []) hx hb hml hown ht (c2_X6_whyNotRow h) wd_X6_whyNotRow mw_617 hQ hV va_S.rf (hP.sub [0, 1, 2, 3, 4, 5, 6, 7, 8, 9, 10, 11, 12, 13, 14, 15] rfl) rfl rfl rfl hl.1 rfl (Nat.le_of_ble_eq_true rfl) dX6_cost_2 ⟨Nat.le_of_ble_eq_true rfl, Nat.le_of_ble_eq_true rfl, rfl, rfl⟩ ⟨Nat.le_of_ble_eq_true rfl, Nat.le_of_ble_eq_true rfl⟩) (fun r_1 h => ?_)
  try dsimp only at h
  refine lv_istore_n (lv' := [(2, .int r_1), (0, .ref (a0 0)), (1, .int x1)]) hx hb dX6_cost_5 rfl hl (by decide) rfl (fun ls hl => ?_)
  refine lv_iload_n hx hb dX6_cost_6 rfl (lv_at hl 0 rfl) ?_
  refine lv_if_ne (tgt := 34) hx hb dX6_cost_7 (by decide) (fun c_3 => ?_) (fun c_3 => ?_)
  · replace h := h.1 c_3
    refine lv_iload_n hx hb dX6_cost_34 rfl (lv_at hl 0 rfl) ?_
    exact rd_iret hx hb hr hk h dX6_cost_35
  · replace h := h.2 c_3
    refine lv_aload_n hx hb dX6_cost_10 rfl (lv_at hl 1 rfl) ?_
    refine fl_get (C := RX6) (T := TX6) (N := 7) (ci := 5) (v := .ref (a2 0)) hx hb ht in_X6 hown hK hP 0 rfl rfl 1 (by decide) mw_356 rfl dX6_cost_11 ?_
    refine lv_iload_n hx hb dX6_cost_14 rfl (lv_at hl 2 rfl) ?_
    refine lv_iconst (v := 0) hx hb dX6_cost_15 (by decide) ?_
    refine lv_aload_n hx hb dX6_cost_16 rfl (lv_at hl 1 rfl) ?_
    refine fl_get (C := RX6) (T := TX6) (N := 7) (ci := 5) (v := .ref (a1 0)) hx hb ht in_X6 hown hK hP 0 rfl rfl 0 (by decide) mw_355 rfl dX6_cost_17 ?_
    refine lv_iconst (v := 0) hx hb dX6_cost_20 (by decide) ?_
    refine lv_aload_n hx hb dX6_cost_21 rfl (lv_at hl 1 rfl) ?_
    refine fl_get (C := RX6) (T := TX6) (N := 7) (ci := 5) (v := .ref (a1 0)) hx hb ht in_X6 hown hK hP 0 rfl rfl 0 (by decide) mw_355 rfl dX6_cost_22 ?_
    refine fl_get (C := RX5) (T := TX5) (N := 7) (ci := 4) (v := .int (s1.1 0)) hx hb ht in_X5 hown hK hP 1 rfl rfl 1 (by decide) mw_129 rfl dX6_cost_25 ?_
    refine vp_callSi (rd_wV (wc := bd_w a2 q s2 ++ tp_w a1 q s1) (As := [.int x1, .int 0, .ref (a1 0), .int 0, .int (s1.1 0)]) (rest := []) hx hb hml hown ht (c2_X0_costOf h) wd_X0_costOf mw_1009 hQ hV va_S.rf (hP.sub [3, 4, 5, 6, 7, 8, 9, 10, 11, 12, 13, 14, 15, 1, 2] rfl) rfl rfl rfl hl.1 rfl (Nat.le_of_ble_eq_true rfl) dX6_cost_28 ⟨Nat.le_of_ble_eq_true rfl, Nat.le_of_ble_eq_true rfl, rfl, rfl⟩ ⟨Nat.le_of_ble_eq_true rfl, Nat.le_of_ble_eq_true rfl⟩) (fun r_4 h => ?_)
    try dsimp only at h
    refine lv_goto (tgt := 35) hx hb dX6_cost_31 (by decide) ?_
    exact rd_iret hx hb hr hk h dX6_cost_35

def wp_X6_best_L39 (s1 : Tp) (s2 : Bd) (post : Int32 → Prop) (e187 : Int32 → Int32 → Int32 → Int32 → Int32 → Int32 → Int32 → Int32 → Prop) : Nat → Int32 → Int32 → Int32 → Int32 → Int32 → Int32 → Int32 → Int32 → Prop
  | 0, _, _, _, _, _, _, _, _ => False
  | n39 + 1, z1, z2, z3, z4, z5, z6, z7, z8 => (((s1.1 0) < z8 → e187 z1 z2 z3 z4 z5 z6 z7 z8) ∧ (¬ (s1.1 0) < z8 → ((z8 = (s1.1 0) → wp_X6_isRowText (fun r_8 => ((¬ r_8 = 0 → wp_X0_costOf (fun r_11 => wp_X0_missesOf (fun r_13 => ((z3 = 0 → wp_X6_best_L39 s1 s2 post e187 n39 z1 z2 (z3 + 1) (z8 + 1) z3 r_11 r_13 (z8 + 1)) ∧ (¬ z3 = 0 → ((r_11 < z6 → wp_X6_best_L39 s1 s2 post e187 n39 z1 z2 (z3 + 1) (z8 + 1) z3 r_11 r_13 (z8 + 1)) ∧ (¬ r_11 < z6 → ((¬ r_11 = z6 → wp_X6_best_L39 s1 s2 post e187 n39 z1 z2 (z3 + 1) (z8 + 1) z5 z6 z7 (z8 + 1)) ∧ (r_11 = z6 → ((z7 ≤ r_13 → wp_X6_best_L39 s1 s2 post e187 n39 z1 z2 (z3 + 1) (z8 + 1) z5 z6 z7 (z8 + 1)) ∧ (¬ z7 ≤ r_13 → wp_X6_best_L39 s1 s2 post e187 n39 z1 z2 (z3 + 1) (z8 + 1) z3 r_11 r_13 (z8 + 1)))))))))) s2 s1 z1 (0 : Int32) z4 (z8 - z4)) s2 s1 z1 (0 : Int32) z4 (z8 - z4)) ∧ (r_8 = 0 → post (-2)))) s1 s2 z4 (z8 - z4)) ∧ (¬ z8 = (s1.1 0) → wp_X5_byteAt (fun r_19 => ((¬ r_19 = 47 → wp_X6_best_L39 s1 s2 post e187 n39 z1 z2 z3 z4 z5 z6 z7 (z8 + 1)) ∧ (r_19 = 47 → wp_X6_isRowText (fun r_22 => ((¬ r_22 = 0 → wp_X0_costOf (fun r_25 => wp_X0_missesOf (fun r_27 => ((z3 = 0 → wp_X6_best_L39 s1 s2 post e187 n39 z1 z2 (z3 + 1) (z8 + 1) z3 r_25 r_27 (z8 + 1)) ∧ (¬ z3 = 0 → ((r_25 < z6 → wp_X6_best_L39 s1 s2 post e187 n39 z1 z2 (z3 + 1) (z8 + 1) z3 r_25 r_27 (z8 + 1)) ∧ (¬ r_25 < z6 → ((¬ r_25 = z6 → wp_X6_best_L39 s1 s2 post e187 n39 z1 z2 (z3 + 1) (z8 + 1) z5 z6 z7 (z8 + 1)) ∧ (r_25 = z6 → ((z7 ≤ r_27 → wp_X6_best_L39 s1 s2 post e187 n39 z1 z2 (z3 + 1) (z8 + 1) z5 z6 z7 (z8 + 1)) ∧ (¬ z7 ≤ r_27 → wp_X6_best_L39 s1 s2 post e187 n39 z1 z2 (z3 + 1) (z8 + 1) z3 r_25 r_27 (z8 + 1)))))))))) s2 s1 z1 (0 : Int32) z4 (z8 - z4)) s2 s1 z1 (0 : Int32) z4 (z8 - z4)) ∧ (r_22 = 0 → post (-2)))) s1 s2 z4 (z8 - z4)))) s1 z8))))
def wp_X6_best (post : Int32 → Prop) (s1 : Tp) (s2 : Bd) (x1 : Int32) (x2 : Int32) : Prop := wp_X0_hasRow (fun r_1 => ((r_1 = 0 → post (-1)) ∧ (¬ r_1 = 0 → ((x2 < 0 → post (-1)) ∧ (¬ x2 < 0 → ((x2 ≤ 2 → (∃ n39, wp_X6_best_L39 s1 s2 post (fun z1 z2 z3 z4 z5 z6 z7 z8 => ((¬ z2 = 0 → ((¬ z2 = 1 → post z7) ∧ (z2 = 1 → post z6))) ∧ (z2 = 0 → post z5))) n39 x1 x2 0 0 0 0 0 0)) ∧ (¬ x2 ≤ 2 → post (-1)))))))) s2 x1
set_option maxHeartbeats 4000000 in
set_option maxRecDepth 100000 in
theorem c2_X6_best {l : Launch} {D : va_G} {q : Nat → ClassId} {a0 a1 a2 a3 a4 a5 : Nat → Nat} {p8 s8 : Nat} {s1 : Tp} {s2 : Bd} {x1 : Int32} {x2 : Int32} {post : Int32 → Prop} (h : wp_X6_best post s1 s2 x1 x2) : Met l yX6_best (Cond.code yX6_best cX6_best 12 (some .int) :: w_all) ({ frames := 3, cells := 0, slots := 0, locals := 83 } : Room) (rd_P D q [.ref (a0 0), .int x1, .int x2] (fo_w (a0 0) (a1 0) (a2 0) (a3 0) (a4 0) (a5 0) p8 s8 ++ tp_w a1 q s1 ++ bd_w a2 q s2)) (vp_Si post) 0 0 (fun _ => False) := by
  refine rd_start (by decide) (Nat.le_of_ble_eq_true rfl) ?_
  intro p e s m below meth c ls hx hb hr hml hown ht hk hP hQ hV hl
  have hK := hQ.1
  have hown : s.vm.findClass RX6 = some m.cls := hown
  have hl : lv_has ls 12 [(0, .ref (a0 0)), (1, .int x1), (2, .int x2)] := hl
  have hP : va_P D vwCl [((a0 0), .inr (5, [.ref (a1 0), .ref (a2 0), .ref (a3 0), .ref (a4 0), .ref (a5 0), .ref p8, .ref s8])), ((a1 0), .inr (4, [.ref (a1 1), .int (s1.1 0), .int (s1.1 1), .int (s1.1 2), .int (s1.1 3), .int (s1.1 4), .int (s1.1 5)])), ((a1 1), .inl (q 0, 400, .inl s1.2)), ((a2 0), .inr (0, [.int (s2.1 0), .int (s2.1 1), .int (s2.1 2), .int (s2.1 3), .int (s2.1 4), .int (s2.1 5), .ref (a2 1), .ref (a2 2), .ref (a2 3), .ref (a2 4), .ref (a2 5), .ref (a2 6), .ref (a2 7), .ref (a2 8), .ref (a2 9), .ref (a2 10), .ref (a2 11), .ref (a2 12)])), ((a2 1), .inl (q 0, 4, .inl (s2.2.1 0))), ((a2 2), .inl (q 0, 4, .inl (s2.2.1 1))), ((a2 3), .inl (q 0, 160, .inl (s2.2.1 2))), ((a2 4), .inl (q 0, 40, .inl (s2.2.1 3))), ((a2 5), .inl (q 0, 40, .inl (s2.2.1 4))), ((a2 6), .inl (q 0, 40, .inl (s2.2.1 5))), ((a2 7), .inl (q 0, 40, .inl (s2.2.1 6))), ((a2 8), .inl (q 0, 40, .inl (s2.2.1 7))), ((a2 9), .inl (q 0, 40, .inl (s2.2.1 8))), ((a2 10), .inl (q 0, 40, .inl (s2.2.1 9))), ((a2 11), .inl (q 1, 40, .inr (.inl s2.2.2.1))), ((a2 12), .inl (q 0, s2.2.2.2.1, .inl s2.2.2.2.2))] s.heap := hP
  unfold wp_X6_best at h
  refine lv_aload_n hx hb dX6_best_0 rfl (lv_at hl 0 rfl) ?_
  refine fl_get (C := RX6) (T := TX6) (N := 7) (ci := 5) (v := .ref (a2 0)) hx hb ht in_X6 hown hK hP 0 rfl rfl 1 (by decide) mw_356 rfl dX6_best_1 ?_
  refine lv_iload_n hx hb dX6_best_4 rfl (lv_at hl 1 rfl) ?_
  refine vp_callSi (rd_wV (wc := bd_w a2 q s2) (As := [.int x1]) (rest := []) hx hb hml hown ht (c2_X0_hasRow h) wd_X0_hasRow mw_621 hQ hV va_S.rf (hP.sub [3, 4, 5, 6, 7, 8, 9, 10, 11, 12, 13, 14, 15] rfl) rfl rfl rfl hl.1 rfl (Nat.le_of_ble_eq_true rfl) dX6_best_5 ⟨Nat.le_of_ble_eq_true rfl, Nat.le_of_ble_eq_true rfl, rfl, rfl⟩ ⟨Nat.le_of_ble_eq_true rfl, Nat.le_of_ble_eq_true rfl⟩) (fun r_1 h => ?_)
  try dsimp only at h
  refine lv_if_eq (tgt := 20) hx hb dX6_best_8 (by decide) (fun c_3 => ?_) (fun c_3 => ?_)
  · replace h := h.1 c_3
    refine lv_iconst (v := (-1)) hx hb dX6_best_20 (by decide) ?_
    exact rd_iret hx hb hr hk h dX6_best_21
  · replace h := h.2 c_3
    refine lv_iload_n hx hb dX6_best_11 rfl (lv_at hl 2 rfl) ?_
    refine lv_if_lt (tgt := 20) hx hb dX6_best_12 (by decide) (fun c_4 => ?_) (fun c_4 => ?_)
    · replace h := h.1 c_4
      refine lv_iconst (v := (-1)) hx hb dX6_best_20 (by decide) ?_
      exact rd_iret hx hb hr hk h dX6_best_21
    · replace h := h.2 c_4
      refine lv_iload_n hx hb dX6_best_15 rfl (lv_at hl 2 rfl) ?_
      refine lv_iconst (v := 2) hx hb dX6_best_16 (by decide) ?_
      refine lv_icmp_le (tgt := 22) hx hb dX6_best_17 (by decide) (fun c_5 => ?_) (fun c_5 => ?_)
      · replace h := h.1 c_5
        refine lv_iconst (v := 0) hx hb dX6_best_22 (by decide) ?_
        refine lv_istore_n (lv' := [(3, .int 0), (0, .ref (a0 0)), (1, .int x1), (2, .int x2)]) hx hb dX6_best_23 rfl hl (by decide) rfl (fun ls hl => ?_)
        refine lv_iconst (v := 0) hx hb dX6_best_24 (by decide) ?_
        refine lv_istore (lv' := [(4, .int 0), (3, .int 0), (0, .ref (a0 0)), (1, .int x1), (2, .int x2)]) hx hb dX6_best_25 hl (by decide) rfl (fun ls hl => ?_)
        refine lv_iconst (v := 0) hx hb dX6_best_27 (by decide) ?_
        refine lv_istore (lv' := [(5, .int 0), (4, .int 0), (3, .int 0), (0, .ref (a0 0)), (1, .int x1), (2, .int x2)]) hx hb dX6_best_28 hl (by decide) rfl (fun ls hl => ?_)
        refine lv_iconst (v := 0) hx hb dX6_best_30 (by decide) ?_
        refine lv_istore (lv' := [(6, .int 0), (5, .int 0), (4, .int 0), (3, .int 0), (0, .ref (a0 0)), (1, .int x1), (2, .int x2)]) hx hb dX6_best_31 hl (by decide) rfl (fun ls hl => ?_)
        refine lv_iconst (v := 0) hx hb dX6_best_33 (by decide) ?_
        refine lv_istore (lv' := [(7, .int 0), (6, .int 0), (5, .int 0), (4, .int 0), (3, .int 0), (0, .ref (a0 0)), (1, .int x1), (2, .int x2)]) hx hb dX6_best_34 hl (by decide) rfl (fun ls hl => ?_)
        refine lv_iconst (v := 0) hx hb dX6_best_36 (by decide) ?_
        refine lv_istore (lv' := [(8, .int 0), (7, .int 0), (6, .int 0), (5, .int 0), (4, .int 0), (3, .int 0), (0, .ref (a0 0)), (1, .int x1), (2, .int x2)]) hx hb dX6_best_37 hl (by decide) rfl (fun ls hl => ?_)
        have lp39 : ∀ (e187 : Int32 → Int32 → Int32 → Int32 → Int32 → Int32 → Int32 → Int32 → Prop) (k187 : ∀ (z1 : Int32) (z2 : Int32) (z3 : Int32) (z4 : Int32) (z5 : Int32) (z6 : Int32) (z7 : Int32) (z8 : Int32) (ls : Array Slot), e187 z1 z2 z3 z4 z5 z6 z7 z8 → lv_has ls 12 [(1, .int z1), (2, .int z2), (3, .int z3), (4, .int z4), (5, .int z5), (6, .int z6), (7, .int z7), (8, .int z8), (0, .ref (a0 0))] → W p l e ({ frames := 3, cells := 0, slots := 0, locals := 83 } : Room) s m [.ref (a0 0), .int x1, .int x2].toArray below meth c s.heap [] 0 0 (MQ below (vp_Si post) [.ref (a0 0), .int x1, .int x2].toArray s 0 0 (fun _ => False)) (F0 m 187 ls [])) (n : Nat) (z1 : Int32) (z2 : Int32) (z3 : Int32) (z4 : Int32) (z5 : Int32) (z6 : Int32) (z7 : Int32) (z8 : Int32) (ls : Array Slot), wp_X6_best_L39 s1 s2 post e187 n z1 z2 z3 z4 z5 z6 z7 z8 → lv_has ls 12 [(1, .int z1), (2, .int z2), (3, .int z3), (4, .int z4), (5, .int z5), (6, .int z6), (7, .int z7), (8, .int z8), (0, .ref (a0 0))] → W p l e ({ frames := 3, cells := 0, slots := 0, locals := 83 } : Room) s m [.ref (a0 0), .int x1, .int x2].toArray below meth c s.heap [] 0 0 (MQ below (vp_Si post) [.ref (a0 0), .int x1, .int x2].toArray s 0 0 (fun _ => False)) (F0 m 39 ls []) := by
          intro e187 k187 n
          induction n with
          | zero =>
            intro z1 z2 z3 z4 z5 z6 z7 z8 ls h
            exact h.elim
          | succ n ih =>
            intro z1 z2 z3 z4 z5 z6 z7 z8 ls h hl
            unfold wp_X6_best_L39 at h
            refine lv_iload hx hb dX6_best_39 (lv_at hl 7 rfl) ?_
            refine lv_aload_n hx hb dX6_best_41 rfl (lv_at hl 8 rfl) ?_
            refine fl_get (C := RX6) (T := TX6) (N := 7) (ci := 5) (v := .ref (a1 0)) hx hb ht in_X6 hown hK hP 0 rfl rfl 0 (by decide) mw_355 rfl dX6_best_42 ?_
            refine fl_get (C := RX5) (T := TX5) (N := 7) (ci := 4) (v := .int (s1.1 0)) hx hb ht in_X5 hown hK hP 1 rfl rfl 1 (by decide) mw_129 rfl dX6_best_45 ?_
            refine lv_icmp_gt (tgt := 187) hx hb dX6_best_48 (by decide) (fun c_6 => ?_) (fun c_6 => ?_)
            · replace h := h.1 c_6
              exact k187 _ _ _ _ _ _ _ _ ls h (lv_sub hl [0, 1, 2, 3, 4, 5, 6, 7, 8] rfl)
            · replace h := h.2 c_6
              refine lv_iload hx hb dX6_best_51 (lv_at hl 7 rfl) ?_
              refine lv_aload_n hx hb dX6_best_53 rfl (lv_at hl 8 rfl) ?_
              refine fl_get (C := RX6) (T := TX6) (N := 7) (ci := 5) (v := .ref (a1 0)) hx hb ht in_X6 hown hK hP 0 rfl rfl 0 (by decide) mw_355 rfl dX6_best_54 ?_
              refine fl_get (C := RX5) (T := TX5) (N := 7) (ci := 4) (v := .int (s1.1 0)) hx hb ht in_X5 hown hK hP 1 rfl rfl 1 (by decide) mw_129 rfl dX6_best_57 ?_
              refine lv_icmp_eq (tgt := 77) hx hb dX6_best_60 (by decide) (fun c_7 => ?_) (fun c_7 => ?_)
              · replace h := h.1 c_7
                refine lv_iload hx hb dX6_best_77 (lv_at hl 7 rfl) ?_
                refine lv_iload hx hb dX6_best_79 (lv_at hl 3 rfl) ?_
                refine lv_isub hx hb dX6_best_81 ?_
                refine lv_istore (lv' := [(9, .int (z8 - z4)), (1, .int z1), (2, .int z2), (3, .int z3), (4, .int z4), (5, .int z5), (6, .int z6), (7, .int z7), (8, .int z8), (0, .ref (a0 0))]) hx hb dX6_best_82 hl (by decide) rfl (fun ls hl => ?_)
                refine lv_aload_n hx hb dX6_best_84 rfl (lv_at hl 9 rfl) ?_
                refine lv_iload hx hb dX6_best_85 (lv_at hl 4 rfl) ?_
                refine lv_iload hx hb dX6_best_87 (lv_at hl 0 rfl) ?_
                refine vp_callSi (rd_wV (wc := fo_w (a0 0) (a1 0) (a2 0) (a3 0) (a4 0) (a5 0) p8 s8 ++ tp_w a1 q s1 ++ bd_w a2 q s2) (As := [.int z4, .int (z8 - z4)]) (rest := []) hx hb hml hown ht (c2_X6_isRowText h) wd_X6_isRowText mw_625 hQ hV va_S.rf (hP.sub [0, 1, 2, 3, 4, 5, 6, 7, 8, 9, 10, 11, 12, 13, 14, 15] rfl) rfl rfl rfl hl.1 rfl (Nat.le_of_ble_eq_true rfl) dX6_best_89 ⟨Nat.le_of_ble_eq_true rfl, Nat.le_of_ble_eq_true rfl, rfl, rfl⟩ ⟨Nat.le_of_ble_eq_true rfl, Nat.le_of_ble_eq_true rfl⟩) (fun r_8 h => ?_)
                try dsimp only at h
                refine lv_if_ne (tgt := 98) hx hb dX6_best_92 (by decide) (fun c_10 => ?_) (fun c_10 => ?_)
                · replace h := h.1 c_10
                  refine lv_aload_n hx hb dX6_best_98 rfl (lv_at hl 9 rfl) ?_
                  refine fl_get (C := RX6) (T := TX6) (N := 7) (ci := 5) (v := .ref (a2 0)) hx hb ht in_X6 hown hK hP 0 rfl rfl 1 (by decide) mw_356 rfl dX6_best_99 ?_
                  refine lv_iload_n hx hb dX6_best_102 rfl (lv_at hl 1 rfl) ?_
                  refine lv_iconst (v := 0) hx hb dX6_best_103 (by decide) ?_
                  refine lv_aload_n hx hb dX6_best_104 rfl (lv_at hl 9 rfl) ?_
                  refine fl_get (C := RX6) (T := TX6) (N := 7) (ci := 5) (v := .ref (a1 0)) hx hb ht in_X6 hown hK hP 0 rfl rfl 0 (by decide) mw_355 rfl dX6_best_105 ?_
                  refine lv_iload hx hb dX6_best_108 (lv_at hl 4 rfl) ?_
                  refine lv_iload hx hb dX6_best_110 (lv_at hl 0 rfl) ?_
                  refine vp_callSi (rd_wV (wc := bd_w a2 q s2 ++ tp_w a1 q s1) (As := [.int z1, .int 0, .ref (a1 0), .int z4, .int (z8 - z4)]) (rest := []) hx hb hml hown ht (c2_X0_costOf h) wd_X0_costOf mw_1009 hQ hV va_S.rf (hP.sub [3, 4, 5, 6, 7, 8, 9, 10, 11, 12, 13, 14, 15, 1, 2] rfl) rfl rfl rfl hl.1 rfl (Nat.le_of_ble_eq_true rfl) dX6_best_112 ⟨Nat.le_of_ble_eq_true rfl, Nat.le_of_ble_eq_true rfl, rfl, rfl⟩ ⟨Nat.le_of_ble_eq_true rfl, Nat.le_of_ble_eq_true rfl⟩) (fun r_11 h => ?_)
                  try dsimp only at h
                  refine lv_istore (lv' := [(10, .int r_11), (9, .int (z8 - z4)), (1, .int z1), (2, .int z2), (3, .int z3), (4, .int z4), (5, .int z5), (6, .int z6), (7, .int z7), (8, .int z8), (0, .ref (a0 0))]) hx hb dX6_best_115 hl (by decide) rfl (fun ls hl => ?_)
                  refine lv_aload_n hx hb dX6_best_117 rfl (lv_at hl 10 rfl) ?_
                  refine fl_get (C := RX6) (T := TX6) (N := 7) (ci := 5) (v := .ref (a2 0)) hx hb ht in_X6 hown hK hP 0 rfl rfl 1 (by decide) mw_356 rfl dX6_best_118 ?_
                  refine lv_iload_n hx hb dX6_best_121 rfl (lv_at hl 2 rfl) ?_
                  refine lv_iconst (v := 0) hx hb dX6_best_122 (by decide) ?_
                  refine lv_aload_n hx hb dX6_best_123 rfl (lv_at hl 10 rfl) ?_
                  refine fl_get (C := RX6) (T := TX6) (N := 7) (ci := 5) (v := .ref (a1 0)) hx hb ht in_X6 hown hK hP 0 rfl rfl 0 (by decide) mw_355 rfl dX6_best_124 ?_
                  refine lv_iload hx hb dX6_best_127 (lv_at hl 5 rfl) ?_
                  refine lv_iload hx hb dX6_best_129 (lv_at hl 1 rfl) ?_
                  refine vp_callSi (rd_wV (wc := bd_w a2 q s2 ++ tp_w a1 q s1) (As := [.int z1, .int 0, .ref (a1 0), .int z4, .int (z8 - z4)]) (rest := []) hx hb hml hown ht (c2_X0_missesOf h) wd_X0_missesOf mw_1024 hQ hV va_S.rf (hP.sub [3, 4, 5, 6, 7, 8, 9, 10, 11, 12, 13, 14, 15, 1, 2] rfl) rfl rfl rfl hl.1 rfl (Nat.le_of_ble_eq_true rfl) dX6_best_131 ⟨Nat.le_of_ble_eq_true rfl, Nat.le_of_ble_eq_true rfl, rfl, rfl⟩ ⟨Nat.le_of_ble_eq_true rfl, Nat.le_of_ble_eq_true rfl⟩) (fun r_13 h => ?_)
                  try dsimp only at h
                  refine lv_istore (lv' := [(11, .int r_13), (10, .int r_11), (9, .int (z8 - z4)), (1, .int z1), (2, .int z2), (3, .int z3), (4, .int z4), (5, .int z5), (6, .int z6), (7, .int z7), (8, .int z8), (0, .ref (a0 0))]) hx hb dX6_best_134 hl (by decide) rfl (fun ls hl => ?_)
                  refine lv_iload_n hx hb dX6_best_136 rfl (lv_at hl 5 rfl) ?_
                  refine lv_if_eq (tgt := 161) hx hb dX6_best_137 (by decide) (fun c_15 => ?_) (fun c_15 => ?_)
                  · replace h := h.1 c_15
                    refine lv_iload_n hx hb dX6_best_161 rfl (lv_at hl 5 rfl) ?_
                    refine lv_istore (lv' := [(5, .int z3), (11, .int r_13), (10, .int r_11), (9, .int (z8 - z4)), (1, .int z1), (2, .int z2), (3, .int z3), (4, .int z4), (6, .int z6), (7, .int z7), (8, .int z8), (0, .ref (a0 0))]) hx hb dX6_best_162 hl (by decide) rfl (fun ls hl => ?_)
                    refine lv_iload hx hb dX6_best_164 (lv_at hl 2 rfl) ?_
                    refine lv_istore (lv' := [(6, .int r_11), (5, .int z3), (11, .int r_13), (10, .int r_11), (9, .int (z8 - z4)), (1, .int z1), (2, .int z2), (3, .int z3), (4, .int z4), (7, .int z7), (8, .int z8), (0, .ref (a0 0))]) hx hb dX6_best_166 hl (by decide) rfl (fun ls hl => ?_)
                    refine lv_iload hx hb dX6_best_168 (lv_at hl 2 rfl) ?_
                    refine lv_istore (lv' := [(7, .int r_13), (6, .int r_11), (5, .int z3), (11, .int r_13), (10, .int r_11), (9, .int (z8 - z4)), (1, .int z1), (2, .int z2), (3, .int z3), (4, .int z4), (8, .int z8), (0, .ref (a0 0))]) hx hb dX6_best_170 hl (by decide) rfl (fun ls hl => ?_)
                    refine lv_iinc (v := (z3 + 1)) (lv' := [(3, .int (z3 + 1)), (7, .int r_13), (6, .int r_11), (5, .int z3), (11, .int r_13), (10, .int r_11), (9, .int (z8 - z4)), (1, .int z1), (2, .int z2), (4, .int z4), (8, .int z8), (0, .ref (a0 0))]) hx hb dX6_best_172 hl (k := 8) rfl rfl (by decide) rfl (fun ls hl => ?_)
                    refine lv_iload hx hb dX6_best_175 (lv_at hl 10 rfl) ?_
                    refine lv_iconst (v := 1) hx hb dX6_best_177 (by decide) ?_
                    refine lv_iadd hx hb dX6_best_178 ?_
                    refine lv_istore (lv' := [(4, .int (z8 + 1)), (3, .int (z3 + 1)), (7, .int r_13), (6, .int r_11), (5, .int z3), (11, .int r_13), (10, .int r_11), (9, .int (z8 - z4)), (1, .int z1), (2, .int z2), (8, .int z8), (0, .ref (a0 0))]) hx hb dX6_best_179 hl (by decide) rfl (fun ls hl => ?_)
                    refine lv_iinc (v := (z8 + 1)) (lv' := [(8, .int (z8 + 1)), (4, .int (z8 + 1)), (3, .int (z3 + 1)), (7, .int r_13), (6, .int r_11), (5, .int z3), (11, .int r_13), (10, .int r_11), (9, .int (z8 - z4)), (1, .int z1), (2, .int z2), (0, .ref (a0 0))]) hx hb dX6_best_181 hl (k := 10) rfl rfl (by decide) rfl (fun ls hl => ?_)
                    refine lv_goto (tgt := 39) hx hb dX6_best_184 (by decide) ?_
                    exact ih _ _ _ _ _ _ _ _ ls h (lv_sub hl [9, 10, 2, 1, 5, 4, 3, 0, 11] rfl)
                  · replace h := h.2 c_15
                    refine lv_iload hx hb dX6_best_140 (lv_at hl 1 rfl) ?_
                    refine lv_iload hx hb dX6_best_142 (lv_at hl 8 rfl) ?_
                    refine lv_icmp_lt (tgt := 161) hx hb dX6_best_144 (by decide) (fun c_16 => ?_) (fun c_16 => ?_)
                    · replace h := h.1 c_16
                      refine lv_iload_n hx hb dX6_best_161 rfl (lv_at hl 5 rfl) ?_
                      refine lv_istore (lv' := [(5, .int z3), (11, .int r_13), (10, .int r_11), (9, .int (z8 - z4)), (1, .int z1), (2, .int z2), (3, .int z3), (4, .int z4), (6, .int z6), (7, .int z7), (8, .int z8), (0, .ref (a0 0))]) hx hb dX6_best_162 hl (by decide) rfl (fun ls hl => ?_)
                      refine lv_iload hx hb dX6_best_164 (lv_at hl 2 rfl) ?_
                      refine lv_istore (lv' := [(6, .int r_11), (5, .int z3), (11, .int r_13), (10, .int r_11), (9, .int (z8 - z4)), (1, .int z1), (2, .int z2), (3, .int z3), (4, .int z4), (7, .int z7), (8, .int z8), (0, .ref (a0 0))]) hx hb dX6_best_166 hl (by decide) rfl (fun ls hl => ?_)
                      refine lv_iload hx hb dX6_best_168 (lv_at hl 2 rfl) ?_
                      refine lv_istore (lv' := [(7, .int r_13), (6, .int r_11), (5, .int z3), (11, .int r_13), (10, .int r_11), (9, .int (z8 - z4)), (1, .int z1), (2, .int z2), (3, .int z3), (4, .int z4), (8, .int z8), (0, .ref (a0 0))]) hx hb dX6_best_170 hl (by decide) rfl (fun ls hl => ?_)
                      refine lv_iinc (v := (z3 + 1)) (lv' := [(3, .int (z3 + 1)), (7, .int r_13), (6, .int r_11), (5, .int z3), (11, .int r_13), (10, .int r_11), (9, .int (z8 - z4)), (1, .int z1), (2, .int z2), (4, .int z4), (8, .int z8), (0, .ref (a0 0))]) hx hb dX6_best_172 hl (k := 8) rfl rfl (by decide) rfl (fun ls hl => ?_)
                      refine lv_iload hx hb dX6_best_175 (lv_at hl 10 rfl) ?_
                      refine lv_iconst (v := 1) hx hb dX6_best_177 (by decide) ?_
                      refine lv_iadd hx hb dX6_best_178 ?_
                      refine lv_istore (lv' := [(4, .int (z8 + 1)), (3, .int (z3 + 1)), (7, .int r_13), (6, .int r_11), (5, .int z3), (11, .int r_13), (10, .int r_11), (9, .int (z8 - z4)), (1, .int z1), (2, .int z2), (8, .int z8), (0, .ref (a0 0))]) hx hb dX6_best_179 hl (by decide) rfl (fun ls hl => ?_)
                      refine lv_iinc (v := (z8 + 1)) (lv' := [(8, .int (z8 + 1)), (4, .int (z8 + 1)), (3, .int (z3 + 1)), (7, .int r_13), (6, .int r_11), (5, .int z3), (11, .int r_13), (10, .int r_11), (9, .int (z8 - z4)), (1, .int z1), (2, .int z2), (0, .ref (a0 0))]) hx hb dX6_best_181 hl (k := 10) rfl rfl (by decide) rfl (fun ls hl => ?_)
                      refine lv_goto (tgt := 39) hx hb dX6_best_184 (by decide) ?_
                      exact ih _ _ _ _ _ _ _ _ ls h (lv_sub hl [9, 10, 2, 1, 5, 4, 3, 0, 11] rfl)
                    · replace h := h.2 c_16
                      refine lv_iload hx hb dX6_best_147 (lv_at hl 1 rfl) ?_
                      refine lv_iload hx hb dX6_best_149 (lv_at hl 8 rfl) ?_
                      refine lv_icmp_ne (tgt := 172) hx hb dX6_best_151 (by decide) (fun c_17 => ?_) (fun c_17 => ?_)
                      · replace h := h.1 c_17
                        refine lv_iinc (v := (z3 + 1)) (lv' := [(3, .int (z3 + 1)), (11, .int r_13), (10, .int r_11), (9, .int (z8 - z4)), (1, .int z1), (2, .int z2), (4, .int z4), (5, .int z5), (6, .int z6), (7, .int z7), (8, .int z8), (0, .ref (a0 0))]) hx hb dX6_best_172 hl (k := 5) rfl rfl (by decide) rfl (fun ls hl => ?_)
                        refine lv_iload hx hb dX6_best_175 (lv_at hl 10 rfl) ?_
                        refine lv_iconst (v := 1) hx hb dX6_best_177 (by decide) ?_
                        refine lv_iadd hx hb dX6_best_178 ?_
                        refine lv_istore (lv' := [(4, .int (z8 + 1)), (3, .int (z3 + 1)), (11, .int r_13), (10, .int r_11), (9, .int (z8 - z4)), (1, .int z1), (2, .int z2), (5, .int z5), (6, .int z6), (7, .int z7), (8, .int z8), (0, .ref (a0 0))]) hx hb dX6_best_179 hl (by decide) rfl (fun ls hl => ?_)
                        refine lv_iinc (v := (z8 + 1)) (lv' := [(8, .int (z8 + 1)), (4, .int (z8 + 1)), (3, .int (z3 + 1)), (11, .int r_13), (10, .int r_11), (9, .int (z8 - z4)), (1, .int z1), (2, .int z2), (5, .int z5), (6, .int z6), (7, .int z7), (0, .ref (a0 0))]) hx hb dX6_best_181 hl (k := 10) rfl rfl (by decide) rfl (fun ls hl => ?_)
                        refine lv_goto (tgt := 39) hx hb dX6_best_184 (by decide) ?_
                        exact ih _ _ _ _ _ _ _ _ ls h (lv_sub hl [6, 7, 2, 1, 8, 9, 10, 0, 11] rfl)
                      · replace h := h.2 c_17
                        refine lv_iload hx hb dX6_best_154 (lv_at hl 0 rfl) ?_
                        refine lv_iload hx hb dX6_best_156 (lv_at hl 9 rfl) ?_
                        refine lv_icmp_ge (tgt := 172) hx hb dX6_best_158 (by decide) (fun c_18 => ?_) (fun c_18 => ?_)
                        · replace h := h.1 c_18
                          refine lv_iinc (v := (z3 + 1)) (lv' := [(3, .int (z3 + 1)), (11, .int r_13), (10, .int r_11), (9, .int (z8 - z4)), (1, .int z1), (2, .int z2), (4, .int z4), (5, .int z5), (6, .int z6), (7, .int z7), (8, .int z8), (0, .ref (a0 0))]) hx hb dX6_best_172 hl (k := 5) rfl rfl (by decide) rfl (fun ls hl => ?_)
                          refine lv_iload hx hb dX6_best_175 (lv_at hl 10 rfl) ?_
                          refine lv_iconst (v := 1) hx hb dX6_best_177 (by decide) ?_
                          refine lv_iadd hx hb dX6_best_178 ?_
                          refine lv_istore (lv' := [(4, .int (z8 + 1)), (3, .int (z3 + 1)), (11, .int r_13), (10, .int r_11), (9, .int (z8 - z4)), (1, .int z1), (2, .int z2), (5, .int z5), (6, .int z6), (7, .int z7), (8, .int z8), (0, .ref (a0 0))]) hx hb dX6_best_179 hl (by decide) rfl (fun ls hl => ?_)
                          refine lv_iinc (v := (z8 + 1)) (lv' := [(8, .int (z8 + 1)), (4, .int (z8 + 1)), (3, .int (z3 + 1)), (11, .int r_13), (10, .int r_11), (9, .int (z8 - z4)), (1, .int z1), (2, .int z2), (5, .int z5), (6, .int z6), (7, .int z7), (0, .ref (a0 0))]) hx hb dX6_best_181 hl (k := 10) rfl rfl (by decide) rfl (fun ls hl => ?_)
                          refine lv_goto (tgt := 39) hx hb dX6_best_184 (by decide) ?_
                          exact ih _ _ _ _ _ _ _ _ ls h (lv_sub hl [6, 7, 2, 1, 8, 9, 10, 0, 11] rfl)
                        · replace h := h.2 c_18
                          refine lv_iload_n hx hb dX6_best_161 rfl (lv_at hl 5 rfl) ?_
                          refine lv_istore (lv' := [(5, .int z3), (11, .int r_13), (10, .int r_11), (9, .int (z8 - z4)), (1, .int z1), (2, .int z2), (3, .int z3), (4, .int z4), (6, .int z6), (7, .int z7), (8, .int z8), (0, .ref (a0 0))]) hx hb dX6_best_162 hl (by decide) rfl (fun ls hl => ?_)
                          refine lv_iload hx hb dX6_best_164 (lv_at hl 2 rfl) ?_
                          refine lv_istore (lv' := [(6, .int r_11), (5, .int z3), (11, .int r_13), (10, .int r_11), (9, .int (z8 - z4)), (1, .int z1), (2, .int z2), (3, .int z3), (4, .int z4), (7, .int z7), (8, .int z8), (0, .ref (a0 0))]) hx hb dX6_best_166 hl (by decide) rfl (fun ls hl => ?_)
                          refine lv_iload hx hb dX6_best_168 (lv_at hl 2 rfl) ?_
                          refine lv_istore (lv' := [(7, .int r_13), (6, .int r_11), (5, .int z3), (11, .int r_13), (10, .int r_11), (9, .int (z8 - z4)), (1, .int z1), (2, .int z2), (3, .int z3), (4, .int z4), (8, .int z8), (0, .ref (a0 0))]) hx hb dX6_best_170 hl (by decide) rfl (fun ls hl => ?_)
                          refine lv_iinc (v := (z3 + 1)) (lv' := [(3, .int (z3 + 1)), (7, .int r_13), (6, .int r_11), (5, .int z3), (11, .int r_13), (10, .int r_11), (9, .int (z8 - z4)), (1, .int z1), (2, .int z2), (4, .int z4), (8, .int z8), (0, .ref (a0 0))]) hx hb dX6_best_172 hl (k := 8) rfl rfl (by decide) rfl (fun ls hl => ?_)
                          refine lv_iload hx hb dX6_best_175 (lv_at hl 10 rfl) ?_
                          refine lv_iconst (v := 1) hx hb dX6_best_177 (by decide) ?_
                          refine lv_iadd hx hb dX6_best_178 ?_
                          refine lv_istore (lv' := [(4, .int (z8 + 1)), (3, .int (z3 + 1)), (7, .int r_13), (6, .int r_11), (5, .int z3), (11, .int r_13), (10, .int r_11), (9, .int (z8 - z4)), (1, .int z1), (2, .int z2), (8, .int z8), (0, .ref (a0 0))]) hx hb dX6_best_179 hl (by decide) rfl (fun ls hl => ?_)
                          refine lv_iinc (v := (z8 + 1)) (lv' := [(8, .int (z8 + 1)), (4, .int (z8 + 1)), (3, .int (z3 + 1)), (7, .int r_13), (6, .int r_11), (5, .int z3), (11, .int r_13), (10, .int r_11), (9, .int (z8 - z4)), (1, .int z1), (2, .int z2), (0, .ref (a0 0))]) hx hb dX6_best_181 hl (k := 10) rfl rfl (by decide) rfl (fun ls hl => ?_)
                          refine lv_goto (tgt := 39) hx hb dX6_best_184 (by decide) ?_
                          exact ih _ _ _ _ _ _ _ _ ls h (lv_sub hl [9, 10, 2, 1, 5, 4, 3, 0, 11] rfl)
                · replace h := h.2 c_10
                  refine lv_bipush (v := (-2)) hx hb dX6_best_95 (by decide) ?_
                  exact rd_iret hx hb hr hk h dX6_best_97
              · replace h := h.2 c_7
                refine lv_aload_n hx hb dX6_best_63 rfl (lv_at hl 8 rfl) ?_
                refine fl_get (C := RX6) (T := TX6) (N := 7) (ci := 5) (v := .ref (a1 0)) hx hb ht in_X6 hown hK hP 0 rfl rfl 0 (by decide) mw_355 rfl dX6_best_64 ?_
                refine lv_iload hx hb dX6_best_67 (lv_at hl 7 rfl) ?_
                refine vp_callSi (rd_wV (wc := tp_w a1 q s1) (As := [.int z8]) (rest := []) hx hb hml hown ht (c2_X5_byteAt h) wd_X5_byteAt mw_629 hQ hV va_S.rf (hP.sub [1, 2] rfl) rfl rfl rfl hl.1 rfl (Nat.le_of_ble_eq_true rfl) dX6_best_69 ⟨Nat.le_of_ble_eq_true rfl, Nat.le_of_ble_eq_true rfl, rfl, rfl⟩ ⟨Nat.le_of_ble_eq_true rfl, Nat.le_of_ble_eq_true rfl⟩) (fun r_19 h => ?_)
                try dsimp only at h
                refine lv_bipush (v := 47) hx hb dX6_best_72 (by decide) ?_
                refine lv_icmp_ne (tgt := 181) hx hb dX6_best_74 (by decide) (fun c_21 => ?_) (fun c_21 => ?_)
                · replace h := h.1 c_21
                  refine lv_iinc (v := (z8 + 1)) (lv' := [(8, .int (z8 + 1)), (1, .int z1), (2, .int z2), (3, .int z3), (4, .int z4), (5, .int z5), (6, .int z6), (7, .int z7), (0, .ref (a0 0))]) hx hb dX6_best_181 hl (k := 7) rfl rfl (by decide) rfl (fun ls hl => ?_)
                  refine lv_goto (tgt := 39) hx hb dX6_best_184 (by decide) ?_
                  exact ih _ _ _ _ _ _ _ _ ls h (lv_sub hl [1, 2, 3, 4, 5, 6, 7, 0, 8] rfl)
                · replace h := h.2 c_21
                  refine lv_iload hx hb dX6_best_77 (lv_at hl 7 rfl) ?_
                  refine lv_iload hx hb dX6_best_79 (lv_at hl 3 rfl) ?_
                  refine lv_isub hx hb dX6_best_81 ?_
                  refine lv_istore (lv' := [(9, .int (z8 - z4)), (1, .int z1), (2, .int z2), (3, .int z3), (4, .int z4), (5, .int z5), (6, .int z6), (7, .int z7), (8, .int z8), (0, .ref (a0 0))]) hx hb dX6_best_82 hl (by decide) rfl (fun ls hl => ?_)
                  refine lv_aload_n hx hb dX6_best_84 rfl (lv_at hl 9 rfl) ?_
                  refine lv_iload hx hb dX6_best_85 (lv_at hl 4 rfl) ?_
                  refine lv_iload hx hb dX6_best_87 (lv_at hl 0 rfl) ?_
                  refine vp_callSi (rd_wV (wc := fo_w (a0 0) (a1 0) (a2 0) (a3 0) (a4 0) (a5 0) p8 s8 ++ tp_w a1 q s1 ++ bd_w a2 q s2) (As := [.int z4, .int (z8 - z4)]) (rest := []) hx hb hml hown ht (c2_X6_isRowText h) wd_X6_isRowText mw_625 hQ hV va_S.rf (hP.sub [0, 1, 2, 3, 4, 5, 6, 7, 8, 9, 10, 11, 12, 13, 14, 15] rfl) rfl rfl rfl hl.1 rfl (Nat.le_of_ble_eq_true rfl) dX6_best_89 ⟨Nat.le_of_ble_eq_true rfl, Nat.le_of_ble_eq_true rfl, rfl, rfl⟩ ⟨Nat.le_of_ble_eq_true rfl, Nat.le_of_ble_eq_true rfl⟩) (fun r_22 h => ?_)
                  try dsimp only at h
                  refine lv_if_ne (tgt := 98) hx hb dX6_best_92 (by decide) (fun c_24 => ?_) (fun c_24 => ?_)
                  · replace h := h.1 c_24
                    refine lv_aload_n hx hb dX6_best_98 rfl (lv_at hl 9 rfl) ?_
                    refine fl_get (C := RX6) (T := TX6) (N := 7) (ci := 5) (v := .ref (a2 0)) hx hb ht in_X6 hown hK hP 0 rfl rfl 1 (by decide) mw_356 rfl dX6_best_99 ?_
                    refine lv_iload_n hx hb dX6_best_102 rfl (lv_at hl 1 rfl) ?_
                    refine lv_iconst (v := 0) hx hb dX6_best_103 (by decide) ?_
                    refine lv_aload_n hx hb dX6_best_104 rfl (lv_at hl 9 rfl) ?_
                    refine fl_get (C := RX6) (T := TX6) (N := 7) (ci := 5) (v := .ref (a1 0)) hx hb ht in_X6 hown hK hP 0 rfl rfl 0 (by decide) mw_355 rfl dX6_best_105 ?_
                    refine lv_iload hx hb dX6_best_108 (lv_at hl 4 rfl) ?_
                    refine lv_iload hx hb dX6_best_110 (lv_at hl 0 rfl) ?_
                    refine vp_callSi (rd_wV (wc := bd_w a2 q s2 ++ tp_w a1 q s1) (As := [.int z1, .int 0, .ref (a1 0), .int z4, .int (z8 - z4)]) (rest := []) hx hb hml hown ht (c2_X0_costOf h) wd_X0_costOf mw_1009 hQ hV va_S.rf (hP.sub [3, 4, 5, 6, 7, 8, 9, 10, 11, 12, 13, 14, 15, 1, 2] rfl) rfl rfl rfl hl.1 rfl (Nat.le_of_ble_eq_true rfl) dX6_best_112 ⟨Nat.le_of_ble_eq_true rfl, Nat.le_of_ble_eq_true rfl, rfl, rfl⟩ ⟨Nat.le_of_ble_eq_true rfl, Nat.le_of_ble_eq_true rfl⟩) (fun r_25 h => ?_)
                    try dsimp only at h
                    refine lv_istore (lv' := [(10, .int r_25), (9, .int (z8 - z4)), (1, .int z1), (2, .int z2), (3, .int z3), (4, .int z4), (5, .int z5), (6, .int z6), (7, .int z7), (8, .int z8), (0, .ref (a0 0))]) hx hb dX6_best_115 hl (by decide) rfl (fun ls hl => ?_)
                    refine lv_aload_n hx hb dX6_best_117 rfl (lv_at hl 10 rfl) ?_
                    refine fl_get (C := RX6) (T := TX6) (N := 7) (ci := 5) (v := .ref (a2 0)) hx hb ht in_X6 hown hK hP 0 rfl rfl 1 (by decide) mw_356 rfl dX6_best_118 ?_
                    refine lv_iload_n hx hb dX6_best_121 rfl (lv_at hl 2 rfl) ?_
                    refine lv_iconst (v := 0) hx hb dX6_best_122 (by decide) ?_
                    refine lv_aload_n hx hb dX6_best_123 rfl (lv_at hl 10 rfl) ?_
                    refine fl_get (C := RX6) (T := TX6) (N := 7) (ci := 5) (v := .ref (a1 0)) hx hb ht in_X6 hown hK hP 0 rfl rfl 0 (by decide) mw_355 rfl dX6_best_124 ?_
                    refine lv_iload hx hb dX6_best_127 (lv_at hl 5 rfl) ?_
                    refine lv_iload hx hb dX6_best_129 (lv_at hl 1 rfl) ?_
                    refine vp_callSi (rd_wV (wc := bd_w a2 q s2 ++ tp_w a1 q s1) (As := [.int z1, .int 0, .ref (a1 0), .int z4, .int (z8 - z4)]) (rest := []) hx hb hml hown ht (c2_X0_missesOf h) wd_X0_missesOf mw_1024 hQ hV va_S.rf (hP.sub [3, 4, 5, 6, 7, 8, 9, 10, 11, 12, 13, 14, 15, 1, 2] rfl) rfl rfl rfl hl.1 rfl (Nat.le_of_ble_eq_true rfl) dX6_best_131 ⟨Nat.le_of_ble_eq_true rfl, Nat.le_of_ble_eq_true rfl, rfl, rfl⟩ ⟨Nat.le_of_ble_eq_true rfl, Nat.le_of_ble_eq_true rfl⟩) (fun r_27 h => ?_)
                    try dsimp only at h
                    refine lv_istore (lv' := [(11, .int r_27), (10, .int r_25), (9, .int (z8 - z4)), (1, .int z1), (2, .int z2), (3, .int z3), (4, .int z4), (5, .int z5), (6, .int z6), (7, .int z7), (8, .int z8), (0, .ref (a0 0))]) hx hb dX6_best_134 hl (by decide) rfl (fun ls hl => ?_)
                    refine lv_iload_n hx hb dX6_best_136 rfl (lv_at hl 5 rfl) ?_
                    refine lv_if_eq (tgt := 161) hx hb dX6_best_137 (by decide) (fun c_29 => ?_) (fun c_29 => ?_)
                    · replace h := h.1 c_29
                      refine lv_iload_n hx hb dX6_best_161 rfl (lv_at hl 5 rfl) ?_
                      refine lv_istore (lv' := [(5, .int z3), (11, .int r_27), (10, .int r_25), (9, .int (z8 - z4)), (1, .int z1), (2, .int z2), (3, .int z3), (4, .int z4), (6, .int z6), (7, .int z7), (8, .int z8), (0, .ref (a0 0))]) hx hb dX6_best_162 hl (by decide) rfl (fun ls hl => ?_)
                      refine lv_iload hx hb dX6_best_164 (lv_at hl 2 rfl) ?_
                      refine lv_istore (lv' := [(6, .int r_25), (5, .int z3), (11, .int r_27), (10, .int r_25), (9, .int (z8 - z4)), (1, .int z1), (2, .int z2), (3, .int z3), (4, .int z4), (7, .int z7), (8, .int z8), (0, .ref (a0 0))]) hx hb dX6_best_166 hl (by decide) rfl (fun ls hl => ?_)
                      refine lv_iload hx hb dX6_best_168 (lv_at hl 2 rfl) ?_
                      refine lv_istore (lv' := [(7, .int r_27), (6, .int r_25), (5, .int z3), (11, .int r_27), (10, .int r_25), (9, .int (z8 - z4)), (1, .int z1), (2, .int z2), (3, .int z3), (4, .int z4), (8, .int z8), (0, .ref (a0 0))]) hx hb dX6_best_170 hl (by decide) rfl (fun ls hl => ?_)
                      refine lv_iinc (v := (z3 + 1)) (lv' := [(3, .int (z3 + 1)), (7, .int r_27), (6, .int r_25), (5, .int z3), (11, .int r_27), (10, .int r_25), (9, .int (z8 - z4)), (1, .int z1), (2, .int z2), (4, .int z4), (8, .int z8), (0, .ref (a0 0))]) hx hb dX6_best_172 hl (k := 8) rfl rfl (by decide) rfl (fun ls hl => ?_)
                      refine lv_iload hx hb dX6_best_175 (lv_at hl 10 rfl) ?_
                      refine lv_iconst (v := 1) hx hb dX6_best_177 (by decide) ?_
                      refine lv_iadd hx hb dX6_best_178 ?_
                      refine lv_istore (lv' := [(4, .int (z8 + 1)), (3, .int (z3 + 1)), (7, .int r_27), (6, .int r_25), (5, .int z3), (11, .int r_27), (10, .int r_25), (9, .int (z8 - z4)), (1, .int z1), (2, .int z2), (8, .int z8), (0, .ref (a0 0))]) hx hb dX6_best_179 hl (by decide) rfl (fun ls hl => ?_)
                      refine lv_iinc (v := (z8 + 1)) (lv' := [(8, .int (z8 + 1)), (4, .int (z8 + 1)), (3, .int (z3 + 1)), (7, .int r_27), (6, .int r_25), (5, .int z3), (11, .int r_27), (10, .int r_25), (9, .int (z8 - z4)), (1, .int z1), (2, .int z2), (0, .ref (a0 0))]) hx hb dX6_best_181 hl (k := 10) rfl rfl (by decide) rfl (fun ls hl => ?_)
                      refine lv_goto (tgt := 39) hx hb dX6_best_184 (by decide) ?_
                      exact ih _ _ _ _ _ _ _ _ ls h (lv_sub hl [9, 10, 2, 1, 5, 4, 3, 0, 11] rfl)
                    · replace h := h.2 c_29
                      refine lv_iload hx hb dX6_best_140 (lv_at hl 1 rfl) ?_
                      refine lv_iload hx hb dX6_best_142 (lv_at hl 8 rfl) ?_
                      refine lv_icmp_lt (tgt := 161) hx hb dX6_best_144 (by decide) (fun c_30 => ?_) (fun c_30 => ?_)
                      · replace h := h.1 c_30
                        refine lv_iload_n hx hb dX6_best_161 rfl (lv_at hl 5 rfl) ?_
                        refine lv_istore (lv' := [(5, .int z3), (11, .int r_27), (10, .int r_25), (9, .int (z8 - z4)), (1, .int z1), (2, .int z2), (3, .int z3), (4, .int z4), (6, .int z6), (7, .int z7), (8, .int z8), (0, .ref (a0 0))]) hx hb dX6_best_162 hl (by decide) rfl (fun ls hl => ?_)
                        refine lv_iload hx hb dX6_best_164 (lv_at hl 2 rfl) ?_
                        refine lv_istore (lv' := [(6, .int r_25), (5, .int z3), (11, .int r_27), (10, .int r_25), (9, .int (z8 - z4)), (1, .int z1), (2, .int z2), (3, .int z3), (4, .int z4), (7, .int z7), (8, .int z8), (0, .ref (a0 0))]) hx hb dX6_best_166 hl (by decide) rfl (fun ls hl => ?_)
                        refine lv_iload hx hb dX6_best_168 (lv_at hl 2 rfl) ?_
                        refine lv_istore (lv' := [(7, .int r_27), (6, .int r_25), (5, .int z3), (11, .int r_27), (10, .int r_25), (9, .int (z8 - z4)), (1, .int z1), (2, .int z2), (3, .int z3), (4, .int z4), (8, .int z8), (0, .ref (a0 0))]) hx hb dX6_best_170 hl (by decide) rfl (fun ls hl => ?_)
                        refine lv_iinc (v := (z3 + 1)) (lv' := [(3, .int (z3 + 1)), (7, .int r_27), (6, .int r_25), (5, .int z3), (11, .int r_27), (10, .int r_25), (9, .int (z8 - z4)), (1, .int z1), (2, .int z2), (4, .int z4), (8, .int z8), (0, .ref (a0 0))]) hx hb dX6_best_172 hl (k := 8) rfl rfl (by decide) rfl (fun ls hl => ?_)
                        refine lv_iload hx hb dX6_best_175 (lv_at hl 10 rfl) ?_
                        refine lv_iconst (v := 1) hx hb dX6_best_177 (by decide) ?_
                        refine lv_iadd hx hb dX6_best_178 ?_
                        refine lv_istore (lv' := [(4, .int (z8 + 1)), (3, .int (z3 + 1)), (7, .int r_27), (6, .int r_25), (5, .int z3), (11, .int r_27), (10, .int r_25), (9, .int (z8 - z4)), (1, .int z1), (2, .int z2), (8, .int z8), (0, .ref (a0 0))]) hx hb dX6_best_179 hl (by decide) rfl (fun ls hl => ?_)
                        refine lv_iinc (v := (z8 + 1)) (lv' := [(8, .int (z8 + 1)), (4, .int (z8 + 1)), (3, .int (z3 + 1)), (7, .int r_27), (6, .int r_25), (5, .int z3), (11, .int r_27), (10, .int r_25), (9, .int (z8 - z4)), (1, .int z1), (2, .int z2), (0, .ref (a0 0))]) hx hb dX6_best_181 hl (k := 10) rfl rfl (by decide) rfl (fun ls hl => ?_)
                        refine lv_goto (tgt := 39) hx hb dX6_best_184 (by decide) ?_
                        exact ih _ _ _ _ _ _ _ _ ls h (lv_sub hl [9, 10, 2, 1, 5, 4, 3, 0, 11] rfl)
                      · replace h := h.2 c_30
                        refine lv_iload hx hb dX6_best_147 (lv_at hl 1 rfl) ?_
                        refine lv_iload hx hb dX6_best_149 (lv_at hl 8 rfl) ?_
                        refine lv_icmp_ne (tgt := 172) hx hb dX6_best_151 (by decide) (fun c_31 => ?_) (fun c_31 => ?_)
                        · replace h := h.1 c_31
                          refine lv_iinc (v := (z3 + 1)) (lv' := [(3, .int (z3 + 1)), (11, .int r_27), (10, .int r_25), (9, .int (z8 - z4)), (1, .int z1), (2, .int z2), (4, .int z4), (5, .int z5), (6, .int z6), (7, .int z7), (8, .int z8), (0, .ref (a0 0))]) hx hb dX6_best_172 hl (k := 5) rfl rfl (by decide) rfl (fun ls hl => ?_)
                          refine lv_iload hx hb dX6_best_175 (lv_at hl 10 rfl) ?_
                          refine lv_iconst (v := 1) hx hb dX6_best_177 (by decide) ?_
                          refine lv_iadd hx hb dX6_best_178 ?_
                          refine lv_istore (lv' := [(4, .int (z8 + 1)), (3, .int (z3 + 1)), (11, .int r_27), (10, .int r_25), (9, .int (z8 - z4)), (1, .int z1), (2, .int z2), (5, .int z5), (6, .int z6), (7, .int z7), (8, .int z8), (0, .ref (a0 0))]) hx hb dX6_best_179 hl (by decide) rfl (fun ls hl => ?_)
                          refine lv_iinc (v := (z8 + 1)) (lv' := [(8, .int (z8 + 1)), (4, .int (z8 + 1)), (3, .int (z3 + 1)), (11, .int r_27), (10, .int r_25), (9, .int (z8 - z4)), (1, .int z1), (2, .int z2), (5, .int z5), (6, .int z6), (7, .int z7), (0, .ref (a0 0))]) hx hb dX6_best_181 hl (k := 10) rfl rfl (by decide) rfl (fun ls hl => ?_)
                          refine lv_goto (tgt := 39) hx hb dX6_best_184 (by decide) ?_
                          exact ih _ _ _ _ _ _ _ _ ls h (lv_sub hl [6, 7, 2, 1, 8, 9, 10, 0, 11] rfl)
                        · replace h := h.2 c_31
                          refine lv_iload hx hb dX6_best_154 (lv_at hl 0 rfl) ?_
                          refine lv_iload hx hb dX6_best_156 (lv_at hl 9 rfl) ?_
                          refine lv_icmp_ge (tgt := 172) hx hb dX6_best_158 (by decide) (fun c_32 => ?_) (fun c_32 => ?_)
                          · replace h := h.1 c_32
                            refine lv_iinc (v := (z3 + 1)) (lv' := [(3, .int (z3 + 1)), (11, .int r_27), (10, .int r_25), (9, .int (z8 - z4)), (1, .int z1), (2, .int z2), (4, .int z4), (5, .int z5), (6, .int z6), (7, .int z7), (8, .int z8), (0, .ref (a0 0))]) hx hb dX6_best_172 hl (k := 5) rfl rfl (by decide) rfl (fun ls hl => ?_)
                            refine lv_iload hx hb dX6_best_175 (lv_at hl 10 rfl) ?_
                            refine lv_iconst (v := 1) hx hb dX6_best_177 (by decide) ?_
                            refine lv_iadd hx hb dX6_best_178 ?_
                            refine lv_istore (lv' := [(4, .int (z8 + 1)), (3, .int (z3 + 1)), (11, .int r_27), (10, .int r_25), (9, .int (z8 - z4)), (1, .int z1), (2, .int z2), (5, .int z5), (6, .int z6), (7, .int z7), (8, .int z8), (0, .ref (a0 0))]) hx hb dX6_best_179 hl (by decide) rfl (fun ls hl => ?_)
                            refine lv_iinc (v := (z8 + 1)) (lv' := [(8, .int (z8 + 1)), (4, .int (z8 + 1)), (3, .int (z3 + 1)), (11, .int r_27), (10, .int r_25), (9, .int (z8 - z4)), (1, .int z1), (2, .int z2), (5, .int z5), (6, .int z6), (7, .int z7), (0, .ref (a0 0))]) hx hb dX6_best_181 hl (k := 10) rfl rfl (by decide) rfl (fun ls hl => ?_)
                            refine lv_goto (tgt := 39) hx hb dX6_best_184 (by decide) ?_
                            exact ih _ _ _ _ _ _ _ _ ls h (lv_sub hl [6, 7, 2, 1, 8, 9, 10, 0, 11] rfl)
                          · replace h := h.2 c_32
                            refine lv_iload_n hx hb dX6_best_161 rfl (lv_at hl 5 rfl) ?_
                            refine lv_istore (lv' := [(5, .int z3), (11, .int r_27), (10, .int r_25), (9, .int (z8 - z4)), (1, .int z1), (2, .int z2), (3, .int z3), (4, .int z4), (6, .int z6), (7, .int z7), (8, .int z8), (0, .ref (a0 0))]) hx hb dX6_best_162 hl (by decide) rfl (fun ls hl => ?_)
                            refine lv_iload hx hb dX6_best_164 (lv_at hl 2 rfl) ?_
                            refine lv_istore (lv' := [(6, .int r_25), (5, .int z3), (11, .int r_27), (10, .int r_25), (9, .int (z8 - z4)), (1, .int z1), (2, .int z2), (3, .int z3), (4, .int z4), (7, .int z7), (8, .int z8), (0, .ref (a0 0))]) hx hb dX6_best_166 hl (by decide) rfl (fun ls hl => ?_)
                            refine lv_iload hx hb dX6_best_168 (lv_at hl 2 rfl) ?_
                            refine lv_istore (lv' := [(7, .int r_27), (6, .int r_25), (5, .int z3), (11, .int r_27), (10, .int r_25), (9, .int (z8 - z4)), (1, .int z1), (2, .int z2), (3, .int z3), (4, .int z4), (8, .int z8), (0, .ref (a0 0))]) hx hb dX6_best_170 hl (by decide) rfl (fun ls hl => ?_)
                            refine lv_iinc (v := (z3 + 1)) (lv' := [(3, .int (z3 + 1)), (7, .int r_27), (6, .int r_25), (5, .int z3), (11, .int r_27), (10, .int r_25), (9, .int (z8 - z4)), (1, .int z1), (2, .int z2), (4, .int z4), (8, .int z8), (0, .ref (a0 0))]) hx hb dX6_best_172 hl (k := 8) rfl rfl (by decide) rfl (fun ls hl => ?_)
                            refine lv_iload hx hb dX6_best_175 (lv_at hl 10 rfl) ?_
                            refine lv_iconst (v := 1) hx hb dX6_best_177 (by decide) ?_
                            refine lv_iadd hx hb dX6_best_178 ?_
                            refine lv_istore (lv' := [(4, .int (z8 + 1)), (3, .int (z3 + 1)), (7, .int r_27), (6, .int r_25), (5, .int z3), (11, .int r_27), (10, .int r_25), (9, .int (z8 - z4)), (1, .int z1), (2, .int z2), (8, .int z8), (0, .ref (a0 0))]) hx hb dX6_best_179 hl (by decide) rfl (fun ls hl => ?_)
                            refine lv_iinc (v := (z8 + 1)) (lv' := [(8, .int (z8 + 1)), (4, .int (z8 + 1)), (3, .int (z3 + 1)), (7, .int r_27), (6, .int r_25), (5, .int z3), (11, .int r_27), (10, .int r_25), (9, .int (z8 - z4)), (1, .int z1), (2, .int z2), (0, .ref (a0 0))]) hx hb dX6_best_181 hl (k := 10) rfl rfl (by decide) rfl (fun ls hl => ?_)
                            refine lv_goto (tgt := 39) hx hb dX6_best_184 (by decide) ?_
                            exact ih _ _ _ _ _ _ _ _ ls h (lv_sub hl [9, 10, 2, 1, 5, 4, 3, 0, 11] rfl)
                  · replace h := h.2 c_24
                    refine lv_bipush (v := (-2)) hx hb dX6_best_95 (by decide) ?_
                    exact rd_iret hx hb hr hk h dX6_best_97
        obtain ⟨n39, h⟩ := h
        refine lp39 _ ?_ n39 _ _ _ _ _ _ _ _ ls h (lv_sub hl [7, 8, 5, 4, 3, 2, 1, 0, 6] rfl)
        · intro z1 z2 z3 z4 z5 z6 z7 z8 ls h hl
          try dsimp only at h
          refine lv_iload_n hx hb dX6_best_187 rfl (lv_at hl 1 rfl) ?_
          refine lv_if_ne (tgt := 196) hx hb dX6_best_188 (by decide) (fun c_33 => ?_) (fun c_33 => ?_)
          · replace h := h.1 c_33
            refine lv_iload_n hx hb dX6_best_196 rfl (lv_at hl 1 rfl) ?_
            refine lv_iconst (v := 1) hx hb dX6_best_197 (by decide) ?_
            refine lv_icmp_ne (tgt := 206) hx hb dX6_best_198 (by decide) (fun c_34 => ?_) (fun c_34 => ?_)
            · replace h := h.1 c_34
              refine lv_iload hx hb dX6_best_206 (lv_at hl 6 rfl) ?_
              exact rd_iret hx hb hr hk h dX6_best_208
            · replace h := h.2 c_34
              refine lv_iload hx hb dX6_best_201 (lv_at hl 5 rfl) ?_
              refine lv_goto (tgt := 208) hx hb dX6_best_203 (by decide) ?_
              exact rd_iret hx hb hr hk h dX6_best_208
          · replace h := h.2 c_33
            refine lv_iload hx hb dX6_best_191 (lv_at hl 4 rfl) ?_
            refine lv_goto (tgt := 208) hx hb dX6_best_193 (by decide) ?_
            exact rd_iret hx hb hr hk h dX6_best_208
      · replace h := h.2 c_5
        refine lv_iconst (v := (-1)) hx hb dX6_best_20 (by decide) ?_
        exact rd_iret hx hb hr hk h dX6_best_21

def wp_X6_place_L58 (s1 : Tp) (s2 : Bd) (post : Int32 → Prop) (e153 : Int32 → Int32 → Int32 → Int32 → Int32 → Int32 → Int32 → Prop) : Nat → Int32 → Int32 → Int32 → Int32 → Int32 → Int32 → Int32 → Prop
  | 0, _, _, _, _, _, _, _ => False
  | n58 + 1, z1, z2, z3, z4, z5, z6, z7 => (((s2.1 1) < (z7 + z3) → e153 z1 z2 z3 z4 z5 z6 z7) ∧ (¬ (s2.1 1) < (z7 + z3) → wp_X0_costOf (fun r_11 => wp_X0_missesOf (fun r_13 => ((z4 = (-1) → wp_X6_place_L58 s1 s2 post e153 n58 z1 z2 z3 z7 r_11 r_13 (z7 + 1)) ∧ (¬ z4 = (-1) → ((r_13 < z6 → wp_X6_place_L58 s1 s2 post e153 n58 z1 z2 z3 z7 r_11 r_13 (z7 + 1)) ∧ (¬ r_13 < z6 → ((¬ r_13 = z6 → wp_X6_place_L58 s1 s2 post e153 n58 z1 z2 z3 z4 z5 z6 (z7 + 1)) ∧ (r_13 = z6 → ((z5 ≤ r_11 → wp_X6_place_L58 s1 s2 post e153 n58 z1 z2 z3 z4 z5 z6 (z7 + 1)) ∧ (¬ z5 ≤ r_11 → wp_X6_place_L58 s1 s2 post e153 n58 z1 z2 z3 z7 r_11 r_13 (z7 + 1)))))))))) s2 s1 z1 z7 (0 : Int32) z3) s2 s1 z1 z7 (0 : Int32) z3))
def wp_X6_place (post : Int32 → Prop) (s1 : Tp) (s2 : Bd) (x1 : Int32) (x2 : Int32) : Prop := wp_X0_hasRow (fun r_1 => ((r_1 = 0 → post (-1)) ∧ (¬ r_1 = 0 → ((x2 < 0 → post (-1)) ∧ (¬ x2 < 0 → ((x2 ≤ 1 → (((s1.1 0) = 0 → post (-2)) ∧ (¬ (s1.1 0) = 0 → wp_X6_isRowText (fun r_7 => ((¬ r_7 = 0 → (∃ n58, wp_X6_place_L58 s1 s2 post (fun z1 z2 z3 z4 z5 z6 z7 => ((¬ z2 = 0 → post z5) ∧ (z2 = 0 → post z4))) n58 x1 x2 (s1.1 0) (-1) 0 0 0)) ∧ (r_7 = 0 → post (-2)))) s1 s2 (0 : Int32) (s1.1 0)))) ∧ (¬ x2 ≤ 1 → post (-1)))))))) s2 x1
set_option maxHeartbeats 4000000 in
set_option maxRecDepth 100000 in
theorem c2_X6_place {l : Launch} {D : va_G} {q : Nat → ClassId} {a0 a1 a2 a3 a4 a5 : Nat → Nat} {p8 s8 : Nat} {s1 : Tp} {s2 : Bd} {x1 : Int32} {x2 : Int32} {post : Int32 → Prop} (h : wp_X6_place post s1 s2 x1 x2) : Met l yX6_place (Cond.code yX6_place cX6_place 10 (some .int) :: w_all) ({ frames := 3, cells := 0, slots := 0, locals := 83 } : Room) (rd_P D q [.ref (a0 0), .int x1, .int x2] (fo_w (a0 0) (a1 0) (a2 0) (a3 0) (a4 0) (a5 0) p8 s8 ++ tp_w a1 q s1 ++ bd_w a2 q s2)) (vp_Si post) 0 0 (fun _ => False) := by
  refine rd_start (by decide) (Nat.le_of_ble_eq_true rfl) ?_
  intro p e s m below meth c ls hx hb hr hml hown ht hk hP hQ hV hl
  have hK := hQ.1
  have hown : s.vm.findClass RX6 = some m.cls := hown
  have hl : lv_has ls 10 [(0, .ref (a0 0)), (1, .int x1), (2, .int x2)] := hl
  have hP : va_P D vwCl [((a0 0), .inr (5, [.ref (a1 0), .ref (a2 0), .ref (a3 0), .ref (a4 0), .ref (a5 0), .ref p8, .ref s8])), ((a1 0), .inr (4, [.ref (a1 1), .int (s1.1 0), .int (s1.1 1), .int (s1.1 2), .int (s1.1 3), .int (s1.1 4), .int (s1.1 5)])), ((a1 1), .inl (q 0, 400, .inl s1.2)), ((a2 0), .inr (0, [.int (s2.1 0), .int (s2.1 1), .int (s2.1 2), .int (s2.1 3), .int (s2.1 4), .int (s2.1 5), .ref (a2 1), .ref (a2 2), .ref (a2 3), .ref (a2 4), .ref (a2 5), .ref (a2 6), .ref (a2 7), .ref (a2 8), .ref (a2 9), .ref (a2 10), .ref (a2 11), .ref (a2 12)])), ((a2 1), .inl (q 0, 4, .inl (s2.2.1 0))), ((a2 2), .inl (q 0, 4, .inl (s2.2.1 1))), ((a2 3), .inl (q 0, 160, .inl (s2.2.1 2))), ((a2 4), .inl (q 0, 40, .inl (s2.2.1 3))), ((a2 5), .inl (q 0, 40, .inl (s2.2.1 4))), ((a2 6), .inl (q 0, 40, .inl (s2.2.1 5))), ((a2 7), .inl (q 0, 40, .inl (s2.2.1 6))), ((a2 8), .inl (q 0, 40, .inl (s2.2.1 7))), ((a2 9), .inl (q 0, 40, .inl (s2.2.1 8))), ((a2 10), .inl (q 0, 40, .inl (s2.2.1 9))), ((a2 11), .inl (q 1, 40, .inr (.inl s2.2.2.1))), ((a2 12), .inl (q 0, s2.2.2.2.1, .inl s2.2.2.2.2))] s.heap := hP
  unfold wp_X6_place at h
  refine lv_aload_n hx hb dX6_place_0 rfl (lv_at hl 0 rfl) ?_
  refine fl_get (C := RX6) (T := TX6) (N := 7) (ci := 5) (v := .ref (a2 0)) hx hb ht in_X6 hown hK hP 0 rfl rfl 1 (by decide) mw_356 rfl dX6_place_1 ?_
  refine lv_iload_n hx hb dX6_place_4 rfl (lv_at hl 1 rfl) ?_
  refine vp_callSi (rd_wV (wc := bd_w a2 q s2) (As := [.int x1]) (rest := []) hx hb hml hown ht (c2_X0_hasRow h) wd_X0_hasRow mw_621 hQ hV va_S.rf (hP.sub [3, 4, 5, 6, 7, 8, 9, 10, 11, 12, 13, 14, 15] rfl) rfl rfl rfl hl.1 rfl (Nat.le_of_ble_eq_true rfl) dX6_place_5 ⟨Nat.le_of_ble_eq_true rfl, Nat.le_of_ble_eq_true rfl, rfl, rfl⟩ ⟨Nat.le_of_ble_eq_true rfl, Nat.le_of_ble_eq_true rfl⟩) (fun r_1 h => ?_)
  try dsimp only at h
  refine lv_if_eq (tgt := 20) hx hb dX6_place_8 (by decide) (fun c_3 => ?_) (fun c_3 => ?_)
  · replace h := h.1 c_3
    refine lv_iconst (v := (-1)) hx hb dX6_place_20 (by decide) ?_
    exact rd_iret hx hb hr hk h dX6_place_21
  · replace h := h.2 c_3
    refine lv_iload_n hx hb dX6_place_11 rfl (lv_at hl 2 rfl) ?_
    refine lv_if_lt (tgt := 20) hx hb dX6_place_12 (by decide) (fun c_4 => ?_) (fun c_4 => ?_)
    · replace h := h.1 c_4
      refine lv_iconst (v := (-1)) hx hb dX6_place_20 (by decide) ?_
      exact rd_iret hx hb hr hk h dX6_place_21
    · replace h := h.2 c_4
      refine lv_iload_n hx hb dX6_place_15 rfl (lv_at hl 2 rfl) ?_
      refine lv_iconst (v := 1) hx hb dX6_place_16 (by decide) ?_
      refine lv_icmp_le (tgt := 22) hx hb dX6_place_17 (by decide) (fun c_5 => ?_) (fun c_5 => ?_)
      · replace h := h.1 c_5
        refine lv_aload_n hx hb dX6_place_22 rfl (lv_at hl 0 rfl) ?_
        refine fl_get (C := RX6) (T := TX6) (N := 7) (ci := 5) (v := .ref (a1 0)) hx hb ht in_X6 hown hK hP 0 rfl rfl 0 (by decide) mw_355 rfl dX6_place_23 ?_
        refine fl_get (C := RX5) (T := TX5) (N := 7) (ci := 4) (v := .int (s1.1 0)) hx hb ht in_X5 hown hK hP 1 rfl rfl 1 (by decide) mw_129 rfl dX6_place_26 ?_
        refine lv_istore_n (lv' := [(3, .int (s1.1 0)), (0, .ref (a0 0)), (1, .int x1), (2, .int x2)]) hx hb dX6_place_29 rfl hl (by decide) rfl (fun ls hl => ?_)
        refine lv_iload_n hx hb dX6_place_30 rfl (lv_at hl 0 rfl) ?_
        refine lv_if_eq (tgt := 43) hx hb dX6_place_31 (by decide) (fun c_6 => ?_) (fun c_6 => ?_)
        · replace h := h.1 c_6
          refine lv_bipush (v := (-2)) hx hb dX6_place_43 (by decide) ?_
          exact rd_iret hx hb hr hk h dX6_place_45
        · replace h := h.2 c_6
          refine lv_aload_n hx hb dX6_place_34 rfl (lv_at hl 1 rfl) ?_
          refine lv_iconst (v := 0) hx hb dX6_place_35 (by decide) ?_
          refine lv_iload_n hx hb dX6_place_36 rfl (lv_at hl 0 rfl) ?_
          refine vp_callSi (rd_wV (wc := fo_w (a0 0) (a1 0) (a2 0) (a3 0) (a4 0) (a5 0) p8 s8 ++ tp_w a1 q s1 ++ bd_w a2 q s2) (As := [.int 0, .int (s1.1 0)]) (rest := []) hx hb hml hown ht (c2_X6_isRowText h) wd_X6_isRowText mw_625 hQ hV va_S.rf (hP.sub [0, 1, 2, 3, 4, 5, 6, 7, 8, 9, 10, 11, 12, 13, 14, 15] rfl) rfl rfl rfl hl.1 rfl (Nat.le_of_ble_eq_true rfl) dX6_place_37 ⟨Nat.le_of_ble_eq_true rfl, Nat.le_of_ble_eq_true rfl, rfl, rfl⟩ ⟨Nat.le_of_ble_eq_true rfl, Nat.le_of_ble_eq_true rfl⟩) (fun r_7 h => ?_)
          try dsimp only at h
          refine lv_if_ne (tgt := 46) hx hb dX6_place_40 (by decide) (fun c_9 => ?_) (fun c_9 => ?_)
          · replace h := h.1 c_9
            refine lv_iconst (v := (-1)) hx hb dX6_place_46 (by decide) ?_
            refine lv_istore (lv' := [(4, .int (-1)), (3, .int (s1.1 0)), (0, .ref (a0 0)), (1, .int x1), (2, .int x2)]) hx hb dX6_place_47 hl (by decide) rfl (fun ls hl => ?_)
            refine lv_iconst (v := 0) hx hb dX6_place_49 (by decide) ?_
            refine lv_istore (lv' := [(5, .int 0), (4, .int (-1)), (3, .int (s1.1 0)), (0, .ref (a0 0)), (1, .int x1), (2, .int x2)]) hx hb dX6_place_50 hl (by decide) rfl (fun ls hl => ?_)
            refine lv_iconst (v := 0) hx hb dX6_place_52 (by decide) ?_
            refine lv_istore (lv' := [(6, .int 0), (5, .int 0), (4, .int (-1)), (3, .int (s1.1 0)), (0, .ref (a0 0)), (1, .int x1), (2, .int x2)]) hx hb dX6_place_53 hl (by decide) rfl (fun ls hl => ?_)
            refine lv_iconst (v := 0) hx hb dX6_place_55 (by decide) ?_
            refine lv_istore (lv' := [(7, .int 0), (6, .int 0), (5, .int 0), (4, .int (-1)), (3, .int (s1.1 0)), (0, .ref (a0 0)), (1, .int x1), (2, .int x2)]) hx hb dX6_place_56 hl (by decide) rfl (fun ls hl => ?_)
            have lp58 : ∀ (e153 : Int32 → Int32 → Int32 → Int32 → Int32 → Int32 → Int32 → Prop) (k153 : ∀ (z1 : Int32) (z2 : Int32) (z3 : Int32) (z4 : Int32) (z5 : Int32) (z6 : Int32) (z7 : Int32) (ls : Array Slot), e153 z1 z2 z3 z4 z5 z6 z7 → lv_has ls 10 [(1, .int z1), (2, .int z2), (3, .int z3), (4, .int z4), (5, .int z5), (6, .int z6), (7, .int z7), (0, .ref (a0 0))] → W p l e ({ frames := 3, cells := 0, slots := 0, locals := 83 } : Room) s m [.ref (a0 0), .int x1, .int x2].toArray below meth c s.heap [] 0 0 (MQ below (vp_Si post) [.ref (a0 0), .int x1, .int x2].toArray s 0 0 (fun _ => False)) (F0 m 153 ls [])) (n : Nat) (z1 : Int32) (z2 : Int32) (z3 : Int32) (z4 : Int32) (z5 : Int32) (z6 : Int32) (z7 : Int32) (ls : Array Slot), wp_X6_place_L58 s1 s2 post e153 n z1 z2 z3 z4 z5 z6 z7 → lv_has ls 10 [(1, .int z1), (2, .int z2), (3, .int z3), (4, .int z4), (5, .int z5), (6, .int z6), (7, .int z7), (0, .ref (a0 0))] → W p l e ({ frames := 3, cells := 0, slots := 0, locals := 83 } : Room) s m [.ref (a0 0), .int x1, .int x2].toArray below meth c s.heap [] 0 0 (MQ below (vp_Si post) [.ref (a0 0), .int x1, .int x2].toArray s 0 0 (fun _ => False)) (F0 m 58 ls []) := by
              intro e153 k153 n
              induction n with
              | zero =>
                intro z1 z2 z3 z4 z5 z6 z7 ls h
                exact h.elim
              | succ n ih =>
                intro z1 z2 z3 z4 z5 z6 z7 ls h hl
                unfold wp_X6_place_L58 at h
                refine lv_iload hx hb dX6_place_58 (lv_at hl 6 rfl) ?_
                refine lv_iload_n hx hb dX6_place_60 rfl (lv_at hl 2 rfl) ?_
                refine lv_iadd hx hb dX6_place_61 ?_
                refine lv_aload_n hx hb dX6_place_62 rfl (lv_at hl 7 rfl) ?_
                refine fl_get (C := RX6) (T := TX6) (N := 7) (ci := 5) (v := .ref (a2 0)) hx hb ht in_X6 hown hK hP 0 rfl rfl 1 (by decide) mw_356 rfl dX6_place_63 ?_
                refine fl_get (C := RX0) (T := TX0) (N := 18) (ci := 0) (v := .int (s2.1 1)) hx hb ht in_X0 hown hK hP 3 rfl rfl 1 (by decide) mw_174 rfl dX6_place_66 ?_
                refine lv_icmp_gt (tgt := 153) hx hb dX6_place_69 (by decide) (fun c_10 => ?_) (fun c_10 => ?_)
                · replace h := h.1 c_10
                  exact k153 _ _ _ _ _ _ _ ls h (lv_sub hl [0, 1, 2, 3, 4, 5, 6, 7] rfl)
                · replace h := h.2 c_10
                  refine lv_aload_n hx hb dX6_place_72 rfl (lv_at hl 7 rfl) ?_
                  refine fl_get (C := RX6) (T := TX6) (N := 7) (ci := 5) (v := .ref (a2 0)) hx hb ht in_X6 hown hK hP 0 rfl rfl 1 (by decide) mw_356 rfl dX6_place_73 ?_
                  refine lv_iload_n hx hb dX6_place_76 rfl (lv_at hl 0 rfl) ?_
                  refine lv_iload hx hb dX6_place_77 (lv_at hl 6 rfl) ?_
                  refine lv_aload_n hx hb dX6_place_79 rfl (lv_at hl 7 rfl) ?_
                  refine fl_get (C := RX6) (T := TX6) (N := 7) (ci := 5) (v := .ref (a1 0)) hx hb ht in_X6 hown hK hP 0 rfl rfl 0 (by decide) mw_355 rfl dX6_place_80 ?_
                  refine lv_iconst (v := 0) hx hb dX6_place_83 (by decide) ?_
                  refine lv_iload_n hx hb dX6_place_84 rfl (lv_at hl 2 rfl) ?_
                  refine vp_callSi (rd_wV (wc := bd_w a2 q s2 ++ tp_w a1 q s1) (As := [.int z1, .int z7, .ref (a1 0), .int 0, .int z3]) (rest := []) hx hb hml hown ht (c2_X0_costOf h) wd_X0_costOf mw_1009 hQ hV va_S.rf (hP.sub [3, 4, 5, 6, 7, 8, 9, 10, 11, 12, 13, 14, 15, 1, 2] rfl) rfl rfl rfl hl.1 rfl (Nat.le_of_ble_eq_true rfl) dX6_place_85 ⟨Nat.le_of_ble_eq_true rfl, Nat.le_of_ble_eq_true rfl, rfl, rfl⟩ ⟨Nat.le_of_ble_eq_true rfl, Nat.le_of_ble_eq_true rfl⟩) (fun r_11 h => ?_)
                  try dsimp only at h
                  refine lv_istore (lv' := [(8, .int r_11), (1, .int z1), (2, .int z2), (3, .int z3), (4, .int z4), (5, .int z5), (6, .int z6), (7, .int z7), (0, .ref (a0 0))]) hx hb dX6_place_88 hl (by decide) rfl (fun ls hl => ?_)
                  refine lv_aload_n hx hb dX6_place_90 rfl (lv_at hl 8 rfl) ?_
                  refine fl_get (C := RX6) (T := TX6) (N := 7) (ci := 5) (v := .ref (a2 0)) hx hb ht in_X6 hown hK hP 0 rfl rfl 1 (by decide) mw_356 rfl dX6_place_91 ?_
                  refine lv_iload_n hx hb dX6_place_94 rfl (lv_at hl 1 rfl) ?_
                  refine lv_iload hx hb dX6_place_95 (lv_at hl 7 rfl) ?_
                  refine lv_aload_n hx hb dX6_place_97 rfl (lv_at hl 8 rfl) ?_
                  refine fl_get (C := RX6) (T := TX6) (N := 7) (ci := 5) (v := .ref (a1 0)) hx hb ht in_X6 hown hK hP 0 rfl rfl 0 (by decide) mw_355 rfl dX6_place_98 ?_
                  refine lv_iconst (v := 0) hx hb dX6_place_101 (by decide) ?_
                  refine lv_iload_n hx hb dX6_place_102 rfl (lv_at hl 3 rfl) ?_
                  refine vp_callSi (rd_wV (wc := bd_w a2 q s2 ++ tp_w a1 q s1) (As := [.int z1, .int z7, .ref (a1 0), .int 0, .int z3]) (rest := []) hx hb hml hown ht (c2_X0_missesOf h) wd_X0_missesOf mw_1024 hQ hV va_S.rf (hP.sub [3, 4, 5, 6, 7, 8, 9, 10, 11, 12, 13, 14, 15, 1, 2] rfl) rfl rfl rfl hl.1 rfl (Nat.le_of_ble_eq_true rfl) dX6_place_103 ⟨Nat.le_of_ble_eq_true rfl, Nat.le_of_ble_eq_true rfl, rfl, rfl⟩ ⟨Nat.le_of_ble_eq_true rfl, Nat.le_of_ble_eq_true rfl⟩) (fun r_13 h => ?_)
                  try dsimp only at h
                  refine lv_istore (lv' := [(9, .int r_13), (8, .int r_11), (1, .int z1), (2, .int z2), (3, .int z3), (4, .int z4), (5, .int z5), (6, .int z6), (7, .int z7), (0, .ref (a0 0))]) hx hb dX6_place_106 hl (by decide) rfl (fun ls hl => ?_)
                  refine lv_iload hx hb dX6_place_108 (lv_at hl 5 rfl) ?_
                  refine lv_iconst (v := (-1)) hx hb dX6_place_110 (by decide) ?_
                  refine lv_icmp_eq (tgt := 135) hx hb dX6_place_111 (by decide) (fun c_15 => ?_) (fun c_15 => ?_)
                  · replace h := h.1 c_15
                    refine lv_iload hx hb dX6_place_135 (lv_at hl 8 rfl) ?_
                    refine lv_istore (lv' := [(4, .int z7), (9, .int r_13), (8, .int r_11), (1, .int z1), (2, .int z2), (3, .int z3), (5, .int z5), (6, .int z6), (7, .int z7), (0, .ref (a0 0))]) hx hb dX6_place_137 hl (by decide) rfl (fun ls hl => ?_)
                    refine lv_iload hx hb dX6_place_139 (lv_at hl 2 rfl) ?_
                    refine lv_istore (lv' := [(5, .int r_11), (4, .int z7), (9, .int r_13), (8, .int r_11), (1, .int z1), (2, .int z2), (3, .int z3), (6, .int z6), (7, .int z7), (0, .ref (a0 0))]) hx hb dX6_place_141 hl (by decide) rfl (fun ls hl => ?_)
                    refine lv_iload hx hb dX6_place_143 (lv_at hl 2 rfl) ?_
                    refine lv_istore (lv' := [(6, .int r_13), (5, .int r_11), (4, .int z7), (9, .int r_13), (8, .int r_11), (1, .int z1), (2, .int z2), (3, .int z3), (7, .int z7), (0, .ref (a0 0))]) hx hb dX6_place_145 hl (by decide) rfl (fun ls hl => ?_)
                    refine lv_iinc (v := (z7 + 1)) (lv' := [(7, .int (z7 + 1)), (6, .int r_13), (5, .int r_11), (4, .int z7), (9, .int r_13), (8, .int r_11), (1, .int z1), (2, .int z2), (3, .int z3), (0, .ref (a0 0))]) hx hb dX6_place_147 hl (k := 8) rfl rfl (by decide) rfl (fun ls hl => ?_)
                    refine lv_goto (tgt := 58) hx hb dX6_place_150 (by decide) ?_
                    exact ih _ _ _ _ _ _ _ ls h (lv_sub hl [6, 7, 8, 3, 2, 1, 0, 9] rfl)
                  · replace h := h.2 c_15
                    refine lv_iload hx hb dX6_place_114 (lv_at hl 0 rfl) ?_
                    refine lv_iload hx hb dX6_place_116 (lv_at hl 7 rfl) ?_
                    refine lv_icmp_lt (tgt := 135) hx hb dX6_place_118 (by decide) (fun c_16 => ?_) (fun c_16 => ?_)
                    · replace h := h.1 c_16
                      refine lv_iload hx hb dX6_place_135 (lv_at hl 8 rfl) ?_
                      refine lv_istore (lv' := [(4, .int z7), (9, .int r_13), (8, .int r_11), (1, .int z1), (2, .int z2), (3, .int z3), (5, .int z5), (6, .int z6), (7, .int z7), (0, .ref (a0 0))]) hx hb dX6_place_137 hl (by decide) rfl (fun ls hl => ?_)
                      refine lv_iload hx hb dX6_place_139 (lv_at hl 2 rfl) ?_
                      refine lv_istore (lv' := [(5, .int r_11), (4, .int z7), (9, .int r_13), (8, .int r_11), (1, .int z1), (2, .int z2), (3, .int z3), (6, .int z6), (7, .int z7), (0, .ref (a0 0))]) hx hb dX6_place_141 hl (by decide) rfl (fun ls hl => ?_)
                      refine lv_iload hx hb dX6_place_143 (lv_at hl 2 rfl) ?_
                      refine lv_istore (lv' := [(6, .int r_13), (5, .int r_11), (4, .int z7), (9, .int r_13), (8, .int r_11), (1, .int z1), (2, .int z2), (3, .int z3), (7, .int z7), (0, .ref (a0 0))]) hx hb dX6_place_145 hl (by decide) rfl (fun ls hl => ?_)
                      refine lv_iinc (v := (z7 + 1)) (lv' := [(7, .int (z7 + 1)), (6, .int r_13), (5, .int r_11), (4, .int z7), (9, .int r_13), (8, .int r_11), (1, .int z1), (2, .int z2), (3, .int z3), (0, .ref (a0 0))]) hx hb dX6_place_147 hl (k := 8) rfl rfl (by decide) rfl (fun ls hl => ?_)
                      refine lv_goto (tgt := 58) hx hb dX6_place_150 (by decide) ?_
                      exact ih _ _ _ _ _ _ _ ls h (lv_sub hl [6, 7, 8, 3, 2, 1, 0, 9] rfl)
                    · replace h := h.2 c_16
                      refine lv_iload hx hb dX6_place_121 (lv_at hl 0 rfl) ?_
                      refine lv_iload hx hb dX6_place_123 (lv_at hl 7 rfl) ?_
                      refine lv_icmp_ne (tgt := 147) hx hb dX6_place_125 (by decide) (fun c_17 => ?_) (fun c_17 => ?_)
                      · replace h := h.1 c_17
                        refine lv_iinc (v := (z7 + 1)) (lv' := [(7, .int (z7 + 1)), (9, .int r_13), (8, .int r_11), (1, .int z1), (2, .int z2), (3, .int z3), (4, .int z4), (5, .int z5), (6, .int z6), (0, .ref (a0 0))]) hx hb dX6_place_147 hl (k := 8) rfl rfl (by decide) rfl (fun ls hl => ?_)
                        refine lv_goto (tgt := 58) hx hb dX6_place_150 (by decide) ?_
                        exact ih _ _ _ _ _ _ _ ls h (lv_sub hl [3, 4, 5, 6, 7, 8, 0, 9] rfl)
                      · replace h := h.2 c_17
                        refine lv_iload hx hb dX6_place_128 (lv_at hl 1 rfl) ?_
                        refine lv_iload hx hb dX6_place_130 (lv_at hl 6 rfl) ?_
                        refine lv_icmp_ge (tgt := 147) hx hb dX6_place_132 (by decide) (fun c_18 => ?_) (fun c_18 => ?_)
                        · replace h := h.1 c_18
                          refine lv_iinc (v := (z7 + 1)) (lv' := [(7, .int (z7 + 1)), (9, .int r_13), (8, .int r_11), (1, .int z1), (2, .int z2), (3, .int z3), (4, .int z4), (5, .int z5), (6, .int z6), (0, .ref (a0 0))]) hx hb dX6_place_147 hl (k := 8) rfl rfl (by decide) rfl (fun ls hl => ?_)
                          refine lv_goto (tgt := 58) hx hb dX6_place_150 (by decide) ?_
                          exact ih _ _ _ _ _ _ _ ls h (lv_sub hl [3, 4, 5, 6, 7, 8, 0, 9] rfl)
                        · replace h := h.2 c_18
                          refine lv_iload hx hb dX6_place_135 (lv_at hl 8 rfl) ?_
                          refine lv_istore (lv' := [(4, .int z7), (9, .int r_13), (8, .int r_11), (1, .int z1), (2, .int z2), (3, .int z3), (5, .int z5), (6, .int z6), (7, .int z7), (0, .ref (a0 0))]) hx hb dX6_place_137 hl (by decide) rfl (fun ls hl => ?_)
                          refine lv_iload hx hb dX6_place_139 (lv_at hl 2 rfl) ?_
                          refine lv_istore (lv' := [(5, .int r_11), (4, .int z7), (9, .int r_13), (8, .int r_11), (1, .int z1), (2, .int z2), (3, .int z3), (6, .int z6), (7, .int z7), (0, .ref (a0 0))]) hx hb dX6_place_141 hl (by decide) rfl (fun ls hl => ?_)
                          refine lv_iload hx hb dX6_place_143 (lv_at hl 2 rfl) ?_
                          refine lv_istore (lv' := [(6, .int r_13), (5, .int r_11), (4, .int z7), (9, .int r_13), (8, .int r_11), (1, .int z1), (2, .int z2), (3, .int z3), (7, .int z7), (0, .ref (a0 0))]) hx hb dX6_place_145 hl (by decide) rfl (fun ls hl => ?_)
                          refine lv_iinc (v := (z7 + 1)) (lv' := [(7, .int (z7 + 1)), (6, .int r_13), (5, .int r_11), (4, .int z7), (9, .int r_13), (8, .int r_11), (1, .int z1), (2, .int z2), (3, .int z3), (0, .ref (a0 0))]) hx hb dX6_place_147 hl (k := 8) rfl rfl (by decide) rfl (fun ls hl => ?_)
                          refine lv_goto (tgt := 58) hx hb dX6_place_150 (by decide) ?_
                          exact ih _ _ _ _ _ _ _ ls h (lv_sub hl [6, 7, 8, 3, 2, 1, 0, 9] rfl)
            obtain ⟨n58, h⟩ := h
            refine lp58 _ ?_ n58 _ _ _ _ _ _ _ ls h (lv_sub hl [6, 7, 4, 3, 2, 1, 0, 5] rfl)
            · intro z1 z2 z3 z4 z5 z6 z7 ls h hl
              try dsimp only at h
              refine lv_iload_n hx hb dX6_place_153 rfl (lv_at hl 1 rfl) ?_
              refine lv_if_ne (tgt := 162) hx hb dX6_place_154 (by decide) (fun c_19 => ?_) (fun c_19 => ?_)
              · replace h := h.1 c_19
                refine lv_iload hx hb dX6_place_162 (lv_at hl 4 rfl) ?_
                exact rd_iret hx hb hr hk h dX6_place_164
              · replace h := h.2 c_19
                refine lv_iload hx hb dX6_place_157 (lv_at hl 3 rfl) ?_
                refine lv_goto (tgt := 164) hx hb dX6_place_159 (by decide) ?_
                exact rd_iret hx hb hr hk h dX6_place_164
          · replace h := h.2 c_9
            refine lv_bipush (v := (-2)) hx hb dX6_place_43 (by decide) ?_
            exact rd_iret hx hb hr hk h dX6_place_45
      · replace h := h.2 c_5
        refine lv_iconst (v := (-1)) hx hb dX6_place_20 (by decide) ?_
        exact rd_iret hx hb hr hk h dX6_place_21

def wp_X6_log (post : Int32 → Prop) (s2 : Bd) (x1 : Int32) (x2 : Int32) : Prop := wp_X0_hasDrum (fun r_1 => ((¬ r_1 = 0 → ((x2 = 0 → wp_X0_journey (fun r_5 => post r_5) s2 x1) ∧ (¬ x2 = 0 → ((x2 = 1 → wp_X0_logSize (fun r_8 => post r_8) s2 x1) ∧ (¬ x2 = 1 → ((x2 = 2 → wp_X0_unlikeEntries (fun r_11 => post r_11) s2 x1) ∧ (¬ x2 = 2 → post (-1)))))))) ∧ (r_1 = 0 → post (-1)))) s2 x1
set_option maxHeartbeats 4000000 in
set_option maxRecDepth 100000 in
theorem c2_X6_log {l : Launch} {D : va_G} {q : Nat → ClassId} {a0 a1 a2 a3 a4 a5 : Nat → Nat} {p8 s8 : Nat} {s2 : Bd} {x1 : Int32} {x2 : Int32} {post : Int32 → Prop} (h : wp_X6_log post s2 x1 x2) : Met l yX6_log (Cond.code yX6_log cX6_log 3 (some .int) :: w_all) ({ frames := 3, cells := 0, slots := 0, locals := 75 } : Room) (rd_P D q [.ref (a0 0), .int x1, .int x2] (fo_w (a0 0) (a1 0) (a2 0) (a3 0) (a4 0) (a5 0) p8 s8 ++ bd_w a2 q s2)) (vp_Si post) 0 0 (fun _ => False) := by
  refine rd_start (by decide) (Nat.le_of_ble_eq_true rfl) ?_
  intro p e s m below meth c ls hx hb hr hml hown ht hk hP hQ hV hl
  have hK := hQ.1
  have hown : s.vm.findClass RX6 = some m.cls := hown
  have hl : lv_has ls 3 [(0, .ref (a0 0)), (1, .int x1), (2, .int x2)] := hl
  have hP : va_P D vwCl [((a0 0), .inr (5, [.ref (a1 0), .ref (a2 0), .ref (a3 0), .ref (a4 0), .ref (a5 0), .ref p8, .ref s8])), ((a2 0), .inr (0, [.int (s2.1 0), .int (s2.1 1), .int (s2.1 2), .int (s2.1 3), .int (s2.1 4), .int (s2.1 5), .ref (a2 1), .ref (a2 2), .ref (a2 3), .ref (a2 4), .ref (a2 5), .ref (a2 6), .ref (a2 7), .ref (a2 8), .ref (a2 9), .ref (a2 10), .ref (a2 11), .ref (a2 12)])), ((a2 1), .inl (q 0, 4, .inl (s2.2.1 0))), ((a2 2), .inl (q 0, 4, .inl (s2.2.1 1))), ((a2 3), .inl (q 0, 160, .inl (s2.2.1 2))), ((a2 4), .inl (q 0, 40, .inl (s2.2.1 3))), ((a2 5), .inl (q 0, 40, .inl (s2.2.1 4))), ((a2 6), .inl (q 0, 40, .inl (s2.2.1 5))), ((a2 7), .inl (q 0, 40, .inl (s2.2.1 6))), ((a2 8), .inl (q 0, 40, .inl (s2.2.1 7))), ((a2 9), .inl (q 0, 40, .inl (s2.2.1 8))), ((a2 10), .inl (q 0, 40, .inl (s2.2.1 9))), ((a2 11), .inl (q 1, 40, .inr (.inl s2.2.2.1))), ((a2 12), .inl (q 0, s2.2.2.2.1, .inl s2.2.2.2.2))] s.heap := hP
  unfold wp_X6_log at h
  refine lv_aload_n hx hb dX6_log_0 rfl (lv_at hl 0 rfl) ?_
  refine fl_get (C := RX6) (T := TX6) (N := 7) (ci := 5) (v := .ref (a2 0)) hx hb ht in_X6 hown hK hP 0 rfl rfl 1 (by decide) mw_356 rfl dX6_log_1 ?_
  refine lv_iload_n hx hb dX6_log_4 rfl (lv_at hl 1 rfl) ?_
  refine vp_callSi (rd_wV (wc := bd_w a2 q s2) (As := [.int x1]) (rest := []) hx hb hml hown ht (c2_X0_hasDrum h) wd_X0_hasDrum mw_904 hQ hV va_S.rf (hP.sub [1, 2, 3, 4, 5, 6, 7, 8, 9, 10, 11, 12, 13] rfl) rfl rfl rfl hl.1 rfl (Nat.le_of_ble_eq_true rfl) dX6_log_5 ⟨Nat.le_of_ble_eq_true rfl, Nat.le_of_ble_eq_true rfl, rfl, rfl⟩ ⟨Nat.le_of_ble_eq_true rfl, Nat.le_of_ble_eq_true rfl⟩) (fun r_1 h => ?_)
  try dsimp only at h
  refine lv_if_ne (tgt := 13) hx hb dX6_log_8 (by decide) (fun c_3 => ?_) (fun c_3 => ?_)
  · replace h := h.1 c_3
    refine lv_iload_n hx hb dX6_log_13 rfl (lv_at hl 2 rfl) ?_
    by_cases k_4 : x2 = 0
    · replace h := h.1 k_4
      refine lv_tableIn (tgt := 40) hx hb dX6_log_14 (by rw [k_4]; decide) (by rw [k_4]; decide) (by rw [k_4]; rfl) (by decide) ?_
      refine lv_aload_n hx hb dX6_log_40 rfl (lv_at hl 0 rfl) ?_
      refine fl_get (C := RX6) (T := TX6) (N := 7) (ci := 5) (v := .ref (a2 0)) hx hb ht in_X6 hown hK hP 0 rfl rfl 1 (by decide) mw_356 rfl dX6_log_41 ?_
      refine lv_iload_n hx hb dX6_log_44 rfl (lv_at hl 1 rfl) ?_
      refine vp_callSi (rd_wV (wc := bd_w a2 q s2) (As := [.int x1]) (rest := []) hx hb hml hown ht (c2_X0_journey h) wd_X0_journey mw_1036 hQ hV va_S.rf (hP.sub [1, 2, 3, 4, 5, 6, 7, 8, 9, 10, 11, 12, 13] rfl) rfl rfl rfl hl.1 rfl (Nat.le_of_ble_eq_true rfl) dX6_log_45 ⟨Nat.le_of_ble_eq_true rfl, Nat.le_of_ble_eq_true rfl, rfl, rfl⟩ ⟨Nat.le_of_ble_eq_true rfl, Nat.le_of_ble_eq_true rfl⟩) (fun r_5 h => ?_)
      try dsimp only at h
      exact rd_iret hx hb hr hk h dX6_log_48
    replace h := h.2 k_4
    by_cases k_7 : x2 = 1
    · replace h := h.1 k_7
      refine lv_tableIn (tgt := 49) hx hb dX6_log_14 (by rw [k_7]; decide) (by rw [k_7]; decide) (by rw [k_7]; rfl) (by decide) ?_
      refine lv_aload_n hx hb dX6_log_49 rfl (lv_at hl 0 rfl) ?_
      refine fl_get (C := RX6) (T := TX6) (N := 7) (ci := 5) (v := .ref (a2 0)) hx hb ht in_X6 hown hK hP 0 rfl rfl 1 (by decide) mw_356 rfl dX6_log_50 ?_
      refine lv_iload_n hx hb dX6_log_53 rfl (lv_at hl 1 rfl) ?_
      refine vp_callSi (rd_wV (wc := bd_w a2 q s2) (As := [.int x1]) (rest := []) hx hb hml hown ht (c2_X0_logSize h) wd_X0_logSize mw_1044 hQ hV va_S.rf (hP.sub [1, 2, 3, 4, 5, 6, 7, 8, 9, 10, 11, 12, 13] rfl) rfl rfl rfl hl.1 rfl (Nat.le_of_ble_eq_true rfl) dX6_log_54 ⟨Nat.le_of_ble_eq_true rfl, Nat.le_of_ble_eq_true rfl, rfl, rfl⟩ ⟨Nat.le_of_ble_eq_true rfl, Nat.le_of_ble_eq_true rfl⟩) (fun r_8 h => ?_)
      try dsimp only at h
      exact rd_iret hx hb hr hk h dX6_log_57
    replace h := h.2 k_7
    by_cases k_10 : x2 = 2
    · replace h := h.1 k_10
      refine lv_tableIn (tgt := 58) hx hb dX6_log_14 (by rw [k_10]; decide) (by rw [k_10]; decide) (by rw [k_10]; rfl) (by decide) ?_
      refine lv_aload_n hx hb dX6_log_58 rfl (lv_at hl 0 rfl) ?_
      refine fl_get (C := RX6) (T := TX6) (N := 7) (ci := 5) (v := .ref (a2 0)) hx hb ht in_X6 hown hK hP 0 rfl rfl 1 (by decide) mw_356 rfl dX6_log_59 ?_
      refine lv_iload_n hx hb dX6_log_62 rfl (lv_at hl 1 rfl) ?_
      refine vp_callSi (rd_wV (wc := bd_w a2 q s2) (As := [.int x1]) (rest := []) hx hb hml hown ht (c2_X0_unlikeEntries h) wd_X0_unlikeEntries mw_1052 hQ hV va_S.rf (hP.sub [1, 2, 3, 4, 5, 6, 7, 8, 9, 10, 11, 12, 13] rfl) rfl rfl rfl hl.1 rfl (Nat.le_of_ble_eq_true rfl) dX6_log_63 ⟨Nat.le_of_ble_eq_true rfl, Nat.le_of_ble_eq_true rfl, rfl, rfl⟩ ⟨Nat.le_of_ble_eq_true rfl, Nat.le_of_ble_eq_true rfl⟩) (fun r_11 h => ?_)
      try dsimp only at h
      exact rd_iret hx hb hr hk h dX6_log_66
    replace h := h.2 k_10
    refine lv_tableOut (tgt := 67) hx hb dX6_log_14 (by have g0 := k_4; have g1 := k_7; have g2 := k_10; (try simp only [lg_cmp_ge, lg_cmp_le, lg_cmp_gt, lg_cmp_lt, lg_cmp_eq] at g0 g1 g2); (try simp only [Int32.lt_iff_toInt_lt, Int32.le_iff_toInt_le, ← Int32.toInt_inj, Int32.reduceToInt, Int64.lt_iff_toInt_lt, Int64.le_iff_toInt_le, ← Int64.toInt_inj, Int64.reduceToInt, Int32.toInt_toInt64] at g0 g1 g2); omega) (by decide) ?_
    refine lv_iconst (v := (-1)) hx hb dX6_log_67 (by decide) ?_
    exact rd_iret hx hb hr hk h dX6_log_68
  · replace h := h.2 c_3
    refine lv_iconst (v := (-1)) hx hb dX6_log_11 (by decide) ?_
    exact rd_iret hx hb hr hk h dX6_log_12

def wp_X6_often (post : Int32 → Prop) (s2 : Bd) (x1 : Int32) (x2 : Int32) (x3 : Int32) : Prop := wp_X0_hasDrum (fun r_1 => ((r_1 = 0 → post (-1)) ∧ (¬ r_1 = 0 → ((x2 < 0 → post (-1)) ∧ (¬ x2 < 0 → wp_X0_flapsOn (fun r_5 => ((x2 < r_5 → wp_X0_entriesOf (fun r_8 => post r_8) s2 x1 x2 x3) ∧ (¬ x2 < r_5 → post (-1)))) s2 x1))))) s2 x1
set_option maxHeartbeats 4000000 in
set_option maxRecDepth 100000 in
theorem c2_X6_often {l : Launch} {D : va_G} {q : Nat → ClassId} {a0 a1 a2 a3 a4 a5 : Nat → Nat} {p8 s8 : Nat} {s2 : Bd} {x1 : Int32} {x2 : Int32} {x3 : Int32} {post : Int32 → Prop} (h : wp_X6_often post s2 x1 x2 x3) : Met l yX6_often (Cond.code yX6_often cX6_often 4 (some .int) :: w_all) ({ frames := 2, cells := 0, slots := 0, locals := 52 } : Room) (rd_P D q [.ref (a0 0), .int x1, .int x2, .int x3] (fo_w (a0 0) (a1 0) (a2 0) (a3 0) (a4 0) (a5 0) p8 s8 ++ bd_w a2 q s2)) (vp_Si post) 0 0 (fun _ => False) := by
  refine rd_start (by decide) (Nat.le_of_ble_eq_true rfl) ?_
  intro p e s m below meth c ls hx hb hr hml hown ht hk hP hQ hV hl
  have hK := hQ.1
  have hown : s.vm.findClass RX6 = some m.cls := hown
  have hl : lv_has ls 4 [(0, .ref (a0 0)), (1, .int x1), (2, .int x2), (3, .int x3)] := hl
  have hP : va_P D vwCl [((a0 0), .inr (5, [.ref (a1 0), .ref (a2 0), .ref (a3 0), .ref (a4 0), .ref (a5 0), .ref p8, .ref s8])), ((a2 0), .inr (0, [.int (s2.1 0), .int (s2.1 1), .int (s2.1 2), .int (s2.1 3), .int (s2.1 4), .int (s2.1 5), .ref (a2 1), .ref (a2 2), .ref (a2 3), .ref (a2 4), .ref (a2 5), .ref (a2 6), .ref (a2 7), .ref (a2 8), .ref (a2 9), .ref (a2 10), .ref (a2 11), .ref (a2 12)])), ((a2 1), .inl (q 0, 4, .inl (s2.2.1 0))), ((a2 2), .inl (q 0, 4, .inl (s2.2.1 1))), ((a2 3), .inl (q 0, 160, .inl (s2.2.1 2))), ((a2 4), .inl (q 0, 40, .inl (s2.2.1 3))), ((a2 5), .inl (q 0, 40, .inl (s2.2.1 4))), ((a2 6), .inl (q 0, 40, .inl (s2.2.1 5))), ((a2 7), .inl (q 0, 40, .inl (s2.2.1 6))), ((a2 8), .inl (q 0, 40, .inl (s2.2.1 7))), ((a2 9), .inl (q 0, 40, .inl (s2.2.1 8))), ((a2 10), .inl (q 0, 40, .inl (s2.2.1 9))), ((a2 11), .inl (q 1, 40, .inr (.inl s2.2.2.1))), ((a2 12), .inl (q 0, s2.2.2.2.1, .inl s2.2.2.2.2))] s.heap := hP
  unfold wp_X6_often at h
  refine lv_aload_n hx hb dX6_often_0 rfl (lv_at hl 0 rfl) ?_
  refine fl_get (C := RX6) (T := TX6) (N := 7) (ci := 5) (v := .ref (a2 0)) hx hb ht in_X6 hown hK hP 0 rfl rfl 1 (by decide) mw_356 rfl dX6_often_1 ?_
  refine lv_iload_n hx hb dX6_often_4 rfl (lv_at hl 1 rfl) ?_
  refine vp_callSi (rd_wV (wc := bd_w a2 q s2) (As := [.int x1]) (rest := []) hx hb hml hown ht (c2_X0_hasDrum h) wd_X0_hasDrum mw_904 hQ hV va_S.rf (hP.sub [1, 2, 3, 4, 5, 6, 7, 8, 9, 10, 11, 12, 13] rfl) rfl rfl rfl hl.1 rfl (Nat.le_of_ble_eq_true rfl) dX6_often_5 ⟨Nat.le_of_ble_eq_true rfl, Nat.le_of_ble_eq_true rfl, rfl, rfl⟩ ⟨Nat.le_of_ble_eq_true rfl, Nat.le_of_ble_eq_true rfl⟩) (fun r_1 h => ?_)
  try dsimp only at h
  refine lv_if_eq (tgt := 27) hx hb dX6_often_8 (by decide) (fun c_3 => ?_) (fun c_3 => ?_)
  · replace h := h.1 c_3
    refine lv_iconst (v := (-1)) hx hb dX6_often_27 (by decide) ?_
    exact rd_iret hx hb hr hk h dX6_often_28
  · replace h := h.2 c_3
    refine lv_iload_n hx hb dX6_often_11 rfl (lv_at hl 2 rfl) ?_
    refine lv_if_lt (tgt := 27) hx hb dX6_often_12 (by decide) (fun c_4 => ?_) (fun c_4 => ?_)
    · replace h := h.1 c_4
      refine lv_iconst (v := (-1)) hx hb dX6_often_27 (by decide) ?_
      exact rd_iret hx hb hr hk h dX6_often_28
    · replace h := h.2 c_4
      refine lv_iload_n hx hb dX6_often_15 rfl (lv_at hl 2 rfl) ?_
      refine lv_aload_n hx hb dX6_often_16 rfl (lv_at hl 0 rfl) ?_
      refine fl_get (C := RX6) (T := TX6) (N := 7) (ci := 5) (v := .ref (a2 0)) hx hb ht in_X6 hown hK hP 0 rfl rfl 1 (by decide) mw_356 rfl dX6_often_17 ?_
      refine lv_iload_n hx hb dX6_often_20 rfl (lv_at hl 1 rfl) ?_
      refine vp_callSi (rd_wV (wc := bd_w a2 q s2) (As := [.int x1]) (rest := [.int x2]) hx hb hml hown ht (c2_X0_flapsOn h) wd_X0_flapsOn mw_908 hQ hV va_S.rf (hP.sub [1, 2, 3, 4, 5, 6, 7, 8, 9, 10, 11, 12, 13] rfl) rfl rfl rfl hl.1 rfl (Nat.le_of_ble_eq_true rfl) dX6_often_21 ⟨Nat.le_of_ble_eq_true rfl, Nat.le_of_ble_eq_true rfl, rfl, rfl⟩ ⟨Nat.le_of_ble_eq_true rfl, Nat.le_of_ble_eq_true rfl⟩) (fun r_5 h => ?_)
      try dsimp only at h
      refine lv_icmp_lt (tgt := 29) hx hb dX6_often_24 (by decide) (fun c_7 => ?_) (fun c_7 => ?_)
      · replace h := h.1 c_7
        refine lv_aload_n hx hb dX6_often_29 rfl (lv_at hl 0 rfl) ?_
        refine fl_get (C := RX6) (T := TX6) (N := 7) (ci := 5) (v := .ref (a2 0)) hx hb ht in_X6 hown hK hP 0 rfl rfl 1 (by decide) mw_356 rfl dX6_often_30 ?_
        refine lv_iload_n hx hb dX6_often_33 rfl (lv_at hl 1 rfl) ?_
        refine lv_iload_n hx hb dX6_often_34 rfl (lv_at hl 2 rfl) ?_
        refine lv_iload_n hx hb dX6_often_35 rfl (lv_at hl 3 rfl) ?_
        refine vp_callSi (rd_wV (wc := bd_w a2 q s2) (As := [.int x1, .int x2, .int x3]) (rest := []) hx hb hml hown ht (c2_X0_entriesOf h) wd_X0_entriesOf mw_1060 hQ hV va_S.rf (hP.sub [1, 2, 3, 4, 5, 6, 7, 8, 9, 10, 11, 12, 13] rfl) rfl rfl rfl hl.1 rfl (Nat.le_of_ble_eq_true rfl) dX6_often_36 ⟨Nat.le_of_ble_eq_true rfl, Nat.le_of_ble_eq_true rfl, rfl, rfl⟩ ⟨Nat.le_of_ble_eq_true rfl, Nat.le_of_ble_eq_true rfl⟩) (fun r_8 h => ?_)
        try dsimp only at h
        exact rd_iret hx hb hr hk h dX6_often_39
      · replace h := h.2 c_7
        refine lv_iconst (v := (-1)) hx hb dX6_often_27 (by decide) ?_
        exact rd_iret hx hb hr hk h dX6_often_28

def wp_X6_usual_L30 (s2 : Bd) (post : Int32 → Prop) (e76 : Int32 → Int32 → Int32 → Int32 → Int32 → Prop) : Nat → Int32 → Int32 → Int32 → Int32 → Int32 → Prop
  | 0, _, _, _, _, _ => False
  | n30 + 1, z1, z2, z3, z4, z5 => wp_X0_flapsOn (fun r_6 => ((r_6 ≤ z5 → e76 z1 z2 z3 z4 z5) ∧ (¬ r_6 ≤ z5 → wp_X0_entriesOf (fun r_9 => ((r_9 ≤ z4 → wp_X6_usual_L30 s2 post e76 n30 z1 z2 z3 z4 (z5 + 1)) ∧ (¬ r_9 ≤ z4 → wp_X6_usual_L30 s2 post e76 n30 z1 z2 z5 r_9 (z5 + 1)))) s2 z1 z5 (1 : Int32)))) s2 z1
def wp_X6_usual (post : Int32 → Prop) (s2 : Bd) (x1 : Int32) (x2 : Int32) : Prop := wp_X0_hasDrum (fun r_1 => ((r_1 = 0 → post (-1)) ∧ (¬ r_1 = 0 → ((x2 < 0 → post (-1)) ∧ (¬ x2 < 0 → ((x2 ≤ 1 → (∃ n30, wp_X6_usual_L30 s2 post (fun z1 z2 z3 z4 z5 => ((¬ z3 = (-1) → ((¬ z2 = 0 → post z4) ∧ (z2 = 0 → post z3))) ∧ (z3 = (-1) → post (-2)))) n30 x1 x2 (-1) 0 0)) ∧ (¬ x2 ≤ 1 → post (-1)))))))) s2 x1
set_option maxHeartbeats 4000000 in
set_option maxRecDepth 100000 in
theorem c2_X6_usual {l : Launch} {D : va_G} {q : Nat → ClassId} {a0 a1 a2 a3 a4 a5 : Nat → Nat} {p8 s8 : Nat} {s2 : Bd} {x1 : Int32} {x2 : Int32} {post : Int32 → Prop} (h : wp_X6_usual post s2 x1 x2) : Met l yX6_usual (Cond.code yX6_usual cX6_usual 7 (some .int) :: w_all) ({ frames := 2, cells := 0, slots := 0, locals := 52 } : Room) (rd_P D q [.ref (a0 0), .int x1, .int x2] (fo_w (a0 0) (a1 0) (a2 0) (a3 0) (a4 0) (a5 0) p8 s8 ++ bd_w a2 q s2)) (vp_Si post) 0 0 (fun _ => False) := by
  refine rd_start (by decide) (Nat.le_of_ble_eq_true rfl) ?_
  intro p e s m below meth c ls hx hb hr hml hown ht hk hP hQ hV hl
  have hK := hQ.1
  have hown : s.vm.findClass RX6 = some m.cls := hown
  have hl : lv_has ls 7 [(0, .ref (a0 0)), (1, .int x1), (2, .int x2)] := hl
  have hP : va_P D vwCl [((a0 0), .inr (5, [.ref (a1 0), .ref (a2 0), .ref (a3 0), .ref (a4 0), .ref (a5 0), .ref p8, .ref s8])), ((a2 0), .inr (0, [.int (s2.1 0), .int (s2.1 1), .int (s2.1 2), .int (s2.1 3), .int (s2.1 4), .int (s2.1 5), .ref (a2 1), .ref (a2 2), .ref (a2 3), .ref (a2 4), .ref (a2 5), .ref (a2 6), .ref (a2 7), .ref (a2 8), .ref (a2 9), .ref (a2 10), .ref (a2 11), .ref (a2 12)])), ((a2 1), .inl (q 0, 4, .inl (s2.2.1 0))), ((a2 2), .inl (q 0, 4, .inl (s2.2.1 1))), ((a2 3), .inl (q 0, 160, .inl (s2.2.1 2))), ((a2 4), .inl (q 0, 40, .inl (s2.2.1 3))), ((a2 5), .inl (q 0, 40, .inl (s2.2.1 4))), ((a2 6), .inl (q 0, 40, .inl (s2.2.1 5))), ((a2 7), .inl (q 0, 40, .inl (s2.2.1 6))), ((a2 8), .inl (q 0, 40, .inl (s2.2.1 7))), ((a2 9), .inl (q 0, 40, .inl (s2.2.1 8))), ((a2 10), .inl (q 0, 40, .inl (s2.2.1 9))), ((a2 11), .inl (q 1, 40, .inr (.inl s2.2.2.1))), ((a2 12), .inl (q 0, s2.2.2.2.1, .inl s2.2.2.2.2))] s.heap := hP
  unfold wp_X6_usual at h
  refine lv_aload_n hx hb dX6_usual_0 rfl (lv_at hl 0 rfl) ?_
  refine fl_get (C := RX6) (T := TX6) (N := 7) (ci := 5) (v := .ref (a2 0)) hx hb ht in_X6 hown hK hP 0 rfl rfl 1 (by decide) mw_356 rfl dX6_usual_1 ?_
  refine lv_iload_n hx hb dX6_usual_4 rfl (lv_at hl 1 rfl) ?_
  refine vp_callSi (rd_wV (wc := bd_w a2 q s2) (As := [.int x1]) (rest := []) hx hb hml hown ht (c2_X0_hasDrum h) wd_X0_hasDrum mw_904 hQ hV va_S.rf (hP.sub [1, 2, 3, 4, 5, 6, 7, 8, 9, 10, 11, 12, 13] rfl) rfl rfl rfl hl.1 rfl (Nat.le_of_ble_eq_true rfl) dX6_usual_5 ⟨Nat.le_of_ble_eq_true rfl, Nat.le_of_ble_eq_true rfl, rfl, rfl⟩ ⟨Nat.le_of_ble_eq_true rfl, Nat.le_of_ble_eq_true rfl⟩) (fun r_1 h => ?_)
  try dsimp only at h
  refine lv_if_eq (tgt := 20) hx hb dX6_usual_8 (by decide) (fun c_3 => ?_) (fun c_3 => ?_)
  · replace h := h.1 c_3
    refine lv_iconst (v := (-1)) hx hb dX6_usual_20 (by decide) ?_
    exact rd_iret hx hb hr hk h dX6_usual_21
  · replace h := h.2 c_3
    refine lv_iload_n hx hb dX6_usual_11 rfl (lv_at hl 2 rfl) ?_
    refine lv_if_lt (tgt := 20) hx hb dX6_usual_12 (by decide) (fun c_4 => ?_) (fun c_4 => ?_)
    · replace h := h.1 c_4
      refine lv_iconst (v := (-1)) hx hb dX6_usual_20 (by decide) ?_
      exact rd_iret hx hb hr hk h dX6_usual_21
    · replace h := h.2 c_4
      refine lv_iload_n hx hb dX6_usual_15 rfl (lv_at hl 2 rfl) ?_
      refine lv_iconst (v := 1) hx hb dX6_usual_16 (by decide) ?_
      refine lv_icmp_le (tgt := 22) hx hb dX6_usual_17 (by decide) (fun c_5 => ?_) (fun c_5 => ?_)
      · replace h := h.1 c_5
        refine lv_iconst (v := (-1)) hx hb dX6_usual_22 (by decide) ?_
        refine lv_istore_n (lv' := [(3, .int (-1)), (0, .ref (a0 0)), (1, .int x1), (2, .int x2)]) hx hb dX6_usual_23 rfl hl (by decide) rfl (fun ls hl => ?_)
        refine lv_iconst (v := 0) hx hb dX6_usual_24 (by decide) ?_
        refine lv_istore (lv' := [(4, .int 0), (3, .int (-1)), (0, .ref (a0 0)), (1, .int x1), (2, .int x2)]) hx hb dX6_usual_25 hl (by decide) rfl (fun ls hl => ?_)
        refine lv_iconst (v := 0) hx hb dX6_usual_27 (by decide) ?_
        refine lv_istore (lv' := [(5, .int 0), (4, .int 0), (3, .int (-1)), (0, .ref (a0 0)), (1, .int x1), (2, .int x2)]) hx hb dX6_usual_28 hl (by decide) rfl (fun ls hl => ?_)
        have lp30 : ∀ (e76 : Int32 → Int32 → Int32 → Int32 → Int32 → Prop) (k76 : ∀ (z1 : Int32) (z2 : Int32) (z3 : Int32) (z4 : Int32) (z5 : Int32) (ls : Array Slot), e76 z1 z2 z3 z4 z5 → lv_has ls 7 [(1, .int z1), (2, .int z2), (3, .int z3), (4, .int z4), (5, .int z5), (0, .ref (a0 0))] → W p l e ({ frames := 2, cells := 0, slots := 0, locals := 52 } : Room) s m [.ref (a0 0), .int x1, .int x2].toArray below meth c s.heap [] 0 0 (MQ below (vp_Si post) [.ref (a0 0), .int x1, .int x2].toArray s 0 0 (fun _ => False)) (F0 m 76 ls [])) (n : Nat) (z1 : Int32) (z2 : Int32) (z3 : Int32) (z4 : Int32) (z5 : Int32) (ls : Array Slot), wp_X6_usual_L30 s2 post e76 n z1 z2 z3 z4 z5 → lv_has ls 7 [(1, .int z1), (2, .int z2), (3, .int z3), (4, .int z4), (5, .int z5), (0, .ref (a0 0))] → W p l e ({ frames := 2, cells := 0, slots := 0, locals := 52 } : Room) s m [.ref (a0 0), .int x1, .int x2].toArray below meth c s.heap [] 0 0 (MQ below (vp_Si post) [.ref (a0 0), .int x1, .int x2].toArray s 0 0 (fun _ => False)) (F0 m 30 ls []) := by
          intro e76 k76 n
          induction n with
          | zero =>
            intro z1 z2 z3 z4 z5 ls h
            exact h.elim
          | succ n ih =>
            intro z1 z2 z3 z4 z5 ls h hl
            unfold wp_X6_usual_L30 at h
            refine lv_iload hx hb dX6_usual_30 (lv_at hl 4 rfl) ?_
            refine lv_aload_n hx hb dX6_usual_32 rfl (lv_at hl 5 rfl) ?_
            refine fl_get (C := RX6) (T := TX6) (N := 7) (ci := 5) (v := .ref (a2 0)) hx hb ht in_X6 hown hK hP 0 rfl rfl 1 (by decide) mw_356 rfl dX6_usual_33 ?_
            refine lv_iload_n hx hb dX6_usual_36 rfl (lv_at hl 0 rfl) ?_
            refine vp_callSi (rd_wV (wc := bd_w a2 q s2) (As := [.int z1]) (rest := [.int z5]) hx hb hml hown ht (c2_X0_flapsOn h) wd_X0_flapsOn mw_908 hQ hV va_S.rf (hP.sub [1, 2, 3, 4, 5, 6, 7, 8, 9, 10, 11, 12, 13] rfl) rfl rfl rfl hl.1 rfl (Nat.le_of_ble_eq_true rfl) dX6_usual_37 ⟨Nat.le_of_ble_eq_true rfl, Nat.le_of_ble_eq_true rfl, rfl, rfl⟩ ⟨Nat.le_of_ble_eq_true rfl, Nat.le_of_ble_eq_true rfl⟩) (fun r_6 h => ?_)
            try dsimp only at h
            refine lv_icmp_ge (tgt := 76) hx hb dX6_usual_40 (by decide) (fun c_8 => ?_) (fun c_8 => ?_)
            · replace h := h.1 c_8
              exact k76 _ _ _ _ _ ls h (lv_sub hl [0, 1, 2, 3, 4, 5] rfl)
            · replace h := h.2 c_8
              refine lv_aload_n hx hb dX6_usual_43 rfl (lv_at hl 5 rfl) ?_
              refine fl_get (C := RX6) (T := TX6) (N := 7) (ci := 5) (v := .ref (a2 0)) hx hb ht in_X6 hown hK hP 0 rfl rfl 1 (by decide) mw_356 rfl dX6_usual_44 ?_
              refine lv_iload_n hx hb dX6_usual_47 rfl (lv_at hl 0 rfl) ?_
              refine lv_iload hx hb dX6_usual_48 (lv_at hl 4 rfl) ?_
              refine lv_iconst (v := 1) hx hb dX6_usual_50 (by decide) ?_
              refine vp_callSi (rd_wV (wc := bd_w a2 q s2) (As := [.int z1, .int z5, .int 1]) (rest := []) hx hb hml hown ht (c2_X0_entriesOf h) wd_X0_entriesOf mw_1060 hQ hV va_S.rf (hP.sub [1, 2, 3, 4, 5, 6, 7, 8, 9, 10, 11, 12, 13] rfl) rfl rfl rfl hl.1 rfl (Nat.le_of_ble_eq_true rfl) dX6_usual_51 ⟨Nat.le_of_ble_eq_true rfl, Nat.le_of_ble_eq_true rfl, rfl, rfl⟩ ⟨Nat.le_of_ble_eq_true rfl, Nat.le_of_ble_eq_true rfl⟩) (fun r_9 h => ?_)
              try dsimp only at h
              refine lv_istore (lv' := [(6, .int r_9), (1, .int z1), (2, .int z2), (3, .int z3), (4, .int z4), (5, .int z5), (0, .ref (a0 0))]) hx hb dX6_usual_54 hl (by decide) rfl (fun ls hl => ?_)
              refine lv_iload hx hb dX6_usual_56 (lv_at hl 0 rfl) ?_
              refine lv_iload hx hb dX6_usual_58 (lv_at hl 4 rfl) ?_
              refine lv_icmp_le (tgt := 70) hx hb dX6_usual_60 (by decide) (fun c_11 => ?_) (fun c_11 => ?_)
              · replace h := h.1 c_11
                refine lv_iinc (v := (z5 + 1)) (lv' := [(5, .int (z5 + 1)), (6, .int r_9), (1, .int z1), (2, .int z2), (3, .int z3), (4, .int z4), (0, .ref (a0 0))]) hx hb dX6_usual_70 hl (k := 5) rfl rfl (by decide) rfl (fun ls hl => ?_)
                refine lv_goto (tgt := 30) hx hb dX6_usual_73 (by decide) ?_
                exact ih _ _ _ _ _ ls h (lv_sub hl [2, 3, 4, 5, 0, 6] rfl)
              · replace h := h.2 c_11
                refine lv_iload hx hb dX6_usual_63 (lv_at hl 5 rfl) ?_
                refine lv_istore_n (lv' := [(3, .int z5), (6, .int r_9), (1, .int z1), (2, .int z2), (4, .int z4), (5, .int z5), (0, .ref (a0 0))]) hx hb dX6_usual_65 rfl hl (by decide) rfl (fun ls hl => ?_)
                refine lv_iload hx hb dX6_usual_66 (lv_at hl 1 rfl) ?_
                refine lv_istore (lv' := [(4, .int r_9), (3, .int z5), (6, .int r_9), (1, .int z1), (2, .int z2), (5, .int z5), (0, .ref (a0 0))]) hx hb dX6_usual_68 hl (by decide) rfl (fun ls hl => ?_)
                refine lv_iinc (v := (z5 + 1)) (lv' := [(5, .int (z5 + 1)), (4, .int r_9), (3, .int z5), (6, .int r_9), (1, .int z1), (2, .int z2), (0, .ref (a0 0))]) hx hb dX6_usual_70 hl (k := 5) rfl rfl (by decide) rfl (fun ls hl => ?_)
                refine lv_goto (tgt := 30) hx hb dX6_usual_73 (by decide) ?_
                exact ih _ _ _ _ _ ls h (lv_sub hl [4, 5, 2, 1, 0, 6] rfl)
        obtain ⟨n30, h⟩ := h
        refine lp30 _ ?_ n30 _ _ _ _ _ ls h (lv_sub hl [4, 5, 2, 1, 0, 3] rfl)
        · intro z1 z2 z3 z4 z5 ls h hl
          try dsimp only at h
          refine lv_iload_n hx hb dX6_usual_76 rfl (lv_at hl 2 rfl) ?_
          refine lv_iconst (v := (-1)) hx hb dX6_usual_77 (by decide) ?_
          refine lv_icmp_ne (tgt := 84) hx hb dX6_usual_78 (by decide) (fun c_12 => ?_) (fun c_12 => ?_)
          · replace h := h.1 c_12
            refine lv_iload_n hx hb dX6_usual_84 rfl (lv_at hl 1 rfl) ?_
            refine lv_if_ne (tgt := 92) hx hb dX6_usual_85 (by decide) (fun c_13 => ?_) (fun c_13 => ?_)
            · replace h := h.1 c_13
              refine lv_iload hx hb dX6_usual_92 (lv_at hl 3 rfl) ?_
              exact rd_iret hx hb hr hk h dX6_usual_94
            · replace h := h.2 c_13
              refine lv_iload_n hx hb dX6_usual_88 rfl (lv_at hl 2 rfl) ?_
              refine lv_goto (tgt := 94) hx hb dX6_usual_89 (by decide) ?_
              exact rd_iret hx hb hr hk h dX6_usual_94
          · replace h := h.2 c_12
            refine lv_bipush (v := (-2)) hx hb dX6_usual_81 (by decide) ?_
            exact rd_iret hx hb hr hk h dX6_usual_83
      · replace h := h.2 c_5
        refine lv_iconst (v := (-1)) hx hb dX6_usual_20 (by decide) ?_
        exact rd_iret hx hb hr hk h dX6_usual_21

def wp_X6_better_L55 (s2 : Bd) (post : Int32 → Prop) (e100 : Int32 → Int32 → Int32 → Int32 → Int32 → Int32 → Int32 → Int32 → Prop) : Nat → Int32 → Int32 → Int32 → Int32 → Int32 → Int32 → Int32 → Int32 → Prop
  | 0, _, _, _, _, _, _, _, _ => False
  | n55 + 1, z1, z2, z3, z4, z5, z6, z7, z8 => ((z3 ≤ z8 → e100 z1 z2 z3 z4 z5 z6 z7 z8) ∧ (¬ z3 ≤ z8 → wp_X0_journeyChange (fun r_10 => ((z4 ≤ r_10 → wp_X6_better_L55 s2 post e100 n55 z1 z2 z3 z4 z5 z6 z7 (z8 + 1)) ∧ (¬ z4 ≤ r_10 → wp_X6_better_L55 s2 post e100 n55 z1 z2 z3 r_10 z7 z8 z7 (z8 + 1)))) s2 z1 z7 z8))
def wp_X6_better_L43 (s2 : Bd) (post : Int32 → Prop) (e106 : Int32 → Int32 → Int32 → Int32 → Int32 → Int32 → Int32 → Prop) : Nat → Int32 → Int32 → Int32 → Int32 → Int32 → Int32 → Int32 → Prop
  | 0, _, _, _, _, _, _, _ => False
  | n43 + 1, z1, z2, z3, z4, z5, z6, z7 => ((z3 ≤ z7 → e106 z1 z2 z3 z4 z5 z6 z7) ∧ (¬ z3 ≤ z7 → (∃ n55, wp_X6_better_L55 s2 post (fun z1 z2 z3 z4 z5 z6 z7 z8 => wp_X6_better_L43 s2 post e106 n43 z1 z2 z3 z4 z5 z6 (z7 + 1)) n55 z1 z2 z3 z4 z5 z6 z7 (z7 + 1))))
def wp_X6_better (post : Int32 → Prop) (s2 : Bd) (x1 : Int32) (x2 : Int32) : Prop := wp_X0_hasDrum (fun r_1 => ((r_1 = 0 → post (-1)) ∧ (¬ r_1 = 0 → ((x2 < 0 → post (-1)) ∧ (¬ x2 < 0 → ((x2 ≤ 2 → wp_X0_flapsOn (fun r_6 => (∃ n43, wp_X6_better_L43 s2 post (fun z1 z2 z3 z4 z5 z6 z7 => ((¬ z5 = (-1) → ((¬ z2 = 0 → ((¬ z2 = 1 → post z6) ∧ (z2 = 1 → post z5))) ∧ (z2 = 0 → wp_X0_journey (fun r_16 => post (r_16 + z4)) s2 z1))) ∧ (z5 = (-1) → post (-2)))) n43 x1 x2 r_6 0 (-1) (-1) 1)) s2 x1) ∧ (¬ x2 ≤ 2 → post (-1)))))))) s2 x1
set_option maxHeartbeats 4000000 in
set_option maxRecDepth 100000 in
theorem c2_X6_better {l : Launch} {D : va_G} {q : Nat → ClassId} {a0 a1 a2 a3 a4 a5 : Nat → Nat} {p8 s8 : Nat} {s2 : Bd} {x1 : Int32} {x2 : Int32} {post : Int32 → Prop} (h : wp_X6_better post s2 x1 x2) : Met l yX6_better (Cond.code yX6_better cX6_better 10 (some .int) :: w_all) ({ frames := 2, cells := 0, slots := 0, locals := 55 } : Room) (rd_P D q [.ref (a0 0), .int x1, .int x2] (fo_w (a0 0) (a1 0) (a2 0) (a3 0) (a4 0) (a5 0) p8 s8 ++ bd_w a2 q s2)) (vp_Si post) 0 0 (fun _ => False) := by
  refine rd_start (by decide) (Nat.le_of_ble_eq_true rfl) ?_
  intro p e s m below meth c ls hx hb hr hml hown ht hk hP hQ hV hl
  have hK := hQ.1
  have hown : s.vm.findClass RX6 = some m.cls := hown
  have hl : lv_has ls 10 [(0, .ref (a0 0)), (1, .int x1), (2, .int x2)] := hl
  have hP : va_P D vwCl [((a0 0), .inr (5, [.ref (a1 0), .ref (a2 0), .ref (a3 0), .ref (a4 0), .ref (a5 0), .ref p8, .ref s8])), ((a2 0), .inr (0, [.int (s2.1 0), .int (s2.1 1), .int (s2.1 2), .int (s2.1 3), .int (s2.1 4), .int (s2.1 5), .ref (a2 1), .ref (a2 2), .ref (a2 3), .ref (a2 4), .ref (a2 5), .ref (a2 6), .ref (a2 7), .ref (a2 8), .ref (a2 9), .ref (a2 10), .ref (a2 11), .ref (a2 12)])), ((a2 1), .inl (q 0, 4, .inl (s2.2.1 0))), ((a2 2), .inl (q 0, 4, .inl (s2.2.1 1))), ((a2 3), .inl (q 0, 160, .inl (s2.2.1 2))), ((a2 4), .inl (q 0, 40, .inl (s2.2.1 3))), ((a2 5), .inl (q 0, 40, .inl (s2.2.1 4))), ((a2 6), .inl (q 0, 40, .inl (s2.2.1 5))), ((a2 7), .inl (q 0, 40, .inl (s2.2.1 6))), ((a2 8), .inl (q 0, 40, .inl (s2.2.1 7))), ((a2 9), .inl (q 0, 40, .inl (s2.2.1 8))), ((a2 10), .inl (q 0, 40, .inl (s2.2.1 9))), ((a2 11), .inl (q 1, 40, .inr (.inl s2.2.2.1))), ((a2 12), .inl (q 0, s2.2.2.2.1, .inl s2.2.2.2.2))] s.heap := hP
  unfold wp_X6_better at h
  refine lv_aload_n hx hb dX6_better_0 rfl (lv_at hl 0 rfl) ?_
  refine fl_get (C := RX6) (T := TX6) (N := 7) (ci := 5) (v := .ref (a2 0)) hx hb ht in_X6 hown hK hP 0 rfl rfl 1 (by decide) mw_356 rfl dX6_better_1 ?_
  refine lv_iload_n hx hb dX6_better_4 rfl (lv_at hl 1 rfl) ?_
  refine vp_callSi (rd_wV (wc := bd_w a2 q s2) (As := [.int x1]) (rest := []) hx hb hml hown ht (c2_X0_hasDrum h) wd_X0_hasDrum mw_904 hQ hV va_S.rf (hP.sub [1, 2, 3, 4, 5, 6, 7, 8, 9, 10, 11, 12, 13] rfl) rfl rfl rfl hl.1 rfl (Nat.le_of_ble_eq_true rfl) dX6_better_5 ⟨Nat.le_of_ble_eq_true rfl, Nat.le_of_ble_eq_true rfl, rfl, rfl⟩ ⟨Nat.le_of_ble_eq_true rfl, Nat.le_of_ble_eq_true rfl⟩) (fun r_1 h => ?_)
  try dsimp only at h
  refine lv_if_eq (tgt := 20) hx hb dX6_better_8 (by decide) (fun c_3 => ?_) (fun c_3 => ?_)
  · replace h := h.1 c_3
    refine lv_iconst (v := (-1)) hx hb dX6_better_20 (by decide) ?_
    exact rd_iret hx hb hr hk h dX6_better_21
  · replace h := h.2 c_3
    refine lv_iload_n hx hb dX6_better_11 rfl (lv_at hl 2 rfl) ?_
    refine lv_if_lt (tgt := 20) hx hb dX6_better_12 (by decide) (fun c_4 => ?_) (fun c_4 => ?_)
    · replace h := h.1 c_4
      refine lv_iconst (v := (-1)) hx hb dX6_better_20 (by decide) ?_
      exact rd_iret hx hb hr hk h dX6_better_21
    · replace h := h.2 c_4
      refine lv_iload_n hx hb dX6_better_15 rfl (lv_at hl 2 rfl) ?_
      refine lv_iconst (v := 2) hx hb dX6_better_16 (by decide) ?_
      refine lv_icmp_le (tgt := 22) hx hb dX6_better_17 (by decide) (fun c_5 => ?_) (fun c_5 => ?_)
      · replace h := h.1 c_5
        refine lv_aload_n hx hb dX6_better_22 rfl (lv_at hl 0 rfl) ?_
        refine fl_get (C := RX6) (T := TX6) (N := 7) (ci := 5) (v := .ref (a2 0)) hx hb ht in_X6 hown hK hP 0 rfl rfl 1 (by decide) mw_356 rfl dX6_better_23 ?_
        refine lv_iload_n hx hb dX6_better_26 rfl (lv_at hl 1 rfl) ?_
        refine vp_callSi (rd_wV (wc := bd_w a2 q s2) (As := [.int x1]) (rest := []) hx hb hml hown ht (c2_X0_flapsOn h) wd_X0_flapsOn mw_908 hQ hV va_S.rf (hP.sub [1, 2, 3, 4, 5, 6, 7, 8, 9, 10, 11, 12, 13] rfl) rfl rfl rfl hl.1 rfl (Nat.le_of_ble_eq_true rfl) dX6_better_27 ⟨Nat.le_of_ble_eq_true rfl, Nat.le_of_ble_eq_true rfl, rfl, rfl⟩ ⟨Nat.le_of_ble_eq_true rfl, Nat.le_of_ble_eq_true rfl⟩) (fun r_6 h => ?_)
        try dsimp only at h
        refine lv_istore_n (lv' := [(3, .int r_6), (0, .ref (a0 0)), (1, .int x1), (2, .int x2)]) hx hb dX6_better_30 rfl hl (by decide) rfl (fun ls hl => ?_)
        refine lv_iconst (v := 0) hx hb dX6_better_31 (by decide) ?_
        refine lv_istore (lv' := [(4, .int 0), (3, .int r_6), (0, .ref (a0 0)), (1, .int x1), (2, .int x2)]) hx hb dX6_better_32 hl (by decide) rfl (fun ls hl => ?_)
        refine lv_iconst (v := (-1)) hx hb dX6_better_34 (by decide) ?_
        refine lv_istore (lv' := [(5, .int (-1)), (4, .int 0), (3, .int r_6), (0, .ref (a0 0)), (1, .int x1), (2, .int x2)]) hx hb dX6_better_35 hl (by decide) rfl (fun ls hl => ?_)
        refine lv_iconst (v := (-1)) hx hb dX6_better_37 (by decide) ?_
        refine lv_istore (lv' := [(6, .int (-1)), (5, .int (-1)), (4, .int 0), (3, .int r_6), (0, .ref (a0 0)), (1, .int x1), (2, .int x2)]) hx hb dX6_better_38 hl (by decide) rfl (fun ls hl => ?_)
        refine lv_iconst (v := 1) hx hb dX6_better_40 (by decide) ?_
        refine lv_istore (lv' := [(7, .int 1), (6, .int (-1)), (5, .int (-1)), (4, .int 0), (3, .int r_6), (0, .ref (a0 0)), (1, .int x1), (2, .int x2)]) hx hb dX6_better_41 hl (by decide) rfl (fun ls hl => ?_)
        have lp43 : ∀ (e106 : Int32 → Int32 → Int32 → Int32 → Int32 → Int32 → Int32 → Prop) (k106 : ∀ (z1 : Int32) (z2 : Int32) (z3 : Int32) (z4 : Int32) (z5 : Int32) (z6 : Int32) (z7 : Int32) (ls : Array Slot), e106 z1 z2 z3 z4 z5 z6 z7 → lv_has ls 10 [(1, .int z1), (2, .int z2), (3, .int z3), (4, .int z4), (5, .int z5), (6, .int z6), (7, .int z7), (0, .ref (a0 0))] → W p l e ({ frames := 2, cells := 0, slots := 0, locals := 55 } : Room) s m [.ref (a0 0), .int x1, .int x2].toArray below meth c s.heap [] 0 0 (MQ below (vp_Si post) [.ref (a0 0), .int x1, .int x2].toArray s 0 0 (fun _ => False)) (F0 m 106 ls [])) (n : Nat) (z1 : Int32) (z2 : Int32) (z3 : Int32) (z4 : Int32) (z5 : Int32) (z6 : Int32) (z7 : Int32) (ls : Array Slot), wp_X6_better_L43 s2 post e106 n z1 z2 z3 z4 z5 z6 z7 → lv_has ls 10 [(1, .int z1), (2, .int z2), (3, .int z3), (4, .int z4), (5, .int z5), (6, .int z6), (7, .int z7), (0, .ref (a0 0))] → W p l e ({ frames := 2, cells := 0, slots := 0, locals := 55 } : Room) s m [.ref (a0 0), .int x1, .int x2].toArray below meth c s.heap [] 0 0 (MQ below (vp_Si post) [.ref (a0 0), .int x1, .int x2].toArray s 0 0 (fun _ => False)) (F0 m 43 ls []) := by
          intro e106 k106 n
          induction n with
          | zero =>
            intro z1 z2 z3 z4 z5 z6 z7 ls h
            exact h.elim
          | succ n ih =>
            intro z1 z2 z3 z4 z5 z6 z7 ls h hl
            unfold wp_X6_better_L43 at h
            refine lv_iload hx hb dX6_better_43 (lv_at hl 6 rfl) ?_
            refine lv_iload_n hx hb dX6_better_45 rfl (lv_at hl 2 rfl) ?_
            refine lv_icmp_ge (tgt := 106) hx hb dX6_better_46 (by decide) (fun c_8 => ?_) (fun c_8 => ?_)
            · replace h := h.1 c_8
              exact k106 _ _ _ _ _ _ _ ls h (lv_sub hl [0, 1, 2, 3, 4, 5, 6, 7] rfl)
            · replace h := h.2 c_8
              refine lv_iload hx hb dX6_better_49 (lv_at hl 6 rfl) ?_
              refine lv_iconst (v := 1) hx hb dX6_better_51 (by decide) ?_
              refine lv_iadd hx hb dX6_better_52 ?_
              refine lv_istore (lv' := [(8, .int (z7 + 1)), (1, .int z1), (2, .int z2), (3, .int z3), (4, .int z4), (5, .int z5), (6, .int z6), (7, .int z7), (0, .ref (a0 0))]) hx hb dX6_better_53 hl (by decide) rfl (fun ls hl => ?_)
              have lp55 : ∀ (e100 : Int32 → Int32 → Int32 → Int32 → Int32 → Int32 → Int32 → Int32 → Prop) (k100 : ∀ (z1 : Int32) (z2 : Int32) (z3 : Int32) (z4 : Int32) (z5 : Int32) (z6 : Int32) (z7 : Int32) (z8 : Int32) (ls : Array Slot), e100 z1 z2 z3 z4 z5 z6 z7 z8 → lv_has ls 10 [(1, .int z1), (2, .int z2), (3, .int z3), (4, .int z4), (5, .int z5), (6, .int z6), (7, .int z7), (8, .int z8), (0, .ref (a0 0))] → W p l e ({ frames := 2, cells := 0, slots := 0, locals := 55 } : Room) s m [.ref (a0 0), .int x1, .int x2].toArray below meth c s.heap [] 0 0 (MQ below (vp_Si post) [.ref (a0 0), .int x1, .int x2].toArray s 0 0 (fun _ => False)) (F0 m 100 ls [])) (n : Nat) (z1 : Int32) (z2 : Int32) (z3 : Int32) (z4 : Int32) (z5 : Int32) (z6 : Int32) (z7 : Int32) (z8 : Int32) (ls : Array Slot), wp_X6_better_L55 s2 post e100 n z1 z2 z3 z4 z5 z6 z7 z8 → lv_has ls 10 [(1, .int z1), (2, .int z2), (3, .int z3), (4, .int z4), (5, .int z5), (6, .int z6), (7, .int z7), (8, .int z8), (0, .ref (a0 0))] → W p l e ({ frames := 2, cells := 0, slots := 0, locals := 55 } : Room) s m [.ref (a0 0), .int x1, .int x2].toArray below meth c s.heap [] 0 0 (MQ below (vp_Si post) [.ref (a0 0), .int x1, .int x2].toArray s 0 0 (fun _ => False)) (F0 m 55 ls []) := by
                intro e100 k100 n
                induction n with
                | zero =>
                  intro z1 z2 z3 z4 z5 z6 z7 z8 ls h
                  exact h.elim
                | succ n ih =>
                  intro z1 z2 z3 z4 z5 z6 z7 z8 ls h hl
                  unfold wp_X6_better_L55 at h
                  refine lv_iload hx hb dX6_better_55 (lv_at hl 7 rfl) ?_
                  refine lv_iload_n hx hb dX6_better_57 rfl (lv_at hl 2 rfl) ?_
                  refine lv_icmp_ge (tgt := 100) hx hb dX6_better_58 (by decide) (fun c_9 => ?_) (fun c_9 => ?_)
                  · replace h := h.1 c_9
                    exact k100 _ _ _ _ _ _ _ _ ls h (lv_sub hl [0, 1, 2, 3, 4, 5, 6, 7, 8] rfl)
                  · replace h := h.2 c_9
                    refine lv_aload_n hx hb dX6_better_61 rfl (lv_at hl 8 rfl) ?_
                    refine fl_get (C := RX6) (T := TX6) (N := 7) (ci := 5) (v := .ref (a2 0)) hx hb ht in_X6 hown hK hP 0 rfl rfl 1 (by decide) mw_356 rfl dX6_better_62 ?_
                    refine lv_iload_n hx hb dX6_better_65 rfl (lv_at hl 0 rfl) ?_
                    refine lv_iload hx hb dX6_better_66 (lv_at hl 6 rfl) ?_
                    refine lv_iload hx hb dX6_better_68 (lv_at hl 7 rfl) ?_
                    refine vp_callSi (rd_wV (wc := bd_w a2 q s2) (As := [.int z1, .int z7, .int z8]) (rest := []) hx hb hml hown ht (c2_X0_journeyChange h) wd_X0_journeyChange mw_1069 hQ hV va_S.rf (hP.sub [1, 2, 3, 4, 5, 6, 7, 8, 9, 10, 11, 12, 13] rfl) rfl rfl rfl hl.1 rfl (Nat.le_of_ble_eq_true rfl) dX6_better_70 ⟨Nat.le_of_ble_eq_true rfl, Nat.le_of_ble_eq_true rfl, rfl, rfl⟩ ⟨Nat.le_of_ble_eq_true rfl, Nat.le_of_ble_eq_true rfl⟩) (fun r_10 h => ?_)
                    try dsimp only at h
                    refine lv_istore (lv' := [(9, .int r_10), (1, .int z1), (2, .int z2), (3, .int z3), (4, .int z4), (5, .int z5), (6, .int z6), (7, .int z7), (8, .int z8), (0, .ref (a0 0))]) hx hb dX6_better_73 hl (by decide) rfl (fun ls hl => ?_)
                    refine lv_iload hx hb dX6_better_75 (lv_at hl 0 rfl) ?_
                    refine lv_iload hx hb dX6_better_77 (lv_at hl 4 rfl) ?_
                    refine lv_icmp_ge (tgt := 94) hx hb dX6_better_79 (by decide) (fun c_12 => ?_) (fun c_12 => ?_)
                    · replace h := h.1 c_12
                      refine lv_iinc (v := (z8 + 1)) (lv' := [(8, .int (z8 + 1)), (9, .int r_10), (1, .int z1), (2, .int z2), (3, .int z3), (4, .int z4), (5, .int z5), (6, .int z6), (7, .int z7), (0, .ref (a0 0))]) hx hb dX6_better_94 hl (k := 8) rfl rfl (by decide) rfl (fun ls hl => ?_)
                      refine lv_goto (tgt := 55) hx hb dX6_better_97 (by decide) ?_
                      exact ih _ _ _ _ _ _ _ _ ls h (lv_sub hl [2, 3, 4, 5, 6, 7, 8, 0, 9] rfl)
                    · replace h := h.2 c_12
                      refine lv_iload hx hb dX6_better_82 (lv_at hl 0 rfl) ?_
                      refine lv_istore (lv' := [(4, .int r_10), (9, .int r_10), (1, .int z1), (2, .int z2), (3, .int z3), (5, .int z5), (6, .int z6), (7, .int z7), (8, .int z8), (0, .ref (a0 0))]) hx hb dX6_better_84 hl (by decide) rfl (fun ls hl => ?_)
                      refine lv_iload hx hb dX6_better_86 (lv_at hl 7 rfl) ?_
                      refine lv_istore (lv' := [(5, .int z7), (4, .int r_10), (9, .int r_10), (1, .int z1), (2, .int z2), (3, .int z3), (6, .int z6), (7, .int z7), (8, .int z8), (0, .ref (a0 0))]) hx hb dX6_better_88 hl (by decide) rfl (fun ls hl => ?_)
                      refine lv_iload hx hb dX6_better_90 (lv_at hl 8 rfl) ?_
                      refine lv_istore (lv' := [(6, .int z8), (5, .int z7), (4, .int r_10), (9, .int r_10), (1, .int z1), (2, .int z2), (3, .int z3), (7, .int z7), (8, .int z8), (0, .ref (a0 0))]) hx hb dX6_better_92 hl (by decide) rfl (fun ls hl => ?_)
                      refine lv_iinc (v := (z8 + 1)) (lv' := [(8, .int (z8 + 1)), (6, .int z8), (5, .int z7), (4, .int r_10), (9, .int r_10), (1, .int z1), (2, .int z2), (3, .int z3), (7, .int z7), (0, .ref (a0 0))]) hx hb dX6_better_94 hl (k := 8) rfl rfl (by decide) rfl (fun ls hl => ?_)
                      refine lv_goto (tgt := 55) hx hb dX6_better_97 (by decide) ?_
                      exact ih _ _ _ _ _ _ _ _ ls h (lv_sub hl [5, 6, 7, 3, 2, 1, 8, 0, 9] rfl)
              obtain ⟨n55, h⟩ := h
              refine lp55 _ ?_ n55 _ _ _ _ _ _ _ _ ls h (lv_sub hl [1, 2, 3, 4, 5, 6, 7, 0, 8] rfl)
              · intro z1 z2 z3 z4 z5 z6 z7 z8 ls h hl
                try dsimp only at h
                refine lv_iinc (v := (z7 + 1)) (lv' := [(7, .int (z7 + 1)), (1, .int z1), (2, .int z2), (3, .int z3), (4, .int z4), (5, .int z5), (6, .int z6), (8, .int z8), (0, .ref (a0 0))]) hx hb dX6_better_100 hl (k := 6) rfl rfl (by decide) rfl (fun ls hl => ?_)
                refine lv_goto (tgt := 43) hx hb dX6_better_103 (by decide) ?_
                exact ih _ _ _ _ _ _ _ ls h (lv_sub hl [1, 2, 3, 4, 5, 6, 0, 8] rfl)
        obtain ⟨n43, h⟩ := h
        refine lp43 _ ?_ n43 _ _ _ _ _ _ _ ls h (lv_sub hl [6, 7, 4, 3, 2, 1, 0, 5] rfl)
        · intro z1 z2 z3 z4 z5 z6 z7 ls h hl
          try dsimp only at h
          refine lv_iload hx hb dX6_better_106 (lv_at hl 4 rfl) ?_
          refine lv_iconst (v := (-1)) hx hb dX6_better_108 (by decide) ?_
          refine lv_icmp_ne (tgt := 115) hx hb dX6_better_109 (by decide) (fun c_13 => ?_) (fun c_13 => ?_)
          · replace h := h.1 c_13
            refine lv_iload_n hx hb dX6_better_115 rfl (lv_at hl 1 rfl) ?_
            refine lv_if_ne (tgt := 133) hx hb dX6_better_116 (by decide) (fun c_14 => ?_) (fun c_14 => ?_)
            · replace h := h.1 c_14
              refine lv_iload_n hx hb dX6_better_133 rfl (lv_at hl 1 rfl) ?_
              refine lv_iconst (v := 1) hx hb dX6_better_134 (by decide) ?_
              refine lv_icmp_ne (tgt := 143) hx hb dX6_better_135 (by decide) (fun c_15 => ?_) (fun c_15 => ?_)
              · replace h := h.1 c_15
                refine lv_iload hx hb dX6_better_143 (lv_at hl 5 rfl) ?_
                exact rd_iret hx hb hr hk h dX6_better_145
              · replace h := h.2 c_15
                refine lv_iload hx hb dX6_better_138 (lv_at hl 4 rfl) ?_
                refine lv_goto (tgt := 145) hx hb dX6_better_140 (by decide) ?_
                exact rd_iret hx hb hr hk h dX6_better_145
            · replace h := h.2 c_14
              refine lv_aload_n hx hb dX6_better_119 rfl (lv_at hl 7 rfl) ?_
              refine fl_get (C := RX6) (T := TX6) (N := 7) (ci := 5) (v := .ref (a2 0)) hx hb ht in_X6 hown hK hP 0 rfl rfl 1 (by decide) mw_356 rfl dX6_better_120 ?_
              refine lv_iload_n hx hb dX6_better_123 rfl (lv_at hl 0 rfl) ?_
              refine vp_callSi (rd_wV (wc := bd_w a2 q s2) (As := [.int z1]) (rest := []) hx hb hml hown ht (c2_X0_journey h) wd_X0_journey mw_1036 hQ hV va_S.rf (hP.sub [1, 2, 3, 4, 5, 6, 7, 8, 9, 10, 11, 12, 13] rfl) rfl rfl rfl hl.1 rfl (Nat.le_of_ble_eq_true rfl) dX6_better_124 ⟨Nat.le_of_ble_eq_true rfl, Nat.le_of_ble_eq_true rfl, rfl, rfl⟩ ⟨Nat.le_of_ble_eq_true rfl, Nat.le_of_ble_eq_true rfl⟩) (fun r_16 h => ?_)
              try dsimp only at h
              refine lv_iload hx hb dX6_better_127 (lv_at hl 3 rfl) ?_
              refine lv_iadd hx hb dX6_better_129 ?_
              refine lv_goto (tgt := 145) hx hb dX6_better_130 (by decide) ?_
              exact rd_iret hx hb hr hk h dX6_better_145
          · replace h := h.2 c_13
            refine lv_bipush (v := (-2)) hx hb dX6_better_112 (by decide) ?_
            exact rd_iret hx hb hr hk h dX6_better_114
      · replace h := h.2 c_5
        refine lv_iconst (v := (-1)) hx hb dX6_better_20 (by decide) ?_
        exact rd_iret hx hb hr hk h dX6_better_21

def wp_X6_farthest_L30 (s2 : Bd) (post : Int32 → Prop) (e101 : Int32 → Int32 → Int32 → Int32 → Int32 → Prop) : Nat → Int32 → Int32 → Int32 → Int32 → Int32 → Prop
  | 0, _, _, _, _, _ => False
  | n30 + 1, z1, z2, z3, z4, z5 => wp_X0_flapsOf (fun r_6 => ((r_6 ≤ z5 → e101 z1 z2 z3 z4 z5) ∧ (¬ r_6 ≤ z5 → wp_X0_flapsOnTo (fun r_9 => wp_X0_signOn (fun r_11 => ((r_9 ≤ z3 → wp_X6_farthest_L30 s2 post e101 n30 z1 z2 z3 z4 (z5 + 1)) ∧ (¬ r_9 ≤ z3 → wp_X0_nearest (fun r_14 => ((¬ r_14 = z5 → wp_X6_farthest_L30 s2 post e101 n30 z1 z2 z3 z4 (z5 + 1)) ∧ (r_14 = z5 → wp_X6_farthest_L30 s2 post e101 n30 z1 z2 r_9 r_11 (z5 + 1)))) s2 z1 r_11))) s2 z1 z5) s2 z1 z5))) s2 z1
def wp_X6_farthest (post : Int32 → Prop) (s2 : Bd) (x1 : Int32) (x2 : Int32) : Prop := wp_X0_hasCell (fun r_1 => ((r_1 = 0 → post (-1)) ∧ (¬ r_1 = 0 → ((x2 < 0 → post (-1)) ∧ (¬ x2 < 0 → ((x2 ≤ 1 → (∃ n30, wp_X6_farthest_L30 s2 post (fun z1 z2 z3 z4 z5 => ((¬ z2 = 0 → post z4) ∧ (z2 = 0 → post z3))) n30 x1 x2 (-1) (-1) 0)) ∧ (¬ x2 ≤ 1 → post (-1)))))))) s2 x1
set_option maxHeartbeats 4000000 in
set_option maxRecDepth 100000 in
theorem c2_X6_farthest {l : Launch} {D : va_G} {q : Nat → ClassId} {a0 a1 a2 a3 a4 a5 : Nat → Nat} {p8 s8 : Nat} {s2 : Bd} {x1 : Int32} {x2 : Int32} {post : Int32 → Prop} (h : wp_X6_farthest post s2 x1 x2) : Met l yX6_farthest (Cond.code yX6_farthest cX6_farthest 8 (some .int) :: w_all) ({ frames := 2, cells := 0, slots := 0, locals := 44 } : Room) (rd_P D q [.ref (a0 0), .int x1, .int x2] (fo_w (a0 0) (a1 0) (a2 0) (a3 0) (a4 0) (a5 0) p8 s8 ++ bd_w a2 q s2)) (vp_Si post) 0 0 (fun _ => False) := by
  refine rd_start (by decide) (Nat.le_of_ble_eq_true rfl) ?_
  intro p e s m below meth c ls hx hb hr hml hown ht hk hP hQ hV hl
  have hK := hQ.1
  have hown : s.vm.findClass RX6 = some m.cls := hown
  have hl : lv_has ls 8 [(0, .ref (a0 0)), (1, .int x1), (2, .int x2)] := hl
  have hP : va_P D vwCl [((a0 0), .inr (5, [.ref (a1 0), .ref (a2 0), .ref (a3 0), .ref (a4 0), .ref (a5 0), .ref p8, .ref s8])), ((a2 0), .inr (0, [.int (s2.1 0), .int (s2.1 1), .int (s2.1 2), .int (s2.1 3), .int (s2.1 4), .int (s2.1 5), .ref (a2 1), .ref (a2 2), .ref (a2 3), .ref (a2 4), .ref (a2 5), .ref (a2 6), .ref (a2 7), .ref (a2 8), .ref (a2 9), .ref (a2 10), .ref (a2 11), .ref (a2 12)])), ((a2 1), .inl (q 0, 4, .inl (s2.2.1 0))), ((a2 2), .inl (q 0, 4, .inl (s2.2.1 1))), ((a2 3), .inl (q 0, 160, .inl (s2.2.1 2))), ((a2 4), .inl (q 0, 40, .inl (s2.2.1 3))), ((a2 5), .inl (q 0, 40, .inl (s2.2.1 4))), ((a2 6), .inl (q 0, 40, .inl (s2.2.1 5))), ((a2 7), .inl (q 0, 40, .inl (s2.2.1 6))), ((a2 8), .inl (q 0, 40, .inl (s2.2.1 7))), ((a2 9), .inl (q 0, 40, .inl (s2.2.1 8))), ((a2 10), .inl (q 0, 40, .inl (s2.2.1 9))), ((a2 11), .inl (q 1, 40, .inr (.inl s2.2.2.1))), ((a2 12), .inl (q 0, s2.2.2.2.1, .inl s2.2.2.2.2))] s.heap := hP
  unfold wp_X6_farthest at h
  refine lv_aload_n hx hb dX6_farthest_0 rfl (lv_at hl 0 rfl) ?_
  refine fl_get (C := RX6) (T := TX6) (N := 7) (ci := 5) (v := .ref (a2 0)) hx hb ht in_X6 hown hK hP 0 rfl rfl 1 (by decide) mw_356 rfl dX6_farthest_1 ?_
  refine lv_iload_n hx hb dX6_farthest_4 rfl (lv_at hl 1 rfl) ?_
  refine vp_callSi (rd_wV (wc := bd_w a2 q s2) (As := [.int x1]) (rest := []) hx hb hml hown ht (c2_X0_hasCell h) wd_X0_hasCell mw_730 hQ hV va_S.rf (hP.sub [1, 2, 3, 4, 5, 6, 7, 8, 9, 10, 11, 12, 13] rfl) rfl rfl rfl hl.1 rfl (Nat.le_of_ble_eq_true rfl) dX6_farthest_5 ⟨Nat.le_of_ble_eq_true rfl, Nat.le_of_ble_eq_true rfl, rfl, rfl⟩ ⟨Nat.le_of_ble_eq_true rfl, Nat.le_of_ble_eq_true rfl⟩) (fun r_1 h => ?_)
  try dsimp only at h
  refine lv_if_eq (tgt := 20) hx hb dX6_farthest_8 (by decide) (fun c_3 => ?_) (fun c_3 => ?_)
  · replace h := h.1 c_3
    refine lv_iconst (v := (-1)) hx hb dX6_farthest_20 (by decide) ?_
    exact rd_iret hx hb hr hk h dX6_farthest_21
  · replace h := h.2 c_3
    refine lv_iload_n hx hb dX6_farthest_11 rfl (lv_at hl 2 rfl) ?_
    refine lv_if_lt (tgt := 20) hx hb dX6_farthest_12 (by decide) (fun c_4 => ?_) (fun c_4 => ?_)
    · replace h := h.1 c_4
      refine lv_iconst (v := (-1)) hx hb dX6_farthest_20 (by decide) ?_
      exact rd_iret hx hb hr hk h dX6_farthest_21
    · replace h := h.2 c_4
      refine lv_iload_n hx hb dX6_farthest_15 rfl (lv_at hl 2 rfl) ?_
      refine lv_iconst (v := 1) hx hb dX6_farthest_16 (by decide) ?_
      refine lv_icmp_le (tgt := 22) hx hb dX6_farthest_17 (by decide) (fun c_5 => ?_) (fun c_5 => ?_)
      · replace h := h.1 c_5
        refine lv_iconst (v := (-1)) hx hb dX6_farthest_22 (by decide) ?_
        refine lv_istore_n (lv' := [(3, .int (-1)), (0, .ref (a0 0)), (1, .int x1), (2, .int x2)]) hx hb dX6_farthest_23 rfl hl (by decide) rfl (fun ls hl => ?_)
        refine lv_iconst (v := (-1)) hx hb dX6_farthest_24 (by decide) ?_
        refine lv_istore (lv' := [(4, .int (-1)), (3, .int (-1)), (0, .ref (a0 0)), (1, .int x1), (2, .int x2)]) hx hb dX6_farthest_25 hl (by decide) rfl (fun ls hl => ?_)
        refine lv_iconst (v := 0) hx hb dX6_farthest_27 (by decide) ?_
        refine lv_istore (lv' := [(5, .int 0), (4, .int (-1)), (3, .int (-1)), (0, .ref (a0 0)), (1, .int x1), (2, .int x2)]) hx hb dX6_farthest_28 hl (by decide) rfl (fun ls hl => ?_)
        have lp30 : ∀ (e101 : Int32 → Int32 → Int32 → Int32 → Int32 → Prop) (k101 : ∀ (z1 : Int32) (z2 : Int32) (z3 : Int32) (z4 : Int32) (z5 : Int32) (ls : Array Slot), e101 z1 z2 z3 z4 z5 → lv_has ls 8 [(1, .int z1), (2, .int z2), (3, .int z3), (4, .int z4), (5, .int z5), (0, .ref (a0 0))] → W p l e ({ frames := 2, cells := 0, slots := 0, locals := 44 } : Room) s m [.ref (a0 0), .int x1, .int x2].toArray below meth c s.heap [] 0 0 (MQ below (vp_Si post) [.ref (a0 0), .int x1, .int x2].toArray s 0 0 (fun _ => False)) (F0 m 101 ls [])) (n : Nat) (z1 : Int32) (z2 : Int32) (z3 : Int32) (z4 : Int32) (z5 : Int32) (ls : Array Slot), wp_X6_farthest_L30 s2 post e101 n z1 z2 z3 z4 z5 → lv_has ls 8 [(1, .int z1), (2, .int z2), (3, .int z3), (4, .int z4), (5, .int z5), (0, .ref (a0 0))] → W p l e ({ frames := 2, cells := 0, slots := 0, locals := 44 } : Room) s m [.ref (a0 0), .int x1, .int x2].toArray below meth c s.heap [] 0 0 (MQ below (vp_Si post) [.ref (a0 0), .int x1, .int x2].toArray s 0 0 (fun _ => False)) (F0 m 30 ls []) := by
          intro e101 k101 n
          induction n with
          | zero =>
            intro z1 z2 z3 z4 z5 ls h
            exact h.elim
          | succ n ih =>
            intro z1 z2 z3 z4 z5 ls h hl
            unfold wp_X6_farthest_L30 at h
            refine lv_iload hx hb dX6_farthest_30 (lv_at hl 4 rfl) ?_
            refine lv_aload_n hx hb dX6_farthest_32 rfl (lv_at hl 5 rfl) ?_
            refine fl_get (C := RX6) (T := TX6) (N := 7) (ci := 5) (v := .ref (a2 0)) hx hb ht in_X6 hown hK hP 0 rfl rfl 1 (by decide) mw_356 rfl dX6_farthest_33 ?_
            refine lv_iload_n hx hb dX6_farthest_36 rfl (lv_at hl 0 rfl) ?_
            refine vp_callSi (rd_wV (wc := bd_w a2 q s2) (As := [.int z1]) (rest := [.int z5]) hx hb hml hown ht (c2_X0_flapsOf h) wd_X0_flapsOf mw_1077 hQ hV va_S.rf (hP.sub [1, 2, 3, 4, 5, 6, 7, 8, 9, 10, 11, 12, 13] rfl) rfl rfl rfl hl.1 rfl (Nat.le_of_ble_eq_true rfl) dX6_farthest_37 ⟨Nat.le_of_ble_eq_true rfl, Nat.le_of_ble_eq_true rfl, rfl, rfl⟩ ⟨Nat.le_of_ble_eq_true rfl, Nat.le_of_ble_eq_true rfl⟩) (fun r_6 h => ?_)
            try dsimp only at h
            refine lv_icmp_ge (tgt := 101) hx hb dX6_farthest_40 (by decide) (fun c_8 => ?_) (fun c_8 => ?_)
            · replace h := h.1 c_8
              exact k101 _ _ _ _ _ ls h (lv_sub hl [0, 1, 2, 3, 4, 5] rfl)
            · replace h := h.2 c_8
              refine lv_aload_n hx hb dX6_farthest_43 rfl (lv_at hl 5 rfl) ?_
              refine fl_get (C := RX6) (T := TX6) (N := 7) (ci := 5) (v := .ref (a2 0)) hx hb ht in_X6 hown hK hP 0 rfl rfl 1 (by decide) mw_356 rfl dX6_farthest_44 ?_
              refine lv_iload_n hx hb dX6_farthest_47 rfl (lv_at hl 0 rfl) ?_
              refine lv_iload hx hb dX6_farthest_48 (lv_at hl 4 rfl) ?_
              refine vp_callSi (rd_wV (wc := bd_w a2 q s2) (As := [.int z1, .int z5]) (rest := []) hx hb hml hown ht (c2_X0_flapsOnTo h) wd_X0_flapsOnTo mw_1078 hQ hV va_S.rf (hP.sub [1, 2, 3, 4, 5, 6, 7, 8, 9, 10, 11, 12, 13] rfl) rfl rfl rfl hl.1 rfl (Nat.le_of_ble_eq_true rfl) dX6_farthest_50 ⟨Nat.le_of_ble_eq_true rfl, Nat.le_of_ble_eq_true rfl, rfl, rfl⟩ ⟨Nat.le_of_ble_eq_true rfl, Nat.le_of_ble_eq_true rfl⟩) (fun r_9 h => ?_)
              try dsimp only at h
              refine lv_istore (lv' := [(6, .int r_9), (1, .int z1), (2, .int z2), (3, .int z3), (4, .int z4), (5, .int z5), (0, .ref (a0 0))]) hx hb dX6_farthest_53 hl (by decide) rfl (fun ls hl => ?_)
              refine lv_aload_n hx hb dX6_farthest_55 rfl (lv_at hl 6 rfl) ?_
              refine fl_get (C := RX6) (T := TX6) (N := 7) (ci := 5) (v := .ref (a2 0)) hx hb ht in_X6 hown hK hP 0 rfl rfl 1 (by decide) mw_356 rfl dX6_farthest_56 ?_
              refine lv_iload_n hx hb dX6_farthest_59 rfl (lv_at hl 1 rfl) ?_
              refine lv_iload hx hb dX6_farthest_60 (lv_at hl 5 rfl) ?_
              refine vp_callSi (rd_wV (wc := bd_w a2 q s2) (As := [.int z1, .int z5]) (rest := []) hx hb hml hown ht (c2_X0_signOn h) wd_X0_signOn mw_939 hQ hV va_S.rf (hP.sub [1, 2, 3, 4, 5, 6, 7, 8, 9, 10, 11, 12, 13] rfl) rfl rfl rfl hl.1 rfl (Nat.le_of_ble_eq_true rfl) dX6_farthest_62 ⟨Nat.le_of_ble_eq_true rfl, Nat.le_of_ble_eq_true rfl, rfl, rfl⟩ ⟨Nat.le_of_ble_eq_true rfl, Nat.le_of_ble_eq_true rfl⟩) (fun r_11 h => ?_)
              try dsimp only at h
              refine lv_istore (lv' := [(7, .int r_11), (6, .int r_9), (1, .int z1), (2, .int z2), (3, .int z3), (4, .int z4), (5, .int z5), (0, .ref (a0 0))]) hx hb dX6_farthest_65 hl (by decide) rfl (fun ls hl => ?_)
              refine lv_iload hx hb dX6_farthest_67 (lv_at hl 1 rfl) ?_
              refine lv_iload_n hx hb dX6_farthest_69 rfl (lv_at hl 4 rfl) ?_
              refine lv_icmp_le (tgt := 95) hx hb dX6_farthest_70 (by decide) (fun c_13 => ?_) (fun c_13 => ?_)
              · replace h := h.1 c_13
                refine lv_iinc (v := (z5 + 1)) (lv' := [(5, .int (z5 + 1)), (7, .int r_11), (6, .int r_9), (1, .int z1), (2, .int z2), (3, .int z3), (4, .int z4), (0, .ref (a0 0))]) hx hb dX6_farthest_95 hl (k := 6) rfl rfl (by decide) rfl (fun ls hl => ?_)
                refine lv_goto (tgt := 30) hx hb dX6_farthest_98 (by decide) ?_
                exact ih _ _ _ _ _ ls h (lv_sub hl [3, 4, 5, 6, 0, 7] rfl)
              · replace h := h.2 c_13
                refine lv_aload_n hx hb dX6_farthest_73 rfl (lv_at hl 7 rfl) ?_
                refine fl_get (C := RX6) (T := TX6) (N := 7) (ci := 5) (v := .ref (a2 0)) hx hb ht in_X6 hown hK hP 0 rfl rfl 1 (by decide) mw_356 rfl dX6_farthest_74 ?_
                refine lv_iload_n hx hb dX6_farthest_77 rfl (lv_at hl 2 rfl) ?_
                refine lv_iload hx hb dX6_farthest_78 (lv_at hl 0 rfl) ?_
                refine vp_callSi (rd_wV (wc := bd_w a2 q s2) (As := [.int z1, .int r_11]) (rest := []) hx hb hml hown ht (c2_X0_nearest h) wd_X0_nearest mw_1079 hQ hV va_S.rf (hP.sub [1, 2, 3, 4, 5, 6, 7, 8, 9, 10, 11, 12, 13] rfl) rfl rfl rfl hl.1 rfl (Nat.le_of_ble_eq_true rfl) dX6_farthest_80 ⟨Nat.le_of_ble_eq_true rfl, Nat.le_of_ble_eq_true rfl, rfl, rfl⟩ ⟨Nat.le_of_ble_eq_true rfl, Nat.le_of_ble_eq_true rfl⟩) (fun r_14 h => ?_)
                try dsimp only at h
                refine lv_iload hx hb dX6_farthest_83 (lv_at hl 6 rfl) ?_
                refine lv_icmp_ne (tgt := 95) hx hb dX6_farthest_85 (by decide) (fun c_16 => ?_) (fun c_16 => ?_)
                · replace h := h.1 c_16
                  refine lv_iinc (v := (z5 + 1)) (lv' := [(5, .int (z5 + 1)), (7, .int r_11), (6, .int r_9), (1, .int z1), (2, .int z2), (3, .int z3), (4, .int z4), (0, .ref (a0 0))]) hx hb dX6_farthest_95 hl (k := 6) rfl rfl (by decide) rfl (fun ls hl => ?_)
                  refine lv_goto (tgt := 30) hx hb dX6_farthest_98 (by decide) ?_
                  exact ih _ _ _ _ _ ls h (lv_sub hl [3, 4, 5, 6, 0, 7] rfl)
                · replace h := h.2 c_16
                  refine lv_iload hx hb dX6_farthest_88 (lv_at hl 1 rfl) ?_
                  refine lv_istore_n (lv' := [(3, .int r_9), (7, .int r_11), (6, .int r_9), (1, .int z1), (2, .int z2), (4, .int z4), (5, .int z5), (0, .ref (a0 0))]) hx hb dX6_farthest_90 rfl hl (by decide) rfl (fun ls hl => ?_)
                  refine lv_iload hx hb dX6_farthest_91 (lv_at hl 1 rfl) ?_
                  refine lv_istore (lv' := [(4, .int r_11), (3, .int r_9), (7, .int r_11), (6, .int r_9), (1, .int z1), (2, .int z2), (5, .int z5), (0, .ref (a0 0))]) hx hb dX6_farthest_93 hl (by decide) rfl (fun ls hl => ?_)
                  refine lv_iinc (v := (z5 + 1)) (lv' := [(5, .int (z5 + 1)), (4, .int r_11), (3, .int r_9), (7, .int r_11), (6, .int r_9), (1, .int z1), (2, .int z2), (0, .ref (a0 0))]) hx hb dX6_farthest_95 hl (k := 6) rfl rfl (by decide) rfl (fun ls hl => ?_)
                  refine lv_goto (tgt := 30) hx hb dX6_farthest_98 (by decide) ?_
                  exact ih _ _ _ _ _ ls h (lv_sub hl [5, 6, 2, 1, 0, 7] rfl)
        obtain ⟨n30, h⟩ := h
        refine lp30 _ ?_ n30 _ _ _ _ _ ls h (lv_sub hl [4, 5, 2, 1, 0, 3] rfl)
        · intro z1 z2 z3 z4 z5 ls h hl
          try dsimp only at h
          refine lv_iload_n hx hb dX6_farthest_101 rfl (lv_at hl 1 rfl) ?_
          refine lv_if_ne (tgt := 109) hx hb dX6_farthest_102 (by decide) (fun c_17 => ?_) (fun c_17 => ?_)
          · replace h := h.1 c_17
            refine lv_iload hx hb dX6_farthest_109 (lv_at hl 3 rfl) ?_
            exact rd_iret hx hb hr hk h dX6_farthest_111
          · replace h := h.2 c_17
            refine lv_iload_n hx hb dX6_farthest_105 rfl (lv_at hl 2 rfl) ?_
            refine lv_goto (tgt := 111) hx hb dX6_farthest_106 (by decide) ?_
            exact rd_iret hx hb hr hk h dX6_farthest_111
      · replace h := h.2 c_5
        refine lv_iconst (v := (-1)) hx hb dX6_farthest_20 (by decide) ?_
        exact rd_iret hx hb hr hk h dX6_farthest_21

def wp_X6_lacks (post : Int32 → Prop) (s2 : Bd) (x1 : Int32) (x2 : Int32) : Prop := wp_X0_hasCell (fun r_1 => ((r_1 = 0 → post (-1)) ∧ (¬ r_1 = 0 → ((x2 < 0 → post (-1)) ∧ (¬ x2 < 0 → ((x2 ≤ 1 → ((¬ x2 = 0 → vp_in x1 40 ∧ wp_X0_signsOfOthers (fun r_8 => post r_8) s2 ((s2.2.1 3) (Int32.toNatClampNeg x1))) ∧ (x2 = 0 → wp_X0_missedOfOwn (fun r_10 => post r_10) s2 x1))) ∧ (¬ x2 ≤ 1 → post (-1)))))))) s2 x1
set_option maxHeartbeats 4000000 in
set_option maxRecDepth 100000 in
theorem c2_X6_lacks {l : Launch} {D : va_G} {q : Nat → ClassId} {a0 a1 a2 a3 a4 a5 : Nat → Nat} {p8 s8 : Nat} {s2 : Bd} {x1 : Int32} {x2 : Int32} {post : Int32 → Prop} (h : wp_X6_lacks post s2 x1 x2) : Met l yX6_lacks (Cond.code yX6_lacks cX6_lacks 3 (some .int) :: w_all) ({ frames := 5, cells := 0, slots := 0, locals := 115 } : Room) (rd_P D q [.ref (a0 0), .int x1, .int x2] (fo_w (a0 0) (a1 0) (a2 0) (a3 0) (a4 0) (a5 0) p8 s8 ++ bd_w a2 q s2)) (vp_Si post) 0 0 (fun _ => False) := by
  refine rd_start (by decide) (Nat.le_of_ble_eq_true rfl) ?_
  intro p e s m below meth c ls hx hb hr hml hown ht hk hP hQ hV hl
  have hK := hQ.1
  have hown : s.vm.findClass RX6 = some m.cls := hown
  have hl : lv_has ls 3 [(0, .ref (a0 0)), (1, .int x1), (2, .int x2)] := hl
  have hP : va_P D vwCl [((a0 0), .inr (5, [.ref (a1 0), .ref (a2 0), .ref (a3 0), .ref (a4 0), .ref (a5 0), .ref p8, .ref s8])), ((a2 0), .inr (0, [.int (s2.1 0), .int (s2.1 1), .int (s2.1 2), .int (s2.1 3), .int (s2.1 4), .int (s2.1 5), .ref (a2 1), .ref (a2 2), .ref (a2 3), .ref (a2 4), .ref (a2 5), .ref (a2 6), .ref (a2 7), .ref (a2 8), .ref (a2 9), .ref (a2 10), .ref (a2 11), .ref (a2 12)])), ((a2 1), .inl (q 0, 4, .inl (s2.2.1 0))), ((a2 2), .inl (q 0, 4, .inl (s2.2.1 1))), ((a2 3), .inl (q 0, 160, .inl (s2.2.1 2))), ((a2 4), .inl (q 0, 40, .inl (s2.2.1 3))), ((a2 5), .inl (q 0, 40, .inl (s2.2.1 4))), ((a2 6), .inl (q 0, 40, .inl (s2.2.1 5))), ((a2 7), .inl (q 0, 40, .inl (s2.2.1 6))), ((a2 8), .inl (q 0, 40, .inl (s2.2.1 7))), ((a2 9), .inl (q 0, 40, .inl (s2.2.1 8))), ((a2 10), .inl (q 0, 40, .inl (s2.2.1 9))), ((a2 11), .inl (q 1, 40, .inr (.inl s2.2.2.1))), ((a2 12), .inl (q 0, s2.2.2.2.1, .inl s2.2.2.2.2))] s.heap := hP
  unfold wp_X6_lacks at h
  refine lv_aload_n hx hb dX6_lacks_0 rfl (lv_at hl 0 rfl) ?_
  refine fl_get (C := RX6) (T := TX6) (N := 7) (ci := 5) (v := .ref (a2 0)) hx hb ht in_X6 hown hK hP 0 rfl rfl 1 (by decide) mw_356 rfl dX6_lacks_1 ?_
  refine lv_iload_n hx hb dX6_lacks_4 rfl (lv_at hl 1 rfl) ?_
  refine vp_callSi (rd_wV (wc := bd_w a2 q s2) (As := [.int x1]) (rest := []) hx hb hml hown ht (c2_X0_hasCell h) wd_X0_hasCell mw_730 hQ hV va_S.rf (hP.sub [1, 2, 3, 4, 5, 6, 7, 8, 9, 10, 11, 12, 13] rfl) rfl rfl rfl hl.1 rfl (Nat.le_of_ble_eq_true rfl) dX6_lacks_5 ⟨Nat.le_of_ble_eq_true rfl, Nat.le_of_ble_eq_true rfl, rfl, rfl⟩ ⟨Nat.le_of_ble_eq_true rfl, Nat.le_of_ble_eq_true rfl⟩) (fun r_1 h => ?_)
  try dsimp only at h
  refine lv_if_eq (tgt := 20) hx hb dX6_lacks_8 (by decide) (fun c_3 => ?_) (fun c_3 => ?_)
  · replace h := h.1 c_3
    refine lv_iconst (v := (-1)) hx hb dX6_lacks_20 (by decide) ?_
    exact rd_iret hx hb hr hk h dX6_lacks_21
  · replace h := h.2 c_3
    refine lv_iload_n hx hb dX6_lacks_11 rfl (lv_at hl 2 rfl) ?_
    refine lv_if_lt (tgt := 20) hx hb dX6_lacks_12 (by decide) (fun c_4 => ?_) (fun c_4 => ?_)
    · replace h := h.1 c_4
      refine lv_iconst (v := (-1)) hx hb dX6_lacks_20 (by decide) ?_
      exact rd_iret hx hb hr hk h dX6_lacks_21
    · replace h := h.2 c_4
      refine lv_iload_n hx hb dX6_lacks_15 rfl (lv_at hl 2 rfl) ?_
      refine lv_iconst (v := 1) hx hb dX6_lacks_16 (by decide) ?_
      refine lv_icmp_le (tgt := 22) hx hb dX6_lacks_17 (by decide) (fun c_5 => ?_) (fun c_5 => ?_)
      · replace h := h.1 c_5
        refine lv_iload_n hx hb dX6_lacks_22 rfl (lv_at hl 2 rfl) ?_
        refine lv_if_ne (tgt := 37) hx hb dX6_lacks_23 (by decide) (fun c_6 => ?_) (fun c_6 => ?_)
        · replace h := h.1 c_6
          refine lv_aload_n hx hb dX6_lacks_37 rfl (lv_at hl 0 rfl) ?_
          refine fl_get (C := RX6) (T := TX6) (N := 7) (ci := 5) (v := .ref (a2 0)) hx hb ht in_X6 hown hK hP 0 rfl rfl 1 (by decide) mw_356 rfl dX6_lacks_38 ?_
          refine lv_aload_n hx hb dX6_lacks_41 rfl (lv_at hl 0 rfl) ?_
          refine fl_get (C := RX6) (T := TX6) (N := 7) (ci := 5) (v := .ref (a2 0)) hx hb ht in_X6 hown hK hP 0 rfl rfl 1 (by decide) mw_356 rfl dX6_lacks_42 ?_
          refine fl_get (C := RX0) (T := TX0) (N := 18) (ci := 0) (v := .ref (a2 4)) hx hb ht in_X0 hown hK hP 1 rfl rfl 9 (by decide) mw_193 rfl dX6_lacks_45 ?_
          refine lv_iload_n hx hb dX6_lacks_48 rfl (lv_at hl 1 rfl) ?_
          obtain ⟨g_7, h⟩ := h
          refine va_iald hx hb hK hP 5 0 rfl rfl g_7 dX6_lacks_49 ?_
          refine vp_callSi (rd_wV (wc := bd_w a2 q s2) (As := [.int ((s2.2.1 3) (Int32.toNatClampNeg x1))]) (rest := []) hx hb hml hown ht (c2_X0_signsOfOthers h) wd_X0_signsOfOthers mw_1088 hQ hV va_S.rf (hP.sub [1, 2, 3, 4, 5, 6, 7, 8, 9, 10, 11, 12, 13] rfl) rfl rfl rfl hl.1 rfl (Nat.le_of_ble_eq_true rfl) dX6_lacks_50 ⟨Nat.le_of_ble_eq_true rfl, Nat.le_of_ble_eq_true rfl, rfl, rfl⟩ ⟨Nat.le_of_ble_eq_true rfl, Nat.le_of_ble_eq_true rfl⟩) (fun r_8 h => ?_)
          try dsimp only at h
          exact rd_iret hx hb hr hk h dX6_lacks_53
        · replace h := h.2 c_6
          refine lv_aload_n hx hb dX6_lacks_26 rfl (lv_at hl 0 rfl) ?_
          refine fl_get (C := RX6) (T := TX6) (N := 7) (ci := 5) (v := .ref (a2 0)) hx hb ht in_X6 hown hK hP 0 rfl rfl 1 (by decide) mw_356 rfl dX6_lacks_27 ?_
          refine lv_iload_n hx hb dX6_lacks_30 rfl (lv_at hl 1 rfl) ?_
          refine vp_callSi (rd_wV (wc := bd_w a2 q s2) (As := [.int x1]) (rest := []) hx hb hml hown ht (c2_X0_missedOfOwn h) wd_X0_missedOfOwn mw_1084 hQ hV va_S.rf (hP.sub [1, 2, 3, 4, 5, 6, 7, 8, 9, 10, 11, 12, 13] rfl) rfl rfl rfl hl.1 rfl (Nat.le_of_ble_eq_true rfl) dX6_lacks_31 ⟨Nat.le_of_ble_eq_true rfl, Nat.le_of_ble_eq_true rfl, rfl, rfl⟩ ⟨Nat.le_of_ble_eq_true rfl, Nat.le_of_ble_eq_true rfl⟩) (fun r_10 h => ?_)
          try dsimp only at h
          refine lv_goto (tgt := 53) hx hb dX6_lacks_34 (by decide) ?_
          exact rd_iret hx hb hr hk h dX6_lacks_53
      · replace h := h.2 c_5
        refine lv_iconst (v := (-1)) hx hb dX6_lacks_20 (by decide) ?_
        exact rd_iret hx hb hr hk h dX6_lacks_21

def wp_X6_unlike_L34 (s2 : Bd) (post : Int32 → Prop) (e104 : Int32 → Int32 → Int32 → Int32 → Prop) : Nat → Int32 → Int32 → Int32 → Int32 → Prop
  | 0, _, _, _, _ => False
  | n34 + 1, z1, z2, z3, z4 => (((s2.1 1) ≤ z4 → e104 z1 z2 z3 z4) ∧ (¬ (s2.1 1) ≤ z4 → wp_X0_wantedSign (fun r_9 => wp_X0_wantedSign (fun r_11 => ((r_9 = r_11 → wp_X6_unlike_L34 s2 post e104 n34 z1 z2 z3 (z4 + 1)) ∧ (¬ r_9 = r_11 → wp_X6_unlike_L34 s2 post e104 n34 z1 z2 (z3 + 1) (z4 + 1)))) s2 ((z2 * (s2.1 1)) + z4)) s2 ((z1 * (s2.1 1)) + z4)))
def wp_X6_unlike (post : Int32 → Prop) (s2 : Bd) (x1 : Int32) (x2 : Int32) : Prop := wp_X0_hasRow (fun r_1 => ((r_1 = 0 → post (-1)) ∧ (¬ r_1 = 0 → wp_X0_hasRow (fun r_4 => ((r_4 = 0 → post (-1)) ∧ (¬ r_4 = 0 → ((¬ x1 = x2 → (∃ n34, wp_X6_unlike_L34 s2 post (fun z1 z2 z3 z4 => post z3) n34 x1 x2 0 0)) ∧ (x1 = x2 → post (-1)))))) s2 x2))) s2 x1
set_option maxHeartbeats 4000000 in
set_option maxRecDepth 100000 in
theorem c2_X6_unlike {l : Launch} {D : va_G} {q : Nat → ClassId} {a0 a1 a2 a3 a4 a5 : Nat → Nat} {p8 s8 : Nat} {s2 : Bd} {x1 : Int32} {x2 : Int32} {post : Int32 → Prop} (h : wp_X6_unlike post s2 x1 x2) : Met l yX6_unlike (Cond.code yX6_unlike cX6_unlike 7 (some .int) :: w_all) ({ frames := 3, cells := 0, slots := 0, locals := 65 } : Room) (rd_P D q [.ref (a0 0), .int x1, .int x2] (fo_w (a0 0) (a1 0) (a2 0) (a3 0) (a4 0) (a5 0) p8 s8 ++ bd_w a2 q s2)) (vp_Si post) 0 0 (fun _ => False) := by
  refine rd_start (by decide) (Nat.le_of_ble_eq_true rfl) ?_
  intro p e s m below meth c ls hx hb hr hml hown ht hk hP hQ hV hl
  have hK := hQ.1
  have hown : s.vm.findClass RX6 = some m.cls := hown
  have hl : lv_has ls 7 [(0, .ref (a0 0)), (1, .int x1), (2, .int x2)] := hl
  have hP : va_P D vwCl [((a0 0), .inr (5, [.ref (a1 0), .ref (a2 0), .ref (a3 0), .ref (a4 0), .ref (a5 0), .ref p8, .ref s8])), ((a2 0), .inr (0, [.int (s2.1 0), .int (s2.1 1), .int (s2.1 2), .int (s2.1 3), .int (s2.1 4), .int (s2.1 5), .ref (a2 1), .ref (a2 2), .ref (a2 3), .ref (a2 4), .ref (a2 5), .ref (a2 6), .ref (a2 7), .ref (a2 8), .ref (a2 9), .ref (a2 10), .ref (a2 11), .ref (a2 12)])), ((a2 1), .inl (q 0, 4, .inl (s2.2.1 0))), ((a2 2), .inl (q 0, 4, .inl (s2.2.1 1))), ((a2 3), .inl (q 0, 160, .inl (s2.2.1 2))), ((a2 4), .inl (q 0, 40, .inl (s2.2.1 3))), ((a2 5), .inl (q 0, 40, .inl (s2.2.1 4))), ((a2 6), .inl (q 0, 40, .inl (s2.2.1 5))), ((a2 7), .inl (q 0, 40, .inl (s2.2.1 6))), ((a2 8), .inl (q 0, 40, .inl (s2.2.1 7))), ((a2 9), .inl (q 0, 40, .inl (s2.2.1 8))), ((a2 10), .inl (q 0, 40, .inl (s2.2.1 9))), ((a2 11), .inl (q 1, 40, .inr (.inl s2.2.2.1))), ((a2 12), .inl (q 0, s2.2.2.2.1, .inl s2.2.2.2.2))] s.heap := hP
  unfold wp_X6_unlike at h
  refine lv_aload_n hx hb dX6_unlike_0 rfl (lv_at hl 0 rfl) ?_
  refine fl_get (C := RX6) (T := TX6) (N := 7) (ci := 5) (v := .ref (a2 0)) hx hb ht in_X6 hown hK hP 0 rfl rfl 1 (by decide) mw_356 rfl dX6_unlike_1 ?_
  refine lv_iload_n hx hb dX6_unlike_4 rfl (lv_at hl 1 rfl) ?_
  refine vp_callSi (rd_wV (wc := bd_w a2 q s2) (As := [.int x1]) (rest := []) hx hb hml hown ht (c2_X0_hasRow h) wd_X0_hasRow mw_621 hQ hV va_S.rf (hP.sub [1, 2, 3, 4, 5, 6, 7, 8, 9, 10, 11, 12, 13] rfl) rfl rfl rfl hl.1 rfl (Nat.le_of_ble_eq_true rfl) dX6_unlike_5 ⟨Nat.le_of_ble_eq_true rfl, Nat.le_of_ble_eq_true rfl, rfl, rfl⟩ ⟨Nat.le_of_ble_eq_true rfl, Nat.le_of_ble_eq_true rfl⟩) (fun r_1 h => ?_)
  try dsimp only at h
  refine lv_if_eq (tgt := 27) hx hb dX6_unlike_8 (by decide) (fun c_3 => ?_) (fun c_3 => ?_)
  · replace h := h.1 c_3
    refine lv_iconst (v := (-1)) hx hb dX6_unlike_27 (by decide) ?_
    exact rd_iret hx hb hr hk h dX6_unlike_28
  · replace h := h.2 c_3
    refine lv_aload_n hx hb dX6_unlike_11 rfl (lv_at hl 0 rfl) ?_
    refine fl_get (C := RX6) (T := TX6) (N := 7) (ci := 5) (v := .ref (a2 0)) hx hb ht in_X6 hown hK hP 0 rfl rfl 1 (by decide) mw_356 rfl dX6_unlike_12 ?_
    refine lv_iload_n hx hb dX6_unlike_15 rfl (lv_at hl 2 rfl) ?_
    refine vp_callSi (rd_wV (wc := bd_w a2 q s2) (As := [.int x2]) (rest := []) hx hb hml hown ht (c2_X0_hasRow h) wd_X0_hasRow mw_621 hQ hV va_S.rf (hP.sub [1, 2, 3, 4, 5, 6, 7, 8, 9, 10, 11, 12, 13] rfl) rfl rfl rfl hl.1 rfl (Nat.le_of_ble_eq_true rfl) dX6_unlike_16 ⟨Nat.le_of_ble_eq_true rfl, Nat.le_of_ble_eq_true rfl, rfl, rfl⟩ ⟨Nat.le_of_ble_eq_true rfl, Nat.le_of_ble_eq_true rfl⟩) (fun r_4 h => ?_)
    try dsimp only at h
    refine lv_if_eq (tgt := 27) hx hb dX6_unlike_19 (by decide) (fun c_6 => ?_) (fun c_6 => ?_)
    · replace h := h.1 c_6
      refine lv_iconst (v := (-1)) hx hb dX6_unlike_27 (by decide) ?_
      exact rd_iret hx hb hr hk h dX6_unlike_28
    · replace h := h.2 c_6
      refine lv_iload_n hx hb dX6_unlike_22 rfl (lv_at hl 1 rfl) ?_
      refine lv_iload_n hx hb dX6_unlike_23 rfl (lv_at hl 2 rfl) ?_
      refine lv_icmp_ne (tgt := 29) hx hb dX6_unlike_24 (by decide) (fun c_7 => ?_) (fun c_7 => ?_)
      · replace h := h.1 c_7
        refine lv_iconst (v := 0) hx hb dX6_unlike_29 (by decide) ?_
        refine lv_istore_n (lv' := [(3, .int 0), (0, .ref (a0 0)), (1, .int x1), (2, .int x2)]) hx hb dX6_unlike_30 rfl hl (by decide) rfl (fun ls hl => ?_)
        refine lv_iconst (v := 0) hx hb dX6_unlike_31 (by decide) ?_
        refine lv_istore (lv' := [(4, .int 0), (3, .int 0), (0, .ref (a0 0)), (1, .int x1), (2, .int x2)]) hx hb dX6_unlike_32 hl (by decide) rfl (fun ls hl => ?_)
        have lp34 : ∀ (e104 : Int32 → Int32 → Int32 → Int32 → Prop) (k104 : ∀ (z1 : Int32) (z2 : Int32) (z3 : Int32) (z4 : Int32) (ls : Array Slot), e104 z1 z2 z3 z4 → lv_has ls 7 [(1, .int z1), (2, .int z2), (3, .int z3), (4, .int z4), (0, .ref (a0 0))] → W p l e ({ frames := 3, cells := 0, slots := 0, locals := 65 } : Room) s m [.ref (a0 0), .int x1, .int x2].toArray below meth c s.heap [] 0 0 (MQ below (vp_Si post) [.ref (a0 0), .int x1, .int x2].toArray s 0 0 (fun _ => False)) (F0 m 104 ls [])) (n : Nat) (z1 : Int32) (z2 : Int32) (z3 : Int32) (z4 : Int32) (ls : Array Slot), wp_X6_unlike_L34 s2 post e104 n z1 z2 z3 z4 → lv_has ls 7 [(1, .int z1), (2, .int z2), (3, .int z3), (4, .int z4), (0, .ref (a0 0))] → W p l e ({ frames := 3, cells := 0, slots := 0, locals := 65 } : Room) s m [.ref (a0 0), .int x1, .int x2].toArray below meth c s.heap [] 0 0 (MQ below (vp_Si post) [.ref (a0 0), .int x1, .int x2].toArray s 0 0 (fun _ => False)) (F0 m 34 ls []) := by
          intro e104 k104 n
          induction n with
          | zero =>
            intro z1 z2 z3 z4 ls h
            exact h.elim
          | succ n ih =>
            intro z1 z2 z3 z4 ls h hl
            unfold wp_X6_unlike_L34 at h
            refine lv_iload hx hb dX6_unlike_34 (lv_at hl 3 rfl) ?_
            refine lv_aload_n hx hb dX6_unlike_36 rfl (lv_at hl 4 rfl) ?_
            refine fl_get (C := RX6) (T := TX6) (N := 7) (ci := 5) (v := .ref (a2 0)) hx hb ht in_X6 hown hK hP 0 rfl rfl 1 (by decide) mw_356 rfl dX6_unlike_37 ?_
            refine fl_get (C := RX0) (T := TX0) (N := 18) (ci := 0) (v := .int (s2.1 1)) hx hb ht in_X0 hown hK hP 1 rfl rfl 1 (by decide) mw_174 rfl dX6_unlike_40 ?_
            refine lv_icmp_ge (tgt := 104) hx hb dX6_unlike_43 (by decide) (fun c_8 => ?_) (fun c_8 => ?_)
            · replace h := h.1 c_8
              exact k104 _ _ _ _ ls h (lv_sub hl [0, 1, 2, 3, 4] rfl)
            · replace h := h.2 c_8
              refine lv_aload_n hx hb dX6_unlike_46 rfl (lv_at hl 4 rfl) ?_
              refine fl_get (C := RX6) (T := TX6) (N := 7) (ci := 5) (v := .ref (a2 0)) hx hb ht in_X6 hown hK hP 0 rfl rfl 1 (by decide) mw_356 rfl dX6_unlike_47 ?_
              refine lv_iload_n hx hb dX6_unlike_50 rfl (lv_at hl 0 rfl) ?_
              refine lv_aload_n hx hb dX6_unlike_51 rfl (lv_at hl 4 rfl) ?_
              refine fl_get (C := RX6) (T := TX6) (N := 7) (ci := 5) (v := .ref (a2 0)) hx hb ht in_X6 hown hK hP 0 rfl rfl 1 (by decide) mw_356 rfl dX6_unlike_52 ?_
              refine fl_get (C := RX0) (T := TX0) (N := 18) (ci := 0) (v := .int (s2.1 1)) hx hb ht in_X0 hown hK hP 1 rfl rfl 1 (by decide) mw_174 rfl dX6_unlike_55 ?_
              refine lv_imul hx hb dX6_unlike_58 ?_
              refine lv_iload hx hb dX6_unlike_59 (lv_at hl 3 rfl) ?_
              refine lv_iadd hx hb dX6_unlike_61 ?_
              refine vp_callSi (rd_wV (wc := bd_w a2 q s2) (As := [.int ((z1 * (s2.1 1)) + z4)]) (rest := []) hx hb hml hown ht (c2_X0_wantedSign h) wd_X0_wantedSign mw_1104 hQ hV va_S.rf (hP.sub [1, 2, 3, 4, 5, 6, 7, 8, 9, 10, 11, 12, 13] rfl) rfl rfl rfl hl.1 rfl (Nat.le_of_ble_eq_true rfl) dX6_unlike_62 ⟨Nat.le_of_ble_eq_true rfl, Nat.le_of_ble_eq_true rfl, rfl, rfl⟩ ⟨Nat.le_of_ble_eq_true rfl, Nat.le_of_ble_eq_true rfl⟩) (fun r_9 h => ?_)
              try dsimp only at h
              refine lv_istore (lv' := [(5, .int r_9), (1, .int z1), (2, .int z2), (3, .int z3), (4, .int z4), (0, .ref (a0 0))]) hx hb dX6_unlike_65 hl (by decide) rfl (fun ls hl => ?_)
              refine lv_aload_n hx hb dX6_unlike_67 rfl (lv_at hl 5 rfl) ?_
              refine fl_get (C := RX6) (T := TX6) (N := 7) (ci := 5) (v := .ref (a2 0)) hx hb ht in_X6 hown hK hP 0 rfl rfl 1 (by decide) mw_356 rfl dX6_unlike_68 ?_
              refine lv_iload_n hx hb dX6_unlike_71 rfl (lv_at hl 2 rfl) ?_
              refine lv_aload_n hx hb dX6_unlike_72 rfl (lv_at hl 5 rfl) ?_
              refine fl_get (C := RX6) (T := TX6) (N := 7) (ci := 5) (v := .ref (a2 0)) hx hb ht in_X6 hown hK hP 0 rfl rfl 1 (by decide) mw_356 rfl dX6_unlike_73 ?_
              refine fl_get (C := RX0) (T := TX0) (N := 18) (ci := 0) (v := .int (s2.1 1)) hx hb ht in_X0 hown hK hP 1 rfl rfl 1 (by decide) mw_174 rfl dX6_unlike_76 ?_
              refine lv_imul hx hb dX6_unlike_79 ?_
              refine lv_iload hx hb dX6_unlike_80 (lv_at hl 4 rfl) ?_
              refine lv_iadd hx hb dX6_unlike_82 ?_
              refine vp_callSi (rd_wV (wc := bd_w a2 q s2) (As := [.int ((z2 * (s2.1 1)) + z4)]) (rest := []) hx hb hml hown ht (c2_X0_wantedSign h) wd_X0_wantedSign mw_1104 hQ hV va_S.rf (hP.sub [1, 2, 3, 4, 5, 6, 7, 8, 9, 10, 11, 12, 13] rfl) rfl rfl rfl hl.1 rfl (Nat.le_of_ble_eq_true rfl) dX6_unlike_83 ⟨Nat.le_of_ble_eq_true rfl, Nat.le_of_ble_eq_true rfl, rfl, rfl⟩ ⟨Nat.le_of_ble_eq_true rfl, Nat.le_of_ble_eq_true rfl⟩) (fun r_11 h => ?_)
              try dsimp only at h
              refine lv_istore (lv' := [(6, .int r_11), (5, .int r_9), (1, .int z1), (2, .int z2), (3, .int z3), (4, .int z4), (0, .ref (a0 0))]) hx hb dX6_unlike_86 hl (by decide) rfl (fun ls hl => ?_)
              refine lv_iload hx hb dX6_unlike_88 (lv_at hl 1 rfl) ?_
              refine lv_iload hx hb dX6_unlike_90 (lv_at hl 0 rfl) ?_
              refine lv_icmp_eq (tgt := 98) hx hb dX6_unlike_92 (by decide) (fun c_13 => ?_) (fun c_13 => ?_)
              · replace h := h.1 c_13
                refine lv_iinc (v := (z4 + 1)) (lv' := [(4, .int (z4 + 1)), (6, .int r_11), (5, .int r_9), (1, .int z1), (2, .int z2), (3, .int z3), (0, .ref (a0 0))]) hx hb dX6_unlike_98 hl (k := 5) rfl rfl (by decide) rfl (fun ls hl => ?_)
                refine lv_goto (tgt := 34) hx hb dX6_unlike_101 (by decide) ?_
                exact ih _ _ _ _ ls h (lv_sub hl [3, 4, 5, 0, 6] rfl)
              · replace h := h.2 c_13
                refine lv_iinc (v := (z3 + 1)) (lv' := [(3, .int (z3 + 1)), (6, .int r_11), (5, .int r_9), (1, .int z1), (2, .int z2), (4, .int z4), (0, .ref (a0 0))]) hx hb dX6_unlike_95 hl (k := 4) rfl rfl (by decide) rfl (fun ls hl => ?_)
                refine lv_iinc (v := (z4 + 1)) (lv' := [(4, .int (z4 + 1)), (3, .int (z3 + 1)), (6, .int r_11), (5, .int r_9), (1, .int z1), (2, .int z2), (0, .ref (a0 0))]) hx hb dX6_unlike_98 hl (k := 5) rfl rfl (by decide) rfl (fun ls hl => ?_)
                refine lv_goto (tgt := 34) hx hb dX6_unlike_101 (by decide) ?_
                exact ih _ _ _ _ ls h (lv_sub hl [4, 5, 1, 0, 6] rfl)
        obtain ⟨n34, h⟩ := h
        refine lp34 _ ?_ n34 _ _ _ _ ls h (lv_sub hl [3, 4, 1, 0, 2] rfl)
        · intro z1 z2 z3 z4 ls h hl
          try dsimp only at h
          refine lv_iload_n hx hb dX6_unlike_104 rfl (lv_at hl 2 rfl) ?_
          exact rd_iret hx hb hr hk h dX6_unlike_105
      · replace h := h.2 c_7
        refine lv_iconst (v := (-1)) hx hb dX6_unlike_27 (by decide) ?_
        exact rd_iret hx hb hr hk h dX6_unlike_28

def wp_X6_letter (post : Int32 → Prop) (s2 : Bd) (x1 : Int32) (x2 : Int32) : Prop := ((x1 < 0 → post (-1)) ∧ (¬ x1 < 0 → ((1 < x1 → post (-1)) ∧ (¬ 1 < x1 → (((-1) ≤ x2 → wp_X0_isThere (fun r_4 => ((r_4 = 0 → ((¬ x2 = (-1) → ((x2 < 0 → ¬ ((s2.1 1) + 1) = 0 ∧ ((¬ (x2 - x2 / ((s2.1 1) + 1) * ((s2.1 1) + 1)) = (s2.1 1) → ¬ ((s2.1 1) + 1) = 0 ∧ ((¬ x1 = 0 → vp_in (((x2 / ((s2.1 1) + 1)) * (s2.1 1)) + (x2 - x2 / ((s2.1 1) + 1) * ((s2.1 1) + 1))) 40 ∧ wp_X0_signOn (fun r_14 => post r_14) s2 (((x2 / ((s2.1 1) + 1)) * (s2.1 1)) + (x2 - x2 / ((s2.1 1) + 1) * ((s2.1 1) + 1))) ((s2.2.1 6) (Int32.toNatClampNeg (((x2 / ((s2.1 1) + 1)) * (s2.1 1)) + (x2 - x2 / ((s2.1 1) + 1) * ((s2.1 1) + 1)))))) ∧ (x1 = 0 → vp_in (((x2 / ((s2.1 1) + 1)) * (s2.1 1)) + (x2 - x2 / ((s2.1 1) + 1) * ((s2.1 1) + 1))) 40 ∧ wp_X0_signOn (fun r_17 => post r_17) s2 (((x2 / ((s2.1 1) + 1)) * (s2.1 1)) + (x2 - x2 / ((s2.1 1) + 1) * ((s2.1 1) + 1))) ((s2.2.1 4) (Int32.toNatClampNeg (((x2 / ((s2.1 1) + 1)) * (s2.1 1)) + (x2 - x2 / ((s2.1 1) + 1) * ((s2.1 1) + 1)))))))) ∧ ((x2 - x2 / ((s2.1 1) + 1) * ((s2.1 1) + 1)) = (s2.1 1) → post 47))) ∧ (¬ x2 < 0 → post (-2)))) ∧ (x2 = (-1) → post 0))) ∧ (¬ r_4 = 0 → wp_X0_cells (fun r_19 => ((¬ x2 = (-1) → ((x2 < ((r_19 + (s2.1 0)) - 1) → ¬ ((s2.1 1) + 1) = 0 ∧ ((¬ (x2 - x2 / ((s2.1 1) + 1) * ((s2.1 1) + 1)) = (s2.1 1) → ¬ ((s2.1 1) + 1) = 0 ∧ ((¬ x1 = 0 → vp_in (((x2 / ((s2.1 1) + 1)) * (s2.1 1)) + (x2 - x2 / ((s2.1 1) + 1) * ((s2.1 1) + 1))) 40 ∧ wp_X0_signOn (fun r_28 => post r_28) s2 (((x2 / ((s2.1 1) + 1)) * (s2.1 1)) + (x2 - x2 / ((s2.1 1) + 1) * ((s2.1 1) + 1))) ((s2.2.1 6) (Int32.toNatClampNeg (((x2 / ((s2.1 1) + 1)) * (s2.1 1)) + (x2 - x2 / ((s2.1 1) + 1) * ((s2.1 1) + 1)))))) ∧ (x1 = 0 → vp_in (((x2 / ((s2.1 1) + 1)) * (s2.1 1)) + (x2 - x2 / ((s2.1 1) + 1) * ((s2.1 1) + 1))) 40 ∧ wp_X0_signOn (fun r_31 => post r_31) s2 (((x2 / ((s2.1 1) + 1)) * (s2.1 1)) + (x2 - x2 / ((s2.1 1) + 1) * ((s2.1 1) + 1))) ((s2.2.1 4) (Int32.toNatClampNeg (((x2 / ((s2.1 1) + 1)) * (s2.1 1)) + (x2 - x2 / ((s2.1 1) + 1) * ((s2.1 1) + 1)))))))) ∧ ((x2 - x2 / ((s2.1 1) + 1) * ((s2.1 1) + 1)) = (s2.1 1) → post 47))) ∧ (¬ x2 < ((r_19 + (s2.1 0)) - 1) → post (-2)))) ∧ (x2 = (-1) → post ((r_19 + (s2.1 0)) - 1)))) s2))) s2) ∧ (¬ (-1) ≤ x2 → post (-1)))))))
set_option maxHeartbeats 4000000 in
set_option maxRecDepth 100000 in
theorem c2_X6_letter {l : Launch} {D : va_G} {q : Nat → ClassId} {a0 a1 a2 a3 a4 a5 : Nat → Nat} {p8 s8 : Nat} {s2 : Bd} {x1 : Int32} {x2 : Int32} {post : Int32 → Prop} (h : wp_X6_letter post s2 x1 x2) : Met l yX6_letter (Cond.code yX6_letter cX6_letter 6 (some .int) :: w_all) ({ frames := 2, cells := 0, slots := 0, locals := 44 } : Room) (rd_P D q [.ref (a0 0), .int x1, .int x2] (fo_w (a0 0) (a1 0) (a2 0) (a3 0) (a4 0) (a5 0) p8 s8 ++ bd_w a2 q s2)) (vp_Si post) 0 0 (fun _ => False) := by
  refine rd_start (by decide) (Nat.le_of_ble_eq_true rfl) ?_
  intro p e s m below meth c ls hx hb hr hml hown ht hk hP hQ hV hl
  have hK := hQ.1
  have hown : s.vm.findClass RX6 = some m.cls := hown
  have hl : lv_has ls 6 [(0, .ref (a0 0)), (1, .int x1), (2, .int x2)] := hl
  have hP : va_P D vwCl [((a0 0), .inr (5, [.ref (a1 0), .ref (a2 0), .ref (a3 0), .ref (a4 0), .ref (a5 0), .ref p8, .ref s8])), ((a2 0), .inr (0, [.int (s2.1 0), .int (s2.1 1), .int (s2.1 2), .int (s2.1 3), .int (s2.1 4), .int (s2.1 5), .ref (a2 1), .ref (a2 2), .ref (a2 3), .ref (a2 4), .ref (a2 5), .ref (a2 6), .ref (a2 7), .ref (a2 8), .ref (a2 9), .ref (a2 10), .ref (a2 11), .ref (a2 12)])), ((a2 1), .inl (q 0, 4, .inl (s2.2.1 0))), ((a2 2), .inl (q 0, 4, .inl (s2.2.1 1))), ((a2 3), .inl (q 0, 160, .inl (s2.2.1 2))), ((a2 4), .inl (q 0, 40, .inl (s2.2.1 3))), ((a2 5), .inl (q 0, 40, .inl (s2.2.1 4))), ((a2 6), .inl (q 0, 40, .inl (s2.2.1 5))), ((a2 7), .inl (q 0, 40, .inl (s2.2.1 6))), ((a2 8), .inl (q 0, 40, .inl (s2.2.1 7))), ((a2 9), .inl (q 0, 40, .inl (s2.2.1 8))), ((a2 10), .inl (q 0, 40, .inl (s2.2.1 9))), ((a2 11), .inl (q 1, 40, .inr (.inl s2.2.2.1))), ((a2 12), .inl (q 0, s2.2.2.2.1, .inl s2.2.2.2.2))] s.heap := hP
  unfold wp_X6_letter at h
  refine lv_iload_n hx hb dX6_letter_0 rfl (lv_at hl 1 rfl) ?_
  refine lv_if_lt (tgt := 14) hx hb dX6_letter_1 (by decide) (fun c_1 => ?_) (fun c_1 => ?_)
  · replace h := h.1 c_1
    refine lv_iconst (v := (-1)) hx hb dX6_letter_14 (by decide) ?_
    exact rd_iret hx hb hr hk h dX6_letter_15
  · replace h := h.2 c_1
    refine lv_iload_n hx hb dX6_letter_4 rfl (lv_at hl 1 rfl) ?_
    refine lv_iconst (v := 1) hx hb dX6_letter_5 (by decide) ?_
    refine lv_icmp_gt (tgt := 14) hx hb dX6_letter_6 (by decide) (fun c_2 => ?_) (fun c_2 => ?_)
    · replace h := h.1 c_2
      refine lv_iconst (v := (-1)) hx hb dX6_letter_14 (by decide) ?_
      exact rd_iret hx hb hr hk h dX6_letter_15
    · replace h := h.2 c_2
      refine lv_iload_n hx hb dX6_letter_9 rfl (lv_at hl 2 rfl) ?_
      refine lv_iconst (v := (-1)) hx hb dX6_letter_10 (by decide) ?_
      refine lv_icmp_ge (tgt := 16) hx hb dX6_letter_11 (by decide) (fun c_3 => ?_) (fun c_3 => ?_)
      · replace h := h.1 c_3
        refine lv_aload_n hx hb dX6_letter_16 rfl (lv_at hl 0 rfl) ?_
        refine fl_get (C := RX6) (T := TX6) (N := 7) (ci := 5) (v := .ref (a2 0)) hx hb ht in_X6 hown hK hP 0 rfl rfl 1 (by decide) mw_356 rfl dX6_letter_17 ?_
        refine vp_callSi (rd_wV (wc := bd_w a2 q s2) (As := []) (rest := []) hx hb hml hown ht (c2_X0_isThere h) wd_X0_isThere mw_677 hQ hV va_S.rf (hP.sub [1, 2, 3, 4, 5, 6, 7, 8, 9, 10, 11, 12, 13] rfl) rfl rfl rfl hl.1 rfl (Nat.le_of_ble_eq_true rfl) dX6_letter_20 ⟨Nat.le_of_ble_eq_true rfl, Nat.le_of_ble_eq_true rfl, rfl, rfl⟩ ⟨Nat.le_of_ble_eq_true rfl, Nat.le_of_ble_eq_true rfl⟩) (fun r_4 h => ?_)
        try dsimp only at h
        refine lv_if_eq (tgt := 46) hx hb dX6_letter_23 (by decide) (fun c_6 => ?_) (fun c_6 => ?_)
        · replace h := h.1 c_6
          refine lv_iconst (v := 0) hx hb dX6_letter_46 (by decide) ?_
          refine lv_istore_n (lv' := [(3, .int 0), (0, .ref (a0 0)), (1, .int x1), (2, .int x2)]) hx hb dX6_letter_47 rfl hl (by decide) rfl (fun ls hl => ?_)
          refine lv_iload_n hx hb dX6_letter_48 rfl (lv_at hl 3 rfl) ?_
          refine lv_iconst (v := (-1)) hx hb dX6_letter_49 (by decide) ?_
          refine lv_icmp_ne (tgt := 55) hx hb dX6_letter_50 (by decide) (fun c_7 => ?_) (fun c_7 => ?_)
          · replace h := h.1 c_7
            refine lv_iload_n hx hb dX6_letter_55 rfl (lv_at hl 3 rfl) ?_
            refine lv_iload_n hx hb dX6_letter_56 rfl (lv_at hl 0 rfl) ?_
            refine lv_icmp_lt (tgt := 63) hx hb dX6_letter_57 (by decide) (fun c_8 => ?_) (fun c_8 => ?_)
            · replace h := h.1 c_8
              refine lv_iload_n hx hb dX6_letter_63 rfl (lv_at hl 3 rfl) ?_
              refine lv_aload_n hx hb dX6_letter_64 rfl (lv_at hl 1 rfl) ?_
              refine fl_get (C := RX6) (T := TX6) (N := 7) (ci := 5) (v := .ref (a2 0)) hx hb ht in_X6 hown hK hP 0 rfl rfl 1 (by decide) mw_356 rfl dX6_letter_65 ?_
              refine fl_get (C := RX0) (T := TX0) (N := 18) (ci := 0) (v := .int (s2.1 1)) hx hb ht in_X0 hown hK hP 1 rfl rfl 1 (by decide) mw_174 rfl dX6_letter_68 ?_
              refine lv_iconst (v := 1) hx hb dX6_letter_71 (by decide) ?_
              refine lv_iadd hx hb dX6_letter_72 ?_
              obtain ⟨g_9, h⟩ := h
              refine lv_irem hx hb dX6_letter_73 g_9 ?_
              refine lv_istore (lv' := [(4, .int (x2 - x2 / ((s2.1 1) + 1) * ((s2.1 1) + 1))), (3, .int 0), (0, .ref (a0 0)), (1, .int x1), (2, .int x2)]) hx hb dX6_letter_74 hl (by decide) rfl (fun ls hl => ?_)
              refine lv_iload hx hb dX6_letter_76 (lv_at hl 0 rfl) ?_
              refine lv_aload_n hx hb dX6_letter_78 rfl (lv_at hl 2 rfl) ?_
              refine fl_get (C := RX6) (T := TX6) (N := 7) (ci := 5) (v := .ref (a2 0)) hx hb ht in_X6 hown hK hP 0 rfl rfl 1 (by decide) mw_356 rfl dX6_letter_79 ?_
              refine fl_get (C := RX0) (T := TX0) (N := 18) (ci := 0) (v := .int (s2.1 1)) hx hb ht in_X0 hown hK hP 1 rfl rfl 1 (by decide) mw_174 rfl dX6_letter_82 ?_
              refine lv_icmp_ne (tgt := 91) hx hb dX6_letter_85 (by decide) (fun c_10 => ?_) (fun c_10 => ?_)
              · replace h := h.1 c_10
                refine lv_iload_n hx hb dX6_letter_91 rfl (lv_at hl 4 rfl) ?_
                refine lv_aload_n hx hb dX6_letter_92 rfl (lv_at hl 2 rfl) ?_
                refine fl_get (C := RX6) (T := TX6) (N := 7) (ci := 5) (v := .ref (a2 0)) hx hb ht in_X6 hown hK hP 0 rfl rfl 1 (by decide) mw_356 rfl dX6_letter_93 ?_
                refine fl_get (C := RX0) (T := TX0) (N := 18) (ci := 0) (v := .int (s2.1 1)) hx hb ht in_X0 hown hK hP 1 rfl rfl 1 (by decide) mw_174 rfl dX6_letter_96 ?_
                refine lv_iconst (v := 1) hx hb dX6_letter_99 (by decide) ?_
                refine lv_iadd hx hb dX6_letter_100 ?_
                obtain ⟨g_11, h⟩ := h
                refine lv_idiv hx hb dX6_letter_101 g_11 ?_
                refine lv_aload_n hx hb dX6_letter_102 rfl (lv_at hl 2 rfl) ?_
                refine fl_get (C := RX6) (T := TX6) (N := 7) (ci := 5) (v := .ref (a2 0)) hx hb ht in_X6 hown hK hP 0 rfl rfl 1 (by decide) mw_356 rfl dX6_letter_103 ?_
                refine fl_get (C := RX0) (T := TX0) (N := 18) (ci := 0) (v := .int (s2.1 1)) hx hb ht in_X0 hown hK hP 1 rfl rfl 1 (by decide) mw_174 rfl dX6_letter_106 ?_
                refine lv_imul hx hb dX6_letter_109 ?_
                refine lv_iload hx hb dX6_letter_110 (lv_at hl 0 rfl) ?_
                refine lv_iadd hx hb dX6_letter_112 ?_
                refine lv_istore (lv' := [(5, .int (((x2 / ((s2.1 1) + 1)) * (s2.1 1)) + (x2 - x2 / ((s2.1 1) + 1) * ((s2.1 1) + 1)))), (4, .int (x2 - x2 / ((s2.1 1) + 1) * ((s2.1 1) + 1))), (3, .int 0), (0, .ref (a0 0)), (1, .int x1), (2, .int x2)]) hx hb dX6_letter_113 hl (by decide) rfl (fun ls hl => ?_)
                refine lv_aload_n hx hb dX6_letter_115 rfl (lv_at hl 3 rfl) ?_
                refine fl_get (C := RX6) (T := TX6) (N := 7) (ci := 5) (v := .ref (a2 0)) hx hb ht in_X6 hown hK hP 0 rfl rfl 1 (by decide) mw_356 rfl dX6_letter_116 ?_
                refine lv_iload hx hb dX6_letter_119 (lv_at hl 0 rfl) ?_
                refine lv_iload_n hx hb dX6_letter_121 rfl (lv_at hl 4 rfl) ?_
                refine lv_if_ne (tgt := 138) hx hb dX6_letter_122 (by decide) (fun c_12 => ?_) (fun c_12 => ?_)
                · replace h := h.1 c_12
                  refine lv_aload_n hx hb dX6_letter_138 rfl (lv_at hl 3 rfl) ?_
                  refine fl_get (C := RX6) (T := TX6) (N := 7) (ci := 5) (v := .ref (a2 0)) hx hb ht in_X6 hown hK hP 0 rfl rfl 1 (by decide) mw_356 rfl dX6_letter_139 ?_
                  refine fl_get (C := RX0) (T := TX0) (N := 18) (ci := 0) (v := .ref (a2 7)) hx hb ht in_X0 hown hK hP 1 rfl rfl 12 (by decide) mw_199 rfl dX6_letter_142 ?_
                  refine lv_iload hx hb dX6_letter_145 (lv_at hl 0 rfl) ?_
                  obtain ⟨g_13, h⟩ := h
                  refine va_iald hx hb hK hP 8 0 rfl rfl g_13 dX6_letter_147 ?_
                  refine vp_callSi (rd_wV (wc := bd_w a2 q s2) (As := [.int (((x2 / ((s2.1 1) + 1)) * (s2.1 1)) + (x2 - x2 / ((s2.1 1) + 1) * ((s2.1 1) + 1))), .int ((s2.2.1 6) (Int32.toNatClampNeg (((x2 / ((s2.1 1) + 1)) * (s2.1 1)) + (x2 - x2 / ((s2.1 1) + 1) * ((s2.1 1) + 1)))))]) (rest := []) hx hb hml hown ht (c2_X0_signOn h) wd_X0_signOn mw_939 hQ hV va_S.rf (hP.sub [1, 2, 3, 4, 5, 6, 7, 8, 9, 10, 11, 12, 13] rfl) rfl rfl rfl hl.1 rfl (Nat.le_of_ble_eq_true rfl) dX6_letter_148 ⟨Nat.le_of_ble_eq_true rfl, Nat.le_of_ble_eq_true rfl, rfl, rfl⟩ ⟨Nat.le_of_ble_eq_true rfl, Nat.le_of_ble_eq_true rfl⟩) (fun r_14 h => ?_)
                  try dsimp only at h
                  exact rd_iret hx hb hr hk h dX6_letter_151
                · replace h := h.2 c_12
                  refine lv_aload_n hx hb dX6_letter_125 rfl (lv_at hl 3 rfl) ?_
                  refine fl_get (C := RX6) (T := TX6) (N := 7) (ci := 5) (v := .ref (a2 0)) hx hb ht in_X6 hown hK hP 0 rfl rfl 1 (by decide) mw_356 rfl dX6_letter_126 ?_
                  refine fl_get (C := RX0) (T := TX0) (N := 18) (ci := 0) (v := .ref (a2 5)) hx hb ht in_X0 hown hK hP 1 rfl rfl 10 (by decide) mw_195 rfl dX6_letter_129 ?_
                  refine lv_iload hx hb dX6_letter_132 (lv_at hl 0 rfl) ?_
                  obtain ⟨g_16, h⟩ := h
                  refine va_iald hx hb hK hP 6 0 rfl rfl g_16 dX6_letter_134 ?_
                  refine lv_goto (tgt := 148) hx hb dX6_letter_135 (by decide) ?_
                  refine vp_callSi (rd_wV (wc := bd_w a2 q s2) (As := [.int (((x2 / ((s2.1 1) + 1)) * (s2.1 1)) + (x2 - x2 / ((s2.1 1) + 1) * ((s2.1 1) + 1))), .int ((s2.2.1 4) (Int32.toNatClampNeg (((x2 / ((s2.1 1) + 1)) * (s2.1 1)) + (x2 - x2 / ((s2.1 1) + 1) * ((s2.1 1) + 1)))))]) (rest := []) hx hb hml hown ht (c2_X0_signOn h) wd_X0_signOn mw_939 hQ hV va_S.rf (hP.sub [1, 2, 3, 4, 5, 6, 7, 8, 9, 10, 11, 12, 13] rfl) rfl rfl rfl hl.1 rfl (Nat.le_of_ble_eq_true rfl) dX6_letter_148 ⟨Nat.le_of_ble_eq_true rfl, Nat.le_of_ble_eq_true rfl, rfl, rfl⟩ ⟨Nat.le_of_ble_eq_true rfl, Nat.le_of_ble_eq_true rfl⟩) (fun r_17 h => ?_)
                  try dsimp only at h
                  exact rd_iret hx hb hr hk h dX6_letter_151
              · replace h := h.2 c_10
                refine lv_bipush (v := 47) hx hb dX6_letter_88 (by decide) ?_
                exact rd_iret hx hb hr hk h dX6_letter_90
            · replace h := h.2 c_8
              refine lv_bipush (v := (-2)) hx hb dX6_letter_60 (by decide) ?_
              exact rd_iret hx hb hr hk h dX6_letter_62
          · replace h := h.2 c_7
            refine lv_iload_n hx hb dX6_letter_53 rfl (lv_at hl 0 rfl) ?_
            exact rd_iret hx hb hr hk h dX6_letter_54
        · replace h := h.2 c_6
          refine lv_aload_n hx hb dX6_letter_26 rfl (lv_at hl 0 rfl) ?_
          refine fl_get (C := RX6) (T := TX6) (N := 7) (ci := 5) (v := .ref (a2 0)) hx hb ht in_X6 hown hK hP 0 rfl rfl 1 (by decide) mw_356 rfl dX6_letter_27 ?_
          refine vp_callSi (rd_wV (wc := bd_w a2 q s2) (As := []) (rest := []) hx hb hml hown ht (c2_X0_cells h) wd_X0_cells mw_885 hQ hV va_S.rf (hP.sub [1, 2, 3, 4, 5, 6, 7, 8, 9, 10, 11, 12, 13] rfl) rfl rfl rfl hl.1 rfl (Nat.le_of_ble_eq_true rfl) dX6_letter_30 ⟨Nat.le_of_ble_eq_true rfl, Nat.le_of_ble_eq_true rfl, rfl, rfl⟩ ⟨Nat.le_of_ble_eq_true rfl, Nat.le_of_ble_eq_true rfl⟩) (fun r_19 h => ?_)
          try dsimp only at h
          refine lv_aload_n hx hb dX6_letter_33 rfl (lv_at hl 0 rfl) ?_
          refine fl_get (C := RX6) (T := TX6) (N := 7) (ci := 5) (v := .ref (a2 0)) hx hb ht in_X6 hown hK hP 0 rfl rfl 1 (by decide) mw_356 rfl dX6_letter_34 ?_
          refine fl_get (C := RX0) (T := TX0) (N := 18) (ci := 0) (v := .int (s2.1 0)) hx hb ht in_X0 hown hK hP 1 rfl rfl 0 (by decide) mw_169 rfl dX6_letter_37 ?_
          refine lv_iadd hx hb dX6_letter_40 ?_
          refine lv_iconst (v := 1) hx hb dX6_letter_41 (by decide) ?_
          refine lv_isub hx hb dX6_letter_42 ?_
          refine lv_goto (tgt := 47) hx hb dX6_letter_43 (by decide) ?_
          refine lv_istore_n (lv' := [(3, .int ((r_19 + (s2.1 0)) - 1)), (0, .ref (a0 0)), (1, .int x1), (2, .int x2)]) hx hb dX6_letter_47 rfl hl (by decide) rfl (fun ls hl => ?_)
          refine lv_iload_n hx hb dX6_letter_48 rfl (lv_at hl 3 rfl) ?_
          refine lv_iconst (v := (-1)) hx hb dX6_letter_49 (by decide) ?_
          refine lv_icmp_ne (tgt := 55) hx hb dX6_letter_50 (by decide) (fun c_21 => ?_) (fun c_21 => ?_)
          · replace h := h.1 c_21
            refine lv_iload_n hx hb dX6_letter_55 rfl (lv_at hl 3 rfl) ?_
            refine lv_iload_n hx hb dX6_letter_56 rfl (lv_at hl 0 rfl) ?_
            refine lv_icmp_lt (tgt := 63) hx hb dX6_letter_57 (by decide) (fun c_22 => ?_) (fun c_22 => ?_)
            · replace h := h.1 c_22
              refine lv_iload_n hx hb dX6_letter_63 rfl (lv_at hl 3 rfl) ?_
              refine lv_aload_n hx hb dX6_letter_64 rfl (lv_at hl 1 rfl) ?_
              refine fl_get (C := RX6) (T := TX6) (N := 7) (ci := 5) (v := .ref (a2 0)) hx hb ht in_X6 hown hK hP 0 rfl rfl 1 (by decide) mw_356 rfl dX6_letter_65 ?_
              refine fl_get (C := RX0) (T := TX0) (N := 18) (ci := 0) (v := .int (s2.1 1)) hx hb ht in_X0 hown hK hP 1 rfl rfl 1 (by decide) mw_174 rfl dX6_letter_68 ?_
              refine lv_iconst (v := 1) hx hb dX6_letter_71 (by decide) ?_
              refine lv_iadd hx hb dX6_letter_72 ?_
              obtain ⟨g_23, h⟩ := h
              refine lv_irem hx hb dX6_letter_73 g_23 ?_
              refine lv_istore (lv' := [(4, .int (x2 - x2 / ((s2.1 1) + 1) * ((s2.1 1) + 1))), (3, .int ((r_19 + (s2.1 0)) - 1)), (0, .ref (a0 0)), (1, .int x1), (2, .int x2)]) hx hb dX6_letter_74 hl (by decide) rfl (fun ls hl => ?_)
              refine lv_iload hx hb dX6_letter_76 (lv_at hl 0 rfl) ?_
              refine lv_aload_n hx hb dX6_letter_78 rfl (lv_at hl 2 rfl) ?_
              refine fl_get (C := RX6) (T := TX6) (N := 7) (ci := 5) (v := .ref (a2 0)) hx hb ht in_X6 hown hK hP 0 rfl rfl 1 (by decide) mw_356 rfl dX6_letter_79 ?_
              refine fl_get (C := RX0) (T := TX0) (N := 18) (ci := 0) (v := .int (s2.1 1)) hx hb ht in_X0 hown hK hP 1 rfl rfl 1 (by decide) mw_174 rfl dX6_letter_82 ?_
              refine lv_icmp_ne (tgt := 91) hx hb dX6_letter_85 (by decide) (fun c_24 => ?_) (fun c_24 => ?_)
              · replace h := h.1 c_24
                refine lv_iload_n hx hb dX6_letter_91 rfl (lv_at hl 4 rfl) ?_
                refine lv_aload_n hx hb dX6_letter_92 rfl (lv_at hl 2 rfl) ?_
                refine fl_get (C := RX6) (T := TX6) (N := 7) (ci := 5) (v := .ref (a2 0)) hx hb ht in_X6 hown hK hP 0 rfl rfl 1 (by decide) mw_356 rfl dX6_letter_93 ?_
                refine fl_get (C := RX0) (T := TX0) (N := 18) (ci := 0) (v := .int (s2.1 1)) hx hb ht in_X0 hown hK hP 1 rfl rfl 1 (by decide) mw_174 rfl dX6_letter_96 ?_
                refine lv_iconst (v := 1) hx hb dX6_letter_99 (by decide) ?_
                refine lv_iadd hx hb dX6_letter_100 ?_
                obtain ⟨g_25, h⟩ := h
                refine lv_idiv hx hb dX6_letter_101 g_25 ?_
                refine lv_aload_n hx hb dX6_letter_102 rfl (lv_at hl 2 rfl) ?_
                refine fl_get (C := RX6) (T := TX6) (N := 7) (ci := 5) (v := .ref (a2 0)) hx hb ht in_X6 hown hK hP 0 rfl rfl 1 (by decide) mw_356 rfl dX6_letter_103 ?_
                refine fl_get (C := RX0) (T := TX0) (N := 18) (ci := 0) (v := .int (s2.1 1)) hx hb ht in_X0 hown hK hP 1 rfl rfl 1 (by decide) mw_174 rfl dX6_letter_106 ?_
                refine lv_imul hx hb dX6_letter_109 ?_
                refine lv_iload hx hb dX6_letter_110 (lv_at hl 0 rfl) ?_
                refine lv_iadd hx hb dX6_letter_112 ?_
                refine lv_istore (lv' := [(5, .int (((x2 / ((s2.1 1) + 1)) * (s2.1 1)) + (x2 - x2 / ((s2.1 1) + 1) * ((s2.1 1) + 1)))), (4, .int (x2 - x2 / ((s2.1 1) + 1) * ((s2.1 1) + 1))), (3, .int ((r_19 + (s2.1 0)) - 1)), (0, .ref (a0 0)), (1, .int x1), (2, .int x2)]) hx hb dX6_letter_113 hl (by decide) rfl (fun ls hl => ?_)
                refine lv_aload_n hx hb dX6_letter_115 rfl (lv_at hl 3 rfl) ?_
                refine fl_get (C := RX6) (T := TX6) (N := 7) (ci := 5) (v := .ref (a2 0)) hx hb ht in_X6 hown hK hP 0 rfl rfl 1 (by decide) mw_356 rfl dX6_letter_116 ?_
                refine lv_iload hx hb dX6_letter_119 (lv_at hl 0 rfl) ?_
                refine lv_iload_n hx hb dX6_letter_121 rfl (lv_at hl 4 rfl) ?_
                refine lv_if_ne (tgt := 138) hx hb dX6_letter_122 (by decide) (fun c_26 => ?_) (fun c_26 => ?_)
                · replace h := h.1 c_26
                  refine lv_aload_n hx hb dX6_letter_138 rfl (lv_at hl 3 rfl) ?_
                  refine fl_get (C := RX6) (T := TX6) (N := 7) (ci := 5) (v := .ref (a2 0)) hx hb ht in_X6 hown hK hP 0 rfl rfl 1 (by decide) mw_356 rfl dX6_letter_139 ?_
                  refine fl_get (C := RX0) (T := TX0) (N := 18) (ci := 0) (v := .ref (a2 7)) hx hb ht in_X0 hown hK hP 1 rfl rfl 12 (by decide) mw_199 rfl dX6_letter_142 ?_
                  refine lv_iload hx hb dX6_letter_145 (lv_at hl 0 rfl) ?_
                  obtain ⟨g_27, h⟩ := h
                  refine va_iald hx hb hK hP 8 0 rfl rfl g_27 dX6_letter_147 ?_
                  refine vp_callSi (rd_wV (wc := bd_w a2 q s2) (As := [.int (((x2 / ((s2.1 1) + 1)) * (s2.1 1)) + (x2 - x2 / ((s2.1 1) + 1) * ((s2.1 1) + 1))), .int ((s2.2.1 6) (Int32.toNatClampNeg (((x2 / ((s2.1 1) + 1)) * (s2.1 1)) + (x2 - x2 / ((s2.1 1) + 1) * ((s2.1 1) + 1)))))]) (rest := []) hx hb hml hown ht (c2_X0_signOn h) wd_X0_signOn mw_939 hQ hV va_S.rf (hP.sub [1, 2, 3, 4, 5, 6, 7, 8, 9, 10, 11, 12, 13] rfl) rfl rfl rfl hl.1 rfl (Nat.le_of_ble_eq_true rfl) dX6_letter_148 ⟨Nat.le_of_ble_eq_true rfl, Nat.le_of_ble_eq_true rfl, rfl, rfl⟩ ⟨Nat.le_of_ble_eq_true rfl, Nat.le_of_ble_eq_true rfl⟩) (fun r_28 h => ?_)
                  try dsimp only at h
                  exact rd_iret hx hb hr hk h dX6_letter_151
                · replace h := h.2 c_26
                  refine lv_aload_n hx hb dX6_letter_125 rfl (lv_at hl 3 rfl) ?_
                  refine fl_get (C := RX6) (T := TX6) (N := 7) (ci := 5) (v := .ref (a2 0)) hx hb ht in_X6 hown hK hP 0 rfl rfl 1 (by decide) mw_356 rfl dX6_letter_126 ?_
                  refine fl_get (C := RX0) (T := TX0) (N := 18) (ci := 0) (v := .ref (a2 5)) hx hb ht in_X0 hown hK hP 1 rfl rfl 10 (by decide) mw_195 rfl dX6_letter_129 ?_
                  refine lv_iload hx hb dX6_letter_132 (lv_at hl 0 rfl) ?_
                  obtain ⟨g_30, h⟩ := h
                  refine va_iald hx hb hK hP 6 0 rfl rfl g_30 dX6_letter_134 ?_
                  refine lv_goto (tgt := 148) hx hb dX6_letter_135 (by decide) ?_
                  refine vp_callSi (rd_wV (wc := bd_w a2 q s2) (As := [.int (((x2 / ((s2.1 1) + 1)) * (s2.1 1)) + (x2 - x2 / ((s2.1 1) + 1) * ((s2.1 1) + 1))), .int ((s2.2.1 4) (Int32.toNatClampNeg (((x2 / ((s2.1 1) + 1)) * (s2.1 1)) + (x2 - x2 / ((s2.1 1) + 1) * ((s2.1 1) + 1)))))]) (rest := []) hx hb hml hown ht (c2_X0_signOn h) wd_X0_signOn mw_939 hQ hV va_S.rf (hP.sub [1, 2, 3, 4, 5, 6, 7, 8, 9, 10, 11, 12, 13] rfl) rfl rfl rfl hl.1 rfl (Nat.le_of_ble_eq_true rfl) dX6_letter_148 ⟨Nat.le_of_ble_eq_true rfl, Nat.le_of_ble_eq_true rfl, rfl, rfl⟩ ⟨Nat.le_of_ble_eq_true rfl, Nat.le_of_ble_eq_true rfl⟩) (fun r_31 h => ?_)
                  try dsimp only at h
                  exact rd_iret hx hb hr hk h dX6_letter_151
              · replace h := h.2 c_24
                refine lv_bipush (v := 47) hx hb dX6_letter_88 (by decide) ?_
                exact rd_iret hx hb hr hk h dX6_letter_90
            · replace h := h.2 c_22
              refine lv_bipush (v := (-2)) hx hb dX6_letter_60 (by decide) ?_
              exact rd_iret hx hb hr hk h dX6_letter_62
          · replace h := h.2 c_21
            refine lv_iload_n hx hb dX6_letter_53 rfl (lv_at hl 0 rfl) ?_
            exact rd_iret hx hb hr hk h dX6_letter_54
      · replace h := h.2 c_3
        refine lv_iconst (v := (-1)) hx hb dX6_letter_14 (by decide) ?_
        exact rd_iret hx hb hr hk h dX6_letter_15

def wp_X6_digest_L6 (s2 : Bd) (post : Int64 → Prop) (e124 : Int64 → Int32 → Prop) : Nat → Int64 → Int32 → Prop
  | 0, _, _ => False
  | n6 + 1, w1, z3 => wp_X0_cells (fun r_1 => ((r_1 ≤ z3 → e124 w1 z3) ∧ (¬ r_1 ≤ z3 → vp_in z3 40 ∧ vp_in z3 40 ∧ vp_in z3 40 ∧ vp_in z3 40 ∧ vp_in z3 40 ∧ vp_in z3 40 ∧ wp_X6_digest_L6 s2 post e124 n6 ((31 * ((31 * ((31 * ((31 * ((31 * ((31 * w1) + (Int32.toInt64 ((s2.2.1 3) (Int32.toNatClampNeg z3))))) + (Int32.toInt64 ((s2.2.1 4) (Int32.toNatClampNeg z3))))) + (Int32.toInt64 ((s2.2.1 5) (Int32.toNatClampNeg z3))))) + (Int32.toInt64 ((s2.2.1 6) (Int32.toNatClampNeg z3))))) + (Int32.toInt64 ((s2.2.1 7) (Int32.toNatClampNeg z3))))) + (s2.2.2.1 (Int32.toNatClampNeg z3))) (z3 + 1)))) s2
def wp_X6_digest (post : Int64 → Prop) (s2 : Bd) : Prop := (∃ n6, wp_X6_digest_L6 s2 post (fun w1 z3 => post w1) n6 17 0)
set_option maxHeartbeats 4000000 in
set_option maxRecDepth 100000 in
theorem c2_X6_digest {l : Launch} {D : va_G} {q : Nat → ClassId} {a0 a1 a2 a3 a4 a5 : Nat → Nat} {p8 s8 : Nat} {s2 : Bd} {post : Int64 → Prop} (h : wp_X6_digest post s2) : Met l yX6_digest (Cond.code yX6_digest cX6_digest 4 (some .long) :: w_all) ({ frames := 1, cells := 0, slots := 0, locals := 20 } : Room) (rd_P D q [.ref (a0 0)] (fo_w (a0 0) (a1 0) (a2 0) (a3 0) (a4 0) (a5 0) p8 s8 ++ bd_w a2 q s2)) (vp_Sl post) 0 0 (fun _ => False) := by
  refine rd_start (by decide) (Nat.le_of_ble_eq_true rfl) ?_
  intro p e s m below meth c ls hx hb hr hml hown ht hk hP hQ hV hl
  have hK := hQ.1
  have hown : s.vm.findClass RX6 = some m.cls := hown
  have hl : lv_has ls 4 [(0, .ref (a0 0))] := hl
  have hP : va_P D vwCl [((a0 0), .inr (5, [.ref (a1 0), .ref (a2 0), .ref (a3 0), .ref (a4 0), .ref (a5 0), .ref p8, .ref s8])), ((a2 0), .inr (0, [.int (s2.1 0), .int (s2.1 1), .int (s2.1 2), .int (s2.1 3), .int (s2.1 4), .int (s2.1 5), .ref (a2 1), .ref (a2 2), .ref (a2 3), .ref (a2 4), .ref (a2 5), .ref (a2 6), .ref (a2 7), .ref (a2 8), .ref (a2 9), .ref (a2 10), .ref (a2 11), .ref (a2 12)])), ((a2 1), .inl (q 0, 4, .inl (s2.2.1 0))), ((a2 2), .inl (q 0, 4, .inl (s2.2.1 1))), ((a2 3), .inl (q 0, 160, .inl (s2.2.1 2))), ((a2 4), .inl (q 0, 40, .inl (s2.2.1 3))), ((a2 5), .inl (q 0, 40, .inl (s2.2.1 4))), ((a2 6), .inl (q 0, 40, .inl (s2.2.1 5))), ((a2 7), .inl (q 0, 40, .inl (s2.2.1 6))), ((a2 8), .inl (q 0, 40, .inl (s2.2.1 7))), ((a2 9), .inl (q 0, 40, .inl (s2.2.1 8))), ((a2 10), .inl (q 0, 40, .inl (s2.2.1 9))), ((a2 11), .inl (q 1, 40, .inr (.inl s2.2.2.1))), ((a2 12), .inl (q 0, s2.2.2.2.1, .inl s2.2.2.2.2))] s.heap := hP
  unfold wp_X6_digest at h
  refine lv_ldc2 (v := 17) hx hb hown (ht _ mw_1113) dX6_digest_0 ?_
  refine lv_lstore_n (lv' := [(1, .long 17), (0, .ref (a0 0))]) hx hb dX6_digest_3 rfl hl (by decide) rfl (fun ls hl => ?_)
  refine lv_iconst (v := 0) hx hb dX6_digest_4 (by decide) ?_
  refine lv_istore_n (lv' := [(3, .int 0), (1, .long 17), (0, .ref (a0 0))]) hx hb dX6_digest_5 rfl hl (by decide) rfl (fun ls hl => ?_)
  have lp6 : ∀ (e124 : Int64 → Int32 → Prop) (k124 : ∀ (w1 : Int64) (z3 : Int32) (ls : Array Slot), e124 w1 z3 → lv_has ls 4 [(1, .long w1), (3, .int z3), (0, .ref (a0 0))] → W p l e ({ frames := 1, cells := 0, slots := 0, locals := 20 } : Room) s m [.ref (a0 0)].toArray below meth c s.heap [] 0 0 (MQ below (vp_Sl post) [.ref (a0 0)].toArray s 0 0 (fun _ => False)) (F0 m 124 ls [])) (n : Nat) (w1 : Int64) (z3 : Int32) (ls : Array Slot), wp_X6_digest_L6 s2 post e124 n w1 z3 → lv_has ls 4 [(1, .long w1), (3, .int z3), (0, .ref (a0 0))] → W p l e ({ frames := 1, cells := 0, slots := 0, locals := 20 } : Room) s m [.ref (a0 0)].toArray below meth c s.heap [] 0 0 (MQ below (vp_Sl post) [.ref (a0 0)].toArray s 0 0 (fun _ => False)) (F0 m 6 ls []) := by
    intro e124 k124 n
    induction n with
    | zero =>
      intro w1 z3 ls h
      exact h.elim
    | succ n ih =>
      intro w1 z3 ls h hl
      unfold wp_X6_digest_L6 at h
      refine lv_iload_n hx hb dX6_digest_6 rfl (lv_at hl 1 rfl) ?_
      refine lv_aload_n hx hb dX6_digest_7 rfl (lv_at hl 2 rfl) ?_
      refine fl_get (C := RX6) (T := TX6) (N := 7) (ci := 5) (v := .ref (a2 0)) hx hb ht in_X6 hown hK hP 0 rfl rfl 1 (by decide) mw_356 rfl dX6_digest_8 ?_
      refine vp_callSi (rd_wV (wc := bd_w a2 q s2) (As := []) (rest := [.int z3]) hx hb hml hown ht (c2_X0_cells h) wd_X0_cells mw_885 hQ hV va_S.rf (hP.sub [1, 2, 3, 4, 5, 6, 7, 8, 9, 10, 11, 12, 13] rfl) rfl rfl rfl hl.1 rfl (Nat.le_of_ble_eq_true rfl) dX6_digest_11 ⟨Nat.le_of_ble_eq_true rfl, Nat.le_of_ble_eq_true rfl, rfl, rfl⟩ ⟨Nat.le_of_ble_eq_true rfl, Nat.le_of_ble_eq_true rfl⟩) (fun r_1 h => ?_)
      try dsimp only at h
      refine lv_icmp_ge (tgt := 124) hx hb dX6_digest_14 (by decide) (fun c_3 => ?_) (fun c_3 => ?_)
      · replace h := h.1 c_3
        exact k124 _ _ ls h (lv_sub hl [0, 1, 2] rfl)
      · replace h := h.2 c_3
        refine lv_ldc2 (v := 31) hx hb hown (ht _ mw_1114) dX6_digest_17 ?_
        refine lv_lload_n hx hb dX6_digest_20 rfl (lv_at hl 0 rfl) ?_
        refine lv_lmul hx hb dX6_digest_21 ?_
        refine lv_aload_n hx hb dX6_digest_22 rfl (lv_at hl 2 rfl) ?_
        refine fl_get (C := RX6) (T := TX6) (N := 7) (ci := 5) (v := .ref (a2 0)) hx hb ht in_X6 hown hK hP 0 rfl rfl 1 (by decide) mw_356 rfl dX6_digest_23 ?_
        refine fl_get (C := RX0) (T := TX0) (N := 18) (ci := 0) (v := .ref (a2 4)) hx hb ht in_X0 hown hK hP 1 rfl rfl 9 (by decide) mw_193 rfl dX6_digest_26 ?_
        refine lv_iload_n hx hb dX6_digest_29 rfl (lv_at hl 1 rfl) ?_
        obtain ⟨g_4, h⟩ := h
        refine va_iald hx hb hK hP 5 0 rfl rfl g_4 dX6_digest_30 ?_
        refine lv_i2l (v := (Int32.toInt64 ((s2.2.1 3) (Int32.toNatClampNeg z3)))) hx hb dX6_digest_31 rfl ?_
        refine lv_ladd hx hb dX6_digest_32 ?_
        refine lv_lstore_n (lv' := [(1, .long ((31 * w1) + (Int32.toInt64 ((s2.2.1 3) (Int32.toNatClampNeg z3))))), (3, .int z3), (0, .ref (a0 0))]) hx hb dX6_digest_33 rfl hl (by decide) rfl (fun ls hl => ?_)
        refine lv_ldc2 (v := 31) hx hb hown (ht _ mw_1114) dX6_digest_34 ?_
        refine lv_lload_n hx hb dX6_digest_37 rfl (lv_at hl 0 rfl) ?_
        refine lv_lmul hx hb dX6_digest_38 ?_
        refine lv_aload_n hx hb dX6_digest_39 rfl (lv_at hl 2 rfl) ?_
        refine fl_get (C := RX6) (T := TX6) (N := 7) (ci := 5) (v := .ref (a2 0)) hx hb ht in_X6 hown hK hP 0 rfl rfl 1 (by decide) mw_356 rfl dX6_digest_40 ?_
        refine fl_get (C := RX0) (T := TX0) (N := 18) (ci := 0) (v := .ref (a2 5)) hx hb ht in_X0 hown hK hP 1 rfl rfl 10 (by decide) mw_195 rfl dX6_digest_43 ?_
        refine lv_iload_n hx hb dX6_digest_46 rfl (lv_at hl 1 rfl) ?_
        obtain ⟨g_5, h⟩ := h
        refine va_iald hx hb hK hP 6 0 rfl rfl g_5 dX6_digest_47 ?_
        refine lv_i2l (v := (Int32.toInt64 ((s2.2.1 4) (Int32.toNatClampNeg z3)))) hx hb dX6_digest_48 rfl ?_
        refine lv_ladd hx hb dX6_digest_49 ?_
        refine lv_lstore_n (lv' := [(1, .long ((31 * ((31 * w1) + (Int32.toInt64 ((s2.2.1 3) (Int32.toNatClampNeg z3))))) + (Int32.toInt64 ((s2.2.1 4) (Int32.toNatClampNeg z3))))), (3, .int z3), (0, .ref (a0 0))]) hx hb dX6_digest_50 rfl hl (by decide) rfl (fun ls hl => ?_)
        refine lv_ldc2 (v := 31) hx hb hown (ht _ mw_1114) dX6_digest_51 ?_
        refine lv_lload_n hx hb dX6_digest_54 rfl (lv_at hl 0 rfl) ?_
        refine lv_lmul hx hb dX6_digest_55 ?_
        refine lv_aload_n hx hb dX6_digest_56 rfl (lv_at hl 2 rfl) ?_
        refine fl_get (C := RX6) (T := TX6) (N := 7) (ci := 5) (v := .ref (a2 0)) hx hb ht in_X6 hown hK hP 0 rfl rfl 1 (by decide) mw_356 rfl dX6_digest_57 ?_
        refine fl_get (C := RX0) (T := TX0) (N := 18) (ci := 0) (v := .ref (a2 6)) hx hb ht in_X0 hown hK hP 1 rfl rfl 11 (by decide) mw_197 rfl dX6_digest_60 ?_
        refine lv_iload_n hx hb dX6_digest_63 rfl (lv_at hl 1 rfl) ?_
        obtain ⟨g_6, h⟩ := h
        refine va_iald hx hb hK hP 7 0 rfl rfl g_6 dX6_digest_64 ?_
        refine lv_i2l (v := (Int32.toInt64 ((s2.2.1 5) (Int32.toNatClampNeg z3)))) hx hb dX6_digest_65 rfl ?_
        refine lv_ladd hx hb dX6_digest_66 ?_
        refine lv_lstore_n (lv' := [(1, .long ((31 * ((31 * ((31 * w1) + (Int32.toInt64 ((s2.2.1 3) (Int32.toNatClampNeg z3))))) + (Int32.toInt64 ((s2.2.1 4) (Int32.toNatClampNeg z3))))) + (Int32.toInt64 ((s2.2.1 5) (Int32.toNatClampNeg z3))))), (3, .int z3), (0, .ref (a0 0))]) hx hb dX6_digest_67 rfl hl (by decide) rfl (fun ls hl => ?_)
        refine lv_ldc2 (v := 31) hx hb hown (ht _ mw_1114) dX6_digest_68 ?_
        refine lv_lload_n hx hb dX6_digest_71 rfl (lv_at hl 0 rfl) ?_
        refine lv_lmul hx hb dX6_digest_72 ?_
        refine lv_aload_n hx hb dX6_digest_73 rfl (lv_at hl 2 rfl) ?_
        refine fl_get (C := RX6) (T := TX6) (N := 7) (ci := 5) (v := .ref (a2 0)) hx hb ht in_X6 hown hK hP 0 rfl rfl 1 (by decide) mw_356 rfl dX6_digest_74 ?_
        refine fl_get (C := RX0) (T := TX0) (N := 18) (ci := 0) (v := .ref (a2 7)) hx hb ht in_X0 hown hK hP 1 rfl rfl 12 (by decide) mw_199 rfl dX6_digest_77 ?_
        refine lv_iload_n hx hb dX6_digest_80 rfl (lv_at hl 1 rfl) ?_
        obtain ⟨g_7, h⟩ := h
        refine va_iald hx hb hK hP 8 0 rfl rfl g_7 dX6_digest_81 ?_
        refine lv_i2l (v := (Int32.toInt64 ((s2.2.1 6) (Int32.toNatClampNeg z3)))) hx hb dX6_digest_82 rfl ?_
        refine lv_ladd hx hb dX6_digest_83 ?_
        refine lv_lstore_n (lv' := [(1, .long ((31 * ((31 * ((31 * ((31 * w1) + (Int32.toInt64 ((s2.2.1 3) (Int32.toNatClampNeg z3))))) + (Int32.toInt64 ((s2.2.1 4) (Int32.toNatClampNeg z3))))) + (Int32.toInt64 ((s2.2.1 5) (Int32.toNatClampNeg z3))))) + (Int32.toInt64 ((s2.2.1 6) (Int32.toNatClampNeg z3))))), (3, .int z3), (0, .ref (a0 0))]) hx hb dX6_digest_84 rfl hl (by decide) rfl (fun ls hl => ?_)
        refine lv_ldc2 (v := 31) hx hb hown (ht _ mw_1114) dX6_digest_85 ?_
        refine lv_lload_n hx hb dX6_digest_88 rfl (lv_at hl 0 rfl) ?_
        refine lv_lmul hx hb dX6_digest_89 ?_
        refine lv_aload_n hx hb dX6_digest_90 rfl (lv_at hl 2 rfl) ?_
        refine fl_get (C := RX6) (T := TX6) (N := 7) (ci := 5) (v := .ref (a2 0)) hx hb ht in_X6 hown hK hP 0 rfl rfl 1 (by decide) mw_356 rfl dX6_digest_91 ?_
        refine fl_get (C := RX0) (T := TX0) (N := 18) (ci := 0) (v := .ref (a2 8)) hx hb ht in_X0 hown hK hP 1 rfl rfl 13 (by decide) mw_201 rfl dX6_digest_94 ?_
        refine lv_iload_n hx hb dX6_digest_97 rfl (lv_at hl 1 rfl) ?_
        obtain ⟨g_8, h⟩ := h
        refine va_iald hx hb hK hP 9 0 rfl rfl g_8 dX6_digest_98 ?_
        refine lv_i2l (v := (Int32.toInt64 ((s2.2.1 7) (Int32.toNatClampNeg z3)))) hx hb dX6_digest_99 rfl ?_
        refine lv_ladd hx hb dX6_digest_100 ?_
        refine lv_lstore_n (lv' := [(1, .long ((31 * ((31 * ((31 * ((31 * ((31 * w1) + (Int32.toInt64 ((s2.2.1 3) (Int32.toNatClampNeg z3))))) + (Int32.toInt64 ((s2.2.1 4) (Int32.toNatClampNeg z3))))) + (Int32.toInt64 ((s2.2.1 5) (Int32.toNatClampNeg z3))))) + (Int32.toInt64 ((s2.2.1 6) (Int32.toNatClampNeg z3))))) + (Int32.toInt64 ((s2.2.1 7) (Int32.toNatClampNeg z3))))), (3, .int z3), (0, .ref (a0 0))]) hx hb dX6_digest_101 rfl hl (by decide) rfl (fun ls hl => ?_)
        refine lv_ldc2 (v := 31) hx hb hown (ht _ mw_1114) dX6_digest_102 ?_
        refine lv_lload_n hx hb dX6_digest_105 rfl (lv_at hl 0 rfl) ?_
        refine lv_lmul hx hb dX6_digest_106 ?_
        refine lv_aload_n hx hb dX6_digest_107 rfl (lv_at hl 2 rfl) ?_
        refine fl_get (C := RX6) (T := TX6) (N := 7) (ci := 5) (v := .ref (a2 0)) hx hb ht in_X6 hown hK hP 0 rfl rfl 1 (by decide) mw_356 rfl dX6_digest_108 ?_
        refine fl_get (C := RX0) (T := TX0) (N := 18) (ci := 0) (v := .ref (a2 11)) hx hb ht in_X0 hown hK hP 1 rfl rfl 16 (by decide) mw_207 rfl dX6_digest_111 ?_
        refine lv_iload_n hx hb dX6_digest_114 rfl (lv_at hl 1 rfl) ?_
        obtain ⟨g_9, h⟩ := h
        refine va_lald hx hb hK hP 12 1 rfl rfl g_9 dX6_digest_115 ?_
        refine lv_ladd hx hb dX6_digest_116 ?_
        refine lv_lstore_n (lv' := [(1, .long ((31 * ((31 * ((31 * ((31 * ((31 * ((31 * w1) + (Int32.toInt64 ((s2.2.1 3) (Int32.toNatClampNeg z3))))) + (Int32.toInt64 ((s2.2.1 4) (Int32.toNatClampNeg z3))))) + (Int32.toInt64 ((s2.2.1 5) (Int32.toNatClampNeg z3))))) + (Int32.toInt64 ((s2.2.1 6) (Int32.toNatClampNeg z3))))) + (Int32.toInt64 ((s2.2.1 7) (Int32.toNatClampNeg z3))))) + (s2.2.2.1 (Int32.toNatClampNeg z3)))), (3, .int z3), (0, .ref (a0 0))]) hx hb dX6_digest_117 rfl hl (by decide) rfl (fun ls hl => ?_)
        refine lv_iinc (v := (z3 + 1)) (lv' := [(3, .int (z3 + 1)), (1, .long ((31 * ((31 * ((31 * ((31 * ((31 * ((31 * w1) + (Int32.toInt64 ((s2.2.1 3) (Int32.toNatClampNeg z3))))) + (Int32.toInt64 ((s2.2.1 4) (Int32.toNatClampNeg z3))))) + (Int32.toInt64 ((s2.2.1 5) (Int32.toNatClampNeg z3))))) + (Int32.toInt64 ((s2.2.1 6) (Int32.toNatClampNeg z3))))) + (Int32.toInt64 ((s2.2.1 7) (Int32.toNatClampNeg z3))))) + (s2.2.2.1 (Int32.toNatClampNeg z3)))), (0, .ref (a0 0))]) hx hb dX6_digest_118 hl (k := 1) rfl rfl (by decide) rfl (fun ls hl => ?_)
        refine lv_goto (tgt := 6) hx hb dX6_digest_121 (by decide) ?_
        exact ih _ _ ls h (lv_sub hl [1, 0, 2] rfl)
  obtain ⟨n6, h⟩ := h
  refine lp6 _ ?_ n6 _ _ ls h (lv_sub hl [1, 0, 2] rfl)
  · intro w1 z3 ls h hl
    try dsimp only at h
    refine lv_lload_n hx hb dX6_digest_124 rfl (lv_at hl 0 rfl) ?_
    exact rd_lret hx hb hr hk h dX6_digest_125

def wp_X7_in (post : Int32 → Prop) (y0 : Int64) (y2 : Int64) (y4 : Int64) : Prop := (((lg_cmp y0 y2) < 0 → post 0) ∧ (¬ (lg_cmp y0 y2) < 0 → ((0 < (lg_cmp y0 y4) → post 0) ∧ (¬ 0 < (lg_cmp y0 y4) → post 1))))
set_option maxHeartbeats 4000000 in
set_option maxRecDepth 100000 in
theorem c2_X7_in {l : Launch} {D : va_G} {q : Nat → ClassId} {y0 : Int64} {y2 : Int64} {y4 : Int64} {post : Int32 → Prop} (h : wp_X7_in post y0 y2 y4) : Met l yX7_in (Cond.code yX7_in cX7_in 6 (some .boolean) :: w_all) ({ frames := 0, cells := 0, slots := 0, locals := 0 } : Room) (rd_P D q [.long y0, .long y2, .long y4] (([] : va_W))) (vp_Si post) 0 0 (fun _ => False) := by
  refine rd_start (by decide) (Nat.le_of_ble_eq_true rfl) ?_
  intro p e s m below meth c ls hx hb hr hml hown ht hk hP hQ hV hl
  have hK := hQ.1
  have hown : s.vm.findClass RX7 = some m.cls := hown
  have hl : lv_has ls 6 [(0, .long y0), (2, .long y2), (4, .long y4)] := hl
  unfold wp_X7_in at h
  refine lv_lload_n hx hb dX7_in_0 rfl (lv_at hl 0 rfl) ?_
  refine lv_lload_n hx hb dX7_in_1 rfl (lv_at hl 1 rfl) ?_
  refine W.lcmp hx hb dX7_in_2 ?_
  refine lv_if_lt (tgt := 17) hx hb dX7_in_3 (by decide) (fun c_1 => ?_) (fun c_1 => ?_)
  · replace h := h.1 c_1
    refine lv_iconst (v := 0) hx hb dX7_in_17 (by decide) ?_
    exact rd_zret hx hb hr hk rfl h dX7_in_18
  · replace h := h.2 c_1
    refine lv_lload_n hx hb dX7_in_6 rfl (lv_at hl 0 rfl) ?_
    refine lv_lload hx hb dX7_in_7 (lv_at hl 2 rfl) ?_
    refine W.lcmp hx hb dX7_in_9 ?_
    refine lv_if_gt (tgt := 17) hx hb dX7_in_10 (by decide) (fun c_2 => ?_) (fun c_2 => ?_)
    · replace h := h.1 c_2
      refine lv_iconst (v := 0) hx hb dX7_in_17 (by decide) ?_
      exact rd_zret hx hb hr hk rfl h dX7_in_18
    · replace h := h.2 c_2
      refine lv_iconst (v := 1) hx hb dX7_in_13 (by decide) ?_
      refine lv_goto (tgt := 18) hx hb dX7_in_14 (by decide) ?_
      exact rd_zret hx hb hr hk rfl h dX7_in_18

def wp_X7_isIn (post : Int32 → Prop) (y0 : Int64) (x2 : Int32) : Prop := ((¬ (lg_cmp ((((y0).toUInt64 >>> ((Int32.toInt64 x2).toUInt64 &&& Int64.toUInt64 63)).toInt64) &&& 1) 1) = 0 → post 0) ∧ ((lg_cmp ((((y0).toUInt64 >>> ((Int32.toInt64 x2).toUInt64 &&& Int64.toUInt64 63)).toInt64) &&& 1) 1) = 0 → post 1))
set_option maxHeartbeats 4000000 in
set_option maxRecDepth 100000 in
theorem c2_X7_isIn {l : Launch} {D : va_G} {q : Nat → ClassId} {y0 : Int64} {x2 : Int32} {post : Int32 → Prop} (h : wp_X7_isIn post y0 x2) : Met l yX7_isIn (Cond.code yX7_isIn cX7_isIn 3 (some .boolean) :: w_all) ({ frames := 0, cells := 0, slots := 0, locals := 0 } : Room) (rd_P D q [.long y0, .int x2] (([] : va_W))) (vp_Si post) 0 0 (fun _ => False) := by
  refine rd_start (by decide) (Nat.le_of_ble_eq_true rfl) ?_
  intro p e s m below meth c ls hx hb hr hml hown ht hk hP hQ hV hl
  have hK := hQ.1
  have hown : s.vm.findClass RX7 = some m.cls := hown
  have hl : lv_has ls 3 [(0, .long y0), (2, .int x2)] := hl
  unfold wp_X7_isIn at h
  refine lv_lload_n hx hb dX7_isIn_0 rfl (lv_at hl 0 rfl) ?_
  refine lv_iload_n hx hb dX7_isIn_1 rfl (lv_at hl 1 rfl) ?_
  refine lv_lushr (v := (((y0).toUInt64 >>> ((Int32.toInt64 x2).toUInt64 &&& Int64.toUInt64 63)).toInt64)) hx hb dX7_isIn_2 rfl ?_
  refine lv_lconst (v := 1) hx hb dX7_isIn_3 (by decide) ?_
  refine lv_land hx hb dX7_isIn_4 ?_
  refine lv_lconst (v := 1) hx hb dX7_isIn_5 (by decide) ?_
  refine W.lcmp hx hb dX7_isIn_6 ?_
  refine lv_if_ne (tgt := 14) hx hb dX7_isIn_7 (by decide) (fun c_1 => ?_) (fun c_1 => ?_)
  · replace h := h.1 c_1
    refine lv_iconst (v := 0) hx hb dX7_isIn_14 (by decide) ?_
    exact rd_zret hx hb hr hk rfl h dX7_isIn_15
  · replace h := h.2 c_1
    refine lv_iconst (v := 1) hx hb dX7_isIn_10 (by decide) ?_
    refine lv_goto (tgt := 15) hx hb dX7_isIn_11 (by decide) ?_
    exact rd_zret hx hb hr hk rfl h dX7_isIn_15

def wp_X7_isSign (post : Int32 → Prop) (x0 : Int32) : Prop := wp_X7_in (fun r_1 => ((r_1 = 0 → post 0) ∧ (¬ r_1 = 0 → ((x0 = 39 → post 0) ∧ (¬ x0 = 39 → post 1))))) (Int32.toInt64 x0) (32 : Int64) (126 : Int64)
set_option maxHeartbeats 4000000 in
set_option maxRecDepth 100000 in
theorem c2_X7_isSign {l : Launch} {D : va_G} {q : Nat → ClassId} {x0 : Int32} {post : Int32 → Prop} (h : wp_X7_isSign post x0) : Met l yX7_isSign (Cond.code yX7_isSign cX7_isSign 1 (some .boolean) :: w_all) ({ frames := 1, cells := 0, slots := 0, locals := 25 } : Room) (rd_P D q [.int x0] (([] : va_W))) (vp_Si post) 0 0 (fun _ => False) := by
  refine rd_start (by decide) (Nat.le_of_ble_eq_true rfl) ?_
  intro p e s m below meth c ls hx hb hr hml hown ht hk hP hQ hV hl
  have hK := hQ.1
  have hown : s.vm.findClass RX7 = some m.cls := hown
  have hl : lv_has ls 1 [(0, .int x0)] := hl
  unfold wp_X7_isSign at h
  refine lv_iload_n hx hb dX7_isSign_0 rfl (lv_at hl 0 rfl) ?_
  refine lv_i2l (v := (Int32.toInt64 x0)) hx hb dX7_isSign_1 rfl ?_
  refine lv_ldc2 (v := 32) hx hb hown (ht _ mw_1231) dX7_isSign_2 ?_
  refine lv_ldc2 (v := 126) hx hb hown (ht _ mw_1232) dX7_isSign_5 ?_
  refine vp_callSi (rd_wS (wc := ([] : va_W)) (As := [.long (Int32.toInt64 x0), .long 32, .long 126]) (rest := []) hx hb hml hown ht (c2_X7_in h) wd_X7_in mw_1213 hQ hV va_S.rf (hP.sub [] rfl) rfl hl.1 rfl (Nat.le_of_ble_eq_true rfl) dX7_isSign_8 ⟨Nat.le_of_ble_eq_true rfl, Nat.le_of_ble_eq_true rfl, rfl, rfl⟩ ⟨Nat.le_of_ble_eq_true rfl, Nat.le_of_ble_eq_true rfl⟩) (fun r_1 h => ?_)
  try dsimp only at h
  refine lv_if_eq (tgt := 24) hx hb dX7_isSign_11 (by decide) (fun c_3 => ?_) (fun c_3 => ?_)
  · replace h := h.1 c_3
    refine lv_iconst (v := 0) hx hb dX7_isSign_24 (by decide) ?_
    exact rd_zret hx hb hr hk rfl h dX7_isSign_25
  · replace h := h.2 c_3
    refine lv_iload_n hx hb dX7_isSign_14 rfl (lv_at hl 0 rfl) ?_
    refine lv_bipush (v := 39) hx hb dX7_isSign_15 (by decide) ?_
    refine lv_icmp_eq (tgt := 24) hx hb dX7_isSign_17 (by decide) (fun c_4 => ?_) (fun c_4 => ?_)
    · replace h := h.1 c_4
      refine lv_iconst (v := 0) hx hb dX7_isSign_24 (by decide) ?_
      exact rd_zret hx hb hr hk rfl h dX7_isSign_25
    · replace h := h.2 c_4
      refine lv_iconst (v := 1) hx hb dX7_isSign_20 (by decide) ?_
      refine lv_goto (tgt := 25) hx hb dX7_isSign_21 (by decide) ?_
      exact rd_zret hx hb hr hk rfl h dX7_isSign_25

def wp_X7_rows (post : Int32 → Prop) (s0 : Md) : Prop := post (Int64.toInt32 ((s0.2.2.1 0) (Int32.toNatClampNeg 0)))
set_option maxHeartbeats 4000000 in
set_option maxRecDepth 100000 in
theorem c2_X7_rows {l : Launch} {D : va_G} {q : Nat → ClassId} {a0 : Nat → Nat} {s0 : Md} {post : Int32 → Prop} (h : wp_X7_rows post s0) : Met l yX7_rows (Cond.code yX7_rows cX7_rows 1 (some .int) :: w_all) ({ frames := 0, cells := 0, slots := 0, locals := 0 } : Room) (rd_P D q [.ref (a0 0)] (md_v a0 q s0)) (vp_Si post) 0 0 (fun _ => False) := by
  refine rd_start (by decide) (Nat.le_of_ble_eq_true rfl) ?_
  intro p e s m below meth c ls hx hb hr hml hown ht hk hP hQ hV hl
  have hK := hQ.1
  have hown : s.vm.findClass RX7 = some m.cls := hown
  have hl : lv_has ls 1 [(0, .ref (a0 0))] := hl
  have hP : va_P D vwCl [((a0 0), .inr (6, [.ref (a0 1), .ref (a0 2), .int (s0.1 0), .ref (a0 3), .ref (a0 5), .ref (a0 4), .long s0.2.1, .int (s0.1 1), .int (s0.1 2), .ref (a0 6), .int (s0.1 3), .int (s0.1 4), .ref (a0 7), .int (s0.1 5), .int (s0.1 6), .int (s0.1 7), .int (s0.1 8), .int (s0.1 9), .int (s0.1 10), .int (s0.1 11), .int (s0.1 12), .int (s0.1 13), .int (s0.1 14)])), ((a0 1), .inl (q 1, 6896, .inr (.inl (s0.2.2.1 0)))), ((a0 2), .inl (q 1, 68960, .inr (.inl (s0.2.2.1 1)))), ((a0 3), .inl (q 1, 13792, .inr (.inl (s0.2.2.1 2)))), ((a0 4), .inl (q 1, 6896, .inr (.inl (s0.2.2.1 3)))), ((a0 5), .inl (q 3, 2, .inl (s0.2.2.2 0))), ((a0 6), .inl (q 0, 40, .inl (s0.2.2.2 1))), ((a0 7), .inl (q 2, 400, .inl (s0.2.2.2 2)))] s.heap := hP
  unfold wp_X7_rows at h
  refine lv_aload_n hx hb dX7_rows_0 rfl (lv_at hl 0 rfl) ?_
  refine fl_get (C := RX7) (T := TX7) (N := 23) (ci := 6) (v := .ref (a0 1)) hx hb ht in_X7 hown hK hP 0 rfl rfl 0 (by decide) mw_1130 rfl dX7_rows_1 ?_
  refine lv_iconst (v := 0) hx hb dX7_rows_4 (by decide) ?_
  refine va_lald hx hb hK hP 1 1 rfl rfl (in_c rfl) dX7_rows_5 ?_
  refine lv_l2i (v := (Int64.toInt32 ((s0.2.2.1 0) (Int32.toNatClampNeg 0)))) hx hb dX7_rows_6 rfl ?_
  exact rd_iret hx hb hr hk h dX7_rows_7

def wp_X7_wide (post : Int32 → Prop) (s0 : Md) : Prop := post (Int64.toInt32 ((s0.2.2.1 0) (Int32.toNatClampNeg 1)))
set_option maxHeartbeats 4000000 in
set_option maxRecDepth 100000 in
theorem c2_X7_wide {l : Launch} {D : va_G} {q : Nat → ClassId} {a0 : Nat → Nat} {s0 : Md} {post : Int32 → Prop} (h : wp_X7_wide post s0) : Met l yX7_wide (Cond.code yX7_wide cX7_wide 1 (some .int) :: w_all) ({ frames := 0, cells := 0, slots := 0, locals := 0 } : Room) (rd_P D q [.ref (a0 0)] (md_v a0 q s0)) (vp_Si post) 0 0 (fun _ => False) := by
  refine rd_start (by decide) (Nat.le_of_ble_eq_true rfl) ?_
  intro p e s m below meth c ls hx hb hr hml hown ht hk hP hQ hV hl
  have hK := hQ.1
  have hown : s.vm.findClass RX7 = some m.cls := hown
  have hl : lv_has ls 1 [(0, .ref (a0 0))] := hl
  have hP : va_P D vwCl [((a0 0), .inr (6, [.ref (a0 1), .ref (a0 2), .int (s0.1 0), .ref (a0 3), .ref (a0 5), .ref (a0 4), .long s0.2.1, .int (s0.1 1), .int (s0.1 2), .ref (a0 6), .int (s0.1 3), .int (s0.1 4), .ref (a0 7), .int (s0.1 5), .int (s0.1 6), .int (s0.1 7), .int (s0.1 8), .int (s0.1 9), .int (s0.1 10), .int (s0.1 11), .int (s0.1 12), .int (s0.1 13), .int (s0.1 14)])), ((a0 1), .inl (q 1, 6896, .inr (.inl (s0.2.2.1 0)))), ((a0 2), .inl (q 1, 68960, .inr (.inl (s0.2.2.1 1)))), ((a0 3), .inl (q 1, 13792, .inr (.inl (s0.2.2.1 2)))), ((a0 4), .inl (q 1, 6896, .inr (.inl (s0.2.2.1 3)))), ((a0 5), .inl (q 3, 2, .inl (s0.2.2.2 0))), ((a0 6), .inl (q 0, 40, .inl (s0.2.2.2 1))), ((a0 7), .inl (q 2, 400, .inl (s0.2.2.2 2)))] s.heap := hP
  unfold wp_X7_wide at h
  refine lv_aload_n hx hb dX7_wide_0 rfl (lv_at hl 0 rfl) ?_
  refine fl_get (C := RX7) (T := TX7) (N := 23) (ci := 6) (v := .ref (a0 1)) hx hb ht in_X7 hown hK hP 0 rfl rfl 0 (by decide) mw_1130 rfl dX7_wide_1 ?_
  refine lv_iconst (v := 1) hx hb dX7_wide_4 (by decide) ?_
  refine va_lald hx hb hK hP 1 1 rfl rfl (in_c rfl) dX7_wide_5 ?_
  refine lv_l2i (v := (Int64.toInt32 ((s0.2.2.1 0) (Int32.toNatClampNeg 1)))) hx hb dX7_wide_6 rfl ?_
  exact rd_iret hx hb hr hk h dX7_wide_7

def wp_X7_cells (post : Int32 → Prop) (s0 : Md) : Prop := wp_X7_rows (fun r_1 => wp_X7_wide (fun r_3 => post (r_1 * r_3)) s0) s0
set_option maxHeartbeats 4000000 in
set_option maxRecDepth 100000 in
theorem c2_X7_cells {l : Launch} {D : va_G} {q : Nat → ClassId} {a0 : Nat → Nat} {s0 : Md} {post : Int32 → Prop} (h : wp_X7_cells post s0) : Met l yX7_cells (Cond.code yX7_cells cX7_cells 1 (some .int) :: w_all) ({ frames := 1, cells := 0, slots := 0, locals := 20 } : Room) (rd_P D q [.ref (a0 0)] (md_v a0 q s0)) (vp_Si post) 0 0 (fun _ => False) := by
  refine rd_start (by decide) (Nat.le_of_ble_eq_true rfl) ?_
  intro p e s m below meth c ls hx hb hr hml hown ht hk hP hQ hV hl
  have hK := hQ.1
  have hown : s.vm.findClass RX7 = some m.cls := hown
  have hl : lv_has ls 1 [(0, .ref (a0 0))] := hl
  have hP : va_P D vwCl [((a0 0), .inr (6, [.ref (a0 1), .ref (a0 2), .int (s0.1 0), .ref (a0 3), .ref (a0 5), .ref (a0 4), .long s0.2.1, .int (s0.1 1), .int (s0.1 2), .ref (a0 6), .int (s0.1 3), .int (s0.1 4), .ref (a0 7), .int (s0.1 5), .int (s0.1 6), .int (s0.1 7), .int (s0.1 8), .int (s0.1 9), .int (s0.1 10), .int (s0.1 11), .int (s0.1 12), .int (s0.1 13), .int (s0.1 14)])), ((a0 1), .inl (q 1, 6896, .inr (.inl (s0.2.2.1 0)))), ((a0 2), .inl (q 1, 68960, .inr (.inl (s0.2.2.1 1)))), ((a0 3), .inl (q 1, 13792, .inr (.inl (s0.2.2.1 2)))), ((a0 4), .inl (q 1, 6896, .inr (.inl (s0.2.2.1 3)))), ((a0 5), .inl (q 3, 2, .inl (s0.2.2.2 0))), ((a0 6), .inl (q 0, 40, .inl (s0.2.2.2 1))), ((a0 7), .inl (q 2, 400, .inl (s0.2.2.2 2)))] s.heap := hP
  unfold wp_X7_cells at h
  refine lv_aload_n hx hb dX7_cells_0 rfl (lv_at hl 0 rfl) ?_
  refine vp_callSi (rd_wV (wc := md_v a0 q s0) (As := []) (rest := []) hx hb hml hown ht (c2_X7_rows h) wd_X7_rows mw_1209 hQ hV va_S.rf (hP.sub [0, 1, 2, 3, 4, 5, 6, 7] rfl) rfl rfl rfl hl.1 rfl (Nat.le_of_ble_eq_true rfl) dX7_cells_1 ⟨Nat.le_of_ble_eq_true rfl, Nat.le_of_ble_eq_true rfl, rfl, rfl⟩ ⟨Nat.le_of_ble_eq_true rfl, Nat.le_of_ble_eq_true rfl⟩) (fun r_1 h => ?_)
  try dsimp only at h
  refine lv_aload_n hx hb dX7_cells_4 rfl (lv_at hl 0 rfl) ?_
  refine vp_callSi (rd_wV (wc := md_v a0 q s0) (As := []) (rest := [.int r_1]) hx hb hml hown ht (c2_X7_wide h) wd_X7_wide mw_1220 hQ hV va_S.rf (hP.sub [0, 1, 2, 3, 4, 5, 6, 7] rfl) rfl rfl rfl hl.1 rfl (Nat.le_of_ble_eq_true rfl) dX7_cells_5 ⟨Nat.le_of_ble_eq_true rfl, Nat.le_of_ble_eq_true rfl, rfl, rfl⟩ ⟨Nat.le_of_ble_eq_true rfl, Nat.le_of_ble_eq_true rfl⟩) (fun r_3 h => ?_)
  try dsimp only at h
  refine lv_imul hx hb dX7_cells_8 ?_
  exact rd_iret hx hb hr hk h dX7_cells_9

def wp_X7_drums (post : Int32 → Prop) (s0 : Md) : Prop := post (Int64.toInt32 ((s0.2.2.1 0) (Int32.toNatClampNeg 3)))
set_option maxHeartbeats 4000000 in
set_option maxRecDepth 100000 in
theorem c2_X7_drums {l : Launch} {D : va_G} {q : Nat → ClassId} {a0 : Nat → Nat} {s0 : Md} {post : Int32 → Prop} (h : wp_X7_drums post s0) : Met l yX7_drums (Cond.code yX7_drums cX7_drums 1 (some .int) :: w_all) ({ frames := 0, cells := 0, slots := 0, locals := 0 } : Room) (rd_P D q [.ref (a0 0)] (md_v a0 q s0)) (vp_Si post) 0 0 (fun _ => False) := by
  refine rd_start (by decide) (Nat.le_of_ble_eq_true rfl) ?_
  intro p e s m below meth c ls hx hb hr hml hown ht hk hP hQ hV hl
  have hK := hQ.1
  have hown : s.vm.findClass RX7 = some m.cls := hown
  have hl : lv_has ls 1 [(0, .ref (a0 0))] := hl
  have hP : va_P D vwCl [((a0 0), .inr (6, [.ref (a0 1), .ref (a0 2), .int (s0.1 0), .ref (a0 3), .ref (a0 5), .ref (a0 4), .long s0.2.1, .int (s0.1 1), .int (s0.1 2), .ref (a0 6), .int (s0.1 3), .int (s0.1 4), .ref (a0 7), .int (s0.1 5), .int (s0.1 6), .int (s0.1 7), .int (s0.1 8), .int (s0.1 9), .int (s0.1 10), .int (s0.1 11), .int (s0.1 12), .int (s0.1 13), .int (s0.1 14)])), ((a0 1), .inl (q 1, 6896, .inr (.inl (s0.2.2.1 0)))), ((a0 2), .inl (q 1, 68960, .inr (.inl (s0.2.2.1 1)))), ((a0 3), .inl (q 1, 13792, .inr (.inl (s0.2.2.1 2)))), ((a0 4), .inl (q 1, 6896, .inr (.inl (s0.2.2.1 3)))), ((a0 5), .inl (q 3, 2, .inl (s0.2.2.2 0))), ((a0 6), .inl (q 0, 40, .inl (s0.2.2.2 1))), ((a0 7), .inl (q 2, 400, .inl (s0.2.2.2 2)))] s.heap := hP
  unfold wp_X7_drums at h
  refine lv_aload_n hx hb dX7_drums_0 rfl (lv_at hl 0 rfl) ?_
  refine fl_get (C := RX7) (T := TX7) (N := 23) (ci := 6) (v := .ref (a0 1)) hx hb ht in_X7 hown hK hP 0 rfl rfl 0 (by decide) mw_1130 rfl dX7_drums_1 ?_
  refine lv_iconst (v := 3) hx hb dX7_drums_4 (by decide) ?_
  refine va_lald hx hb hK hP 1 1 rfl rfl (in_c rfl) dX7_drums_5 ?_
  refine lv_l2i (v := (Int64.toInt32 ((s0.2.2.1 0) (Int32.toNatClampNeg 3)))) hx hb dX7_drums_6 rfl ?_
  exact rd_iret hx hb hr hk h dX7_drums_7

def wp_X7_isBoard (post : Int32 → Prop) (s0 : Md) : Prop := wp_X7_drums (fun r_1 => ((r_1 ≤ 0 → post 0) ∧ (¬ r_1 ≤ 0 → post 1))) s0
set_option maxHeartbeats 4000000 in
set_option maxRecDepth 100000 in
theorem c2_X7_isBoard {l : Launch} {D : va_G} {q : Nat → ClassId} {a0 : Nat → Nat} {s0 : Md} {post : Int32 → Prop} (h : wp_X7_isBoard post s0) : Met l yX7_isBoard (Cond.code yX7_isBoard cX7_isBoard 1 (some .boolean) :: w_all) ({ frames := 1, cells := 0, slots := 0, locals := 20 } : Room) (rd_P D q [.ref (a0 0)] (md_v a0 q s0)) (vp_Si post) 0 0 (fun _ => False) := by
  refine rd_start (by decide) (Nat.le_of_ble_eq_true rfl) ?_
  intro p e s m below meth c ls hx hb hr hml hown ht hk hP hQ hV hl
  have hK := hQ.1
  have hown : s.vm.findClass RX7 = some m.cls := hown
  have hl : lv_has ls 1 [(0, .ref (a0 0))] := hl
  have hP : va_P D vwCl [((a0 0), .inr (6, [.ref (a0 1), .ref (a0 2), .int (s0.1 0), .ref (a0 3), .ref (a0 5), .ref (a0 4), .long s0.2.1, .int (s0.1 1), .int (s0.1 2), .ref (a0 6), .int (s0.1 3), .int (s0.1 4), .ref (a0 7), .int (s0.1 5), .int (s0.1 6), .int (s0.1 7), .int (s0.1 8), .int (s0.1 9), .int (s0.1 10), .int (s0.1 11), .int (s0.1 12), .int (s0.1 13), .int (s0.1 14)])), ((a0 1), .inl (q 1, 6896, .inr (.inl (s0.2.2.1 0)))), ((a0 2), .inl (q 1, 68960, .inr (.inl (s0.2.2.1 1)))), ((a0 3), .inl (q 1, 13792, .inr (.inl (s0.2.2.1 2)))), ((a0 4), .inl (q 1, 6896, .inr (.inl (s0.2.2.1 3)))), ((a0 5), .inl (q 3, 2, .inl (s0.2.2.2 0))), ((a0 6), .inl (q 0, 40, .inl (s0.2.2.2 1))), ((a0 7), .inl (q 2, 400, .inl (s0.2.2.2 2)))] s.heap := hP
  unfold wp_X7_isBoard at h
  refine lv_aload_n hx hb dX7_isBoard_0 rfl (lv_at hl 0 rfl) ?_
  refine vp_callSi (rd_wV (wc := md_v a0 q s0) (As := []) (rest := []) hx hb hml hown ht (c2_X7_drums h) wd_X7_drums mw_1287 hQ hV va_S.rf (hP.sub [0, 1, 2, 3, 4, 5, 6, 7] rfl) rfl rfl rfl hl.1 rfl (Nat.le_of_ble_eq_true rfl) dX7_isBoard_1 ⟨Nat.le_of_ble_eq_true rfl, Nat.le_of_ble_eq_true rfl, rfl, rfl⟩ ⟨Nat.le_of_ble_eq_true rfl, Nat.le_of_ble_eq_true rfl⟩) (fun r_1 h => ?_)
  try dsimp only at h
  refine lv_if_le (tgt := 11) hx hb dX7_isBoard_4 (by decide) (fun c_3 => ?_) (fun c_3 => ?_)
  · replace h := h.1 c_3
    refine lv_iconst (v := 0) hx hb dX7_isBoard_11 (by decide) ?_
    exact rd_zret hx hb hr hk rfl h dX7_isBoard_12
  · replace h := h.2 c_3
    refine lv_iconst (v := 1) hx hb dX7_isBoard_7 (by decide) ?_
    refine lv_goto (tgt := 12) hx hb dX7_isBoard_8 (by decide) ?_
    exact rd_zret hx hb hr hk rfl h dX7_isBoard_12

def wp_X7_isCell (post : Int32 → Prop) (s0 : Md) (x1 : Int32) : Prop := wp_X7_cells (fun r_1 => wp_X7_in (fun r_3 => narrow .boolean (.int r_3) = .int r_3 ∧ post r_3) (Int32.toInt64 x1) (0 : Int64) (Int32.toInt64 (r_1 - 1))) s0
set_option maxHeartbeats 4000000 in
set_option maxRecDepth 100000 in
theorem c2_X7_isCell {l : Launch} {D : va_G} {q : Nat → ClassId} {a0 : Nat → Nat} {s0 : Md} {x1 : Int32} {post : Int32 → Prop} (h : wp_X7_isCell post s0 x1) : Met l yX7_isCell (Cond.code yX7_isCell cX7_isCell 2 (some .boolean) :: w_all) ({ frames := 2, cells := 0, slots := 0, locals := 40 } : Room) (rd_P D q [.ref (a0 0), .int x1] (md_v a0 q s0)) (vp_Si post) 0 0 (fun _ => False) := by
  refine rd_start (by decide) (Nat.le_of_ble_eq_true rfl) ?_
  intro p e s m below meth c ls hx hb hr hml hown ht hk hP hQ hV hl
  have hK := hQ.1
  have hown : s.vm.findClass RX7 = some m.cls := hown
  have hl : lv_has ls 2 [(0, .ref (a0 0)), (1, .int x1)] := hl
  have hP : va_P D vwCl [((a0 0), .inr (6, [.ref (a0 1), .ref (a0 2), .int (s0.1 0), .ref (a0 3), .ref (a0 5), .ref (a0 4), .long s0.2.1, .int (s0.1 1), .int (s0.1 2), .ref (a0 6), .int (s0.1 3), .int (s0.1 4), .ref (a0 7), .int (s0.1 5), .int (s0.1 6), .int (s0.1 7), .int (s0.1 8), .int (s0.1 9), .int (s0.1 10), .int (s0.1 11), .int (s0.1 12), .int (s0.1 13), .int (s0.1 14)])), ((a0 1), .inl (q 1, 6896, .inr (.inl (s0.2.2.1 0)))), ((a0 2), .inl (q 1, 68960, .inr (.inl (s0.2.2.1 1)))), ((a0 3), .inl (q 1, 13792, .inr (.inl (s0.2.2.1 2)))), ((a0 4), .inl (q 1, 6896, .inr (.inl (s0.2.2.1 3)))), ((a0 5), .inl (q 3, 2, .inl (s0.2.2.2 0))), ((a0 6), .inl (q 0, 40, .inl (s0.2.2.2 1))), ((a0 7), .inl (q 2, 400, .inl (s0.2.2.2 2)))] s.heap := hP
  unfold wp_X7_isCell at h
  refine lv_iload_n hx hb dX7_isCell_0 rfl (lv_at hl 1 rfl) ?_
  refine lv_i2l (v := (Int32.toInt64 x1)) hx hb dX7_isCell_1 rfl ?_
  refine lv_lconst (v := 0) hx hb dX7_isCell_2 (by decide) ?_
  refine lv_aload_n hx hb dX7_isCell_3 rfl (lv_at hl 0 rfl) ?_
  refine vp_callSi (rd_wV (wc := md_v a0 q s0) (As := []) (rest := [.long 0, .long (Int32.toInt64 x1)]) hx hb hml hown ht (c2_X7_cells h) wd_X7_cells mw_1295 hQ hV va_S.rf (hP.sub [0, 1, 2, 3, 4, 5, 6, 7] rfl) rfl rfl rfl hl.1 rfl (Nat.le_of_ble_eq_true rfl) dX7_isCell_4 ⟨Nat.le_of_ble_eq_true rfl, Nat.le_of_ble_eq_true rfl, rfl, rfl⟩ ⟨Nat.le_of_ble_eq_true rfl, Nat.le_of_ble_eq_true rfl⟩) (fun r_1 h => ?_)
  try dsimp only at h
  refine lv_iconst (v := 1) hx hb dX7_isCell_7 (by decide) ?_
  refine lv_isub hx hb dX7_isCell_8 ?_
  refine lv_i2l (v := (Int32.toInt64 (r_1 - 1))) hx hb dX7_isCell_9 rfl ?_
  refine vp_callSi (rd_wS (wc := ([] : va_W)) (As := [.long (Int32.toInt64 x1), .long 0, .long (Int32.toInt64 (r_1 - 1))]) (rest := []) hx hb hml hown ht (c2_X7_in h) wd_X7_in mw_1213 hQ hV va_S.rf (hP.sub [] rfl) rfl hl.1 rfl (Nat.le_of_ble_eq_true rfl) dX7_isCell_10 ⟨Nat.le_of_ble_eq_true rfl, Nat.le_of_ble_eq_true rfl, rfl, rfl⟩ ⟨Nat.le_of_ble_eq_true rfl, Nat.le_of_ble_eq_true rfl⟩) (fun r_3 h => ?_)
  try dsimp only at h
  obtain ⟨g_5, h⟩ := h
  exact rd_zret hx hb hr hk g_5 h dX7_isCell_13

def wp_X7_isRow (post : Int32 → Prop) (s0 : Md) (x1 : Int32) : Prop := wp_X7_rows (fun r_1 => wp_X7_in (fun r_3 => narrow .boolean (.int r_3) = .int r_3 ∧ post r_3) (Int32.toInt64 x1) (0 : Int64) (Int32.toInt64 (r_1 - 1))) s0
set_option maxHeartbeats 4000000 in
set_option maxRecDepth 100000 in
theorem c2_X7_isRow {l : Launch} {D : va_G} {q : Nat → ClassId} {a0 : Nat → Nat} {s0 : Md} {x1 : Int32} {post : Int32 → Prop} (h : wp_X7_isRow post s0 x1) : Met l yX7_isRow (Cond.code yX7_isRow cX7_isRow 2 (some .boolean) :: w_all) ({ frames := 1, cells := 0, slots := 0, locals := 25 } : Room) (rd_P D q [.ref (a0 0), .int x1] (md_v a0 q s0)) (vp_Si post) 0 0 (fun _ => False) := by
  refine rd_start (by decide) (Nat.le_of_ble_eq_true rfl) ?_
  intro p e s m below meth c ls hx hb hr hml hown ht hk hP hQ hV hl
  have hK := hQ.1
  have hown : s.vm.findClass RX7 = some m.cls := hown
  have hl : lv_has ls 2 [(0, .ref (a0 0)), (1, .int x1)] := hl
  have hP : va_P D vwCl [((a0 0), .inr (6, [.ref (a0 1), .ref (a0 2), .int (s0.1 0), .ref (a0 3), .ref (a0 5), .ref (a0 4), .long s0.2.1, .int (s0.1 1), .int (s0.1 2), .ref (a0 6), .int (s0.1 3), .int (s0.1 4), .ref (a0 7), .int (s0.1 5), .int (s0.1 6), .int (s0.1 7), .int (s0.1 8), .int (s0.1 9), .int (s0.1 10), .int (s0.1 11), .int (s0.1 12), .int (s0.1 13), .int (s0.1 14)])), ((a0 1), .inl (q 1, 6896, .inr (.inl (s0.2.2.1 0)))), ((a0 2), .inl (q 1, 68960, .inr (.inl (s0.2.2.1 1)))), ((a0 3), .inl (q 1, 13792, .inr (.inl (s0.2.2.1 2)))), ((a0 4), .inl (q 1, 6896, .inr (.inl (s0.2.2.1 3)))), ((a0 5), .inl (q 3, 2, .inl (s0.2.2.2 0))), ((a0 6), .inl (q 0, 40, .inl (s0.2.2.2 1))), ((a0 7), .inl (q 2, 400, .inl (s0.2.2.2 2)))] s.heap := hP
  unfold wp_X7_isRow at h
  refine lv_iload_n hx hb dX7_isRow_0 rfl (lv_at hl 1 rfl) ?_
  refine lv_i2l (v := (Int32.toInt64 x1)) hx hb dX7_isRow_1 rfl ?_
  refine lv_lconst (v := 0) hx hb dX7_isRow_2 (by decide) ?_
  refine lv_aload_n hx hb dX7_isRow_3 rfl (lv_at hl 0 rfl) ?_
  refine vp_callSi (rd_wV (wc := md_v a0 q s0) (As := []) (rest := [.long 0, .long (Int32.toInt64 x1)]) hx hb hml hown ht (c2_X7_rows h) wd_X7_rows mw_1209 hQ hV va_S.rf (hP.sub [0, 1, 2, 3, 4, 5, 6, 7] rfl) rfl rfl rfl hl.1 rfl (Nat.le_of_ble_eq_true rfl) dX7_isRow_4 ⟨Nat.le_of_ble_eq_true rfl, Nat.le_of_ble_eq_true rfl, rfl, rfl⟩ ⟨Nat.le_of_ble_eq_true rfl, Nat.le_of_ble_eq_true rfl⟩) (fun r_1 h => ?_)
  try dsimp only at h
  refine lv_iconst (v := 1) hx hb dX7_isRow_7 (by decide) ?_
  refine lv_isub hx hb dX7_isRow_8 ?_
  refine lv_i2l (v := (Int32.toInt64 (r_1 - 1))) hx hb dX7_isRow_9 rfl ?_
  refine vp_callSi (rd_wS (wc := ([] : va_W)) (As := [.long (Int32.toInt64 x1), .long 0, .long (Int32.toInt64 (r_1 - 1))]) (rest := []) hx hb hml hown ht (c2_X7_in h) wd_X7_in mw_1213 hQ hV va_S.rf (hP.sub [] rfl) rfl hl.1 rfl (Nat.le_of_ble_eq_true rfl) dX7_isRow_10 ⟨Nat.le_of_ble_eq_true rfl, Nat.le_of_ble_eq_true rfl, rfl, rfl⟩ ⟨Nat.le_of_ble_eq_true rfl, Nat.le_of_ble_eq_true rfl⟩) (fun r_3 h => ?_)
  try dsimp only at h
  obtain ⟨g_5, h⟩ := h
  exact rd_zret hx hb hr hk g_5 h dX7_isRow_13

def wp_X7_isDrum (post : Int32 → Prop) (s0 : Md) (x1 : Int32) : Prop := wp_X7_drums (fun r_1 => wp_X7_in (fun r_3 => narrow .boolean (.int r_3) = .int r_3 ∧ post r_3) (Int32.toInt64 x1) (0 : Int64) (Int32.toInt64 (r_1 - 1))) s0
set_option maxHeartbeats 4000000 in
set_option maxRecDepth 100000 in
theorem c2_X7_isDrum {l : Launch} {D : va_G} {q : Nat → ClassId} {a0 : Nat → Nat} {s0 : Md} {x1 : Int32} {post : Int32 → Prop} (h : wp_X7_isDrum post s0 x1) : Met l yX7_isDrum (Cond.code yX7_isDrum cX7_isDrum 2 (some .boolean) :: w_all) ({ frames := 1, cells := 0, slots := 0, locals := 25 } : Room) (rd_P D q [.ref (a0 0), .int x1] (md_v a0 q s0)) (vp_Si post) 0 0 (fun _ => False) := by
  refine rd_start (by decide) (Nat.le_of_ble_eq_true rfl) ?_
  intro p e s m below meth c ls hx hb hr hml hown ht hk hP hQ hV hl
  have hK := hQ.1
  have hown : s.vm.findClass RX7 = some m.cls := hown
  have hl : lv_has ls 2 [(0, .ref (a0 0)), (1, .int x1)] := hl
  have hP : va_P D vwCl [((a0 0), .inr (6, [.ref (a0 1), .ref (a0 2), .int (s0.1 0), .ref (a0 3), .ref (a0 5), .ref (a0 4), .long s0.2.1, .int (s0.1 1), .int (s0.1 2), .ref (a0 6), .int (s0.1 3), .int (s0.1 4), .ref (a0 7), .int (s0.1 5), .int (s0.1 6), .int (s0.1 7), .int (s0.1 8), .int (s0.1 9), .int (s0.1 10), .int (s0.1 11), .int (s0.1 12), .int (s0.1 13), .int (s0.1 14)])), ((a0 1), .inl (q 1, 6896, .inr (.inl (s0.2.2.1 0)))), ((a0 2), .inl (q 1, 68960, .inr (.inl (s0.2.2.1 1)))), ((a0 3), .inl (q 1, 13792, .inr (.inl (s0.2.2.1 2)))), ((a0 4), .inl (q 1, 6896, .inr (.inl (s0.2.2.1 3)))), ((a0 5), .inl (q 3, 2, .inl (s0.2.2.2 0))), ((a0 6), .inl (q 0, 40, .inl (s0.2.2.2 1))), ((a0 7), .inl (q 2, 400, .inl (s0.2.2.2 2)))] s.heap := hP
  unfold wp_X7_isDrum at h
  refine lv_iload_n hx hb dX7_isDrum_0 rfl (lv_at hl 1 rfl) ?_
  refine lv_i2l (v := (Int32.toInt64 x1)) hx hb dX7_isDrum_1 rfl ?_
  refine lv_lconst (v := 0) hx hb dX7_isDrum_2 (by decide) ?_
  refine lv_aload_n hx hb dX7_isDrum_3 rfl (lv_at hl 0 rfl) ?_
  refine vp_callSi (rd_wV (wc := md_v a0 q s0) (As := []) (rest := [.long 0, .long (Int32.toInt64 x1)]) hx hb hml hown ht (c2_X7_drums h) wd_X7_drums mw_1287 hQ hV va_S.rf (hP.sub [0, 1, 2, 3, 4, 5, 6, 7] rfl) rfl rfl rfl hl.1 rfl (Nat.le_of_ble_eq_true rfl) dX7_isDrum_4 ⟨Nat.le_of_ble_eq_true rfl, Nat.le_of_ble_eq_true rfl, rfl, rfl⟩ ⟨Nat.le_of_ble_eq_true rfl, Nat.le_of_ble_eq_true rfl⟩) (fun r_1 h => ?_)
  try dsimp only at h
  refine lv_iconst (v := 1) hx hb dX7_isDrum_7 (by decide) ?_
  refine lv_isub hx hb dX7_isDrum_8 ?_
  refine lv_i2l (v := (Int32.toInt64 (r_1 - 1))) hx hb dX7_isDrum_9 rfl ?_
  refine vp_callSi (rd_wS (wc := ([] : va_W)) (As := [.long (Int32.toInt64 x1), .long 0, .long (Int32.toInt64 (r_1 - 1))]) (rest := []) hx hb hml hown ht (c2_X7_in h) wd_X7_in mw_1213 hQ hV va_S.rf (hP.sub [] rfl) rfl hl.1 rfl (Nat.le_of_ble_eq_true rfl) dX7_isDrum_10 ⟨Nat.le_of_ble_eq_true rfl, Nat.le_of_ble_eq_true rfl, rfl, rfl⟩ ⟨Nat.le_of_ble_eq_true rfl, Nat.le_of_ble_eq_true rfl⟩) (fun r_3 h => ?_)
  try dsimp only at h
  obtain ⟨g_5, h⟩ := h
  exact rd_zret hx hb hr hk g_5 h dX7_isDrum_13

def wp_X7_of (post : Int32 → Prop) (s0 : Md) (x1 : Int32) (x2 : Int32) : Prop := vp_in ((176 + (8 * x1)) + x2) 6896 ∧ post (Int64.toInt32 ((s0.2.2.1 0) (Int32.toNatClampNeg ((176 + (8 * x1)) + x2))))
set_option maxHeartbeats 4000000 in
set_option maxRecDepth 100000 in
theorem c2_X7_of {l : Launch} {D : va_G} {q : Nat → ClassId} {a0 : Nat → Nat} {s0 : Md} {x1 : Int32} {x2 : Int32} {post : Int32 → Prop} (h : wp_X7_of post s0 x1 x2) : Met l yX7_of (Cond.code yX7_of cX7_of 3 (some .int) :: w_all) ({ frames := 0, cells := 0, slots := 0, locals := 0 } : Room) (rd_P D q [.ref (a0 0), .int x1, .int x2] (md_v a0 q s0)) (vp_Si post) 0 0 (fun _ => False) := by
  refine rd_start (by decide) (Nat.le_of_ble_eq_true rfl) ?_
  intro p e s m below meth c ls hx hb hr hml hown ht hk hP hQ hV hl
  have hK := hQ.1
  have hown : s.vm.findClass RX7 = some m.cls := hown
  have hl : lv_has ls 3 [(0, .ref (a0 0)), (1, .int x1), (2, .int x2)] := hl
  have hP : va_P D vwCl [((a0 0), .inr (6, [.ref (a0 1), .ref (a0 2), .int (s0.1 0), .ref (a0 3), .ref (a0 5), .ref (a0 4), .long s0.2.1, .int (s0.1 1), .int (s0.1 2), .ref (a0 6), .int (s0.1 3), .int (s0.1 4), .ref (a0 7), .int (s0.1 5), .int (s0.1 6), .int (s0.1 7), .int (s0.1 8), .int (s0.1 9), .int (s0.1 10), .int (s0.1 11), .int (s0.1 12), .int (s0.1 13), .int (s0.1 14)])), ((a0 1), .inl (q 1, 6896, .inr (.inl (s0.2.2.1 0)))), ((a0 2), .inl (q 1, 68960, .inr (.inl (s0.2.2.1 1)))), ((a0 3), .inl (q 1, 13792, .inr (.inl (s0.2.2.1 2)))), ((a0 4), .inl (q 1, 6896, .inr (.inl (s0.2.2.1 3)))), ((a0 5), .inl (q 3, 2, .inl (s0.2.2.2 0))), ((a0 6), .inl (q 0, 40, .inl (s0.2.2.2 1))), ((a0 7), .inl (q 2, 400, .inl (s0.2.2.2 2)))] s.heap := hP
  unfold wp_X7_of at h
  refine lv_aload_n hx hb dX7_of_0 rfl (lv_at hl 0 rfl) ?_
  refine fl_get (C := RX7) (T := TX7) (N := 23) (ci := 6) (v := .ref (a0 1)) hx hb ht in_X7 hown hK hP 0 rfl rfl 0 (by decide) mw_1130 rfl dX7_of_1 ?_
  refine lv_sipush (v := 176) hx hb dX7_of_4 (by decide) ?_
  refine lv_bipush (v := 8) hx hb dX7_of_7 (by decide) ?_
  refine lv_iload_n hx hb dX7_of_9 rfl (lv_at hl 1 rfl) ?_
  refine lv_imul hx hb dX7_of_10 ?_
  refine lv_iadd hx hb dX7_of_11 ?_
  refine lv_iload_n hx hb dX7_of_12 rfl (lv_at hl 2 rfl) ?_
  refine lv_iadd hx hb dX7_of_13 ?_
  obtain ⟨g_1, h⟩ := h
  refine va_lald hx hb hK hP 1 1 rfl rfl g_1 dX7_of_14 ?_
  refine lv_l2i (v := (Int64.toInt32 ((s0.2.2.1 0) (Int32.toNatClampNeg ((176 + (8 * x1)) + x2))))) hx hb dX7_of_15 rfl ?_
  exact rd_iret hx hb hr hk h dX7_of_16

def wp_X7_sets (post : Md → Prop) (s0 : Md) (x1 : Int32) (x2 : Int32) (y3 : Int64) : Prop := vp_in ((176 + (8 * x1)) + x2) 6896 ∧ post (s0.1, s0.2.1, (va_up s0.2.2.1 0 (vp_updL (s0.2.2.1 0) (Int32.toNatClampNeg ((176 + (8 * x1)) + x2)) y3)), s0.2.2.2)
set_option maxHeartbeats 4000000 in
set_option maxRecDepth 100000 in
theorem c2_X7_sets {l : Launch} {D : va_G} {q : Nat → ClassId} {sz : Nat} {a0 : Nat → Nat} {s0 : Md} {x1 : Int32} {x2 : Int32} {y3 : Int64} {post : Md → Prop} (h : wp_X7_sets post s0 x1 x2 y3) : Met l yX7_sets (Cond.code yX7_sets cX7_sets 5 none :: w_all) ({ frames := 0, cells := 0, slots := 0, locals := 0 } : Room) (mt_P D q [.ref (a0 0), .int x1, .int x2, .long y3] (md_v a0 q s0) sz) (va_Qv (fun u : Md => post u) (mt_B D (md_v a0 q s0) sz (fun u : Md => md_v a0 q u)) (va_A (md_v a0 q s0) sz)) 0 0 (va_A (md_v a0 q s0) sz) := by
  refine mt_start (by decide) (Nat.le_of_ble_eq_true rfl) ?_
  intro p e s m below meth c ls hx hb hr hml hown ht hk hin hP hQ hD hA hS hV hl
  have hK := hQ.1
  have hown : s.vm.findClass RX7 = some m.cls := hown
  have hl : lv_has ls 5 [(0, .ref (a0 0)), (1, .int x1), (2, .int x2), (3, .long y3)] := hl
  have hP : va_P D vwCl [((a0 0), .inr (6, [.ref (a0 1), .ref (a0 2), .int (s0.1 0), .ref (a0 3), .ref (a0 5), .ref (a0 4), .long s0.2.1, .int (s0.1 1), .int (s0.1 2), .ref (a0 6), .int (s0.1 3), .int (s0.1 4), .ref (a0 7), .int (s0.1 5), .int (s0.1 6), .int (s0.1 7), .int (s0.1 8), .int (s0.1 9), .int (s0.1 10), .int (s0.1 11), .int (s0.1 12), .int (s0.1 13), .int (s0.1 14)])), ((a0 1), .inl (q 1, 6896, .inr (.inl (s0.2.2.1 0)))), ((a0 2), .inl (q 1, 68960, .inr (.inl (s0.2.2.1 1)))), ((a0 3), .inl (q 1, 13792, .inr (.inl (s0.2.2.1 2)))), ((a0 4), .inl (q 1, 6896, .inr (.inl (s0.2.2.1 3)))), ((a0 5), .inl (q 3, 2, .inl (s0.2.2.2 0))), ((a0 6), .inl (q 0, 40, .inl (s0.2.2.2 1))), ((a0 7), .inl (q 2, 400, .inl (s0.2.2.2 2)))] s.heap := hP
  have hD : va_D _ [((a0 0), .inr (6, [.ref (a0 1), .ref (a0 2), .int (s0.1 0), .ref (a0 3), .ref (a0 5), .ref (a0 4), .long s0.2.1, .int (s0.1 1), .int (s0.1 2), .ref (a0 6), .int (s0.1 3), .int (s0.1 4), .ref (a0 7), .int (s0.1 5), .int (s0.1 6), .int (s0.1 7), .int (s0.1 8), .int (s0.1 9), .int (s0.1 10), .int (s0.1 11), .int (s0.1 12), .int (s0.1 13), .int (s0.1 14)])), ((a0 1), .inl (q 1, 6896, .inr (.inl (s0.2.2.1 0)))), ((a0 2), .inl (q 1, 68960, .inr (.inl (s0.2.2.1 1)))), ((a0 3), .inl (q 1, 13792, .inr (.inl (s0.2.2.1 2)))), ((a0 4), .inl (q 1, 6896, .inr (.inl (s0.2.2.1 3)))), ((a0 5), .inl (q 3, 2, .inl (s0.2.2.2 0))), ((a0 6), .inl (q 0, 40, .inl (s0.2.2.2 1))), ((a0 7), .inl (q 2, 400, .inl (s0.2.2.2 2)))] := hD
  unfold wp_X7_sets at h
  refine lv_aload_n hx hb dX7_sets_0 rfl (lv_at hl 0 rfl) ?_
  refine fl_get (C := RX7) (T := TX7) (N := 23) (ci := 6) (v := .ref (a0 1)) hx hb ht in_X7 hown hK hP 0 rfl rfl 0 (by decide) mw_1130 rfl dX7_sets_1 ?_
  refine lv_sipush (v := 176) hx hb dX7_sets_4 (by decide) ?_
  refine lv_bipush (v := 8) hx hb dX7_sets_7 (by decide) ?_
  refine lv_iload_n hx hb dX7_sets_9 rfl (lv_at hl 1 rfl) ?_
  refine lv_imul hx hb dX7_sets_10 ?_
  refine lv_iadd hx hb dX7_sets_11 ?_
  refine lv_iload_n hx hb dX7_sets_12 rfl (lv_at hl 2 rfl) ?_
  refine lv_iadd hx hb dX7_sets_13 ?_
  refine lv_lload_n hx hb dX7_sets_14 rfl (lv_at hl 3 rfl) ?_
  obtain ⟨g_1, h⟩ := h
  refine va_last hx hb hK hP hD hS 1 1 rfl rfl g_1 dX7_sets_15 (fun H locs hP hD hS => ?_)
  have hP : va_P D vwCl [((a0 0), .inr (6, [.ref (a0 1), .ref (a0 2), .int (s0.1 0), .ref (a0 3), .ref (a0 5), .ref (a0 4), .long s0.2.1, .int (s0.1 1), .int (s0.1 2), .ref (a0 6), .int (s0.1 3), .int (s0.1 4), .ref (a0 7), .int (s0.1 5), .int (s0.1 6), .int (s0.1 7), .int (s0.1 8), .int (s0.1 9), .int (s0.1 10), .int (s0.1 11), .int (s0.1 12), .int (s0.1 13), .int (s0.1 14)])), ((a0 1), .inl (q 1, 6896, .inr (.inl (vp_updL (s0.2.2.1 0) (Int32.toNatClampNeg ((176 + (8 * x1)) + x2)) y3)))), ((a0 2), .inl (q 1, 68960, .inr (.inl (s0.2.2.1 1)))), ((a0 3), .inl (q 1, 13792, .inr (.inl (s0.2.2.1 2)))), ((a0 4), .inl (q 1, 6896, .inr (.inl (s0.2.2.1 3)))), ((a0 5), .inl (q 3, 2, .inl (s0.2.2.2 0))), ((a0 6), .inl (q 0, 40, .inl (s0.2.2.2 1))), ((a0 7), .inl (q 2, 400, .inl (s0.2.2.2 2)))] H := hP
  have hD : va_D _ [((a0 0), .inr (6, [.ref (a0 1), .ref (a0 2), .int (s0.1 0), .ref (a0 3), .ref (a0 5), .ref (a0 4), .long s0.2.1, .int (s0.1 1), .int (s0.1 2), .ref (a0 6), .int (s0.1 3), .int (s0.1 4), .ref (a0 7), .int (s0.1 5), .int (s0.1 6), .int (s0.1 7), .int (s0.1 8), .int (s0.1 9), .int (s0.1 10), .int (s0.1 11), .int (s0.1 12), .int (s0.1 13), .int (s0.1 14)])), ((a0 1), .inl (q 1, 6896, .inr (.inl (vp_updL (s0.2.2.1 0) (Int32.toNatClampNeg ((176 + (8 * x1)) + x2)) y3)))), ((a0 2), .inl (q 1, 68960, .inr (.inl (s0.2.2.1 1)))), ((a0 3), .inl (q 1, 13792, .inr (.inl (s0.2.2.1 2)))), ((a0 4), .inl (q 1, 6896, .inr (.inl (s0.2.2.1 3)))), ((a0 5), .inl (q 3, 2, .inl (s0.2.2.2 0))), ((a0 6), .inl (q 0, 40, .inl (s0.2.2.2 1))), ((a0 7), .inl (q 2, 400, .inl (s0.2.2.2 2)))] := hD
  exact mt_vret (s0.1, s0.2.1, (va_up s0.2.2.1 0 (vp_updL (s0.2.2.1 0) (Int32.toNatClampNeg ((176 + (8 * x1)) + x2)) y3)), s0.2.2.2) hx hb hr hk h (hP.sub (ws' := md_v a0 q (s0.1, s0.2.1, (va_up s0.2.2.1 0 (vp_updL (s0.2.2.1 0) (Int32.toNatClampNeg ((176 + (8 * x1)) + x2)) y3)), s0.2.2.2)) [0, 1, 2, 3, 4, 5, 6, 7] rfl) (hD.sub (ws' := md_v a0 q (s0.1, s0.2.1, (va_up s0.2.2.1 0 (vp_updL (s0.2.2.1 0) (Int32.toNatClampNeg ((176 + (8 * x1)) + x2)) y3)), s0.2.2.2)) [0, 1, 2, 3, 4, 5, 6, 7] (by decide) rfl) hS dX7_sets_16

def wp_X7_wornOf (post : Int64 → Prop) (s0 : Md) (x1 : Int32) : Prop := vp_in ((176 + (8 * x1)) + 7) 6896 ∧ post ((s0.2.2.1 0) (Int32.toNatClampNeg ((176 + (8 * x1)) + 7)))
set_option maxHeartbeats 4000000 in
set_option maxRecDepth 100000 in
theorem c2_X7_wornOf {l : Launch} {D : va_G} {q : Nat → ClassId} {a0 : Nat → Nat} {s0 : Md} {x1 : Int32} {post : Int64 → Prop} (h : wp_X7_wornOf post s0 x1) : Met l yX7_wornOf (Cond.code yX7_wornOf cX7_wornOf 2 (some .long) :: w_all) ({ frames := 0, cells := 0, slots := 0, locals := 0 } : Room) (rd_P D q [.ref (a0 0), .int x1] (md_v a0 q s0)) (vp_Sl post) 0 0 (fun _ => False) := by
  refine rd_start (by decide) (Nat.le_of_ble_eq_true rfl) ?_
  intro p e s m below meth c ls hx hb hr hml hown ht hk hP hQ hV hl
  have hK := hQ.1
  have hown : s.vm.findClass RX7 = some m.cls := hown
  have hl : lv_has ls 2 [(0, .ref (a0 0)), (1, .int x1)] := hl
  have hP : va_P D vwCl [((a0 0), .inr (6, [.ref (a0 1), .ref (a0 2), .int (s0.1 0), .ref (a0 3), .ref (a0 5), .ref (a0 4), .long s0.2.1, .int (s0.1 1), .int (s0.1 2), .ref (a0 6), .int (s0.1 3), .int (s0.1 4), .ref (a0 7), .int (s0.1 5), .int (s0.1 6), .int (s0.1 7), .int (s0.1 8), .int (s0.1 9), .int (s0.1 10), .int (s0.1 11), .int (s0.1 12), .int (s0.1 13), .int (s0.1 14)])), ((a0 1), .inl (q 1, 6896, .inr (.inl (s0.2.2.1 0)))), ((a0 2), .inl (q 1, 68960, .inr (.inl (s0.2.2.1 1)))), ((a0 3), .inl (q 1, 13792, .inr (.inl (s0.2.2.1 2)))), ((a0 4), .inl (q 1, 6896, .inr (.inl (s0.2.2.1 3)))), ((a0 5), .inl (q 3, 2, .inl (s0.2.2.2 0))), ((a0 6), .inl (q 0, 40, .inl (s0.2.2.2 1))), ((a0 7), .inl (q 2, 400, .inl (s0.2.2.2 2)))] s.heap := hP
  unfold wp_X7_wornOf at h
  refine lv_aload_n hx hb dX7_wornOf_0 rfl (lv_at hl 0 rfl) ?_
  refine fl_get (C := RX7) (T := TX7) (N := 23) (ci := 6) (v := .ref (a0 1)) hx hb ht in_X7 hown hK hP 0 rfl rfl 0 (by decide) mw_1130 rfl dX7_wornOf_1 ?_
  refine lv_sipush (v := 176) hx hb dX7_wornOf_4 (by decide) ?_
  refine lv_bipush (v := 8) hx hb dX7_wornOf_7 (by decide) ?_
  refine lv_iload_n hx hb dX7_wornOf_9 rfl (lv_at hl 1 rfl) ?_
  refine lv_imul hx hb dX7_wornOf_10 ?_
  refine lv_iadd hx hb dX7_wornOf_11 ?_
  refine lv_bipush (v := 7) hx hb dX7_wornOf_12 (by decide) ?_
  refine lv_iadd hx hb dX7_wornOf_14 ?_
  obtain ⟨g_1, h⟩ := h
  refine va_lald hx hb hK hP 1 1 rfl rfl g_1 dX7_wornOf_15 ?_
  exact rd_lret hx hb hr hk h dX7_wornOf_16

def wp_X7_currentOf (post : Int32 → Prop) (s0 : Md) (x1 : Int32) : Prop := vp_in (8 + (42 * x1)) 6896 ∧ post (Int64.toInt32 ((s0.2.2.1 0) (Int32.toNatClampNeg (8 + (42 * x1)))))
set_option maxHeartbeats 4000000 in
set_option maxRecDepth 100000 in
theorem c2_X7_currentOf {l : Launch} {D : va_G} {q : Nat → ClassId} {a0 : Nat → Nat} {s0 : Md} {x1 : Int32} {post : Int32 → Prop} (h : wp_X7_currentOf post s0 x1) : Met l yX7_currentOf (Cond.code yX7_currentOf cX7_currentOf 2 (some .int) :: w_all) ({ frames := 0, cells := 0, slots := 0, locals := 0 } : Room) (rd_P D q [.ref (a0 0), .int x1] (md_v a0 q s0)) (vp_Si post) 0 0 (fun _ => False) := by
  refine rd_start (by decide) (Nat.le_of_ble_eq_true rfl) ?_
  intro p e s m below meth c ls hx hb hr hml hown ht hk hP hQ hV hl
  have hK := hQ.1
  have hown : s.vm.findClass RX7 = some m.cls := hown
  have hl : lv_has ls 2 [(0, .ref (a0 0)), (1, .int x1)] := hl
  have hP : va_P D vwCl [((a0 0), .inr (6, [.ref (a0 1), .ref (a0 2), .int (s0.1 0), .ref (a0 3), .ref (a0 5), .ref (a0 4), .long s0.2.1, .int (s0.1 1), .int (s0.1 2), .ref (a0 6), .int (s0.1 3), .int (s0.1 4), .ref (a0 7), .int (s0.1 5), .int (s0.1 6), .int (s0.1 7), .int (s0.1 8), .int (s0.1 9), .int (s0.1 10), .int (s0.1 11), .int (s0.1 12), .int (s0.1 13), .int (s0.1 14)])), ((a0 1), .inl (q 1, 6896, .inr (.inl (s0.2.2.1 0)))), ((a0 2), .inl (q 1, 68960, .inr (.inl (s0.2.2.1 1)))), ((a0 3), .inl (q 1, 13792, .inr (.inl (s0.2.2.1 2)))), ((a0 4), .inl (q 1, 6896, .inr (.inl (s0.2.2.1 3)))), ((a0 5), .inl (q 3, 2, .inl (s0.2.2.2 0))), ((a0 6), .inl (q 0, 40, .inl (s0.2.2.2 1))), ((a0 7), .inl (q 2, 400, .inl (s0.2.2.2 2)))] s.heap := hP
  unfold wp_X7_currentOf at h
  refine lv_aload_n hx hb dX7_currentOf_0 rfl (lv_at hl 0 rfl) ?_
  refine fl_get (C := RX7) (T := TX7) (N := 23) (ci := 6) (v := .ref (a0 1)) hx hb ht in_X7 hown hK hP 0 rfl rfl 0 (by decide) mw_1130 rfl dX7_currentOf_1 ?_
  refine lv_bipush (v := 8) hx hb dX7_currentOf_4 (by decide) ?_
  refine lv_bipush (v := 42) hx hb dX7_currentOf_6 (by decide) ?_
  refine lv_iload_n hx hb dX7_currentOf_8 rfl (lv_at hl 1 rfl) ?_
  refine lv_imul hx hb dX7_currentOf_9 ?_
  refine lv_iadd hx hb dX7_currentOf_10 ?_
  obtain ⟨g_1, h⟩ := h
  refine va_lald hx hb hK hP 1 1 rfl rfl g_1 dX7_currentOf_11 ?_
  refine lv_l2i (v := (Int64.toInt32 ((s0.2.2.1 0) (Int32.toNatClampNeg (8 + (42 * x1)))))) hx hb dX7_currentOf_12 rfl ?_
  exact rd_iret hx hb hr hk h dX7_currentOf_13

def wp_X7_flapsOf (post : Int32 → Prop) (s0 : Md) (x1 : Int32) : Prop := vp_in ((8 + (42 * x1)) + 1) 6896 ∧ post (Int64.toInt32 ((s0.2.2.1 0) (Int32.toNatClampNeg ((8 + (42 * x1)) + 1))))
set_option maxHeartbeats 4000000 in
set_option maxRecDepth 100000 in
theorem c2_X7_flapsOf {l : Launch} {D : va_G} {q : Nat → ClassId} {a0 : Nat → Nat} {s0 : Md} {x1 : Int32} {post : Int32 → Prop} (h : wp_X7_flapsOf post s0 x1) : Met l yX7_flapsOf (Cond.code yX7_flapsOf cX7_flapsOf 2 (some .int) :: w_all) ({ frames := 0, cells := 0, slots := 0, locals := 0 } : Room) (rd_P D q [.ref (a0 0), .int x1] (md_v a0 q s0)) (vp_Si post) 0 0 (fun _ => False) := by
  refine rd_start (by decide) (Nat.le_of_ble_eq_true rfl) ?_
  intro p e s m below meth c ls hx hb hr hml hown ht hk hP hQ hV hl
  have hK := hQ.1
  have hown : s.vm.findClass RX7 = some m.cls := hown
  have hl : lv_has ls 2 [(0, .ref (a0 0)), (1, .int x1)] := hl
  have hP : va_P D vwCl [((a0 0), .inr (6, [.ref (a0 1), .ref (a0 2), .int (s0.1 0), .ref (a0 3), .ref (a0 5), .ref (a0 4), .long s0.2.1, .int (s0.1 1), .int (s0.1 2), .ref (a0 6), .int (s0.1 3), .int (s0.1 4), .ref (a0 7), .int (s0.1 5), .int (s0.1 6), .int (s0.1 7), .int (s0.1 8), .int (s0.1 9), .int (s0.1 10), .int (s0.1 11), .int (s0.1 12), .int (s0.1 13), .int (s0.1 14)])), ((a0 1), .inl (q 1, 6896, .inr (.inl (s0.2.2.1 0)))), ((a0 2), .inl (q 1, 68960, .inr (.inl (s0.2.2.1 1)))), ((a0 3), .inl (q 1, 13792, .inr (.inl (s0.2.2.1 2)))), ((a0 4), .inl (q 1, 6896, .inr (.inl (s0.2.2.1 3)))), ((a0 5), .inl (q 3, 2, .inl (s0.2.2.2 0))), ((a0 6), .inl (q 0, 40, .inl (s0.2.2.2 1))), ((a0 7), .inl (q 2, 400, .inl (s0.2.2.2 2)))] s.heap := hP
  unfold wp_X7_flapsOf at h
  refine lv_aload_n hx hb dX7_flapsOf_0 rfl (lv_at hl 0 rfl) ?_
  refine fl_get (C := RX7) (T := TX7) (N := 23) (ci := 6) (v := .ref (a0 1)) hx hb ht in_X7 hown hK hP 0 rfl rfl 0 (by decide) mw_1130 rfl dX7_flapsOf_1 ?_
  refine lv_bipush (v := 8) hx hb dX7_flapsOf_4 (by decide) ?_
  refine lv_bipush (v := 42) hx hb dX7_flapsOf_6 (by decide) ?_
  refine lv_iload_n hx hb dX7_flapsOf_8 rfl (lv_at hl 1 rfl) ?_
  refine lv_imul hx hb dX7_flapsOf_9 ?_
  refine lv_iadd hx hb dX7_flapsOf_10 ?_
  refine lv_iconst (v := 1) hx hb dX7_flapsOf_11 (by decide) ?_
  refine lv_iadd hx hb dX7_flapsOf_12 ?_
  obtain ⟨g_1, h⟩ := h
  refine va_lald hx hb hK hP 1 1 rfl rfl g_1 dX7_flapsOf_13 ?_
  refine lv_l2i (v := (Int64.toInt32 ((s0.2.2.1 0) (Int32.toNatClampNeg ((8 + (42 * x1)) + 1))))) hx hb dX7_flapsOf_14 rfl ?_
  exact rd_iret hx hb hr hk h dX7_flapsOf_15

def wp_X7_signOf (post : Int32 → Prop) (s0 : Md) (x1 : Int32) (x2 : Int32) : Prop := vp_in (((8 + (42 * x1)) + 2) + x2) 6896 ∧ post (Int64.toInt32 ((s0.2.2.1 0) (Int32.toNatClampNeg (((8 + (42 * x1)) + 2) + x2))))
set_option maxHeartbeats 4000000 in
set_option maxRecDepth 100000 in
theorem c2_X7_signOf {l : Launch} {D : va_G} {q : Nat → ClassId} {a0 : Nat → Nat} {s0 : Md} {x1 : Int32} {x2 : Int32} {post : Int32 → Prop} (h : wp_X7_signOf post s0 x1 x2) : Met l yX7_signOf (Cond.code yX7_signOf cX7_signOf 3 (some .int) :: w_all) ({ frames := 0, cells := 0, slots := 0, locals := 0 } : Room) (rd_P D q [.ref (a0 0), .int x1, .int x2] (md_v a0 q s0)) (vp_Si post) 0 0 (fun _ => False) := by
  refine rd_start (by decide) (Nat.le_of_ble_eq_true rfl) ?_
  intro p e s m below meth c ls hx hb hr hml hown ht hk hP hQ hV hl
  have hK := hQ.1
  have hown : s.vm.findClass RX7 = some m.cls := hown
  have hl : lv_has ls 3 [(0, .ref (a0 0)), (1, .int x1), (2, .int x2)] := hl
  have hP : va_P D vwCl [((a0 0), .inr (6, [.ref (a0 1), .ref (a0 2), .int (s0.1 0), .ref (a0 3), .ref (a0 5), .ref (a0 4), .long s0.2.1, .int (s0.1 1), .int (s0.1 2), .ref (a0 6), .int (s0.1 3), .int (s0.1 4), .ref (a0 7), .int (s0.1 5), .int (s0.1 6), .int (s0.1 7), .int (s0.1 8), .int (s0.1 9), .int (s0.1 10), .int (s0.1 11), .int (s0.1 12), .int (s0.1 13), .int (s0.1 14)])), ((a0 1), .inl (q 1, 6896, .inr (.inl (s0.2.2.1 0)))), ((a0 2), .inl (q 1, 68960, .inr (.inl (s0.2.2.1 1)))), ((a0 3), .inl (q 1, 13792, .inr (.inl (s0.2.2.1 2)))), ((a0 4), .inl (q 1, 6896, .inr (.inl (s0.2.2.1 3)))), ((a0 5), .inl (q 3, 2, .inl (s0.2.2.2 0))), ((a0 6), .inl (q 0, 40, .inl (s0.2.2.2 1))), ((a0 7), .inl (q 2, 400, .inl (s0.2.2.2 2)))] s.heap := hP
  unfold wp_X7_signOf at h
  refine lv_aload_n hx hb dX7_signOf_0 rfl (lv_at hl 0 rfl) ?_
  refine fl_get (C := RX7) (T := TX7) (N := 23) (ci := 6) (v := .ref (a0 1)) hx hb ht in_X7 hown hK hP 0 rfl rfl 0 (by decide) mw_1130 rfl dX7_signOf_1 ?_
  refine lv_bipush (v := 8) hx hb dX7_signOf_4 (by decide) ?_
  refine lv_bipush (v := 42) hx hb dX7_signOf_6 (by decide) ?_
  refine lv_iload_n hx hb dX7_signOf_8 rfl (lv_at hl 1 rfl) ?_
  refine lv_imul hx hb dX7_signOf_9 ?_
  refine lv_iadd hx hb dX7_signOf_10 ?_
  refine lv_iconst (v := 2) hx hb dX7_signOf_11 (by decide) ?_
  refine lv_iadd hx hb dX7_signOf_12 ?_
  refine lv_iload_n hx hb dX7_signOf_13 rfl (lv_at hl 2 rfl) ?_
  refine lv_iadd hx hb dX7_signOf_14 ?_
  obtain ⟨g_1, h⟩ := h
  refine va_lald hx hb hK hP 1 1 rfl rfl g_1 dX7_signOf_15 ?_
  refine lv_l2i (v := (Int64.toInt32 ((s0.2.2.1 0) (Int32.toNatClampNeg (((8 + (42 * x1)) + 2) + x2))))) hx hb dX7_signOf_16 rfl ?_
  exact rd_iret hx hb hr hk h dX7_signOf_17

def wp_X7_flaps (post : Int32 → Prop) (s0 : Md) (x1 : Int32) : Prop := wp_X7_of (fun r_1 => wp_X7_flapsOf (fun r_3 => post r_3) s0 r_1) s0 x1 (0 : Int32)
set_option maxHeartbeats 4000000 in
set_option maxRecDepth 100000 in
theorem c2_X7_flaps {l : Launch} {D : va_G} {q : Nat → ClassId} {a0 : Nat → Nat} {s0 : Md} {x1 : Int32} {post : Int32 → Prop} (h : wp_X7_flaps post s0 x1) : Met l yX7_flaps (Cond.code yX7_flaps cX7_flaps 2 (some .int) :: w_all) ({ frames := 1, cells := 0, slots := 0, locals := 22 } : Room) (rd_P D q [.ref (a0 0), .int x1] (md_v a0 q s0)) (vp_Si post) 0 0 (fun _ => False) := by
  refine rd_start (by decide) (Nat.le_of_ble_eq_true rfl) ?_
  intro p e s m below meth c ls hx hb hr hml hown ht hk hP hQ hV hl
  have hK := hQ.1
  have hown : s.vm.findClass RX7 = some m.cls := hown
  have hl : lv_has ls 2 [(0, .ref (a0 0)), (1, .int x1)] := hl
  have hP : va_P D vwCl [((a0 0), .inr (6, [.ref (a0 1), .ref (a0 2), .int (s0.1 0), .ref (a0 3), .ref (a0 5), .ref (a0 4), .long s0.2.1, .int (s0.1 1), .int (s0.1 2), .ref (a0 6), .int (s0.1 3), .int (s0.1 4), .ref (a0 7), .int (s0.1 5), .int (s0.1 6), .int (s0.1 7), .int (s0.1 8), .int (s0.1 9), .int (s0.1 10), .int (s0.1 11), .int (s0.1 12), .int (s0.1 13), .int (s0.1 14)])), ((a0 1), .inl (q 1, 6896, .inr (.inl (s0.2.2.1 0)))), ((a0 2), .inl (q 1, 68960, .inr (.inl (s0.2.2.1 1)))), ((a0 3), .inl (q 1, 13792, .inr (.inl (s0.2.2.1 2)))), ((a0 4), .inl (q 1, 6896, .inr (.inl (s0.2.2.1 3)))), ((a0 5), .inl (q 3, 2, .inl (s0.2.2.2 0))), ((a0 6), .inl (q 0, 40, .inl (s0.2.2.2 1))), ((a0 7), .inl (q 2, 400, .inl (s0.2.2.2 2)))] s.heap := hP
  unfold wp_X7_flaps at h
  refine lv_aload_n hx hb dX7_flaps_0 rfl (lv_at hl 0 rfl) ?_
  refine lv_aload_n hx hb dX7_flaps_1 rfl (lv_at hl 0 rfl) ?_
  refine lv_iload_n hx hb dX7_flaps_2 rfl (lv_at hl 1 rfl) ?_
  refine lv_iconst (v := 0) hx hb dX7_flaps_3 (by decide) ?_
  refine vp_callSi (rd_wV (wc := md_v a0 q s0) (As := [.int x1, .int 0]) (rest := [.ref (a0 0)]) hx hb hml hown ht (c2_X7_of h) wd_X7_of mw_1249 hQ hV va_S.rf (hP.sub [0, 1, 2, 3, 4, 5, 6, 7] rfl) rfl rfl rfl hl.1 rfl (Nat.le_of_ble_eq_true rfl) dX7_flaps_4 ⟨Nat.le_of_ble_eq_true rfl, Nat.le_of_ble_eq_true rfl, rfl, rfl⟩ ⟨Nat.le_of_ble_eq_true rfl, Nat.le_of_ble_eq_true rfl⟩) (fun r_1 h => ?_)
  try dsimp only at h
  refine vp_callSi (rd_wV (wc := md_v a0 q s0) (As := [.int r_1]) (rest := []) hx hb hml hown ht (c2_X7_flapsOf h) wd_X7_flapsOf mw_1253 hQ hV va_S.rf (hP.sub [0, 1, 2, 3, 4, 5, 6, 7] rfl) rfl rfl rfl hl.1 rfl (Nat.le_of_ble_eq_true rfl) dX7_flaps_7 ⟨Nat.le_of_ble_eq_true rfl, Nat.le_of_ble_eq_true rfl, rfl, rfl⟩ ⟨Nat.le_of_ble_eq_true rfl, Nat.le_of_ble_eq_true rfl⟩) (fun r_3 h => ?_)
  try dsimp only at h
  exact rd_iret hx hb hr hk h dX7_flaps_10

def wp_X7_current (post : Int32 → Prop) (s0 : Md) (x1 : Int32) : Prop := wp_X7_of (fun r_1 => wp_X7_currentOf (fun r_3 => post r_3) s0 r_1) s0 x1 (0 : Int32)
set_option maxHeartbeats 4000000 in
set_option maxRecDepth 100000 in
theorem c2_X7_current {l : Launch} {D : va_G} {q : Nat → ClassId} {a0 : Nat → Nat} {s0 : Md} {x1 : Int32} {post : Int32 → Prop} (h : wp_X7_current post s0 x1) : Met l yX7_current (Cond.code yX7_current cX7_current 2 (some .int) :: w_all) ({ frames := 1, cells := 0, slots := 0, locals := 22 } : Room) (rd_P D q [.ref (a0 0), .int x1] (md_v a0 q s0)) (vp_Si post) 0 0 (fun _ => False) := by
  refine rd_start (by decide) (Nat.le_of_ble_eq_true rfl) ?_
  intro p e s m below meth c ls hx hb hr hml hown ht hk hP hQ hV hl
  have hK := hQ.1
  have hown : s.vm.findClass RX7 = some m.cls := hown
  have hl : lv_has ls 2 [(0, .ref (a0 0)), (1, .int x1)] := hl
  have hP : va_P D vwCl [((a0 0), .inr (6, [.ref (a0 1), .ref (a0 2), .int (s0.1 0), .ref (a0 3), .ref (a0 5), .ref (a0 4), .long s0.2.1, .int (s0.1 1), .int (s0.1 2), .ref (a0 6), .int (s0.1 3), .int (s0.1 4), .ref (a0 7), .int (s0.1 5), .int (s0.1 6), .int (s0.1 7), .int (s0.1 8), .int (s0.1 9), .int (s0.1 10), .int (s0.1 11), .int (s0.1 12), .int (s0.1 13), .int (s0.1 14)])), ((a0 1), .inl (q 1, 6896, .inr (.inl (s0.2.2.1 0)))), ((a0 2), .inl (q 1, 68960, .inr (.inl (s0.2.2.1 1)))), ((a0 3), .inl (q 1, 13792, .inr (.inl (s0.2.2.1 2)))), ((a0 4), .inl (q 1, 6896, .inr (.inl (s0.2.2.1 3)))), ((a0 5), .inl (q 3, 2, .inl (s0.2.2.2 0))), ((a0 6), .inl (q 0, 40, .inl (s0.2.2.2 1))), ((a0 7), .inl (q 2, 400, .inl (s0.2.2.2 2)))] s.heap := hP
  unfold wp_X7_current at h
  refine lv_aload_n hx hb dX7_current_0 rfl (lv_at hl 0 rfl) ?_
  refine lv_aload_n hx hb dX7_current_1 rfl (lv_at hl 0 rfl) ?_
  refine lv_iload_n hx hb dX7_current_2 rfl (lv_at hl 1 rfl) ?_
  refine lv_iconst (v := 0) hx hb dX7_current_3 (by decide) ?_
  refine vp_callSi (rd_wV (wc := md_v a0 q s0) (As := [.int x1, .int 0]) (rest := [.ref (a0 0)]) hx hb hml hown ht (c2_X7_of h) wd_X7_of mw_1249 hQ hV va_S.rf (hP.sub [0, 1, 2, 3, 4, 5, 6, 7] rfl) rfl rfl rfl hl.1 rfl (Nat.le_of_ble_eq_true rfl) dX7_current_4 ⟨Nat.le_of_ble_eq_true rfl, Nat.le_of_ble_eq_true rfl, rfl, rfl⟩ ⟨Nat.le_of_ble_eq_true rfl, Nat.le_of_ble_eq_true rfl⟩) (fun r_1 h => ?_)
  try dsimp only at h
  refine vp_callSi (rd_wV (wc := md_v a0 q s0) (As := [.int r_1]) (rest := []) hx hb hml hown ht (c2_X7_currentOf h) wd_X7_currentOf mw_1320 hQ hV va_S.rf (hP.sub [0, 1, 2, 3, 4, 5, 6, 7] rfl) rfl rfl rfl hl.1 rfl (Nat.le_of_ble_eq_true rfl) dX7_current_7 ⟨Nat.le_of_ble_eq_true rfl, Nat.le_of_ble_eq_true rfl, rfl, rfl⟩ ⟨Nat.le_of_ble_eq_true rfl, Nat.le_of_ble_eq_true rfl⟩) (fun r_3 h => ?_)
  try dsimp only at h
  exact rd_iret hx hb hr hk h dX7_current_10

def wp_X7_on (post : Int32 → Prop) (x0 : Int32) (x1 : Int32) (x2 : Int32) : Prop := ¬ x2 = 0 ∧ post (((x1 - x0) + x2) - ((x1 - x0) + x2) / x2 * x2)
set_option maxHeartbeats 4000000 in
set_option maxRecDepth 100000 in
theorem c2_X7_on {l : Launch} {D : va_G} {q : Nat → ClassId} {x0 : Int32} {x1 : Int32} {x2 : Int32} {post : Int32 → Prop} (h : wp_X7_on post x0 x1 x2) : Met l yX7_on (Cond.code yX7_on cX7_on 3 (some .int) :: w_all) ({ frames := 0, cells := 0, slots := 0, locals := 0 } : Room) (rd_P D q [.int x0, .int x1, .int x2] (([] : va_W))) (vp_Si post) 0 0 (fun _ => False) := by
  refine rd_start (by decide) (Nat.le_of_ble_eq_true rfl) ?_
  intro p e s m below meth c ls hx hb hr hml hown ht hk hP hQ hV hl
  have hK := hQ.1
  have hown : s.vm.findClass RX7 = some m.cls := hown
  have hl : lv_has ls 3 [(0, .int x0), (1, .int x1), (2, .int x2)] := hl
  unfold wp_X7_on at h
  refine lv_iload_n hx hb dX7_on_0 rfl (lv_at hl 1 rfl) ?_
  refine lv_iload_n hx hb dX7_on_1 rfl (lv_at hl 0 rfl) ?_
  refine lv_isub hx hb dX7_on_2 ?_
  refine lv_iload_n hx hb dX7_on_3 rfl (lv_at hl 2 rfl) ?_
  refine lv_iadd hx hb dX7_on_4 ?_
  refine lv_iload_n hx hb dX7_on_5 rfl (lv_at hl 2 rfl) ?_
  obtain ⟨g_1, h⟩ := h
  refine lv_irem hx hb dX7_on_6 g_1 ?_
  exact rd_iret hx hb hr hk h dX7_on_7

def wp_X7_leftOf (post : Int32 → Prop) (s0 : Md) (x1 : Int32) : Prop := wp_X7_of (fun r_1 => wp_X7_of (fun r_3 => wp_X7_flaps (fun r_5 => wp_X7_on (fun r_7 => post r_7) r_1 r_3 r_5) s0 x1) s0 x1 (3 : Int32)) s0 x1 (2 : Int32)
set_option maxHeartbeats 4000000 in
set_option maxRecDepth 100000 in
theorem c2_X7_leftOf {l : Launch} {D : va_G} {q : Nat → ClassId} {a0 : Nat → Nat} {s0 : Md} {x1 : Int32} {post : Int32 → Prop} (h : wp_X7_leftOf post s0 x1) : Met l yX7_leftOf (Cond.code yX7_leftOf cX7_leftOf 2 (some .int) :: w_all) ({ frames := 2, cells := 0, slots := 0, locals := 43 } : Room) (rd_P D q [.ref (a0 0), .int x1] (md_v a0 q s0)) (vp_Si post) 0 0 (fun _ => False) := by
  refine rd_start (by decide) (Nat.le_of_ble_eq_true rfl) ?_
  intro p e s m below meth c ls hx hb hr hml hown ht hk hP hQ hV hl
  have hK := hQ.1
  have hown : s.vm.findClass RX7 = some m.cls := hown
  have hl : lv_has ls 2 [(0, .ref (a0 0)), (1, .int x1)] := hl
  have hP : va_P D vwCl [((a0 0), .inr (6, [.ref (a0 1), .ref (a0 2), .int (s0.1 0), .ref (a0 3), .ref (a0 5), .ref (a0 4), .long s0.2.1, .int (s0.1 1), .int (s0.1 2), .ref (a0 6), .int (s0.1 3), .int (s0.1 4), .ref (a0 7), .int (s0.1 5), .int (s0.1 6), .int (s0.1 7), .int (s0.1 8), .int (s0.1 9), .int (s0.1 10), .int (s0.1 11), .int (s0.1 12), .int (s0.1 13), .int (s0.1 14)])), ((a0 1), .inl (q 1, 6896, .inr (.inl (s0.2.2.1 0)))), ((a0 2), .inl (q 1, 68960, .inr (.inl (s0.2.2.1 1)))), ((a0 3), .inl (q 1, 13792, .inr (.inl (s0.2.2.1 2)))), ((a0 4), .inl (q 1, 6896, .inr (.inl (s0.2.2.1 3)))), ((a0 5), .inl (q 3, 2, .inl (s0.2.2.2 0))), ((a0 6), .inl (q 0, 40, .inl (s0.2.2.2 1))), ((a0 7), .inl (q 2, 400, .inl (s0.2.2.2 2)))] s.heap := hP
  unfold wp_X7_leftOf at h
  refine lv_aload_n hx hb dX7_leftOf_0 rfl (lv_at hl 0 rfl) ?_
  refine lv_iload_n hx hb dX7_leftOf_1 rfl (lv_at hl 1 rfl) ?_
  refine lv_iconst (v := 2) hx hb dX7_leftOf_2 (by decide) ?_
  refine vp_callSi (rd_wV (wc := md_v a0 q s0) (As := [.int x1, .int 2]) (rest := []) hx hb hml hown ht (c2_X7_of h) wd_X7_of mw_1249 hQ hV va_S.rf (hP.sub [0, 1, 2, 3, 4, 5, 6, 7] rfl) rfl rfl rfl hl.1 rfl (Nat.le_of_ble_eq_true rfl) dX7_leftOf_3 ⟨Nat.le_of_ble_eq_true rfl, Nat.le_of_ble_eq_true rfl, rfl, rfl⟩ ⟨Nat.le_of_ble_eq_true rfl, Nat.le_of_ble_eq_true rfl⟩) (fun r_1 h => ?_)
  try dsimp only at h
  refine lv_aload_n hx hb dX7_leftOf_6 rfl (lv_at hl 0 rfl) ?_
  refine lv_iload_n hx hb dX7_leftOf_7 rfl (lv_at hl 1 rfl) ?_
  refine lv_iconst (v := 3) hx hb dX7_leftOf_8 (by decide) ?_
  refine vp_callSi (rd_wV (wc := md_v a0 q s0) (As := [.int x1, .int 3]) (rest := [.int r_1]) hx hb hml hown ht (c2_X7_of h) wd_X7_of mw_1249 hQ hV va_S.rf (hP.sub [0, 1, 2, 3, 4, 5, 6, 7] rfl) rfl rfl rfl hl.1 rfl (Nat.le_of_ble_eq_true rfl) dX7_leftOf_9 ⟨Nat.le_of_ble_eq_true rfl, Nat.le_of_ble_eq_true rfl, rfl, rfl⟩ ⟨Nat.le_of_ble_eq_true rfl, Nat.le_of_ble_eq_true rfl⟩) (fun r_3 h => ?_)
  try dsimp only at h
  refine lv_aload_n hx hb dX7_leftOf_12 rfl (lv_at hl 0 rfl) ?_
  refine lv_iload_n hx hb dX7_leftOf_13 rfl (lv_at hl 1 rfl) ?_
  refine vp_callSi (rd_wV (wc := md_v a0 q s0) (As := [.int x1]) (rest := [.int r_3, .int r_1]) hx hb hml hown ht (c2_X7_flaps h) wd_X7_flaps mw_1245 hQ hV va_S.rf (hP.sub [0, 1, 2, 3, 4, 5, 6, 7] rfl) rfl rfl rfl hl.1 rfl (Nat.le_of_ble_eq_true rfl) dX7_leftOf_14 ⟨Nat.le_of_ble_eq_true rfl, Nat.le_of_ble_eq_true rfl, rfl, rfl⟩ ⟨Nat.le_of_ble_eq_true rfl, Nat.le_of_ble_eq_true rfl⟩) (fun r_5 h => ?_)
  try dsimp only at h
  refine vp_callSi (rd_wS (wc := ([] : va_W)) (As := [.int r_1, .int r_3, .int r_5]) (rest := []) hx hb hml hown ht (c2_X7_on h) wd_X7_on mw_1268 hQ hV va_S.rf (hP.sub [] rfl) rfl hl.1 rfl (Nat.le_of_ble_eq_true rfl) dX7_leftOf_17 ⟨Nat.le_of_ble_eq_true rfl, Nat.le_of_ble_eq_true rfl, rfl, rfl⟩ ⟨Nat.le_of_ble_eq_true rfl, Nat.le_of_ble_eq_true rfl⟩) (fun r_7 h => ?_)
  try dsimp only at h
  exact rd_iret hx hb hr hk h dX7_leftOf_20

def wp_X7_bits_L4 (post : Int32 → Prop) (e32 : Int64 → Int32 → Int32 → Prop) : Nat → Int64 → Int32 → Int32 → Prop
  | 0, _, _, _ => False
  | n4 + 1, w0, z2, z3 => ((64 ≤ z3 → e32 w0 z2 z3) ∧ (¬ 64 ≤ z3 → wp_X7_isIn (fun r_2 => ((r_2 = 0 → wp_X7_bits_L4 post e32 n4 w0 (z2 + 0) (z3 + 1)) ∧ (¬ r_2 = 0 → wp_X7_bits_L4 post e32 n4 w0 (z2 + 1) (z3 + 1)))) w0 z3))
def wp_X7_bits (post : Int32 → Prop) (y0 : Int64) : Prop := (∃ n4, wp_X7_bits_L4 post (fun w0 z2 z3 => post z2) n4 y0 0 0)
set_option maxHeartbeats 4000000 in
set_option maxRecDepth 100000 in
theorem c2_X7_bits {l : Launch} {D : va_G} {q : Nat → ClassId} {y0 : Int64} {post : Int32 → Prop} (h : wp_X7_bits post y0) : Met l yX7_bits (Cond.code yX7_bits cX7_bits 4 (some .int) :: w_all) ({ frames := 1, cells := 0, slots := 0, locals := 22 } : Room) (rd_P D q [.long y0] (([] : va_W))) (vp_Si post) 0 0 (fun _ => False) := by
  refine rd_start (by decide) (Nat.le_of_ble_eq_true rfl) ?_
  intro p e s m below meth c ls hx hb hr hml hown ht hk hP hQ hV hl
  have hK := hQ.1
  have hown : s.vm.findClass RX7 = some m.cls := hown
  have hl : lv_has ls 4 [(0, .long y0)] := hl
  unfold wp_X7_bits at h
  refine lv_iconst (v := 0) hx hb dX7_bits_0 (by decide) ?_
  refine lv_istore_n (lv' := [(2, .int 0), (0, .long y0)]) hx hb dX7_bits_1 rfl hl (by decide) rfl (fun ls hl => ?_)
  refine lv_iconst (v := 0) hx hb dX7_bits_2 (by decide) ?_
  refine lv_istore_n (lv' := [(3, .int 0), (2, .int 0), (0, .long y0)]) hx hb dX7_bits_3 rfl hl (by decide) rfl (fun ls hl => ?_)
  have lp4 : ∀ (e32 : Int64 → Int32 → Int32 → Prop) (k32 : ∀ (w0 : Int64) (z2 : Int32) (z3 : Int32) (ls : Array Slot), e32 w0 z2 z3 → lv_has ls 4 [(0, .long w0), (2, .int z2), (3, .int z3)] → W p l e ({ frames := 1, cells := 0, slots := 0, locals := 22 } : Room) s m [.long y0].toArray below meth c s.heap [] 0 0 (MQ below (vp_Si post) [.long y0].toArray s 0 0 (fun _ => False)) (F0 m 32 ls [])) (n : Nat) (w0 : Int64) (z2 : Int32) (z3 : Int32) (ls : Array Slot), wp_X7_bits_L4 post e32 n w0 z2 z3 → lv_has ls 4 [(0, .long w0), (2, .int z2), (3, .int z3)] → W p l e ({ frames := 1, cells := 0, slots := 0, locals := 22 } : Room) s m [.long y0].toArray below meth c s.heap [] 0 0 (MQ below (vp_Si post) [.long y0].toArray s 0 0 (fun _ => False)) (F0 m 4 ls []) := by
    intro e32 k32 n
    induction n with
    | zero =>
      intro w0 z2 z3 ls h
      exact h.elim
    | succ n ih =>
      intro w0 z2 z3 ls h hl
      unfold wp_X7_bits_L4 at h
      refine lv_iload_n hx hb dX7_bits_4 rfl (lv_at hl 2 rfl) ?_
      refine lv_bipush (v := 64) hx hb dX7_bits_5 (by decide) ?_
      refine lv_icmp_ge (tgt := 32) hx hb dX7_bits_7 (by decide) (fun c_1 => ?_) (fun c_1 => ?_)
      · replace h := h.1 c_1
        exact k32 _ _ _ ls h (lv_sub hl [0, 1, 2] rfl)
      · replace h := h.2 c_1
        refine lv_iload_n hx hb dX7_bits_10 rfl (lv_at hl 1 rfl) ?_
        refine lv_lload_n hx hb dX7_bits_11 rfl (lv_at hl 0 rfl) ?_
        refine lv_iload_n hx hb dX7_bits_12 rfl (lv_at hl 2 rfl) ?_
        refine vp_callSi (rd_wS (wc := ([] : va_W)) (As := [.long w0, .int z3]) (rest := [.int z2]) hx hb hml hown ht (c2_X7_isIn h) wd_X7_isIn mw_1265 hQ hV va_S.rf (hP.sub [] rfl) rfl hl.1 rfl (Nat.le_of_ble_eq_true rfl) dX7_bits_13 ⟨Nat.le_of_ble_eq_true rfl, Nat.le_of_ble_eq_true rfl, rfl, rfl⟩ ⟨Nat.le_of_ble_eq_true rfl, Nat.le_of_ble_eq_true rfl⟩) (fun r_2 h => ?_)
        try dsimp only at h
        refine lv_if_eq (tgt := 23) hx hb dX7_bits_16 (by decide) (fun c_4 => ?_) (fun c_4 => ?_)
        · replace h := h.1 c_4
          refine lv_iconst (v := 0) hx hb dX7_bits_23 (by decide) ?_
          refine lv_iadd hx hb dX7_bits_24 ?_
          refine lv_istore_n (lv' := [(2, .int (z2 + 0)), (0, .long w0), (3, .int z3)]) hx hb dX7_bits_25 rfl hl (by decide) rfl (fun ls hl => ?_)
          refine lv_iinc (v := (z3 + 1)) (lv' := [(3, .int (z3 + 1)), (2, .int (z2 + 0)), (0, .long w0)]) hx hb dX7_bits_26 hl (k := 2) rfl rfl (by decide) rfl (fun ls hl => ?_)
          refine lv_goto (tgt := 4) hx hb dX7_bits_29 (by decide) ?_
          exact ih _ _ _ ls h (lv_sub hl [2, 1, 0] rfl)
        · replace h := h.2 c_4
          refine lv_iconst (v := 1) hx hb dX7_bits_19 (by decide) ?_
          refine lv_goto (tgt := 24) hx hb dX7_bits_20 (by decide) ?_
          refine lv_iadd hx hb dX7_bits_24 ?_
          refine lv_istore_n (lv' := [(2, .int (z2 + 1)), (0, .long w0), (3, .int z3)]) hx hb dX7_bits_25 rfl hl (by decide) rfl (fun ls hl => ?_)
          refine lv_iinc (v := (z3 + 1)) (lv' := [(3, .int (z3 + 1)), (2, .int (z2 + 1)), (0, .long w0)]) hx hb dX7_bits_26 hl (k := 2) rfl rfl (by decide) rfl (fun ls hl => ?_)
          refine lv_goto (tgt := 4) hx hb dX7_bits_29 (by decide) ?_
          exact ih _ _ _ ls h (lv_sub hl [2, 1, 0] rfl)
  obtain ⟨n4, h⟩ := h
  refine lp4 _ ?_ n4 _ _ _ ls h (lv_sub hl [2, 1, 0] rfl)
  · intro w0 z2 z3 ls h hl
    try dsimp only at h
    refine lv_iload_n hx hb dX7_bits_32 rfl (lv_at hl 1 rfl) ?_
    exact rd_iret hx hb hr hk h dX7_bits_33

def wp_X7_steps (post : Md → Prop) (s0 : Md) (x1 : Int32) : Prop := wp_X7_of (fun r_1 => wp_X7_flaps (fun r_3 => ¬ r_3 = 0 ∧ wp_X7_sets (fun u_7 => wp_X7_of (fun r_8 => wp_X7_sets (fun u_11 => wp_X7_of (fun r_12 => ((r_12 ≤ 0 → wp_X7_of (fun r_15 => wp_X7_flaps (fun r_17 => ¬ r_17 = 0 ∧ wp_X7_sets (fun u_21 => wp_X7_of (fun r_22 => ((r_22 = 0 → wp_X7_of (fun r_25 => wp_X7_sets (fun u_28 => wp_X7_sets (fun u_30 => post u_30) (u_28.1, u_28.2.1, (va_up u_28.2.2.1 0 (vp_updL (u_28.2.2.1 0) (Int32.toNatClampNeg 7) (((u_28.2.2.1 0) (Int32.toNatClampNeg 7)) + (Int32.toInt64 ((r_1 + 1) - (r_1 + 1) / r_3 * r_3))))), u_28.2.2.2) x1 (2 : Int32) (0 : Int64)) u_21 x1 (6 : Int32) (Int32.toInt64 (r_25 + ((r_1 + 1) - (r_1 + 1) / r_3 * r_3)))) u_21 x1 (6 : Int32)) ∧ (¬ r_22 = 0 → post u_21))) u_21 x1 (1 : Int32)) (u_11.1, u_11.2.1, (va_up u_11.2.2.1 0 (vp_updL (u_11.2.2.1 0) (Int32.toNatClampNeg 6) (((u_11.2.2.1 0) (Int32.toNatClampNeg 6)) + 1))), u_11.2.2.2) x1 (1 : Int32) (Int32.toInt64 ((r_15 + 1) - (r_15 + 1) / r_17 * r_17))) (u_11.1, u_11.2.1, (va_up u_11.2.2.1 0 (vp_updL (u_11.2.2.1 0) (Int32.toNatClampNeg 6) (((u_11.2.2.1 0) (Int32.toNatClampNeg 6)) + 1))), u_11.2.2.2) x1) (u_11.1, u_11.2.1, (va_up u_11.2.2.1 0 (vp_updL (u_11.2.2.1 0) (Int32.toNatClampNeg 6) (((u_11.2.2.1 0) (Int32.toNatClampNeg 6)) + 1))), u_11.2.2.2) x1 (1 : Int32)) ∧ (¬ r_12 ≤ 0 → wp_X7_of (fun r_31 => wp_X7_sets (fun u_34 => post u_34) (u_11.1, u_11.2.1, (va_up u_11.2.2.1 0 (vp_updL (u_11.2.2.1 0) (Int32.toNatClampNeg 6) (((u_11.2.2.1 0) (Int32.toNatClampNeg 6)) + 1))), u_11.2.2.2) x1 (4 : Int32) (Int32.toInt64 (r_31 - 1))) (u_11.1, u_11.2.1, (va_up u_11.2.2.1 0 (vp_updL (u_11.2.2.1 0) (Int32.toNatClampNeg 6) (((u_11.2.2.1 0) (Int32.toNatClampNeg 6)) + 1))), u_11.2.2.2) x1 (4 : Int32)))) (u_11.1, u_11.2.1, (va_up u_11.2.2.1 0 (vp_updL (u_11.2.2.1 0) (Int32.toNatClampNeg 6) (((u_11.2.2.1 0) (Int32.toNatClampNeg 6)) + 1))), u_11.2.2.2) x1 (4 : Int32)) u_7 x1 (5 : Int32) (Int32.toInt64 (r_8 + 1))) u_7 x1 (5 : Int32)) s0 x1 (2 : Int32) (Int32.toInt64 ((r_1 + 1) - (r_1 + 1) / r_3 * r_3))) s0 x1) s0 x1 (2 : Int32)
set_option maxHeartbeats 4000000 in
set_option maxRecDepth 100000 in
theorem c2_X7_steps {l : Launch} {D : va_G} {q : Nat → ClassId} {sz : Nat} {a0 : Nat → Nat} {s0 : Md} {x1 : Int32} {post : Md → Prop} (h : wp_X7_steps post s0 x1) : Met l yX7_steps (Cond.code yX7_steps cX7_steps 3 none :: w_all) ({ frames := 2, cells := 0, slots := 0, locals := 43 } : Room) (mt_P D q [.ref (a0 0), .int x1] (md_v a0 q s0) sz) (va_Qv (fun u : Md => post u) (mt_B D (md_v a0 q s0) sz (fun u : Md => md_v a0 q u)) (va_A (md_v a0 q s0) sz)) 0 0 (va_A (md_v a0 q s0) sz) := by
  refine mt_start (by decide) (Nat.le_of_ble_eq_true rfl) ?_
  intro p e s m below meth c ls hx hb hr hml hown ht hk hin hP hQ hD hA hS hV hl
  have hK := hQ.1
  have hown : s.vm.findClass RX7 = some m.cls := hown
  have hl : lv_has ls 3 [(0, .ref (a0 0)), (1, .int x1)] := hl
  have hP : va_P D vwCl [((a0 0), .inr (6, [.ref (a0 1), .ref (a0 2), .int (s0.1 0), .ref (a0 3), .ref (a0 5), .ref (a0 4), .long s0.2.1, .int (s0.1 1), .int (s0.1 2), .ref (a0 6), .int (s0.1 3), .int (s0.1 4), .ref (a0 7), .int (s0.1 5), .int (s0.1 6), .int (s0.1 7), .int (s0.1 8), .int (s0.1 9), .int (s0.1 10), .int (s0.1 11), .int (s0.1 12), .int (s0.1 13), .int (s0.1 14)])), ((a0 1), .inl (q 1, 6896, .inr (.inl (s0.2.2.1 0)))), ((a0 2), .inl (q 1, 68960, .inr (.inl (s0.2.2.1 1)))), ((a0 3), .inl (q 1, 13792, .inr (.inl (s0.2.2.1 2)))), ((a0 4), .inl (q 1, 6896, .inr (.inl (s0.2.2.1 3)))), ((a0 5), .inl (q 3, 2, .inl (s0.2.2.2 0))), ((a0 6), .inl (q 0, 40, .inl (s0.2.2.2 1))), ((a0 7), .inl (q 2, 400, .inl (s0.2.2.2 2)))] s.heap := hP
  have hD : va_D _ [((a0 0), .inr (6, [.ref (a0 1), .ref (a0 2), .int (s0.1 0), .ref (a0 3), .ref (a0 5), .ref (a0 4), .long s0.2.1, .int (s0.1 1), .int (s0.1 2), .ref (a0 6), .int (s0.1 3), .int (s0.1 4), .ref (a0 7), .int (s0.1 5), .int (s0.1 6), .int (s0.1 7), .int (s0.1 8), .int (s0.1 9), .int (s0.1 10), .int (s0.1 11), .int (s0.1 12), .int (s0.1 13), .int (s0.1 14)])), ((a0 1), .inl (q 1, 6896, .inr (.inl (s0.2.2.1 0)))), ((a0 2), .inl (q 1, 68960, .inr (.inl (s0.2.2.1 1)))), ((a0 3), .inl (q 1, 13792, .inr (.inl (s0.2.2.1 2)))), ((a0 4), .inl (q 1, 6896, .inr (.inl (s0.2.2.1 3)))), ((a0 5), .inl (q 3, 2, .inl (s0.2.2.2 0))), ((a0 6), .inl (q 0, 40, .inl (s0.2.2.2 1))), ((a0 7), .inl (q 2, 400, .inl (s0.2.2.2 2)))] := hD
  unfold wp_X7_steps at h
  refine lv_aload_n hx hb dX7_steps_0 rfl (lv_at hl 0 rfl) ?_
  refine lv_iload_n hx hb dX7_steps_1 rfl (lv_at hl 1 rfl) ?_
  refine lv_iconst (v := 2) hx hb dX7_steps_2 (by decide) ?_
  refine vp_callSi (rd_wV (wc := md_v a0 q s0) (As := [.int x1, .int 2]) (rest := []) hx hb hml hown ht (c2_X7_of h) wd_X7_of mw_1249 hQ hV hS (hP.sub [0, 1, 2, 3, 4, 5, 6, 7] rfl) rfl rfl rfl hl.1 rfl (Nat.le_of_ble_eq_true rfl) dX7_steps_3 ⟨Nat.le_of_ble_eq_true rfl, Nat.le_of_ble_eq_true rfl, rfl, rfl⟩ ⟨Nat.le_of_ble_eq_true rfl, Nat.le_of_ble_eq_true rfl⟩) (fun r_1 h => ?_)
  try dsimp only at h
  refine lv_iconst (v := 1) hx hb dX7_steps_6 (by decide) ?_
  refine lv_iadd hx hb dX7_steps_7 ?_
  refine lv_aload_n hx hb dX7_steps_8 rfl (lv_at hl 0 rfl) ?_
  refine lv_iload_n hx hb dX7_steps_9 rfl (lv_at hl 1 rfl) ?_
  refine vp_callSi (rd_wV (wc := md_v a0 q s0) (As := [.int x1]) (rest := [.int (r_1 + 1)]) hx hb hml hown ht (c2_X7_flaps h) wd_X7_flaps mw_1245 hQ hV hS (hP.sub [0, 1, 2, 3, 4, 5, 6, 7] rfl) rfl rfl rfl hl.1 rfl (Nat.le_of_ble_eq_true rfl) dX7_steps_10 ⟨Nat.le_of_ble_eq_true rfl, Nat.le_of_ble_eq_true rfl, rfl, rfl⟩ ⟨Nat.le_of_ble_eq_true rfl, Nat.le_of_ble_eq_true rfl⟩) (fun r_3 h => ?_)
  try dsimp only at h
  obtain ⟨g_5, h⟩ := h
  refine lv_irem hx hb dX7_steps_13 g_5 ?_
  refine lv_istore_n (lv' := [(2, .int ((r_1 + 1) - (r_1 + 1) / r_3 * r_3)), (0, .ref (a0 0)), (1, .int x1)]) hx hb dX7_steps_14 rfl hl (by decide) rfl (fun ls hl => ?_)
  refine lv_aload_n hx hb dX7_steps_15 rfl (lv_at hl 1 rfl) ?_
  refine lv_iload_n hx hb dX7_steps_16 rfl (lv_at hl 2 rfl) ?_
  refine lv_iconst (v := 2) hx hb dX7_steps_17 (by decide) ?_
  refine lv_iload_n hx hb dX7_steps_18 rfl (lv_at hl 0 rfl) ?_
  refine lv_i2l (v := (Int32.toInt64 ((r_1 + 1) - (r_1 + 1) / r_3 * r_3))) hx hb dX7_steps_19 rfl ?_
  refine mt_gov (mt_wV (wc := md_v a0 q s0) (As := [.int x1, .int 2, .long (Int32.toInt64 ((r_1 + 1) - (r_1 + 1) / r_3 * r_3))]) (rest := []) hx hb hml hown ht (c2_X7_sets h) wd_X7_sets mw_1275 hQ hV hS hA (hP.sub [0, 1, 2, 3, 4, 5, 6, 7] rfl) (hD.sub [0, 1, 2, 3, 4, 5, 6, 7] (by decide) rfl) rfl rfl rfl hl.1 rfl (Nat.le_of_ble_eq_true rfl) dX7_steps_20 ⟨Nat.le_of_ble_eq_true rfl, Nat.le_of_ble_eq_true rfl, rfl, rfl⟩ ⟨Nat.le_of_ble_eq_true rfl, Nat.le_of_ble_eq_true rfl⟩) (wr := []) hP hD hS hA [0, 1, 2, 3, 4, 5, 6, 7] [] rfl rfl (by decide) (by decide) (fun u_7 H locs h hP hD hS => ?_)
  try dsimp only at h
  have hP : va_P D vwCl [((a0 0), .inr (6, [.ref (a0 1), .ref (a0 2), .int (u_7.1 0), .ref (a0 3), .ref (a0 5), .ref (a0 4), .long u_7.2.1, .int (u_7.1 1), .int (u_7.1 2), .ref (a0 6), .int (u_7.1 3), .int (u_7.1 4), .ref (a0 7), .int (u_7.1 5), .int (u_7.1 6), .int (u_7.1 7), .int (u_7.1 8), .int (u_7.1 9), .int (u_7.1 10), .int (u_7.1 11), .int (u_7.1 12), .int (u_7.1 13), .int (u_7.1 14)])), ((a0 1), .inl (q 1, 6896, .inr (.inl (u_7.2.2.1 0)))), ((a0 2), .inl (q 1, 68960, .inr (.inl (u_7.2.2.1 1)))), ((a0 3), .inl (q 1, 13792, .inr (.inl (u_7.2.2.1 2)))), ((a0 4), .inl (q 1, 6896, .inr (.inl (u_7.2.2.1 3)))), ((a0 5), .inl (q 3, 2, .inl (u_7.2.2.2 0))), ((a0 6), .inl (q 0, 40, .inl (u_7.2.2.2 1))), ((a0 7), .inl (q 2, 400, .inl (u_7.2.2.2 2)))] H := hP
  have hD : va_D _ [((a0 0), .inr (6, [.ref (a0 1), .ref (a0 2), .int (u_7.1 0), .ref (a0 3), .ref (a0 5), .ref (a0 4), .long u_7.2.1, .int (u_7.1 1), .int (u_7.1 2), .ref (a0 6), .int (u_7.1 3), .int (u_7.1 4), .ref (a0 7), .int (u_7.1 5), .int (u_7.1 6), .int (u_7.1 7), .int (u_7.1 8), .int (u_7.1 9), .int (u_7.1 10), .int (u_7.1 11), .int (u_7.1 12), .int (u_7.1 13), .int (u_7.1 14)])), ((a0 1), .inl (q 1, 6896, .inr (.inl (u_7.2.2.1 0)))), ((a0 2), .inl (q 1, 68960, .inr (.inl (u_7.2.2.1 1)))), ((a0 3), .inl (q 1, 13792, .inr (.inl (u_7.2.2.1 2)))), ((a0 4), .inl (q 1, 6896, .inr (.inl (u_7.2.2.1 3)))), ((a0 5), .inl (q 3, 2, .inl (u_7.2.2.2 0))), ((a0 6), .inl (q 0, 40, .inl (u_7.2.2.2 1))), ((a0 7), .inl (q 2, 400, .inl (u_7.2.2.2 2)))] := hD
  refine lv_aload_n hx hb dX7_steps_23 rfl (lv_at hl 1 rfl) ?_
  refine lv_iload_n hx hb dX7_steps_24 rfl (lv_at hl 2 rfl) ?_
  refine lv_iconst (v := 5) hx hb dX7_steps_25 (by decide) ?_
  refine lv_aload_n hx hb dX7_steps_26 rfl (lv_at hl 1 rfl) ?_
  refine lv_iload_n hx hb dX7_steps_27 rfl (lv_at hl 2 rfl) ?_
  refine lv_iconst (v := 5) hx hb dX7_steps_28 (by decide) ?_
  refine vp_callSi (rd_wV (wc := md_v a0 q u_7) (As := [.int x1, .int 5]) (rest := [.int 5, .int x1, .ref (a0 0)]) hx hb hml hown ht (c2_X7_of h) wd_X7_of mw_1249 hQ hV hS (hP.sub [0, 1, 2, 3, 4, 5, 6, 7] rfl) rfl rfl rfl hl.1 rfl (Nat.le_of_ble_eq_true rfl) dX7_steps_29 ⟨Nat.le_of_ble_eq_true rfl, Nat.le_of_ble_eq_true rfl, rfl, rfl⟩ ⟨Nat.le_of_ble_eq_true rfl, Nat.le_of_ble_eq_true rfl⟩) (fun r_8 h => ?_)
  try dsimp only at h
  refine lv_iconst (v := 1) hx hb dX7_steps_32 (by decide) ?_
  refine lv_iadd hx hb dX7_steps_33 ?_
  refine lv_i2l (v := (Int32.toInt64 (r_8 + 1))) hx hb dX7_steps_34 rfl ?_
  refine mt_gov (mt_wV (wc := md_v a0 q u_7) (As := [.int x1, .int 5, .long (Int32.toInt64 (r_8 + 1))]) (rest := []) hx hb hml hown ht (c2_X7_sets h) wd_X7_sets mw_1275 hQ hV hS hA (hP.sub [0, 1, 2, 3, 4, 5, 6, 7] rfl) (hD.sub [0, 1, 2, 3, 4, 5, 6, 7] (by decide) rfl) rfl rfl rfl hl.1 rfl (Nat.le_of_ble_eq_true rfl) dX7_steps_35 ⟨Nat.le_of_ble_eq_true rfl, Nat.le_of_ble_eq_true rfl, rfl, rfl⟩ ⟨Nat.le_of_ble_eq_true rfl, Nat.le_of_ble_eq_true rfl⟩) (wr := []) hP hD hS hA [0, 1, 2, 3, 4, 5, 6, 7] [] rfl rfl (by decide) (by decide) (fun u_11 H locs h hP hD hS => ?_)
  try dsimp only at h
  have hP : va_P D vwCl [((a0 0), .inr (6, [.ref (a0 1), .ref (a0 2), .int (u_11.1 0), .ref (a0 3), .ref (a0 5), .ref (a0 4), .long u_11.2.1, .int (u_11.1 1), .int (u_11.1 2), .ref (a0 6), .int (u_11.1 3), .int (u_11.1 4), .ref (a0 7), .int (u_11.1 5), .int (u_11.1 6), .int (u_11.1 7), .int (u_11.1 8), .int (u_11.1 9), .int (u_11.1 10), .int (u_11.1 11), .int (u_11.1 12), .int (u_11.1 13), .int (u_11.1 14)])), ((a0 1), .inl (q 1, 6896, .inr (.inl (u_11.2.2.1 0)))), ((a0 2), .inl (q 1, 68960, .inr (.inl (u_11.2.2.1 1)))), ((a0 3), .inl (q 1, 13792, .inr (.inl (u_11.2.2.1 2)))), ((a0 4), .inl (q 1, 6896, .inr (.inl (u_11.2.2.1 3)))), ((a0 5), .inl (q 3, 2, .inl (u_11.2.2.2 0))), ((a0 6), .inl (q 0, 40, .inl (u_11.2.2.2 1))), ((a0 7), .inl (q 2, 400, .inl (u_11.2.2.2 2)))] H := hP
  have hD : va_D _ [((a0 0), .inr (6, [.ref (a0 1), .ref (a0 2), .int (u_11.1 0), .ref (a0 3), .ref (a0 5), .ref (a0 4), .long u_11.2.1, .int (u_11.1 1), .int (u_11.1 2), .ref (a0 6), .int (u_11.1 3), .int (u_11.1 4), .ref (a0 7), .int (u_11.1 5), .int (u_11.1 6), .int (u_11.1 7), .int (u_11.1 8), .int (u_11.1 9), .int (u_11.1 10), .int (u_11.1 11), .int (u_11.1 12), .int (u_11.1 13), .int (u_11.1 14)])), ((a0 1), .inl (q 1, 6896, .inr (.inl (u_11.2.2.1 0)))), ((a0 2), .inl (q 1, 68960, .inr (.inl (u_11.2.2.1 1)))), ((a0 3), .inl (q 1, 13792, .inr (.inl (u_11.2.2.1 2)))), ((a0 4), .inl (q 1, 6896, .inr (.inl (u_11.2.2.1 3)))), ((a0 5), .inl (q 3, 2, .inl (u_11.2.2.2 0))), ((a0 6), .inl (q 0, 40, .inl (u_11.2.2.2 1))), ((a0 7), .inl (q 2, 400, .inl (u_11.2.2.2 2)))] := hD
  refine lv_aload_n hx hb dX7_steps_38 rfl (lv_at hl 1 rfl) ?_
  refine fl_get (C := RX7) (T := TX7) (N := 23) (ci := 6) (v := .ref (a0 1)) hx hb ht in_X7 hown hK hP 0 rfl rfl 0 (by decide) mw_1130 rfl dX7_steps_39 ?_
  refine lv_bipush (v := 6) hx hb dX7_steps_42 (by decide) ?_
  refine lv_dup2_11 hx hb dX7_steps_44 rfl rfl ?_
  refine va_lald hx hb hK hP 1 1 rfl rfl (in_c rfl) dX7_steps_45 ?_
  refine lv_lconst (v := 1) hx hb dX7_steps_46 (by decide) ?_
  refine lv_ladd hx hb dX7_steps_47 ?_
  refine va_last hx hb hK hP hD hS 1 1 rfl rfl (in_c rfl) dX7_steps_48 (fun H locs hP hD hS => ?_)
  have hP : va_P D vwCl [((a0 0), .inr (6, [.ref (a0 1), .ref (a0 2), .int (u_11.1 0), .ref (a0 3), .ref (a0 5), .ref (a0 4), .long u_11.2.1, .int (u_11.1 1), .int (u_11.1 2), .ref (a0 6), .int (u_11.1 3), .int (u_11.1 4), .ref (a0 7), .int (u_11.1 5), .int (u_11.1 6), .int (u_11.1 7), .int (u_11.1 8), .int (u_11.1 9), .int (u_11.1 10), .int (u_11.1 11), .int (u_11.1 12), .int (u_11.1 13), .int (u_11.1 14)])), ((a0 1), .inl (q 1, 6896, .inr (.inl (vp_updL (u_11.2.2.1 0) (Int32.toNatClampNeg 6) (((u_11.2.2.1 0) (Int32.toNatClampNeg 6)) + 1))))), ((a0 2), .inl (q 1, 68960, .inr (.inl (u_11.2.2.1 1)))), ((a0 3), .inl (q 1, 13792, .inr (.inl (u_11.2.2.1 2)))), ((a0 4), .inl (q 1, 6896, .inr (.inl (u_11.2.2.1 3)))), ((a0 5), .inl (q 3, 2, .inl (u_11.2.2.2 0))), ((a0 6), .inl (q 0, 40, .inl (u_11.2.2.2 1))), ((a0 7), .inl (q 2, 400, .inl (u_11.2.2.2 2)))] H := hP
  have hD : va_D _ [((a0 0), .inr (6, [.ref (a0 1), .ref (a0 2), .int (u_11.1 0), .ref (a0 3), .ref (a0 5), .ref (a0 4), .long u_11.2.1, .int (u_11.1 1), .int (u_11.1 2), .ref (a0 6), .int (u_11.1 3), .int (u_11.1 4), .ref (a0 7), .int (u_11.1 5), .int (u_11.1 6), .int (u_11.1 7), .int (u_11.1 8), .int (u_11.1 9), .int (u_11.1 10), .int (u_11.1 11), .int (u_11.1 12), .int (u_11.1 13), .int (u_11.1 14)])), ((a0 1), .inl (q 1, 6896, .inr (.inl (vp_updL (u_11.2.2.1 0) (Int32.toNatClampNeg 6) (((u_11.2.2.1 0) (Int32.toNatClampNeg 6)) + 1))))), ((a0 2), .inl (q 1, 68960, .inr (.inl (u_11.2.2.1 1)))), ((a0 3), .inl (q 1, 13792, .inr (.inl (u_11.2.2.1 2)))), ((a0 4), .inl (q 1, 6896, .inr (.inl (u_11.2.2.1 3)))), ((a0 5), .inl (q 3, 2, .inl (u_11.2.2.2 0))), ((a0 6), .inl (q 0, 40, .inl (u_11.2.2.2 1))), ((a0 7), .inl (q 2, 400, .inl (u_11.2.2.2 2)))] := hD
  refine lv_aload_n hx hb dX7_steps_49 rfl (lv_at hl 1 rfl) ?_
  refine lv_iload_n hx hb dX7_steps_50 rfl (lv_at hl 2 rfl) ?_
  refine lv_iconst (v := 4) hx hb dX7_steps_51 (by decide) ?_
  refine vp_callSi (rd_wV (wc := md_v a0 q (u_11.1, u_11.2.1, (va_up u_11.2.2.1 0 (vp_updL (u_11.2.2.1 0) (Int32.toNatClampNeg 6) (((u_11.2.2.1 0) (Int32.toNatClampNeg 6)) + 1))), u_11.2.2.2)) (As := [.int x1, .int 4]) (rest := []) hx hb hml hown ht (c2_X7_of h) wd_X7_of mw_1249 hQ hV hS (hP.sub [0, 1, 2, 3, 4, 5, 6, 7] rfl) rfl rfl rfl hl.1 rfl (Nat.le_of_ble_eq_true rfl) dX7_steps_52 ⟨Nat.le_of_ble_eq_true rfl, Nat.le_of_ble_eq_true rfl, rfl, rfl⟩ ⟨Nat.le_of_ble_eq_true rfl, Nat.le_of_ble_eq_true rfl⟩) (fun r_12 h => ?_)
  try dsimp only at h
  refine lv_if_le (tgt := 74) hx hb dX7_steps_55 (by decide) (fun c_14 => ?_) (fun c_14 => ?_)
  · replace h := h.1 c_14
    refine lv_aload_n hx hb dX7_steps_74 rfl (lv_at hl 1 rfl) ?_
    refine lv_iload_n hx hb dX7_steps_75 rfl (lv_at hl 2 rfl) ?_
    refine lv_iconst (v := 1) hx hb dX7_steps_76 (by decide) ?_
    refine lv_aload_n hx hb dX7_steps_77 rfl (lv_at hl 1 rfl) ?_
    refine lv_iload_n hx hb dX7_steps_78 rfl (lv_at hl 2 rfl) ?_
    refine lv_iconst (v := 1) hx hb dX7_steps_79 (by decide) ?_
    refine vp_callSi (rd_wV (wc := md_v a0 q (u_11.1, u_11.2.1, (va_up u_11.2.2.1 0 (vp_updL (u_11.2.2.1 0) (Int32.toNatClampNeg 6) (((u_11.2.2.1 0) (Int32.toNatClampNeg 6)) + 1))), u_11.2.2.2)) (As := [.int x1, .int 1]) (rest := [.int 1, .int x1, .ref (a0 0)]) hx hb hml hown ht (c2_X7_of h) wd_X7_of mw_1249 hQ hV hS (hP.sub [0, 1, 2, 3, 4, 5, 6, 7] rfl) rfl rfl rfl hl.1 rfl (Nat.le_of_ble_eq_true rfl) dX7_steps_80 ⟨Nat.le_of_ble_eq_true rfl, Nat.le_of_ble_eq_true rfl, rfl, rfl⟩ ⟨Nat.le_of_ble_eq_true rfl, Nat.le_of_ble_eq_true rfl⟩) (fun r_15 h => ?_)
    try dsimp only at h
    refine lv_iconst (v := 1) hx hb dX7_steps_83 (by decide) ?_
    refine lv_iadd hx hb dX7_steps_84 ?_
    refine lv_aload_n hx hb dX7_steps_85 rfl (lv_at hl 1 rfl) ?_
    refine lv_iload_n hx hb dX7_steps_86 rfl (lv_at hl 2 rfl) ?_
    refine vp_callSi (rd_wV (wc := md_v a0 q (u_11.1, u_11.2.1, (va_up u_11.2.2.1 0 (vp_updL (u_11.2.2.1 0) (Int32.toNatClampNeg 6) (((u_11.2.2.1 0) (Int32.toNatClampNeg 6)) + 1))), u_11.2.2.2)) (As := [.int x1]) (rest := [.int (r_15 + 1), .int 1, .int x1, .ref (a0 0)]) hx hb hml hown ht (c2_X7_flaps h) wd_X7_flaps mw_1245 hQ hV hS (hP.sub [0, 1, 2, 3, 4, 5, 6, 7] rfl) rfl rfl rfl hl.1 rfl (Nat.le_of_ble_eq_true rfl) dX7_steps_87 ⟨Nat.le_of_ble_eq_true rfl, Nat.le_of_ble_eq_true rfl, rfl, rfl⟩ ⟨Nat.le_of_ble_eq_true rfl, Nat.le_of_ble_eq_true rfl⟩) (fun r_17 h => ?_)
    try dsimp only at h
    obtain ⟨g_19, h⟩ := h
    refine lv_irem hx hb dX7_steps_90 g_19 ?_
    refine lv_i2l (v := (Int32.toInt64 ((r_15 + 1) - (r_15 + 1) / r_17 * r_17))) hx hb dX7_steps_91 rfl ?_
    refine mt_gov (mt_wV (wc := md_v a0 q (u_11.1, u_11.2.1, (va_up u_11.2.2.1 0 (vp_updL (u_11.2.2.1 0) (Int32.toNatClampNeg 6) (((u_11.2.2.1 0) (Int32.toNatClampNeg 6)) + 1))), u_11.2.2.2)) (As := [.int x1, .int 1, .long (Int32.toInt64 ((r_15 + 1) - (r_15 + 1) / r_17 * r_17))]) (rest := []) hx hb hml hown ht (c2_X7_sets h) wd_X7_sets mw_1275 hQ hV hS hA (hP.sub [0, 1, 2, 3, 4, 5, 6, 7] rfl) (hD.sub [0, 1, 2, 3, 4, 5, 6, 7] (by decide) rfl) rfl rfl rfl hl.1 rfl (Nat.le_of_ble_eq_true rfl) dX7_steps_92 ⟨Nat.le_of_ble_eq_true rfl, Nat.le_of_ble_eq_true rfl, rfl, rfl⟩ ⟨Nat.le_of_ble_eq_true rfl, Nat.le_of_ble_eq_true rfl⟩) (wr := []) hP hD hS hA [0, 1, 2, 3, 4, 5, 6, 7] [] rfl rfl (by decide) (by decide) (fun u_21 H locs h hP hD hS => ?_)
    try dsimp only at h
    have hP : va_P D vwCl [((a0 0), .inr (6, [.ref (a0 1), .ref (a0 2), .int (u_21.1 0), .ref (a0 3), .ref (a0 5), .ref (a0 4), .long u_21.2.1, .int (u_21.1 1), .int (u_21.1 2), .ref (a0 6), .int (u_21.1 3), .int (u_21.1 4), .ref (a0 7), .int (u_21.1 5), .int (u_21.1 6), .int (u_21.1 7), .int (u_21.1 8), .int (u_21.1 9), .int (u_21.1 10), .int (u_21.1 11), .int (u_21.1 12), .int (u_21.1 13), .int (u_21.1 14)])), ((a0 1), .inl (q 1, 6896, .inr (.inl (u_21.2.2.1 0)))), ((a0 2), .inl (q 1, 68960, .inr (.inl (u_21.2.2.1 1)))), ((a0 3), .inl (q 1, 13792, .inr (.inl (u_21.2.2.1 2)))), ((a0 4), .inl (q 1, 6896, .inr (.inl (u_21.2.2.1 3)))), ((a0 5), .inl (q 3, 2, .inl (u_21.2.2.2 0))), ((a0 6), .inl (q 0, 40, .inl (u_21.2.2.2 1))), ((a0 7), .inl (q 2, 400, .inl (u_21.2.2.2 2)))] H := hP
    have hD : va_D _ [((a0 0), .inr (6, [.ref (a0 1), .ref (a0 2), .int (u_21.1 0), .ref (a0 3), .ref (a0 5), .ref (a0 4), .long u_21.2.1, .int (u_21.1 1), .int (u_21.1 2), .ref (a0 6), .int (u_21.1 3), .int (u_21.1 4), .ref (a0 7), .int (u_21.1 5), .int (u_21.1 6), .int (u_21.1 7), .int (u_21.1 8), .int (u_21.1 9), .int (u_21.1 10), .int (u_21.1 11), .int (u_21.1 12), .int (u_21.1 13), .int (u_21.1 14)])), ((a0 1), .inl (q 1, 6896, .inr (.inl (u_21.2.2.1 0)))), ((a0 2), .inl (q 1, 68960, .inr (.inl (u_21.2.2.1 1)))), ((a0 3), .inl (q 1, 13792, .inr (.inl (u_21.2.2.1 2)))), ((a0 4), .inl (q 1, 6896, .inr (.inl (u_21.2.2.1 3)))), ((a0 5), .inl (q 3, 2, .inl (u_21.2.2.2 0))), ((a0 6), .inl (q 0, 40, .inl (u_21.2.2.2 1))), ((a0 7), .inl (q 2, 400, .inl (u_21.2.2.2 2)))] := hD
    refine lv_aload_n hx hb dX7_steps_95 rfl (lv_at hl 1 rfl) ?_
    refine lv_iload_n hx hb dX7_steps_96 rfl (lv_at hl 2 rfl) ?_
    refine lv_iconst (v := 1) hx hb dX7_steps_97 (by decide) ?_
    refine vp_callSi (rd_wV (wc := md_v a0 q u_21) (As := [.int x1, .int 1]) (rest := []) hx hb hml hown ht (c2_X7_of h) wd_X7_of mw_1249 hQ hV hS (hP.sub [0, 1, 2, 3, 4, 5, 6, 7] rfl) rfl rfl rfl hl.1 rfl (Nat.le_of_ble_eq_true rfl) dX7_steps_98 ⟨Nat.le_of_ble_eq_true rfl, Nat.le_of_ble_eq_true rfl, rfl, rfl⟩ ⟨Nat.le_of_ble_eq_true rfl, Nat.le_of_ble_eq_true rfl⟩) (fun r_22 h => ?_)
    try dsimp only at h
    refine lv_if_eq (tgt := 105) hx hb dX7_steps_101 (by decide) (fun c_24 => ?_) (fun c_24 => ?_)
    · replace h := h.1 c_24
      refine lv_aload_n hx hb dX7_steps_105 rfl (lv_at hl 1 rfl) ?_
      refine lv_iload_n hx hb dX7_steps_106 rfl (lv_at hl 2 rfl) ?_
      refine lv_bipush (v := 6) hx hb dX7_steps_107 (by decide) ?_
      refine lv_aload_n hx hb dX7_steps_109 rfl (lv_at hl 1 rfl) ?_
      refine lv_iload_n hx hb dX7_steps_110 rfl (lv_at hl 2 rfl) ?_
      refine lv_bipush (v := 6) hx hb dX7_steps_111 (by decide) ?_
      refine vp_callSi (rd_wV (wc := md_v a0 q u_21) (As := [.int x1, .int 6]) (rest := [.int 6, .int x1, .ref (a0 0)]) hx hb hml hown ht (c2_X7_of h) wd_X7_of mw_1249 hQ hV hS (hP.sub [0, 1, 2, 3, 4, 5, 6, 7] rfl) rfl rfl rfl hl.1 rfl (Nat.le_of_ble_eq_true rfl) dX7_steps_113 ⟨Nat.le_of_ble_eq_true rfl, Nat.le_of_ble_eq_true rfl, rfl, rfl⟩ ⟨Nat.le_of_ble_eq_true rfl, Nat.le_of_ble_eq_true rfl⟩) (fun r_25 h => ?_)
      try dsimp only at h
      refine lv_iload_n hx hb dX7_steps_116 rfl (lv_at hl 0 rfl) ?_
      refine lv_iadd hx hb dX7_steps_117 ?_
      refine lv_i2l (v := (Int32.toInt64 (r_25 + ((r_1 + 1) - (r_1 + 1) / r_3 * r_3)))) hx hb dX7_steps_118 rfl ?_
      refine mt_gov (mt_wV (wc := md_v a0 q u_21) (As := [.int x1, .int 6, .long (Int32.toInt64 (r_25 + ((r_1 + 1) - (r_1 + 1) / r_3 * r_3)))]) (rest := []) hx hb hml hown ht (c2_X7_sets h) wd_X7_sets mw_1275 hQ hV hS hA (hP.sub [0, 1, 2, 3, 4, 5, 6, 7] rfl) (hD.sub [0, 1, 2, 3, 4, 5, 6, 7] (by decide) rfl) rfl rfl rfl hl.1 rfl (Nat.le_of_ble_eq_true rfl) dX7_steps_119 ⟨Nat.le_of_ble_eq_true rfl, Nat.le_of_ble_eq_true rfl, rfl, rfl⟩ ⟨Nat.le_of_ble_eq_true rfl, Nat.le_of_ble_eq_true rfl⟩) (wr := []) hP hD hS hA [0, 1, 2, 3, 4, 5, 6, 7] [] rfl rfl (by decide) (by decide) (fun u_28 H locs h hP hD hS => ?_)
      try dsimp only at h
      have hP : va_P D vwCl [((a0 0), .inr (6, [.ref (a0 1), .ref (a0 2), .int (u_28.1 0), .ref (a0 3), .ref (a0 5), .ref (a0 4), .long u_28.2.1, .int (u_28.1 1), .int (u_28.1 2), .ref (a0 6), .int (u_28.1 3), .int (u_28.1 4), .ref (a0 7), .int (u_28.1 5), .int (u_28.1 6), .int (u_28.1 7), .int (u_28.1 8), .int (u_28.1 9), .int (u_28.1 10), .int (u_28.1 11), .int (u_28.1 12), .int (u_28.1 13), .int (u_28.1 14)])), ((a0 1), .inl (q 1, 6896, .inr (.inl (u_28.2.2.1 0)))), ((a0 2), .inl (q 1, 68960, .inr (.inl (u_28.2.2.1 1)))), ((a0 3), .inl (q 1, 13792, .inr (.inl (u_28.2.2.1 2)))), ((a0 4), .inl (q 1, 6896, .inr (.inl (u_28.2.2.1 3)))), ((a0 5), .inl (q 3, 2, .inl (u_28.2.2.2 0))), ((a0 6), .inl (q 0, 40, .inl (u_28.2.2.2 1))), ((a0 7), .inl (q 2, 400, .inl (u_28.2.2.2 2)))] H := hP
      have hD : va_D _ [((a0 0), .inr (6, [.ref (a0 1), .ref (a0 2), .int (u_28.1 0), .ref (a0 3), .ref (a0 5), .ref (a0 4), .long u_28.2.1, .int (u_28.1 1), .int (u_28.1 2), .ref (a0 6), .int (u_28.1 3), .int (u_28.1 4), .ref (a0 7), .int (u_28.1 5), .int (u_28.1 6), .int (u_28.1 7), .int (u_28.1 8), .int (u_28.1 9), .int (u_28.1 10), .int (u_28.1 11), .int (u_28.1 12), .int (u_28.1 13), .int (u_28.1 14)])), ((a0 1), .inl (q 1, 6896, .inr (.inl (u_28.2.2.1 0)))), ((a0 2), .inl (q 1, 68960, .inr (.inl (u_28.2.2.1 1)))), ((a0 3), .inl (q 1, 13792, .inr (.inl (u_28.2.2.1 2)))), ((a0 4), .inl (q 1, 6896, .inr (.inl (u_28.2.2.1 3)))), ((a0 5), .inl (q 3, 2, .inl (u_28.2.2.2 0))), ((a0 6), .inl (q 0, 40, .inl (u_28.2.2.2 1))), ((a0 7), .inl (q 2, 400, .inl (u_28.2.2.2 2)))] := hD
      refine lv_aload_n hx hb dX7_steps_122 rfl (lv_at hl 1 rfl) ?_
      refine fl_get (C := RX7) (T := TX7) (N := 23) (ci := 6) (v := .ref (a0 1)) hx hb ht in_X7 hown hK hP 0 rfl rfl 0 (by decide) mw_1130 rfl dX7_steps_123 ?_
      refine lv_bipush (v := 7) hx hb dX7_steps_126 (by decide) ?_
      refine lv_dup2_11 hx hb dX7_steps_128 rfl rfl ?_
      refine va_lald hx hb hK hP 1 1 rfl rfl (in_c rfl) dX7_steps_129 ?_
      refine lv_iload_n hx hb dX7_steps_130 rfl (lv_at hl 0 rfl) ?_
      refine lv_i2l (v := (Int32.toInt64 ((r_1 + 1) - (r_1 + 1) / r_3 * r_3))) hx hb dX7_steps_131 rfl ?_
      refine lv_ladd hx hb dX7_steps_132 ?_
      refine va_last hx hb hK hP hD hS 1 1 rfl rfl (in_c rfl) dX7_steps_133 (fun H locs hP hD hS => ?_)
      have hP : va_P D vwCl [((a0 0), .inr (6, [.ref (a0 1), .ref (a0 2), .int (u_28.1 0), .ref (a0 3), .ref (a0 5), .ref (a0 4), .long u_28.2.1, .int (u_28.1 1), .int (u_28.1 2), .ref (a0 6), .int (u_28.1 3), .int (u_28.1 4), .ref (a0 7), .int (u_28.1 5), .int (u_28.1 6), .int (u_28.1 7), .int (u_28.1 8), .int (u_28.1 9), .int (u_28.1 10), .int (u_28.1 11), .int (u_28.1 12), .int (u_28.1 13), .int (u_28.1 14)])), ((a0 1), .inl (q 1, 6896, .inr (.inl (vp_updL (u_28.2.2.1 0) (Int32.toNatClampNeg 7) (((u_28.2.2.1 0) (Int32.toNatClampNeg 7)) + (Int32.toInt64 ((r_1 + 1) - (r_1 + 1) / r_3 * r_3))))))), ((a0 2), .inl (q 1, 68960, .inr (.inl (u_28.2.2.1 1)))), ((a0 3), .inl (q 1, 13792, .inr (.inl (u_28.2.2.1 2)))), ((a0 4), .inl (q 1, 6896, .inr (.inl (u_28.2.2.1 3)))), ((a0 5), .inl (q 3, 2, .inl (u_28.2.2.2 0))), ((a0 6), .inl (q 0, 40, .inl (u_28.2.2.2 1))), ((a0 7), .inl (q 2, 400, .inl (u_28.2.2.2 2)))] H := hP
      have hD : va_D _ [((a0 0), .inr (6, [.ref (a0 1), .ref (a0 2), .int (u_28.1 0), .ref (a0 3), .ref (a0 5), .ref (a0 4), .long u_28.2.1, .int (u_28.1 1), .int (u_28.1 2), .ref (a0 6), .int (u_28.1 3), .int (u_28.1 4), .ref (a0 7), .int (u_28.1 5), .int (u_28.1 6), .int (u_28.1 7), .int (u_28.1 8), .int (u_28.1 9), .int (u_28.1 10), .int (u_28.1 11), .int (u_28.1 12), .int (u_28.1 13), .int (u_28.1 14)])), ((a0 1), .inl (q 1, 6896, .inr (.inl (vp_updL (u_28.2.2.1 0) (Int32.toNatClampNeg 7) (((u_28.2.2.1 0) (Int32.toNatClampNeg 7)) + (Int32.toInt64 ((r_1 + 1) - (r_1 + 1) / r_3 * r_3))))))), ((a0 2), .inl (q 1, 68960, .inr (.inl (u_28.2.2.1 1)))), ((a0 3), .inl (q 1, 13792, .inr (.inl (u_28.2.2.1 2)))), ((a0 4), .inl (q 1, 6896, .inr (.inl (u_28.2.2.1 3)))), ((a0 5), .inl (q 3, 2, .inl (u_28.2.2.2 0))), ((a0 6), .inl (q 0, 40, .inl (u_28.2.2.2 1))), ((a0 7), .inl (q 2, 400, .inl (u_28.2.2.2 2)))] := hD
      refine lv_aload_n hx hb dX7_steps_134 rfl (lv_at hl 1 rfl) ?_
      refine lv_iload_n hx hb dX7_steps_135 rfl (lv_at hl 2 rfl) ?_
      refine lv_iconst (v := 2) hx hb dX7_steps_136 (by decide) ?_
      refine lv_lconst (v := 0) hx hb dX7_steps_137 (by decide) ?_
      refine mt_gov (mt_wV (wc := md_v a0 q (u_28.1, u_28.2.1, (va_up u_28.2.2.1 0 (vp_updL (u_28.2.2.1 0) (Int32.toNatClampNeg 7) (((u_28.2.2.1 0) (Int32.toNatClampNeg 7)) + (Int32.toInt64 ((r_1 + 1) - (r_1 + 1) / r_3 * r_3))))), u_28.2.2.2)) (As := [.int x1, .int 2, .long 0]) (rest := []) hx hb hml hown ht (c2_X7_sets h) wd_X7_sets mw_1275 hQ hV hS hA (hP.sub [0, 1, 2, 3, 4, 5, 6, 7] rfl) (hD.sub [0, 1, 2, 3, 4, 5, 6, 7] (by decide) rfl) rfl rfl rfl hl.1 rfl (Nat.le_of_ble_eq_true rfl) dX7_steps_138 ⟨Nat.le_of_ble_eq_true rfl, Nat.le_of_ble_eq_true rfl, rfl, rfl⟩ ⟨Nat.le_of_ble_eq_true rfl, Nat.le_of_ble_eq_true rfl⟩) (wr := []) hP hD hS hA [0, 1, 2, 3, 4, 5, 6, 7] [] rfl rfl (by decide) (by decide) (fun u_30 H locs h hP hD hS => ?_)
      try dsimp only at h
      have hP : va_P D vwCl [((a0 0), .inr (6, [.ref (a0 1), .ref (a0 2), .int (u_30.1 0), .ref (a0 3), .ref (a0 5), .ref (a0 4), .long u_30.2.1, .int (u_30.1 1), .int (u_30.1 2), .ref (a0 6), .int (u_30.1 3), .int (u_30.1 4), .ref (a0 7), .int (u_30.1 5), .int (u_30.1 6), .int (u_30.1 7), .int (u_30.1 8), .int (u_30.1 9), .int (u_30.1 10), .int (u_30.1 11), .int (u_30.1 12), .int (u_30.1 13), .int (u_30.1 14)])), ((a0 1), .inl (q 1, 6896, .inr (.inl (u_30.2.2.1 0)))), ((a0 2), .inl (q 1, 68960, .inr (.inl (u_30.2.2.1 1)))), ((a0 3), .inl (q 1, 13792, .inr (.inl (u_30.2.2.1 2)))), ((a0 4), .inl (q 1, 6896, .inr (.inl (u_30.2.2.1 3)))), ((a0 5), .inl (q 3, 2, .inl (u_30.2.2.2 0))), ((a0 6), .inl (q 0, 40, .inl (u_30.2.2.2 1))), ((a0 7), .inl (q 2, 400, .inl (u_30.2.2.2 2)))] H := hP
      have hD : va_D _ [((a0 0), .inr (6, [.ref (a0 1), .ref (a0 2), .int (u_30.1 0), .ref (a0 3), .ref (a0 5), .ref (a0 4), .long u_30.2.1, .int (u_30.1 1), .int (u_30.1 2), .ref (a0 6), .int (u_30.1 3), .int (u_30.1 4), .ref (a0 7), .int (u_30.1 5), .int (u_30.1 6), .int (u_30.1 7), .int (u_30.1 8), .int (u_30.1 9), .int (u_30.1 10), .int (u_30.1 11), .int (u_30.1 12), .int (u_30.1 13), .int (u_30.1 14)])), ((a0 1), .inl (q 1, 6896, .inr (.inl (u_30.2.2.1 0)))), ((a0 2), .inl (q 1, 68960, .inr (.inl (u_30.2.2.1 1)))), ((a0 3), .inl (q 1, 13792, .inr (.inl (u_30.2.2.1 2)))), ((a0 4), .inl (q 1, 6896, .inr (.inl (u_30.2.2.1 3)))), ((a0 5), .inl (q 3, 2, .inl (u_30.2.2.2 0))), ((a0 6), .inl (q 0, 40, .inl (u_30.2.2.2 1))), ((a0 7), .inl (q 2, 400, .inl (u_30.2.2.2 2)))] := hD
      exact mt_vret u_30 hx hb hr hk h (hP.sub (ws' := md_v a0 q u_30) [0, 1, 2, 3, 4, 5, 6, 7] rfl) (hD.sub (ws' := md_v a0 q u_30) [0, 1, 2, 3, 4, 5, 6, 7] (by decide) rfl) hS dX7_steps_141
    · replace h := h.2 c_24
      exact mt_vret u_21 hx hb hr hk h (hP.sub (ws' := md_v a0 q u_21) [0, 1, 2, 3, 4, 5, 6, 7] rfl) (hD.sub (ws' := md_v a0 q u_21) [0, 1, 2, 3, 4, 5, 6, 7] (by decide) rfl) hS dX7_steps_104
  · replace h := h.2 c_14
    refine lv_aload_n hx hb dX7_steps_58 rfl (lv_at hl 1 rfl) ?_
    refine lv_iload_n hx hb dX7_steps_59 rfl (lv_at hl 2 rfl) ?_
    refine lv_iconst (v := 4) hx hb dX7_steps_60 (by decide) ?_
    refine lv_aload_n hx hb dX7_steps_61 rfl (lv_at hl 1 rfl) ?_
    refine lv_iload_n hx hb dX7_steps_62 rfl (lv_at hl 2 rfl) ?_
    refine lv_iconst (v := 4) hx hb dX7_steps_63 (by decide) ?_
    refine vp_callSi (rd_wV (wc := md_v a0 q (u_11.1, u_11.2.1, (va_up u_11.2.2.1 0 (vp_updL (u_11.2.2.1 0) (Int32.toNatClampNeg 6) (((u_11.2.2.1 0) (Int32.toNatClampNeg 6)) + 1))), u_11.2.2.2)) (As := [.int x1, .int 4]) (rest := [.int 4, .int x1, .ref (a0 0)]) hx hb hml hown ht (c2_X7_of h) wd_X7_of mw_1249 hQ hV hS (hP.sub [0, 1, 2, 3, 4, 5, 6, 7] rfl) rfl rfl rfl hl.1 rfl (Nat.le_of_ble_eq_true rfl) dX7_steps_64 ⟨Nat.le_of_ble_eq_true rfl, Nat.le_of_ble_eq_true rfl, rfl, rfl⟩ ⟨Nat.le_of_ble_eq_true rfl, Nat.le_of_ble_eq_true rfl⟩) (fun r_31 h => ?_)
    try dsimp only at h
    refine lv_iconst (v := 1) hx hb dX7_steps_67 (by decide) ?_
    refine lv_isub hx hb dX7_steps_68 ?_
    refine lv_i2l (v := (Int32.toInt64 (r_31 - 1))) hx hb dX7_steps_69 rfl ?_
    refine mt_gov (mt_wV (wc := md_v a0 q (u_11.1, u_11.2.1, (va_up u_11.2.2.1 0 (vp_updL (u_11.2.2.1 0) (Int32.toNatClampNeg 6) (((u_11.2.2.1 0) (Int32.toNatClampNeg 6)) + 1))), u_11.2.2.2)) (As := [.int x1, .int 4, .long (Int32.toInt64 (r_31 - 1))]) (rest := []) hx hb hml hown ht (c2_X7_sets h) wd_X7_sets mw_1275 hQ hV hS hA (hP.sub [0, 1, 2, 3, 4, 5, 6, 7] rfl) (hD.sub [0, 1, 2, 3, 4, 5, 6, 7] (by decide) rfl) rfl rfl rfl hl.1 rfl (Nat.le_of_ble_eq_true rfl) dX7_steps_70 ⟨Nat.le_of_ble_eq_true rfl, Nat.le_of_ble_eq_true rfl, rfl, rfl⟩ ⟨Nat.le_of_ble_eq_true rfl, Nat.le_of_ble_eq_true rfl⟩) (wr := []) hP hD hS hA [0, 1, 2, 3, 4, 5, 6, 7] [] rfl rfl (by decide) (by decide) (fun u_34 H locs h hP hD hS => ?_)
    try dsimp only at h
    have hP : va_P D vwCl [((a0 0), .inr (6, [.ref (a0 1), .ref (a0 2), .int (u_34.1 0), .ref (a0 3), .ref (a0 5), .ref (a0 4), .long u_34.2.1, .int (u_34.1 1), .int (u_34.1 2), .ref (a0 6), .int (u_34.1 3), .int (u_34.1 4), .ref (a0 7), .int (u_34.1 5), .int (u_34.1 6), .int (u_34.1 7), .int (u_34.1 8), .int (u_34.1 9), .int (u_34.1 10), .int (u_34.1 11), .int (u_34.1 12), .int (u_34.1 13), .int (u_34.1 14)])), ((a0 1), .inl (q 1, 6896, .inr (.inl (u_34.2.2.1 0)))), ((a0 2), .inl (q 1, 68960, .inr (.inl (u_34.2.2.1 1)))), ((a0 3), .inl (q 1, 13792, .inr (.inl (u_34.2.2.1 2)))), ((a0 4), .inl (q 1, 6896, .inr (.inl (u_34.2.2.1 3)))), ((a0 5), .inl (q 3, 2, .inl (u_34.2.2.2 0))), ((a0 6), .inl (q 0, 40, .inl (u_34.2.2.2 1))), ((a0 7), .inl (q 2, 400, .inl (u_34.2.2.2 2)))] H := hP
    have hD : va_D _ [((a0 0), .inr (6, [.ref (a0 1), .ref (a0 2), .int (u_34.1 0), .ref (a0 3), .ref (a0 5), .ref (a0 4), .long u_34.2.1, .int (u_34.1 1), .int (u_34.1 2), .ref (a0 6), .int (u_34.1 3), .int (u_34.1 4), .ref (a0 7), .int (u_34.1 5), .int (u_34.1 6), .int (u_34.1 7), .int (u_34.1 8), .int (u_34.1 9), .int (u_34.1 10), .int (u_34.1 11), .int (u_34.1 12), .int (u_34.1 13), .int (u_34.1 14)])), ((a0 1), .inl (q 1, 6896, .inr (.inl (u_34.2.2.1 0)))), ((a0 2), .inl (q 1, 68960, .inr (.inl (u_34.2.2.1 1)))), ((a0 3), .inl (q 1, 13792, .inr (.inl (u_34.2.2.1 2)))), ((a0 4), .inl (q 1, 6896, .inr (.inl (u_34.2.2.1 3)))), ((a0 5), .inl (q 3, 2, .inl (u_34.2.2.2 0))), ((a0 6), .inl (q 0, 40, .inl (u_34.2.2.2 1))), ((a0 7), .inl (q 2, 400, .inl (u_34.2.2.2 2)))] := hD
    exact mt_vret u_34 hx hb hr hk h (hP.sub (ws' := md_v a0 q u_34) [0, 1, 2, 3, 4, 5, 6, 7] rfl) (hD.sub (ws' := md_v a0 q u_34) [0, 1, 2, 3, 4, 5, 6, 7] (by decide) rfl) hS dX7_steps_73

def wp_X7_findsTurning_L33 (post : Md → Prop) (e91 : Md → Int64 → Int32 → Int32 → Int32 → Prop) : Nat → Md → Int64 → Int32 → Int32 → Int32 → Prop
  | 0, _, _, _, _, _ => False
  | n33 + 1, t0, w1, z3, z4, z5 => wp_X7_cells (fun r_4 => ((r_4 ≤ z5 → e91 t0 w1 z3 z4 z5) ∧ (¬ r_4 ≤ z5 → wp_X7_isIn (fun r_7 => ((¬ r_7 = 0 → wp_X7_findsTurning_L33 post e91 n33 t0 w1 z3 z4 (z5 + 1)) ∧ (r_7 = 0 → wp_X7_leftOf (fun r_10 => ((r_10 ≤ 0 → wp_X7_findsTurning_L33 post e91 n33 t0 w1 z3 z4 (z5 + 1)) ∧ (¬ r_10 ≤ 0 → ((z4 = (-1) → wp_X7_findsTurning_L33 post e91 n33 t0 w1 z3 z5 (z5 + 1)) ∧ (¬ z4 = (-1) → wp_X7_leftOf (fun r_14 => wp_X7_leftOf (fun r_16 => ((r_14 ≤ r_16 → wp_X7_findsTurning_L33 post e91 n33 t0 w1 z3 z4 (z5 + 1)) ∧ (¬ r_14 ≤ r_16 → wp_X7_findsTurning_L33 post e91 n33 t0 w1 z3 z5 (z5 + 1)))) t0 z4) t0 z5))))) t0 z5))) w1 z5))) t0
def wp_X7_findsTurning_L19 (post : Md → Prop) (e174 : Md → Int64 → Int32 → Prop) : Nat → Md → Int64 → Int32 → Prop
  | 0, _, _, _ => False
  | n19 + 1, t0, w1, z3 => wp_X7_cells (fun r_1 => ((r_1 ≤ z3 → e174 t0 w1 z3) ∧ (¬ r_1 ≤ z3 → (∃ n33, wp_X7_findsTurning_L33 post (fun t0 w1 z3 z4 z5 => ((¬ z4 = (-1) → wp_X7_current (fun r_20 => (((lg_cmp (Int32.toInt64 ((t0.1 2) + r_20)) ((t0.2.2.1 0) (Int32.toNatClampNeg 2))) ≤ 0 → wp_X7_current (fun r_23 => wp_X7_findsTurning_L19 post e174 n19 ((va_up (va_up t0.1 1 ((t0.1 1) + 1)) 2 ((t0.1 2) + r_23)), (t0.2.1 ||| ((1 : Int64) <<< (Int32.toInt64 z4 &&& 63))), t0.2.2.1, t0.2.2.2) (w1 ||| ((1 : Int64) <<< (Int32.toInt64 z4 &&& 63))) (z3 + 1)) ((va_up t0.1 1 ((t0.1 1) + 1)), (t0.2.1 ||| ((1 : Int64) <<< (Int32.toInt64 z4 &&& 63))), t0.2.2.1, t0.2.2.2) z4) ∧ (¬ (lg_cmp (Int32.toInt64 ((t0.1 2) + r_20)) ((t0.2.2.1 0) (Int32.toNatClampNeg 2))) ≤ 0 → wp_X7_findsTurning_L19 post e174 n19 t0 (w1 ||| ((1 : Int64) <<< (Int32.toInt64 z4 &&& 63))) (z3 + 1)))) t0 z4) ∧ (z4 = (-1) → post t0))) n33 t0 w1 z3 (-1) 0)))) t0
def wp_X7_findsTurning (post : Md → Prop) (s0 : Md) : Prop := (∃ n19, wp_X7_findsTurning_L19 post (fun t0 w1 z3 => post t0) n19 ((va_up (va_up s0.1 1 0) 2 0), 0, s0.2.2.1, s0.2.2.2) 0 0)
set_option maxHeartbeats 4000000 in
set_option maxRecDepth 100000 in
theorem c2_X7_findsTurning {l : Launch} {D : va_G} {q : Nat → ClassId} {sz : Nat} {a0 : Nat → Nat} {s0 : Md} {post : Md → Prop} (h : wp_X7_findsTurning post s0) : Met l yX7_findsTurning (Cond.code yX7_findsTurning cX7_findsTurning 6 none :: w_all) ({ frames := 3, cells := 0, slots := 0, locals := 64 } : Room) (mt_P D q [.ref (a0 0)] (md_v a0 q s0) sz) (va_Qv (fun u : Md => post u) (mt_B D (md_v a0 q s0) sz (fun u : Md => md_v a0 q u)) (va_A (md_v a0 q s0) sz)) 0 0 (va_A (md_v a0 q s0) sz) := by
  refine mt_start (by decide) (Nat.le_of_ble_eq_true rfl) ?_
  intro p e s m below meth c ls hx hb hr hml hown ht hk hin hP hQ hD hA hS hV hl
  have hK := hQ.1
  have hown : s.vm.findClass RX7 = some m.cls := hown
  have hl : lv_has ls 6 [(0, .ref (a0 0))] := hl
  have hP : va_P D vwCl [((a0 0), .inr (6, [.ref (a0 1), .ref (a0 2), .int (s0.1 0), .ref (a0 3), .ref (a0 5), .ref (a0 4), .long s0.2.1, .int (s0.1 1), .int (s0.1 2), .ref (a0 6), .int (s0.1 3), .int (s0.1 4), .ref (a0 7), .int (s0.1 5), .int (s0.1 6), .int (s0.1 7), .int (s0.1 8), .int (s0.1 9), .int (s0.1 10), .int (s0.1 11), .int (s0.1 12), .int (s0.1 13), .int (s0.1 14)])), ((a0 1), .inl (q 1, 6896, .inr (.inl (s0.2.2.1 0)))), ((a0 2), .inl (q 1, 68960, .inr (.inl (s0.2.2.1 1)))), ((a0 3), .inl (q 1, 13792, .inr (.inl (s0.2.2.1 2)))), ((a0 4), .inl (q 1, 6896, .inr (.inl (s0.2.2.1 3)))), ((a0 5), .inl (q 3, 2, .inl (s0.2.2.2 0))), ((a0 6), .inl (q 0, 40, .inl (s0.2.2.2 1))), ((a0 7), .inl (q 2, 400, .inl (s0.2.2.2 2)))] s.heap := hP
  have hD : va_D _ [((a0 0), .inr (6, [.ref (a0 1), .ref (a0 2), .int (s0.1 0), .ref (a0 3), .ref (a0 5), .ref (a0 4), .long s0.2.1, .int (s0.1 1), .int (s0.1 2), .ref (a0 6), .int (s0.1 3), .int (s0.1 4), .ref (a0 7), .int (s0.1 5), .int (s0.1 6), .int (s0.1 7), .int (s0.1 8), .int (s0.1 9), .int (s0.1 10), .int (s0.1 11), .int (s0.1 12), .int (s0.1 13), .int (s0.1 14)])), ((a0 1), .inl (q 1, 6896, .inr (.inl (s0.2.2.1 0)))), ((a0 2), .inl (q 1, 68960, .inr (.inl (s0.2.2.1 1)))), ((a0 3), .inl (q 1, 13792, .inr (.inl (s0.2.2.1 2)))), ((a0 4), .inl (q 1, 6896, .inr (.inl (s0.2.2.1 3)))), ((a0 5), .inl (q 3, 2, .inl (s0.2.2.2 0))), ((a0 6), .inl (q 0, 40, .inl (s0.2.2.2 1))), ((a0 7), .inl (q 2, 400, .inl (s0.2.2.2 2)))] := hD
  unfold wp_X7_findsTurning at h
  refine lv_aload_n hx hb dX7_findsTurning_0 rfl (lv_at hl 0 rfl) ?_
  refine lv_lconst (v := 0) hx hb dX7_findsTurning_1 (by decide) ?_
  refine fl_put (C := RX7) (T := TX7) (N := 23) (ci := 6) (v := .long 0) (ws2 := [((a0 0), .inr (6, [.ref (a0 1), .ref (a0 2), .int (s0.1 0), .ref (a0 3), .ref (a0 5), .ref (a0 4), .long 0, .int (s0.1 1), .int (s0.1 2), .ref (a0 6), .int (s0.1 3), .int (s0.1 4), .ref (a0 7), .int (s0.1 5), .int (s0.1 6), .int (s0.1 7), .int (s0.1 8), .int (s0.1 9), .int (s0.1 10), .int (s0.1 11), .int (s0.1 12), .int (s0.1 13), .int (s0.1 14)])), ((a0 1), .inl (q 1, 6896, .inr (.inl (s0.2.2.1 0)))), ((a0 2), .inl (q 1, 68960, .inr (.inl (s0.2.2.1 1)))), ((a0 3), .inl (q 1, 13792, .inr (.inl (s0.2.2.1 2)))), ((a0 4), .inl (q 1, 6896, .inr (.inl (s0.2.2.1 3)))), ((a0 5), .inl (q 3, 2, .inl (s0.2.2.2 0))), ((a0 6), .inl (q 0, 40, .inl (s0.2.2.2 1))), ((a0 7), .inl (q 2, 400, .inl (s0.2.2.2 2)))]) hx hb ht in_X7 tyX7_ok nmX7 hown hK hP hD hS 0 rfl rfl 6 (by decide) mw_1136 rfl rfl rfl (Nat.le_of_ble_eq_true rfl) dX7_findsTurning_2 rfl (fun H locs hP hD hS => ?_)
  refine lv_aload_n hx hb dX7_findsTurning_5 rfl (lv_at hl 0 rfl) ?_
  refine lv_iconst (v := 0) hx hb dX7_findsTurning_6 (by decide) ?_
  refine fl_put (C := RX7) (T := TX7) (N := 23) (ci := 6) (v := .int 0) (ws2 := [((a0 0), .inr (6, [.ref (a0 1), .ref (a0 2), .int (s0.1 0), .ref (a0 3), .ref (a0 5), .ref (a0 4), .long 0, .int 0, .int (s0.1 2), .ref (a0 6), .int (s0.1 3), .int (s0.1 4), .ref (a0 7), .int (s0.1 5), .int (s0.1 6), .int (s0.1 7), .int (s0.1 8), .int (s0.1 9), .int (s0.1 10), .int (s0.1 11), .int (s0.1 12), .int (s0.1 13), .int (s0.1 14)])), ((a0 1), .inl (q 1, 6896, .inr (.inl (s0.2.2.1 0)))), ((a0 2), .inl (q 1, 68960, .inr (.inl (s0.2.2.1 1)))), ((a0 3), .inl (q 1, 13792, .inr (.inl (s0.2.2.1 2)))), ((a0 4), .inl (q 1, 6896, .inr (.inl (s0.2.2.1 3)))), ((a0 5), .inl (q 3, 2, .inl (s0.2.2.2 0))), ((a0 6), .inl (q 0, 40, .inl (s0.2.2.2 1))), ((a0 7), .inl (q 2, 400, .inl (s0.2.2.2 2)))]) hx hb ht in_X7 tyX7_ok nmX7 hown hK hP hD hS 0 rfl rfl 7 (by decide) mw_1137 rfl rfl rfl (Nat.le_of_ble_eq_true rfl) dX7_findsTurning_7 rfl (fun H locs hP hD hS => ?_)
  refine lv_aload_n hx hb dX7_findsTurning_10 rfl (lv_at hl 0 rfl) ?_
  refine lv_iconst (v := 0) hx hb dX7_findsTurning_11 (by decide) ?_
  refine fl_put (C := RX7) (T := TX7) (N := 23) (ci := 6) (v := .int 0) (ws2 := [((a0 0), .inr (6, [.ref (a0 1), .ref (a0 2), .int (s0.1 0), .ref (a0 3), .ref (a0 5), .ref (a0 4), .long 0, .int 0, .int 0, .ref (a0 6), .int (s0.1 3), .int (s0.1 4), .ref (a0 7), .int (s0.1 5), .int (s0.1 6), .int (s0.1 7), .int (s0.1 8), .int (s0.1 9), .int (s0.1 10), .int (s0.1 11), .int (s0.1 12), .int (s0.1 13), .int (s0.1 14)])), ((a0 1), .inl (q 1, 6896, .inr (.inl (s0.2.2.1 0)))), ((a0 2), .inl (q 1, 68960, .inr (.inl (s0.2.2.1 1)))), ((a0 3), .inl (q 1, 13792, .inr (.inl (s0.2.2.1 2)))), ((a0 4), .inl (q 1, 6896, .inr (.inl (s0.2.2.1 3)))), ((a0 5), .inl (q 3, 2, .inl (s0.2.2.2 0))), ((a0 6), .inl (q 0, 40, .inl (s0.2.2.2 1))), ((a0 7), .inl (q 2, 400, .inl (s0.2.2.2 2)))]) hx hb ht in_X7 tyX7_ok nmX7 hown hK hP hD hS 0 rfl rfl 8 (by decide) mw_1138 rfl rfl rfl (Nat.le_of_ble_eq_true rfl) dX7_findsTurning_12 rfl (fun H locs hP hD hS => ?_)
  refine lv_lconst (v := 0) hx hb dX7_findsTurning_15 (by decide) ?_
  refine lv_lstore_n (lv' := [(1, .long 0), (0, .ref (a0 0))]) hx hb dX7_findsTurning_16 rfl hl (by decide) rfl (fun ls hl => ?_)
  refine lv_iconst (v := 0) hx hb dX7_findsTurning_17 (by decide) ?_
  refine lv_istore_n (lv' := [(3, .int 0), (1, .long 0), (0, .ref (a0 0))]) hx hb dX7_findsTurning_18 rfl hl (by decide) rfl (fun ls hl => ?_)
  have lp19 : ∀ (e174 : Md → Int64 → Int32 → Prop) (k174 : ∀ (t0 : Md) (w1 : Int64) (z3 : Int32) (H : Heap) (locs : List Loc) (ls : Array Slot), e174 t0 w1 z3 → va_P D vwCl (md_v a0 q t0) H → va_D (va_A (md_v a0 q s0) sz) (md_v a0 q t0) → va_S (va_A (md_v a0 q s0) sz) s.heap H locs → lv_has ls 6 [(1, .long w1), (3, .int z3), (0, .ref (a0 0))] → W p l e ({ frames := 3, cells := 0, slots := 0, locals := 64 } : Room) s m [.ref (a0 0)].toArray below meth c H locs 0 0 (MQ below (va_Qv (fun u : Md => post u) (mt_B D (md_v a0 q s0) sz (fun u : Md => md_v a0 q u)) (va_A (md_v a0 q s0) sz)) [.ref (a0 0)].toArray s 0 0 (va_A (md_v a0 q s0) sz)) (F0 m 174 ls [])) (n : Nat) (t0 : Md) (w1 : Int64) (z3 : Int32) (H : Heap) (locs : List Loc) (ls : Array Slot), wp_X7_findsTurning_L19 post e174 n t0 w1 z3 → va_P D vwCl (md_v a0 q t0) H → va_D (va_A (md_v a0 q s0) sz) (md_v a0 q t0) → va_S (va_A (md_v a0 q s0) sz) s.heap H locs → lv_has ls 6 [(1, .long w1), (3, .int z3), (0, .ref (a0 0))] → W p l e ({ frames := 3, cells := 0, slots := 0, locals := 64 } : Room) s m [.ref (a0 0)].toArray below meth c H locs 0 0 (MQ below (va_Qv (fun u : Md => post u) (mt_B D (md_v a0 q s0) sz (fun u : Md => md_v a0 q u)) (va_A (md_v a0 q s0) sz)) [.ref (a0 0)].toArray s 0 0 (va_A (md_v a0 q s0) sz)) (F0 m 19 ls []) := by
    intro e174 k174 n
    induction n with
    | zero =>
      intro t0 w1 z3 H locs ls h
      exact h.elim
    | succ n ih =>
      intro t0 w1 z3 H locs ls h hP hD hS hl
      have hP : va_P D vwCl [((a0 0), .inr (6, [.ref (a0 1), .ref (a0 2), .int (t0.1 0), .ref (a0 3), .ref (a0 5), .ref (a0 4), .long t0.2.1, .int (t0.1 1), .int (t0.1 2), .ref (a0 6), .int (t0.1 3), .int (t0.1 4), .ref (a0 7), .int (t0.1 5), .int (t0.1 6), .int (t0.1 7), .int (t0.1 8), .int (t0.1 9), .int (t0.1 10), .int (t0.1 11), .int (t0.1 12), .int (t0.1 13), .int (t0.1 14)])), ((a0 1), .inl (q 1, 6896, .inr (.inl (t0.2.2.1 0)))), ((a0 2), .inl (q 1, 68960, .inr (.inl (t0.2.2.1 1)))), ((a0 3), .inl (q 1, 13792, .inr (.inl (t0.2.2.1 2)))), ((a0 4), .inl (q 1, 6896, .inr (.inl (t0.2.2.1 3)))), ((a0 5), .inl (q 3, 2, .inl (t0.2.2.2 0))), ((a0 6), .inl (q 0, 40, .inl (t0.2.2.2 1))), ((a0 7), .inl (q 2, 400, .inl (t0.2.2.2 2)))] H := hP
      have hD : va_D _ [((a0 0), .inr (6, [.ref (a0 1), .ref (a0 2), .int (t0.1 0), .ref (a0 3), .ref (a0 5), .ref (a0 4), .long t0.2.1, .int (t0.1 1), .int (t0.1 2), .ref (a0 6), .int (t0.1 3), .int (t0.1 4), .ref (a0 7), .int (t0.1 5), .int (t0.1 6), .int (t0.1 7), .int (t0.1 8), .int (t0.1 9), .int (t0.1 10), .int (t0.1 11), .int (t0.1 12), .int (t0.1 13), .int (t0.1 14)])), ((a0 1), .inl (q 1, 6896, .inr (.inl (t0.2.2.1 0)))), ((a0 2), .inl (q 1, 68960, .inr (.inl (t0.2.2.1 1)))), ((a0 3), .inl (q 1, 13792, .inr (.inl (t0.2.2.1 2)))), ((a0 4), .inl (q 1, 6896, .inr (.inl (t0.2.2.1 3)))), ((a0 5), .inl (q 3, 2, .inl (t0.2.2.2 0))), ((a0 6), .inl (q 0, 40, .inl (t0.2.2.2 1))), ((a0 7), .inl (q 2, 400, .inl (t0.2.2.2 2)))] := hD
      unfold wp_X7_findsTurning_L19 at h
      refine lv_iload_n hx hb dX7_findsTurning_19 rfl (lv_at hl 1 rfl) ?_
      refine lv_aload_n hx hb dX7_findsTurning_20 rfl (lv_at hl 2 rfl) ?_
      refine vp_callSi (rd_wV (wc := md_v a0 q t0) (As := []) (rest := [.int z3]) hx hb hml hown ht (c2_X7_cells h) wd_X7_cells mw_1295 hQ hV hS (hP.sub [0, 1, 2, 3, 4, 5, 6, 7] rfl) rfl rfl rfl hl.1 rfl (Nat.le_of_ble_eq_true rfl) dX7_findsTurning_21 ⟨Nat.le_of_ble_eq_true rfl, Nat.le_of_ble_eq_true rfl, rfl, rfl⟩ ⟨Nat.le_of_ble_eq_true rfl, Nat.le_of_ble_eq_true rfl⟩) (fun r_1 h => ?_)
      try dsimp only at h
      refine lv_icmp_ge (tgt := 174) hx hb dX7_findsTurning_24 (by decide) (fun c_3 => ?_) (fun c_3 => ?_)
      · replace h := h.1 c_3
        exact k174 _ _ _ _ _ ls h (hP.sub (ws' := md_v a0 q t0) [0, 1, 2, 3, 4, 5, 6, 7] rfl) (hD.sub (ws' := md_v a0 q t0) [0, 1, 2, 3, 4, 5, 6, 7] (by decide) rfl) hS (lv_sub hl [0, 1, 2] rfl)
      · replace h := h.2 c_3
        refine lv_iconst (v := (-1)) hx hb dX7_findsTurning_27 (by decide) ?_
        refine lv_istore (lv' := [(4, .int (-1)), (1, .long w1), (3, .int z3), (0, .ref (a0 0))]) hx hb dX7_findsTurning_28 hl (by decide) rfl (fun ls hl => ?_)
        refine lv_iconst (v := 0) hx hb dX7_findsTurning_30 (by decide) ?_
        refine lv_istore (lv' := [(5, .int 0), (4, .int (-1)), (1, .long w1), (3, .int z3), (0, .ref (a0 0))]) hx hb dX7_findsTurning_31 hl (by decide) rfl (fun ls hl => ?_)
        have lp33 : ∀ (e91 : Md → Int64 → Int32 → Int32 → Int32 → Prop) (k91 : ∀ (t0 : Md) (w1 : Int64) (z3 : Int32) (z4 : Int32) (z5 : Int32) (H : Heap) (locs : List Loc) (ls : Array Slot), e91 t0 w1 z3 z4 z5 → va_P D vwCl (md_v a0 q t0) H → va_D (va_A (md_v a0 q s0) sz) (md_v a0 q t0) → va_S (va_A (md_v a0 q s0) sz) s.heap H locs → lv_has ls 6 [(1, .long w1), (3, .int z3), (4, .int z4), (5, .int z5), (0, .ref (a0 0))] → W p l e ({ frames := 3, cells := 0, slots := 0, locals := 64 } : Room) s m [.ref (a0 0)].toArray below meth c H locs 0 0 (MQ below (va_Qv (fun u : Md => post u) (mt_B D (md_v a0 q s0) sz (fun u : Md => md_v a0 q u)) (va_A (md_v a0 q s0) sz)) [.ref (a0 0)].toArray s 0 0 (va_A (md_v a0 q s0) sz)) (F0 m 91 ls [])) (n : Nat) (t0 : Md) (w1 : Int64) (z3 : Int32) (z4 : Int32) (z5 : Int32) (H : Heap) (locs : List Loc) (ls : Array Slot), wp_X7_findsTurning_L33 post e91 n t0 w1 z3 z4 z5 → va_P D vwCl (md_v a0 q t0) H → va_D (va_A (md_v a0 q s0) sz) (md_v a0 q t0) → va_S (va_A (md_v a0 q s0) sz) s.heap H locs → lv_has ls 6 [(1, .long w1), (3, .int z3), (4, .int z4), (5, .int z5), (0, .ref (a0 0))] → W p l e ({ frames := 3, cells := 0, slots := 0, locals := 64 } : Room) s m [.ref (a0 0)].toArray below meth c H locs 0 0 (MQ below (va_Qv (fun u : Md => post u) (mt_B D (md_v a0 q s0) sz (fun u : Md => md_v a0 q u)) (va_A (md_v a0 q s0) sz)) [.ref (a0 0)].toArray s 0 0 (va_A (md_v a0 q s0) sz)) (F0 m 33 ls []) := by
          intro e91 k91 n
          induction n with
          | zero =>
            intro t0 w1 z3 z4 z5 H locs ls h
            exact h.elim
          | succ n ih =>
            intro t0 w1 z3 z4 z5 H locs ls h hP hD hS hl
            have hP : va_P D vwCl [((a0 0), .inr (6, [.ref (a0 1), .ref (a0 2), .int (t0.1 0), .ref (a0 3), .ref (a0 5), .ref (a0 4), .long t0.2.1, .int (t0.1 1), .int (t0.1 2), .ref (a0 6), .int (t0.1 3), .int (t0.1 4), .ref (a0 7), .int (t0.1 5), .int (t0.1 6), .int (t0.1 7), .int (t0.1 8), .int (t0.1 9), .int (t0.1 10), .int (t0.1 11), .int (t0.1 12), .int (t0.1 13), .int (t0.1 14)])), ((a0 1), .inl (q 1, 6896, .inr (.inl (t0.2.2.1 0)))), ((a0 2), .inl (q 1, 68960, .inr (.inl (t0.2.2.1 1)))), ((a0 3), .inl (q 1, 13792, .inr (.inl (t0.2.2.1 2)))), ((a0 4), .inl (q 1, 6896, .inr (.inl (t0.2.2.1 3)))), ((a0 5), .inl (q 3, 2, .inl (t0.2.2.2 0))), ((a0 6), .inl (q 0, 40, .inl (t0.2.2.2 1))), ((a0 7), .inl (q 2, 400, .inl (t0.2.2.2 2)))] H := hP
            have hD : va_D _ [((a0 0), .inr (6, [.ref (a0 1), .ref (a0 2), .int (t0.1 0), .ref (a0 3), .ref (a0 5), .ref (a0 4), .long t0.2.1, .int (t0.1 1), .int (t0.1 2), .ref (a0 6), .int (t0.1 3), .int (t0.1 4), .ref (a0 7), .int (t0.1 5), .int (t0.1 6), .int (t0.1 7), .int (t0.1 8), .int (t0.1 9), .int (t0.1 10), .int (t0.1 11), .int (t0.1 12), .int (t0.1 13), .int (t0.1 14)])), ((a0 1), .inl (q 1, 6896, .inr (.inl (t0.2.2.1 0)))), ((a0 2), .inl (q 1, 68960, .inr (.inl (t0.2.2.1 1)))), ((a0 3), .inl (q 1, 13792, .inr (.inl (t0.2.2.1 2)))), ((a0 4), .inl (q 1, 6896, .inr (.inl (t0.2.2.1 3)))), ((a0 5), .inl (q 3, 2, .inl (t0.2.2.2 0))), ((a0 6), .inl (q 0, 40, .inl (t0.2.2.2 1))), ((a0 7), .inl (q 2, 400, .inl (t0.2.2.2 2)))] := hD
            unfold wp_X7_findsTurning_L33 at h
            refine lv_iload hx hb dX7_findsTurning_33 (lv_at hl 3 rfl) ?_
            refine lv_aload_n hx hb dX7_findsTurning_35 rfl (lv_at hl 4 rfl) ?_
            refine vp_callSi (rd_wV (wc := md_v a0 q t0) (As := []) (rest := [.int z5]) hx hb hml hown ht (c2_X7_cells h) wd_X7_cells mw_1295 hQ hV hS (hP.sub [0, 1, 2, 3, 4, 5, 6, 7] rfl) rfl rfl rfl hl.1 rfl (Nat.le_of_ble_eq_true rfl) dX7_findsTurning_36 ⟨Nat.le_of_ble_eq_true rfl, Nat.le_of_ble_eq_true rfl, rfl, rfl⟩ ⟨Nat.le_of_ble_eq_true rfl, Nat.le_of_ble_eq_true rfl⟩) (fun r_4 h => ?_)
            try dsimp only at h
            refine lv_icmp_ge (tgt := 91) hx hb dX7_findsTurning_39 (by decide) (fun c_6 => ?_) (fun c_6 => ?_)
            · replace h := h.1 c_6
              exact k91 _ _ _ _ _ _ _ ls h (hP.sub (ws' := md_v a0 q t0) [0, 1, 2, 3, 4, 5, 6, 7] rfl) (hD.sub (ws' := md_v a0 q t0) [0, 1, 2, 3, 4, 5, 6, 7] (by decide) rfl) hS (lv_sub hl [0, 1, 2, 3, 4] rfl)
            · replace h := h.2 c_6
              refine lv_lload_n hx hb dX7_findsTurning_42 rfl (lv_at hl 0 rfl) ?_
              refine lv_iload hx hb dX7_findsTurning_43 (lv_at hl 3 rfl) ?_
              refine vp_callSi (rd_wS (wc := ([] : va_W)) (As := [.long w1, .int z5]) (rest := []) hx hb hml hown ht (c2_X7_isIn h) wd_X7_isIn mw_1265 hQ hV hS (hP.sub [] rfl) rfl hl.1 rfl (Nat.le_of_ble_eq_true rfl) dX7_findsTurning_45 ⟨Nat.le_of_ble_eq_true rfl, Nat.le_of_ble_eq_true rfl, rfl, rfl⟩ ⟨Nat.le_of_ble_eq_true rfl, Nat.le_of_ble_eq_true rfl⟩) (fun r_7 h => ?_)
              try dsimp only at h
              refine lv_if_ne (tgt := 85) hx hb dX7_findsTurning_48 (by decide) (fun c_9 => ?_) (fun c_9 => ?_)
              · replace h := h.1 c_9
                refine lv_iinc (v := (z5 + 1)) (lv' := [(5, .int (z5 + 1)), (1, .long w1), (3, .int z3), (4, .int z4), (0, .ref (a0 0))]) hx hb dX7_findsTurning_85 hl (k := 3) rfl rfl (by decide) rfl (fun ls hl => ?_)
                refine lv_goto (tgt := 33) hx hb dX7_findsTurning_88 (by decide) ?_
                exact ih _ _ _ _ _ _ _ ls h (hP.sub (ws' := md_v a0 q t0) [0, 1, 2, 3, 4, 5, 6, 7] rfl) (hD.sub (ws' := md_v a0 q t0) [0, 1, 2, 3, 4, 5, 6, 7] (by decide) rfl) hS (lv_sub hl [1, 2, 3, 0, 4] rfl)
              · replace h := h.2 c_9
                refine lv_aload_n hx hb dX7_findsTurning_51 rfl (lv_at hl 4 rfl) ?_
                refine lv_iload hx hb dX7_findsTurning_52 (lv_at hl 3 rfl) ?_
                refine vp_callSi (rd_wV (wc := md_v a0 q t0) (As := [.int z5]) (rest := []) hx hb hml hown ht (c2_X7_leftOf h) wd_X7_leftOf mw_1312 hQ hV hS (hP.sub [0, 1, 2, 3, 4, 5, 6, 7] rfl) rfl rfl rfl hl.1 rfl (Nat.le_of_ble_eq_true rfl) dX7_findsTurning_54 ⟨Nat.le_of_ble_eq_true rfl, Nat.le_of_ble_eq_true rfl, rfl, rfl⟩ ⟨Nat.le_of_ble_eq_true rfl, Nat.le_of_ble_eq_true rfl⟩) (fun r_10 h => ?_)
                try dsimp only at h
                refine lv_if_le (tgt := 85) hx hb dX7_findsTurning_57 (by decide) (fun c_12 => ?_) (fun c_12 => ?_)
                · replace h := h.1 c_12
                  refine lv_iinc (v := (z5 + 1)) (lv' := [(5, .int (z5 + 1)), (1, .long w1), (3, .int z3), (4, .int z4), (0, .ref (a0 0))]) hx hb dX7_findsTurning_85 hl (k := 3) rfl rfl (by decide) rfl (fun ls hl => ?_)
                  refine lv_goto (tgt := 33) hx hb dX7_findsTurning_88 (by decide) ?_
                  exact ih _ _ _ _ _ _ _ ls h (hP.sub (ws' := md_v a0 q t0) [0, 1, 2, 3, 4, 5, 6, 7] rfl) (hD.sub (ws' := md_v a0 q t0) [0, 1, 2, 3, 4, 5, 6, 7] (by decide) rfl) hS (lv_sub hl [1, 2, 3, 0, 4] rfl)
                · replace h := h.2 c_12
                  refine lv_iload hx hb dX7_findsTurning_60 (lv_at hl 2 rfl) ?_
                  refine lv_iconst (v := (-1)) hx hb dX7_findsTurning_62 (by decide) ?_
                  refine lv_icmp_eq (tgt := 81) hx hb dX7_findsTurning_63 (by decide) (fun c_13 => ?_) (fun c_13 => ?_)
                  · replace h := h.1 c_13
                    refine lv_iload hx hb dX7_findsTurning_81 (lv_at hl 3 rfl) ?_
                    refine lv_istore (lv' := [(4, .int z5), (1, .long w1), (3, .int z3), (5, .int z5), (0, .ref (a0 0))]) hx hb dX7_findsTurning_83 hl (by decide) rfl (fun ls hl => ?_)
                    refine lv_iinc (v := (z5 + 1)) (lv' := [(5, .int (z5 + 1)), (4, .int z5), (1, .long w1), (3, .int z3), (0, .ref (a0 0))]) hx hb dX7_findsTurning_85 hl (k := 3) rfl rfl (by decide) rfl (fun ls hl => ?_)
                    refine lv_goto (tgt := 33) hx hb dX7_findsTurning_88 (by decide) ?_
                    exact ih _ _ _ _ _ _ _ ls h (hP.sub (ws' := md_v a0 q t0) [0, 1, 2, 3, 4, 5, 6, 7] rfl) (hD.sub (ws' := md_v a0 q t0) [0, 1, 2, 3, 4, 5, 6, 7] (by decide) rfl) hS (lv_sub hl [2, 3, 1, 0, 4] rfl)
                  · replace h := h.2 c_13
                    refine lv_aload_n hx hb dX7_findsTurning_66 rfl (lv_at hl 4 rfl) ?_
                    refine lv_iload hx hb dX7_findsTurning_67 (lv_at hl 3 rfl) ?_
                    refine vp_callSi (rd_wV (wc := md_v a0 q t0) (As := [.int z5]) (rest := []) hx hb hml hown ht (c2_X7_leftOf h) wd_X7_leftOf mw_1312 hQ hV hS (hP.sub [0, 1, 2, 3, 4, 5, 6, 7] rfl) rfl rfl rfl hl.1 rfl (Nat.le_of_ble_eq_true rfl) dX7_findsTurning_69 ⟨Nat.le_of_ble_eq_true rfl, Nat.le_of_ble_eq_true rfl, rfl, rfl⟩ ⟨Nat.le_of_ble_eq_true rfl, Nat.le_of_ble_eq_true rfl⟩) (fun r_14 h => ?_)
                    try dsimp only at h
                    refine lv_aload_n hx hb dX7_findsTurning_72 rfl (lv_at hl 4 rfl) ?_
                    refine lv_iload hx hb dX7_findsTurning_73 (lv_at hl 2 rfl) ?_
                    refine vp_callSi (rd_wV (wc := md_v a0 q t0) (As := [.int z4]) (rest := [.int r_14]) hx hb hml hown ht (c2_X7_leftOf h) wd_X7_leftOf mw_1312 hQ hV hS (hP.sub [0, 1, 2, 3, 4, 5, 6, 7] rfl) rfl rfl rfl hl.1 rfl (Nat.le_of_ble_eq_true rfl) dX7_findsTurning_75 ⟨Nat.le_of_ble_eq_true rfl, Nat.le_of_ble_eq_true rfl, rfl, rfl⟩ ⟨Nat.le_of_ble_eq_true rfl, Nat.le_of_ble_eq_true rfl⟩) (fun r_16 h => ?_)
                    try dsimp only at h
                    refine lv_icmp_le (tgt := 85) hx hb dX7_findsTurning_78 (by decide) (fun c_18 => ?_) (fun c_18 => ?_)
                    · replace h := h.1 c_18
                      refine lv_iinc (v := (z5 + 1)) (lv' := [(5, .int (z5 + 1)), (1, .long w1), (3, .int z3), (4, .int z4), (0, .ref (a0 0))]) hx hb dX7_findsTurning_85 hl (k := 3) rfl rfl (by decide) rfl (fun ls hl => ?_)
                      refine lv_goto (tgt := 33) hx hb dX7_findsTurning_88 (by decide) ?_
                      exact ih _ _ _ _ _ _ _ ls h (hP.sub (ws' := md_v a0 q t0) [0, 1, 2, 3, 4, 5, 6, 7] rfl) (hD.sub (ws' := md_v a0 q t0) [0, 1, 2, 3, 4, 5, 6, 7] (by decide) rfl) hS (lv_sub hl [1, 2, 3, 0, 4] rfl)
                    · replace h := h.2 c_18
                      refine lv_iload hx hb dX7_findsTurning_81 (lv_at hl 3 rfl) ?_
                      refine lv_istore (lv' := [(4, .int z5), (1, .long w1), (3, .int z3), (5, .int z5), (0, .ref (a0 0))]) hx hb dX7_findsTurning_83 hl (by decide) rfl (fun ls hl => ?_)
                      refine lv_iinc (v := (z5 + 1)) (lv' := [(5, .int (z5 + 1)), (4, .int z5), (1, .long w1), (3, .int z3), (0, .ref (a0 0))]) hx hb dX7_findsTurning_85 hl (k := 3) rfl rfl (by decide) rfl (fun ls hl => ?_)
                      refine lv_goto (tgt := 33) hx hb dX7_findsTurning_88 (by decide) ?_
                      exact ih _ _ _ _ _ _ _ ls h (hP.sub (ws' := md_v a0 q t0) [0, 1, 2, 3, 4, 5, 6, 7] rfl) (hD.sub (ws' := md_v a0 q t0) [0, 1, 2, 3, 4, 5, 6, 7] (by decide) rfl) hS (lv_sub hl [2, 3, 1, 0, 4] rfl)
        obtain ⟨n33, h⟩ := h
        refine lp33 _ ?_ n33 _ _ _ _ _ _ _ ls h (hP.sub (ws' := md_v a0 q t0) [0, 1, 2, 3, 4, 5, 6, 7] rfl) (hD.sub (ws' := md_v a0 q t0) [0, 1, 2, 3, 4, 5, 6, 7] (by decide) rfl) hS (lv_sub hl [2, 3, 1, 0, 4] rfl)
        · intro t0 w1 z3 z4 z5 H locs ls h hP hD hS hl
          try dsimp only at h
          have hP : va_P D vwCl [((a0 0), .inr (6, [.ref (a0 1), .ref (a0 2), .int (t0.1 0), .ref (a0 3), .ref (a0 5), .ref (a0 4), .long t0.2.1, .int (t0.1 1), .int (t0.1 2), .ref (a0 6), .int (t0.1 3), .int (t0.1 4), .ref (a0 7), .int (t0.1 5), .int (t0.1 6), .int (t0.1 7), .int (t0.1 8), .int (t0.1 9), .int (t0.1 10), .int (t0.1 11), .int (t0.1 12), .int (t0.1 13), .int (t0.1 14)])), ((a0 1), .inl (q 1, 6896, .inr (.inl (t0.2.2.1 0)))), ((a0 2), .inl (q 1, 68960, .inr (.inl (t0.2.2.1 1)))), ((a0 3), .inl (q 1, 13792, .inr (.inl (t0.2.2.1 2)))), ((a0 4), .inl (q 1, 6896, .inr (.inl (t0.2.2.1 3)))), ((a0 5), .inl (q 3, 2, .inl (t0.2.2.2 0))), ((a0 6), .inl (q 0, 40, .inl (t0.2.2.2 1))), ((a0 7), .inl (q 2, 400, .inl (t0.2.2.2 2)))] H := hP
          have hD : va_D _ [((a0 0), .inr (6, [.ref (a0 1), .ref (a0 2), .int (t0.1 0), .ref (a0 3), .ref (a0 5), .ref (a0 4), .long t0.2.1, .int (t0.1 1), .int (t0.1 2), .ref (a0 6), .int (t0.1 3), .int (t0.1 4), .ref (a0 7), .int (t0.1 5), .int (t0.1 6), .int (t0.1 7), .int (t0.1 8), .int (t0.1 9), .int (t0.1 10), .int (t0.1 11), .int (t0.1 12), .int (t0.1 13), .int (t0.1 14)])), ((a0 1), .inl (q 1, 6896, .inr (.inl (t0.2.2.1 0)))), ((a0 2), .inl (q 1, 68960, .inr (.inl (t0.2.2.1 1)))), ((a0 3), .inl (q 1, 13792, .inr (.inl (t0.2.2.1 2)))), ((a0 4), .inl (q 1, 6896, .inr (.inl (t0.2.2.1 3)))), ((a0 5), .inl (q 3, 2, .inl (t0.2.2.2 0))), ((a0 6), .inl (q 0, 40, .inl (t0.2.2.2 1))), ((a0 7), .inl (q 2, 400, .inl (t0.2.2.2 2)))] := hD
          refine lv_iload hx hb dX7_findsTurning_91 (lv_at hl 2 rfl) ?_
          refine lv_iconst (v := (-1)) hx hb dX7_findsTurning_93 (by decide) ?_
          refine lv_icmp_ne (tgt := 98) hx hb dX7_findsTurning_94 (by decide) (fun c_19 => ?_) (fun c_19 => ?_)
          · replace h := h.1 c_19
            refine lv_lload_n hx hb dX7_findsTurning_98 rfl (lv_at hl 0 rfl) ?_
            refine lv_lconst (v := 1) hx hb dX7_findsTurning_99 (by decide) ?_
            refine lv_iload hx hb dX7_findsTurning_100 (lv_at hl 2 rfl) ?_
            refine lv_lshl (v := ((1 : Int64) <<< (Int32.toInt64 z4 &&& 63))) hx hb dX7_findsTurning_102 rfl ?_
            refine lv_lor hx hb dX7_findsTurning_103 ?_
            refine lv_lstore_n (lv' := [(1, .long (w1 ||| ((1 : Int64) <<< (Int32.toInt64 z4 &&& 63)))), (3, .int z3), (4, .int z4), (5, .int z5), (0, .ref (a0 0))]) hx hb dX7_findsTurning_104 rfl hl (by decide) rfl (fun ls hl => ?_)
            refine lv_aload_n hx hb dX7_findsTurning_105 rfl (lv_at hl 4 rfl) ?_
            refine fl_get (C := RX7) (T := TX7) (N := 23) (ci := 6) (v := .int (t0.1 2)) hx hb ht in_X7 hown hK hP 0 rfl rfl 8 (by decide) mw_1138 rfl dX7_findsTurning_106 ?_
            refine lv_aload_n hx hb dX7_findsTurning_109 rfl (lv_at hl 4 rfl) ?_
            refine lv_iload hx hb dX7_findsTurning_110 (lv_at hl 2 rfl) ?_
            refine vp_callSi (rd_wV (wc := md_v a0 q t0) (As := [.int z4]) (rest := [.int (t0.1 2)]) hx hb hml hown ht (c2_X7_current h) wd_X7_current mw_1316 hQ hV hS (hP.sub [0, 1, 2, 3, 4, 5, 6, 7] rfl) rfl rfl rfl hl.1 rfl (Nat.le_of_ble_eq_true rfl) dX7_findsTurning_112 ⟨Nat.le_of_ble_eq_true rfl, Nat.le_of_ble_eq_true rfl, rfl, rfl⟩ ⟨Nat.le_of_ble_eq_true rfl, Nat.le_of_ble_eq_true rfl⟩) (fun r_20 h => ?_)
            try dsimp only at h
            refine lv_iadd hx hb dX7_findsTurning_115 ?_
            refine lv_i2l (v := (Int32.toInt64 ((t0.1 2) + r_20))) hx hb dX7_findsTurning_116 rfl ?_
            refine lv_aload_n hx hb dX7_findsTurning_117 rfl (lv_at hl 4 rfl) ?_
            refine fl_get (C := RX7) (T := TX7) (N := 23) (ci := 6) (v := .ref (a0 1)) hx hb ht in_X7 hown hK hP 0 rfl rfl 0 (by decide) mw_1130 rfl dX7_findsTurning_118 ?_
            refine lv_iconst (v := 2) hx hb dX7_findsTurning_121 (by decide) ?_
            refine va_lald hx hb hK hP 1 1 rfl rfl (in_c rfl) dX7_findsTurning_122 ?_
            refine W.lcmp hx hb dX7_findsTurning_123 ?_
            refine lv_if_le (tgt := 130) hx hb dX7_findsTurning_124 (by decide) (fun c_22 => ?_) (fun c_22 => ?_)
            · replace h := h.1 c_22
              refine lv_aload_n hx hb dX7_findsTurning_130 rfl (lv_at hl 4 rfl) ?_
              refine lv_dup hx hb dX7_findsTurning_131 rfl ?_
              refine fl_get (C := RX7) (T := TX7) (N := 23) (ci := 6) (v := .long t0.2.1) hx hb ht in_X7 hown hK hP 0 rfl rfl 6 (by decide) mw_1136 rfl dX7_findsTurning_132 ?_
              refine lv_lconst (v := 1) hx hb dX7_findsTurning_135 (by decide) ?_
              refine lv_iload hx hb dX7_findsTurning_136 (lv_at hl 2 rfl) ?_
              refine lv_lshl (v := ((1 : Int64) <<< (Int32.toInt64 z4 &&& 63))) hx hb dX7_findsTurning_138 rfl ?_
              refine lv_lor hx hb dX7_findsTurning_139 ?_
              refine fl_put (C := RX7) (T := TX7) (N := 23) (ci := 6) (v := .long (t0.2.1 ||| ((1 : Int64) <<< (Int32.toInt64 z4 &&& 63)))) (ws2 := [((a0 0), .inr (6, [.ref (a0 1), .ref (a0 2), .int (t0.1 0), .ref (a0 3), .ref (a0 5), .ref (a0 4), .long (t0.2.1 ||| ((1 : Int64) <<< (Int32.toInt64 z4 &&& 63))), .int (t0.1 1), .int (t0.1 2), .ref (a0 6), .int (t0.1 3), .int (t0.1 4), .ref (a0 7), .int (t0.1 5), .int (t0.1 6), .int (t0.1 7), .int (t0.1 8), .int (t0.1 9), .int (t0.1 10), .int (t0.1 11), .int (t0.1 12), .int (t0.1 13), .int (t0.1 14)])), ((a0 1), .inl (q 1, 6896, .inr (.inl (t0.2.2.1 0)))), ((a0 2), .inl (q 1, 68960, .inr (.inl (t0.2.2.1 1)))), ((a0 3), .inl (q 1, 13792, .inr (.inl (t0.2.2.1 2)))), ((a0 4), .inl (q 1, 6896, .inr (.inl (t0.2.2.1 3)))), ((a0 5), .inl (q 3, 2, .inl (t0.2.2.2 0))), ((a0 6), .inl (q 0, 40, .inl (t0.2.2.2 1))), ((a0 7), .inl (q 2, 400, .inl (t0.2.2.2 2)))]) hx hb ht in_X7 tyX7_ok nmX7 hown hK hP hD hS 0 rfl rfl 6 (by decide) mw_1136 rfl rfl rfl (Nat.le_of_ble_eq_true rfl) dX7_findsTurning_140 rfl (fun H locs hP hD hS => ?_)
              refine lv_aload_n hx hb dX7_findsTurning_143 rfl (lv_at hl 4 rfl) ?_
              refine lv_dup hx hb dX7_findsTurning_144 rfl ?_
              refine fl_get (C := RX7) (T := TX7) (N := 23) (ci := 6) (v := .int (t0.1 1)) hx hb ht in_X7 hown hK hP 0 rfl rfl 7 (by decide) mw_1137 rfl dX7_findsTurning_145 ?_
              refine lv_iconst (v := 1) hx hb dX7_findsTurning_148 (by decide) ?_
              refine lv_iadd hx hb dX7_findsTurning_149 ?_
              refine fl_put (C := RX7) (T := TX7) (N := 23) (ci := 6) (v := .int ((t0.1 1) + 1)) (ws2 := [((a0 0), .inr (6, [.ref (a0 1), .ref (a0 2), .int (t0.1 0), .ref (a0 3), .ref (a0 5), .ref (a0 4), .long (t0.2.1 ||| ((1 : Int64) <<< (Int32.toInt64 z4 &&& 63))), .int ((t0.1 1) + 1), .int (t0.1 2), .ref (a0 6), .int (t0.1 3), .int (t0.1 4), .ref (a0 7), .int (t0.1 5), .int (t0.1 6), .int (t0.1 7), .int (t0.1 8), .int (t0.1 9), .int (t0.1 10), .int (t0.1 11), .int (t0.1 12), .int (t0.1 13), .int (t0.1 14)])), ((a0 1), .inl (q 1, 6896, .inr (.inl (t0.2.2.1 0)))), ((a0 2), .inl (q 1, 68960, .inr (.inl (t0.2.2.1 1)))), ((a0 3), .inl (q 1, 13792, .inr (.inl (t0.2.2.1 2)))), ((a0 4), .inl (q 1, 6896, .inr (.inl (t0.2.2.1 3)))), ((a0 5), .inl (q 3, 2, .inl (t0.2.2.2 0))), ((a0 6), .inl (q 0, 40, .inl (t0.2.2.2 1))), ((a0 7), .inl (q 2, 400, .inl (t0.2.2.2 2)))]) hx hb ht in_X7 tyX7_ok nmX7 hown hK hP hD hS 0 rfl rfl 7 (by decide) mw_1137 rfl rfl rfl (Nat.le_of_ble_eq_true rfl) dX7_findsTurning_150 rfl (fun H locs hP hD hS => ?_)
              refine lv_aload_n hx hb dX7_findsTurning_153 rfl (lv_at hl 4 rfl) ?_
              refine lv_dup hx hb dX7_findsTurning_154 rfl ?_
              refine fl_get (C := RX7) (T := TX7) (N := 23) (ci := 6) (v := .int (t0.1 2)) hx hb ht in_X7 hown hK hP 0 rfl rfl 8 (by decide) mw_1138 rfl dX7_findsTurning_155 ?_
              refine lv_aload_n hx hb dX7_findsTurning_158 rfl (lv_at hl 4 rfl) ?_
              refine lv_iload hx hb dX7_findsTurning_159 (lv_at hl 2 rfl) ?_
              refine vp_callSi (rd_wV (wc := md_v a0 q ((va_up t0.1 1 ((t0.1 1) + 1)), (t0.2.1 ||| ((1 : Int64) <<< (Int32.toInt64 z4 &&& 63))), t0.2.2.1, t0.2.2.2)) (As := [.int z4]) (rest := [.int (t0.1 2), .ref (a0 0)]) hx hb hml hown ht (c2_X7_current h) wd_X7_current mw_1316 hQ hV hS (hP.sub [0, 1, 2, 3, 4, 5, 6, 7] rfl) rfl rfl rfl hl.1 rfl (Nat.le_of_ble_eq_true rfl) dX7_findsTurning_161 ⟨Nat.le_of_ble_eq_true rfl, Nat.le_of_ble_eq_true rfl, rfl, rfl⟩ ⟨Nat.le_of_ble_eq_true rfl, Nat.le_of_ble_eq_true rfl⟩) (fun r_23 h => ?_)
              try dsimp only at h
              refine lv_iadd hx hb dX7_findsTurning_164 ?_
              refine fl_put (C := RX7) (T := TX7) (N := 23) (ci := 6) (v := .int ((t0.1 2) + r_23)) (ws2 := [((a0 0), .inr (6, [.ref (a0 1), .ref (a0 2), .int (t0.1 0), .ref (a0 3), .ref (a0 5), .ref (a0 4), .long (t0.2.1 ||| ((1 : Int64) <<< (Int32.toInt64 z4 &&& 63))), .int ((t0.1 1) + 1), .int ((t0.1 2) + r_23), .ref (a0 6), .int (t0.1 3), .int (t0.1 4), .ref (a0 7), .int (t0.1 5), .int (t0.1 6), .int (t0.1 7), .int (t0.1 8), .int (t0.1 9), .int (t0.1 10), .int (t0.1 11), .int (t0.1 12), .int (t0.1 13), .int (t0.1 14)])), ((a0 1), .inl (q 1, 6896, .inr (.inl (t0.2.2.1 0)))), ((a0 2), .inl (q 1, 68960, .inr (.inl (t0.2.2.1 1)))), ((a0 3), .inl (q 1, 13792, .inr (.inl (t0.2.2.1 2)))), ((a0 4), .inl (q 1, 6896, .inr (.inl (t0.2.2.1 3)))), ((a0 5), .inl (q 3, 2, .inl (t0.2.2.2 0))), ((a0 6), .inl (q 0, 40, .inl (t0.2.2.2 1))), ((a0 7), .inl (q 2, 400, .inl (t0.2.2.2 2)))]) hx hb ht in_X7 tyX7_ok nmX7 hown hK hP hD hS 0 rfl rfl 8 (by decide) mw_1138 rfl rfl rfl (Nat.le_of_ble_eq_true rfl) dX7_findsTurning_165 rfl (fun H locs hP hD hS => ?_)
              refine lv_iinc (v := (z3 + 1)) (lv' := [(3, .int (z3 + 1)), (1, .long (w1 ||| ((1 : Int64) <<< (Int32.toInt64 z4 &&& 63)))), (4, .int z4), (5, .int z5), (0, .ref (a0 0))]) hx hb dX7_findsTurning_168 hl (k := 1) rfl rfl (by decide) rfl (fun ls hl => ?_)
              refine lv_goto (tgt := 19) hx hb dX7_findsTurning_171 (by decide) ?_
              exact ih _ _ _ _ _ ls h (hP.sub (ws' := md_v a0 q ((va_up (va_up t0.1 1 ((t0.1 1) + 1)) 2 ((t0.1 2) + r_23)), (t0.2.1 ||| ((1 : Int64) <<< (Int32.toInt64 z4 &&& 63))), t0.2.2.1, t0.2.2.2)) [0, 1, 2, 3, 4, 5, 6, 7] rfl) (hD.sub (ws' := md_v a0 q ((va_up (va_up t0.1 1 ((t0.1 1) + 1)) 2 ((t0.1 2) + r_23)), (t0.2.1 ||| ((1 : Int64) <<< (Int32.toInt64 z4 &&& 63))), t0.2.2.1, t0.2.2.2)) [0, 1, 2, 3, 4, 5, 6, 7] (by decide) rfl) hS (lv_sub hl [1, 0, 4] rfl)
            · replace h := h.2 c_22
              refine lv_goto (tgt := 168) hx hb dX7_findsTurning_127 (by decide) ?_
              refine lv_iinc (v := (z3 + 1)) (lv' := [(3, .int (z3 + 1)), (1, .long (w1 ||| ((1 : Int64) <<< (Int32.toInt64 z4 &&& 63)))), (4, .int z4), (5, .int z5), (0, .ref (a0 0))]) hx hb dX7_findsTurning_168 hl (k := 1) rfl rfl (by decide) rfl (fun ls hl => ?_)
              refine lv_goto (tgt := 19) hx hb dX7_findsTurning_171 (by decide) ?_
              exact ih _ _ _ _ _ ls h (hP.sub (ws' := md_v a0 q t0) [0, 1, 2, 3, 4, 5, 6, 7] rfl) (hD.sub (ws' := md_v a0 q t0) [0, 1, 2, 3, 4, 5, 6, 7] (by decide) rfl) hS (lv_sub hl [1, 0, 4] rfl)
          · replace h := h.2 c_19
            exact mt_vret t0 hx hb hr hk h (hP.sub (ws' := md_v a0 q t0) [0, 1, 2, 3, 4, 5, 6, 7] rfl) (hD.sub (ws' := md_v a0 q t0) [0, 1, 2, 3, 4, 5, 6, 7] (by decide) rfl) hS dX7_findsTurning_97
  obtain ⟨n19, h⟩ := h
  refine lp19 _ ?_ n19 _ _ _ _ _ ls h (hP.sub (ws' := md_v a0 q ((va_up (va_up s0.1 1 0) 2 0), 0, s0.2.2.1, s0.2.2.2)) [0, 1, 2, 3, 4, 5, 6, 7] rfl) (hD.sub (ws' := md_v a0 q ((va_up (va_up s0.1 1 0) 2 0), 0, s0.2.2.1, s0.2.2.2)) [0, 1, 2, 3, 4, 5, 6, 7] (by decide) rfl) hS (lv_sub hl [1, 0, 2] rfl)
  · intro t0 w1 z3 H locs ls h hP hD hS hl
    try dsimp only at h
    have hP : va_P D vwCl [((a0 0), .inr (6, [.ref (a0 1), .ref (a0 2), .int (t0.1 0), .ref (a0 3), .ref (a0 5), .ref (a0 4), .long t0.2.1, .int (t0.1 1), .int (t0.1 2), .ref (a0 6), .int (t0.1 3), .int (t0.1 4), .ref (a0 7), .int (t0.1 5), .int (t0.1 6), .int (t0.1 7), .int (t0.1 8), .int (t0.1 9), .int (t0.1 10), .int (t0.1 11), .int (t0.1 12), .int (t0.1 13), .int (t0.1 14)])), ((a0 1), .inl (q 1, 6896, .inr (.inl (t0.2.2.1 0)))), ((a0 2), .inl (q 1, 68960, .inr (.inl (t0.2.2.1 1)))), ((a0 3), .inl (q 1, 13792, .inr (.inl (t0.2.2.1 2)))), ((a0 4), .inl (q 1, 6896, .inr (.inl (t0.2.2.1 3)))), ((a0 5), .inl (q 3, 2, .inl (t0.2.2.2 0))), ((a0 6), .inl (q 0, 40, .inl (t0.2.2.2 1))), ((a0 7), .inl (q 2, 400, .inl (t0.2.2.2 2)))] H := hP
    have hD : va_D _ [((a0 0), .inr (6, [.ref (a0 1), .ref (a0 2), .int (t0.1 0), .ref (a0 3), .ref (a0 5), .ref (a0 4), .long t0.2.1, .int (t0.1 1), .int (t0.1 2), .ref (a0 6), .int (t0.1 3), .int (t0.1 4), .ref (a0 7), .int (t0.1 5), .int (t0.1 6), .int (t0.1 7), .int (t0.1 8), .int (t0.1 9), .int (t0.1 10), .int (t0.1 11), .int (t0.1 12), .int (t0.1 13), .int (t0.1 14)])), ((a0 1), .inl (q 1, 6896, .inr (.inl (t0.2.2.1 0)))), ((a0 2), .inl (q 1, 68960, .inr (.inl (t0.2.2.1 1)))), ((a0 3), .inl (q 1, 13792, .inr (.inl (t0.2.2.1 2)))), ((a0 4), .inl (q 1, 6896, .inr (.inl (t0.2.2.1 3)))), ((a0 5), .inl (q 3, 2, .inl (t0.2.2.2 0))), ((a0 6), .inl (q 0, 40, .inl (t0.2.2.2 1))), ((a0 7), .inl (q 2, 400, .inl (t0.2.2.2 2)))] := hD
    exact mt_vret t0 hx hb hr hk h (hP.sub (ws' := md_v a0 q t0) [0, 1, 2, 3, 4, 5, 6, 7] rfl) (hD.sub (ws' := md_v a0 q t0) [0, 1, 2, 3, 4, 5, 6, 7] (by decide) rfl) hS dX7_findsTurning_174

def wp_X7_ticks_L6 (post : Int32 → Md → Prop) (e36 : Md → Int32 → Prop) : Nat → Md → Int32 → Prop
  | 0, _, _ => False
  | n6 + 1, t0, z1 => wp_X7_cells (fun r_3 => ((r_3 ≤ z1 → e36 t0 z1) ∧ (¬ r_3 ≤ z1 → wp_X7_isIn (fun r_6 => ((r_6 = 0 → wp_X7_ticks_L6 post e36 n6 t0 (z1 + 1)) ∧ (¬ r_6 = 0 → wp_X7_steps (fun u_10 => wp_X7_ticks_L6 post e36 n6 u_10 (z1 + 1)) t0 z1))) t0.2.1 z1))) t0
def wp_X7_ticks (post : Int32 → Md → Prop) (s0 : Md) : Prop := wp_X7_findsTurning (fun u_2 => (∃ n6, wp_X7_ticks_L6 post (fun t0 z1 => ((¬ (t0.1 1) = 0 → post (t0.1 1) (t0.1, t0.2.1, (va_up t0.2.2.1 0 (vp_updL (vp_updL (t0.2.2.1 0) (Int32.toNatClampNeg 4) (Int32.toInt64 (Int64.toInt32 (((t0.2.2.1 0) (Int32.toNatClampNeg 4)) + (Int32.toInt64 ((t0.1 1) * (t0.1 1))))))) (Int32.toNatClampNeg 5) (((vp_updL (t0.2.2.1 0) (Int32.toNatClampNeg 4) (Int32.toInt64 (Int64.toInt32 (((t0.2.2.1 0) (Int32.toNatClampNeg 4)) + (Int32.toInt64 ((t0.1 1) * (t0.1 1))))))) (Int32.toNatClampNeg 5)) + 1))), t0.2.2.2)) ∧ ((t0.1 1) = 0 → post 0 t0))) n6 u_2 0)) s0
set_option maxHeartbeats 4000000 in
set_option maxRecDepth 100000 in
theorem c2_X7_ticks {l : Launch} {D : va_G} {q : Nat → ClassId} {sz : Nat} {a0 : Nat → Nat} {s0 : Md} {post : Int32 → Md → Prop} (h : wp_X7_ticks post s0) : Met l yX7_ticks (Cond.code yX7_ticks cX7_ticks 2 (some .int) :: w_all) ({ frames := 4, cells := 0, slots := 0, locals := 89 } : Room) (mt_P D q [.ref (a0 0)] (md_v a0 q s0) sz) (va_Qi (fun r (u : Md) => post r u) (mt_B D (md_v a0 q s0) sz (fun u : Md => md_v a0 q u)) (va_A (md_v a0 q s0) sz)) 0 0 (va_A (md_v a0 q s0) sz) := by
  refine mt_start (by decide) (Nat.le_of_ble_eq_true rfl) ?_
  intro p e s m below meth c ls hx hb hr hml hown ht hk hin hP hQ hD hA hS hV hl
  have hK := hQ.1
  have hown : s.vm.findClass RX7 = some m.cls := hown
  have hl : lv_has ls 2 [(0, .ref (a0 0))] := hl
  have hP : va_P D vwCl [((a0 0), .inr (6, [.ref (a0 1), .ref (a0 2), .int (s0.1 0), .ref (a0 3), .ref (a0 5), .ref (a0 4), .long s0.2.1, .int (s0.1 1), .int (s0.1 2), .ref (a0 6), .int (s0.1 3), .int (s0.1 4), .ref (a0 7), .int (s0.1 5), .int (s0.1 6), .int (s0.1 7), .int (s0.1 8), .int (s0.1 9), .int (s0.1 10), .int (s0.1 11), .int (s0.1 12), .int (s0.1 13), .int (s0.1 14)])), ((a0 1), .inl (q 1, 6896, .inr (.inl (s0.2.2.1 0)))), ((a0 2), .inl (q 1, 68960, .inr (.inl (s0.2.2.1 1)))), ((a0 3), .inl (q 1, 13792, .inr (.inl (s0.2.2.1 2)))), ((a0 4), .inl (q 1, 6896, .inr (.inl (s0.2.2.1 3)))), ((a0 5), .inl (q 3, 2, .inl (s0.2.2.2 0))), ((a0 6), .inl (q 0, 40, .inl (s0.2.2.2 1))), ((a0 7), .inl (q 2, 400, .inl (s0.2.2.2 2)))] s.heap := hP
  have hD : va_D _ [((a0 0), .inr (6, [.ref (a0 1), .ref (a0 2), .int (s0.1 0), .ref (a0 3), .ref (a0 5), .ref (a0 4), .long s0.2.1, .int (s0.1 1), .int (s0.1 2), .ref (a0 6), .int (s0.1 3), .int (s0.1 4), .ref (a0 7), .int (s0.1 5), .int (s0.1 6), .int (s0.1 7), .int (s0.1 8), .int (s0.1 9), .int (s0.1 10), .int (s0.1 11), .int (s0.1 12), .int (s0.1 13), .int (s0.1 14)])), ((a0 1), .inl (q 1, 6896, .inr (.inl (s0.2.2.1 0)))), ((a0 2), .inl (q 1, 68960, .inr (.inl (s0.2.2.1 1)))), ((a0 3), .inl (q 1, 13792, .inr (.inl (s0.2.2.1 2)))), ((a0 4), .inl (q 1, 6896, .inr (.inl (s0.2.2.1 3)))), ((a0 5), .inl (q 3, 2, .inl (s0.2.2.2 0))), ((a0 6), .inl (q 0, 40, .inl (s0.2.2.2 1))), ((a0 7), .inl (q 2, 400, .inl (s0.2.2.2 2)))] := hD
  unfold wp_X7_ticks at h
  refine lv_aload_n hx hb dX7_ticks_0 rfl (lv_at hl 0 rfl) ?_
  refine mt_gov (mt_wV (wc := md_v a0 q s0) (As := []) (rest := []) hx hb hml hown ht (c2_X7_findsTurning h) wd_X7_findsTurning mw_1308 hQ hV hS hA (hP.sub [0, 1, 2, 3, 4, 5, 6, 7] rfl) (hD.sub [0, 1, 2, 3, 4, 5, 6, 7] (by decide) rfl) rfl rfl rfl hl.1 rfl (Nat.le_of_ble_eq_true rfl) dX7_ticks_1 ⟨Nat.le_of_ble_eq_true rfl, Nat.le_of_ble_eq_true rfl, rfl, rfl⟩ ⟨Nat.le_of_ble_eq_true rfl, Nat.le_of_ble_eq_true rfl⟩) (wr := []) hP hD hS hA [0, 1, 2, 3, 4, 5, 6, 7] [] rfl rfl (by decide) (by decide) (fun u_2 H locs h hP hD hS => ?_)
  try dsimp only at h
  have hP : va_P D vwCl [((a0 0), .inr (6, [.ref (a0 1), .ref (a0 2), .int (u_2.1 0), .ref (a0 3), .ref (a0 5), .ref (a0 4), .long u_2.2.1, .int (u_2.1 1), .int (u_2.1 2), .ref (a0 6), .int (u_2.1 3), .int (u_2.1 4), .ref (a0 7), .int (u_2.1 5), .int (u_2.1 6), .int (u_2.1 7), .int (u_2.1 8), .int (u_2.1 9), .int (u_2.1 10), .int (u_2.1 11), .int (u_2.1 12), .int (u_2.1 13), .int (u_2.1 14)])), ((a0 1), .inl (q 1, 6896, .inr (.inl (u_2.2.2.1 0)))), ((a0 2), .inl (q 1, 68960, .inr (.inl (u_2.2.2.1 1)))), ((a0 3), .inl (q 1, 13792, .inr (.inl (u_2.2.2.1 2)))), ((a0 4), .inl (q 1, 6896, .inr (.inl (u_2.2.2.1 3)))), ((a0 5), .inl (q 3, 2, .inl (u_2.2.2.2 0))), ((a0 6), .inl (q 0, 40, .inl (u_2.2.2.2 1))), ((a0 7), .inl (q 2, 400, .inl (u_2.2.2.2 2)))] H := hP
  have hD : va_D _ [((a0 0), .inr (6, [.ref (a0 1), .ref (a0 2), .int (u_2.1 0), .ref (a0 3), .ref (a0 5), .ref (a0 4), .long u_2.2.1, .int (u_2.1 1), .int (u_2.1 2), .ref (a0 6), .int (u_2.1 3), .int (u_2.1 4), .ref (a0 7), .int (u_2.1 5), .int (u_2.1 6), .int (u_2.1 7), .int (u_2.1 8), .int (u_2.1 9), .int (u_2.1 10), .int (u_2.1 11), .int (u_2.1 12), .int (u_2.1 13), .int (u_2.1 14)])), ((a0 1), .inl (q 1, 6896, .inr (.inl (u_2.2.2.1 0)))), ((a0 2), .inl (q 1, 68960, .inr (.inl (u_2.2.2.1 1)))), ((a0 3), .inl (q 1, 13792, .inr (.inl (u_2.2.2.1 2)))), ((a0 4), .inl (q 1, 6896, .inr (.inl (u_2.2.2.1 3)))), ((a0 5), .inl (q 3, 2, .inl (u_2.2.2.2 0))), ((a0 6), .inl (q 0, 40, .inl (u_2.2.2.2 1))), ((a0 7), .inl (q 2, 400, .inl (u_2.2.2.2 2)))] := hD
  refine lv_iconst (v := 0) hx hb dX7_ticks_4 (by decide) ?_
  refine lv_istore_n (lv' := [(1, .int 0), (0, .ref (a0 0))]) hx hb dX7_ticks_5 rfl hl (by decide) rfl (fun ls hl => ?_)
  have lp6 : ∀ (e36 : Md → Int32 → Prop) (k36 : ∀ (t0 : Md) (z1 : Int32) (H : Heap) (locs : List Loc) (ls : Array Slot), e36 t0 z1 → va_P D vwCl (md_v a0 q t0) H → va_D (va_A (md_v a0 q s0) sz) (md_v a0 q t0) → va_S (va_A (md_v a0 q s0) sz) s.heap H locs → lv_has ls 2 [(1, .int z1), (0, .ref (a0 0))] → W p l e ({ frames := 4, cells := 0, slots := 0, locals := 89 } : Room) s m [.ref (a0 0)].toArray below meth c H locs 0 0 (MQ below (va_Qi (fun r (u : Md) => post r u) (mt_B D (md_v a0 q s0) sz (fun u : Md => md_v a0 q u)) (va_A (md_v a0 q s0) sz)) [.ref (a0 0)].toArray s 0 0 (va_A (md_v a0 q s0) sz)) (F0 m 36 ls [])) (n : Nat) (t0 : Md) (z1 : Int32) (H : Heap) (locs : List Loc) (ls : Array Slot), wp_X7_ticks_L6 post e36 n t0 z1 → va_P D vwCl (md_v a0 q t0) H → va_D (va_A (md_v a0 q s0) sz) (md_v a0 q t0) → va_S (va_A (md_v a0 q s0) sz) s.heap H locs → lv_has ls 2 [(1, .int z1), (0, .ref (a0 0))] → W p l e ({ frames := 4, cells := 0, slots := 0, locals := 89 } : Room) s m [.ref (a0 0)].toArray below meth c H locs 0 0 (MQ below (va_Qi (fun r (u : Md) => post r u) (mt_B D (md_v a0 q s0) sz (fun u : Md => md_v a0 q u)) (va_A (md_v a0 q s0) sz)) [.ref (a0 0)].toArray s 0 0 (va_A (md_v a0 q s0) sz)) (F0 m 6 ls []) := by
    intro e36 k36 n
    induction n with
    | zero =>
      intro t0 z1 H locs ls h
      exact h.elim
    | succ n ih =>
      intro t0 z1 H locs ls h hP hD hS hl
      have hP : va_P D vwCl [((a0 0), .inr (6, [.ref (a0 1), .ref (a0 2), .int (t0.1 0), .ref (a0 3), .ref (a0 5), .ref (a0 4), .long t0.2.1, .int (t0.1 1), .int (t0.1 2), .ref (a0 6), .int (t0.1 3), .int (t0.1 4), .ref (a0 7), .int (t0.1 5), .int (t0.1 6), .int (t0.1 7), .int (t0.1 8), .int (t0.1 9), .int (t0.1 10), .int (t0.1 11), .int (t0.1 12), .int (t0.1 13), .int (t0.1 14)])), ((a0 1), .inl (q 1, 6896, .inr (.inl (t0.2.2.1 0)))), ((a0 2), .inl (q 1, 68960, .inr (.inl (t0.2.2.1 1)))), ((a0 3), .inl (q 1, 13792, .inr (.inl (t0.2.2.1 2)))), ((a0 4), .inl (q 1, 6896, .inr (.inl (t0.2.2.1 3)))), ((a0 5), .inl (q 3, 2, .inl (t0.2.2.2 0))), ((a0 6), .inl (q 0, 40, .inl (t0.2.2.2 1))), ((a0 7), .inl (q 2, 400, .inl (t0.2.2.2 2)))] H := hP
      have hD : va_D _ [((a0 0), .inr (6, [.ref (a0 1), .ref (a0 2), .int (t0.1 0), .ref (a0 3), .ref (a0 5), .ref (a0 4), .long t0.2.1, .int (t0.1 1), .int (t0.1 2), .ref (a0 6), .int (t0.1 3), .int (t0.1 4), .ref (a0 7), .int (t0.1 5), .int (t0.1 6), .int (t0.1 7), .int (t0.1 8), .int (t0.1 9), .int (t0.1 10), .int (t0.1 11), .int (t0.1 12), .int (t0.1 13), .int (t0.1 14)])), ((a0 1), .inl (q 1, 6896, .inr (.inl (t0.2.2.1 0)))), ((a0 2), .inl (q 1, 68960, .inr (.inl (t0.2.2.1 1)))), ((a0 3), .inl (q 1, 13792, .inr (.inl (t0.2.2.1 2)))), ((a0 4), .inl (q 1, 6896, .inr (.inl (t0.2.2.1 3)))), ((a0 5), .inl (q 3, 2, .inl (t0.2.2.2 0))), ((a0 6), .inl (q 0, 40, .inl (t0.2.2.2 1))), ((a0 7), .inl (q 2, 400, .inl (t0.2.2.2 2)))] := hD
      unfold wp_X7_ticks_L6 at h
      refine lv_iload_n hx hb dX7_ticks_6 rfl (lv_at hl 0 rfl) ?_
      refine lv_aload_n hx hb dX7_ticks_7 rfl (lv_at hl 1 rfl) ?_
      refine vp_callSi (rd_wV (wc := md_v a0 q t0) (As := []) (rest := [.int z1]) hx hb hml hown ht (c2_X7_cells h) wd_X7_cells mw_1295 hQ hV hS (hP.sub [0, 1, 2, 3, 4, 5, 6, 7] rfl) rfl rfl rfl hl.1 rfl (Nat.le_of_ble_eq_true rfl) dX7_ticks_8 ⟨Nat.le_of_ble_eq_true rfl, Nat.le_of_ble_eq_true rfl, rfl, rfl⟩ ⟨Nat.le_of_ble_eq_true rfl, Nat.le_of_ble_eq_true rfl⟩) (fun r_3 h => ?_)
      try dsimp only at h
      refine lv_icmp_ge (tgt := 36) hx hb dX7_ticks_11 (by decide) (fun c_5 => ?_) (fun c_5 => ?_)
      · replace h := h.1 c_5
        exact k36 _ _ _ _ ls h (hP.sub (ws' := md_v a0 q t0) [0, 1, 2, 3, 4, 5, 6, 7] rfl) (hD.sub (ws' := md_v a0 q t0) [0, 1, 2, 3, 4, 5, 6, 7] (by decide) rfl) hS (lv_sub hl [0, 1] rfl)
      · replace h := h.2 c_5
        refine lv_aload_n hx hb dX7_ticks_14 rfl (lv_at hl 1 rfl) ?_
        refine fl_get (C := RX7) (T := TX7) (N := 23) (ci := 6) (v := .long t0.2.1) hx hb ht in_X7 hown hK hP 0 rfl rfl 6 (by decide) mw_1136 rfl dX7_ticks_15 ?_
        refine lv_iload_n hx hb dX7_ticks_18 rfl (lv_at hl 0 rfl) ?_
        refine vp_callSi (rd_wS (wc := ([] : va_W)) (As := [.long t0.2.1, .int z1]) (rest := []) hx hb hml hown ht (c2_X7_isIn h) wd_X7_isIn mw_1265 hQ hV hS (hP.sub [] rfl) rfl hl.1 rfl (Nat.le_of_ble_eq_true rfl) dX7_ticks_19 ⟨Nat.le_of_ble_eq_true rfl, Nat.le_of_ble_eq_true rfl, rfl, rfl⟩ ⟨Nat.le_of_ble_eq_true rfl, Nat.le_of_ble_eq_true rfl⟩) (fun r_6 h => ?_)
        try dsimp only at h
        refine lv_if_eq (tgt := 30) hx hb dX7_ticks_22 (by decide) (fun c_8 => ?_) (fun c_8 => ?_)
        · replace h := h.1 c_8
          refine lv_iinc (v := (z1 + 1)) (lv' := [(1, .int (z1 + 1)), (0, .ref (a0 0))]) hx hb dX7_ticks_30 hl (k := 0) rfl rfl (by decide) rfl (fun ls hl => ?_)
          refine lv_goto (tgt := 6) hx hb dX7_ticks_33 (by decide) ?_
          exact ih _ _ _ _ ls h (hP.sub (ws' := md_v a0 q t0) [0, 1, 2, 3, 4, 5, 6, 7] rfl) (hD.sub (ws' := md_v a0 q t0) [0, 1, 2, 3, 4, 5, 6, 7] (by decide) rfl) hS (lv_sub hl [0, 1] rfl)
        · replace h := h.2 c_8
          refine lv_aload_n hx hb dX7_ticks_25 rfl (lv_at hl 1 rfl) ?_
          refine lv_iload_n hx hb dX7_ticks_26 rfl (lv_at hl 0 rfl) ?_
          refine mt_gov (mt_wV (wc := md_v a0 q t0) (As := [.int z1]) (rest := []) hx hb hml hown ht (c2_X7_steps h) wd_X7_steps mw_1324 hQ hV hS hA (hP.sub [0, 1, 2, 3, 4, 5, 6, 7] rfl) (hD.sub [0, 1, 2, 3, 4, 5, 6, 7] (by decide) rfl) rfl rfl rfl hl.1 rfl (Nat.le_of_ble_eq_true rfl) dX7_ticks_27 ⟨Nat.le_of_ble_eq_true rfl, Nat.le_of_ble_eq_true rfl, rfl, rfl⟩ ⟨Nat.le_of_ble_eq_true rfl, Nat.le_of_ble_eq_true rfl⟩) (wr := []) hP hD hS hA [0, 1, 2, 3, 4, 5, 6, 7] [] rfl rfl (by decide) (by decide) (fun u_10 H locs h hP hD hS => ?_)
          try dsimp only at h
          have hP : va_P D vwCl [((a0 0), .inr (6, [.ref (a0 1), .ref (a0 2), .int (u_10.1 0), .ref (a0 3), .ref (a0 5), .ref (a0 4), .long u_10.2.1, .int (u_10.1 1), .int (u_10.1 2), .ref (a0 6), .int (u_10.1 3), .int (u_10.1 4), .ref (a0 7), .int (u_10.1 5), .int (u_10.1 6), .int (u_10.1 7), .int (u_10.1 8), .int (u_10.1 9), .int (u_10.1 10), .int (u_10.1 11), .int (u_10.1 12), .int (u_10.1 13), .int (u_10.1 14)])), ((a0 1), .inl (q 1, 6896, .inr (.inl (u_10.2.2.1 0)))), ((a0 2), .inl (q 1, 68960, .inr (.inl (u_10.2.2.1 1)))), ((a0 3), .inl (q 1, 13792, .inr (.inl (u_10.2.2.1 2)))), ((a0 4), .inl (q 1, 6896, .inr (.inl (u_10.2.2.1 3)))), ((a0 5), .inl (q 3, 2, .inl (u_10.2.2.2 0))), ((a0 6), .inl (q 0, 40, .inl (u_10.2.2.2 1))), ((a0 7), .inl (q 2, 400, .inl (u_10.2.2.2 2)))] H := hP
          have hD : va_D _ [((a0 0), .inr (6, [.ref (a0 1), .ref (a0 2), .int (u_10.1 0), .ref (a0 3), .ref (a0 5), .ref (a0 4), .long u_10.2.1, .int (u_10.1 1), .int (u_10.1 2), .ref (a0 6), .int (u_10.1 3), .int (u_10.1 4), .ref (a0 7), .int (u_10.1 5), .int (u_10.1 6), .int (u_10.1 7), .int (u_10.1 8), .int (u_10.1 9), .int (u_10.1 10), .int (u_10.1 11), .int (u_10.1 12), .int (u_10.1 13), .int (u_10.1 14)])), ((a0 1), .inl (q 1, 6896, .inr (.inl (u_10.2.2.1 0)))), ((a0 2), .inl (q 1, 68960, .inr (.inl (u_10.2.2.1 1)))), ((a0 3), .inl (q 1, 13792, .inr (.inl (u_10.2.2.1 2)))), ((a0 4), .inl (q 1, 6896, .inr (.inl (u_10.2.2.1 3)))), ((a0 5), .inl (q 3, 2, .inl (u_10.2.2.2 0))), ((a0 6), .inl (q 0, 40, .inl (u_10.2.2.2 1))), ((a0 7), .inl (q 2, 400, .inl (u_10.2.2.2 2)))] := hD
          refine lv_iinc (v := (z1 + 1)) (lv' := [(1, .int (z1 + 1)), (0, .ref (a0 0))]) hx hb dX7_ticks_30 hl (k := 0) rfl rfl (by decide) rfl (fun ls hl => ?_)
          refine lv_goto (tgt := 6) hx hb dX7_ticks_33 (by decide) ?_
          exact ih _ _ _ _ ls h (hP.sub (ws' := md_v a0 q u_10) [0, 1, 2, 3, 4, 5, 6, 7] rfl) (hD.sub (ws' := md_v a0 q u_10) [0, 1, 2, 3, 4, 5, 6, 7] (by decide) rfl) hS (lv_sub hl [0, 1] rfl)
  obtain ⟨n6, h⟩ := h
  refine lp6 _ ?_ n6 _ _ _ _ ls h (hP.sub (ws' := md_v a0 q u_2) [0, 1, 2, 3, 4, 5, 6, 7] rfl) (hD.sub (ws' := md_v a0 q u_2) [0, 1, 2, 3, 4, 5, 6, 7] (by decide) rfl) hS (lv_sub hl [0, 1] rfl)
  · intro t0 z1 H locs ls h hP hD hS hl
    try dsimp only at h
    have hP : va_P D vwCl [((a0 0), .inr (6, [.ref (a0 1), .ref (a0 2), .int (t0.1 0), .ref (a0 3), .ref (a0 5), .ref (a0 4), .long t0.2.1, .int (t0.1 1), .int (t0.1 2), .ref (a0 6), .int (t0.1 3), .int (t0.1 4), .ref (a0 7), .int (t0.1 5), .int (t0.1 6), .int (t0.1 7), .int (t0.1 8), .int (t0.1 9), .int (t0.1 10), .int (t0.1 11), .int (t0.1 12), .int (t0.1 13), .int (t0.1 14)])), ((a0 1), .inl (q 1, 6896, .inr (.inl (t0.2.2.1 0)))), ((a0 2), .inl (q 1, 68960, .inr (.inl (t0.2.2.1 1)))), ((a0 3), .inl (q 1, 13792, .inr (.inl (t0.2.2.1 2)))), ((a0 4), .inl (q 1, 6896, .inr (.inl (t0.2.2.1 3)))), ((a0 5), .inl (q 3, 2, .inl (t0.2.2.2 0))), ((a0 6), .inl (q 0, 40, .inl (t0.2.2.2 1))), ((a0 7), .inl (q 2, 400, .inl (t0.2.2.2 2)))] H := hP
    have hD : va_D _ [((a0 0), .inr (6, [.ref (a0 1), .ref (a0 2), .int (t0.1 0), .ref (a0 3), .ref (a0 5), .ref (a0 4), .long t0.2.1, .int (t0.1 1), .int (t0.1 2), .ref (a0 6), .int (t0.1 3), .int (t0.1 4), .ref (a0 7), .int (t0.1 5), .int (t0.1 6), .int (t0.1 7), .int (t0.1 8), .int (t0.1 9), .int (t0.1 10), .int (t0.1 11), .int (t0.1 12), .int (t0.1 13), .int (t0.1 14)])), ((a0 1), .inl (q 1, 6896, .inr (.inl (t0.2.2.1 0)))), ((a0 2), .inl (q 1, 68960, .inr (.inl (t0.2.2.1 1)))), ((a0 3), .inl (q 1, 13792, .inr (.inl (t0.2.2.1 2)))), ((a0 4), .inl (q 1, 6896, .inr (.inl (t0.2.2.1 3)))), ((a0 5), .inl (q 3, 2, .inl (t0.2.2.2 0))), ((a0 6), .inl (q 0, 40, .inl (t0.2.2.2 1))), ((a0 7), .inl (q 2, 400, .inl (t0.2.2.2 2)))] := hD
    refine lv_aload_n hx hb dX7_ticks_36 rfl (lv_at hl 1 rfl) ?_
    refine fl_get (C := RX7) (T := TX7) (N := 23) (ci := 6) (v := .int (t0.1 1)) hx hb ht in_X7 hown hK hP 0 rfl rfl 7 (by decide) mw_1137 rfl dX7_ticks_37 ?_
    refine lv_if_ne (tgt := 45) hx hb dX7_ticks_40 (by decide) (fun c_11 => ?_) (fun c_11 => ?_)
    · replace h := h.1 c_11
      refine lv_aload_n hx hb dX7_ticks_45 rfl (lv_at hl 1 rfl) ?_
      refine fl_get (C := RX7) (T := TX7) (N := 23) (ci := 6) (v := .ref (a0 1)) hx hb ht in_X7 hown hK hP 0 rfl rfl 0 (by decide) mw_1130 rfl dX7_ticks_46 ?_
      refine lv_iconst (v := 4) hx hb dX7_ticks_49 (by decide) ?_
      refine lv_aload_n hx hb dX7_ticks_50 rfl (lv_at hl 1 rfl) ?_
      refine fl_get (C := RX7) (T := TX7) (N := 23) (ci := 6) (v := .ref (a0 1)) hx hb ht in_X7 hown hK hP 0 rfl rfl 0 (by decide) mw_1130 rfl dX7_ticks_51 ?_
      refine lv_iconst (v := 4) hx hb dX7_ticks_54 (by decide) ?_
      refine va_lald hx hb hK hP 1 1 rfl rfl (in_c rfl) dX7_ticks_55 ?_
      refine lv_aload_n hx hb dX7_ticks_56 rfl (lv_at hl 1 rfl) ?_
      refine fl_get (C := RX7) (T := TX7) (N := 23) (ci := 6) (v := .int (t0.1 1)) hx hb ht in_X7 hown hK hP 0 rfl rfl 7 (by decide) mw_1137 rfl dX7_ticks_57 ?_
      refine lv_aload_n hx hb dX7_ticks_60 rfl (lv_at hl 1 rfl) ?_
      refine fl_get (C := RX7) (T := TX7) (N := 23) (ci := 6) (v := .int (t0.1 1)) hx hb ht in_X7 hown hK hP 0 rfl rfl 7 (by decide) mw_1137 rfl dX7_ticks_61 ?_
      refine lv_imul hx hb dX7_ticks_64 ?_
      refine lv_i2l (v := (Int32.toInt64 ((t0.1 1) * (t0.1 1)))) hx hb dX7_ticks_65 rfl ?_
      refine lv_ladd hx hb dX7_ticks_66 ?_
      refine lv_l2i (v := (Int64.toInt32 (((t0.2.2.1 0) (Int32.toNatClampNeg 4)) + (Int32.toInt64 ((t0.1 1) * (t0.1 1)))))) hx hb dX7_ticks_67 rfl ?_
      refine lv_i2l (v := (Int32.toInt64 (Int64.toInt32 (((t0.2.2.1 0) (Int32.toNatClampNeg 4)) + (Int32.toInt64 ((t0.1 1) * (t0.1 1))))))) hx hb dX7_ticks_68 rfl ?_
      refine va_last hx hb hK hP hD hS 1 1 rfl rfl (in_c rfl) dX7_ticks_69 (fun H locs hP hD hS => ?_)
      have hP : va_P D vwCl [((a0 0), .inr (6, [.ref (a0 1), .ref (a0 2), .int (t0.1 0), .ref (a0 3), .ref (a0 5), .ref (a0 4), .long t0.2.1, .int (t0.1 1), .int (t0.1 2), .ref (a0 6), .int (t0.1 3), .int (t0.1 4), .ref (a0 7), .int (t0.1 5), .int (t0.1 6), .int (t0.1 7), .int (t0.1 8), .int (t0.1 9), .int (t0.1 10), .int (t0.1 11), .int (t0.1 12), .int (t0.1 13), .int (t0.1 14)])), ((a0 1), .inl (q 1, 6896, .inr (.inl (vp_updL (t0.2.2.1 0) (Int32.toNatClampNeg 4) (Int32.toInt64 (Int64.toInt32 (((t0.2.2.1 0) (Int32.toNatClampNeg 4)) + (Int32.toInt64 ((t0.1 1) * (t0.1 1)))))))))), ((a0 2), .inl (q 1, 68960, .inr (.inl (t0.2.2.1 1)))), ((a0 3), .inl (q 1, 13792, .inr (.inl (t0.2.2.1 2)))), ((a0 4), .inl (q 1, 6896, .inr (.inl (t0.2.2.1 3)))), ((a0 5), .inl (q 3, 2, .inl (t0.2.2.2 0))), ((a0 6), .inl (q 0, 40, .inl (t0.2.2.2 1))), ((a0 7), .inl (q 2, 400, .inl (t0.2.2.2 2)))] H := hP
      have hD : va_D _ [((a0 0), .inr (6, [.ref (a0 1), .ref (a0 2), .int (t0.1 0), .ref (a0 3), .ref (a0 5), .ref (a0 4), .long t0.2.1, .int (t0.1 1), .int (t0.1 2), .ref (a0 6), .int (t0.1 3), .int (t0.1 4), .ref (a0 7), .int (t0.1 5), .int (t0.1 6), .int (t0.1 7), .int (t0.1 8), .int (t0.1 9), .int (t0.1 10), .int (t0.1 11), .int (t0.1 12), .int (t0.1 13), .int (t0.1 14)])), ((a0 1), .inl (q 1, 6896, .inr (.inl (vp_updL (t0.2.2.1 0) (Int32.toNatClampNeg 4) (Int32.toInt64 (Int64.toInt32 (((t0.2.2.1 0) (Int32.toNatClampNeg 4)) + (Int32.toInt64 ((t0.1 1) * (t0.1 1)))))))))), ((a0 2), .inl (q 1, 68960, .inr (.inl (t0.2.2.1 1)))), ((a0 3), .inl (q 1, 13792, .inr (.inl (t0.2.2.1 2)))), ((a0 4), .inl (q 1, 6896, .inr (.inl (t0.2.2.1 3)))), ((a0 5), .inl (q 3, 2, .inl (t0.2.2.2 0))), ((a0 6), .inl (q 0, 40, .inl (t0.2.2.2 1))), ((a0 7), .inl (q 2, 400, .inl (t0.2.2.2 2)))] := hD
      refine lv_aload_n hx hb dX7_ticks_70 rfl (lv_at hl 1 rfl) ?_
      refine fl_get (C := RX7) (T := TX7) (N := 23) (ci := 6) (v := .ref (a0 1)) hx hb ht in_X7 hown hK hP 0 rfl rfl 0 (by decide) mw_1130 rfl dX7_ticks_71 ?_
      refine lv_iconst (v := 5) hx hb dX7_ticks_74 (by decide) ?_
      refine lv_dup2_11 hx hb dX7_ticks_75 rfl rfl ?_
      refine va_lald hx hb hK hP 1 1 rfl rfl (in_c rfl) dX7_ticks_76 ?_
      refine lv_lconst (v := 1) hx hb dX7_ticks_77 (by decide) ?_
      refine lv_ladd hx hb dX7_ticks_78 ?_
      refine va_last hx hb hK hP hD hS 1 1 rfl rfl (in_c rfl) dX7_ticks_79 (fun H locs hP hD hS => ?_)
      have hP : va_P D vwCl [((a0 0), .inr (6, [.ref (a0 1), .ref (a0 2), .int (t0.1 0), .ref (a0 3), .ref (a0 5), .ref (a0 4), .long t0.2.1, .int (t0.1 1), .int (t0.1 2), .ref (a0 6), .int (t0.1 3), .int (t0.1 4), .ref (a0 7), .int (t0.1 5), .int (t0.1 6), .int (t0.1 7), .int (t0.1 8), .int (t0.1 9), .int (t0.1 10), .int (t0.1 11), .int (t0.1 12), .int (t0.1 13), .int (t0.1 14)])), ((a0 1), .inl (q 1, 6896, .inr (.inl (vp_updL (vp_updL (t0.2.2.1 0) (Int32.toNatClampNeg 4) (Int32.toInt64 (Int64.toInt32 (((t0.2.2.1 0) (Int32.toNatClampNeg 4)) + (Int32.toInt64 ((t0.1 1) * (t0.1 1))))))) (Int32.toNatClampNeg 5) (((vp_updL (t0.2.2.1 0) (Int32.toNatClampNeg 4) (Int32.toInt64 (Int64.toInt32 (((t0.2.2.1 0) (Int32.toNatClampNeg 4)) + (Int32.toInt64 ((t0.1 1) * (t0.1 1))))))) (Int32.toNatClampNeg 5)) + 1))))), ((a0 2), .inl (q 1, 68960, .inr (.inl (t0.2.2.1 1)))), ((a0 3), .inl (q 1, 13792, .inr (.inl (t0.2.2.1 2)))), ((a0 4), .inl (q 1, 6896, .inr (.inl (t0.2.2.1 3)))), ((a0 5), .inl (q 3, 2, .inl (t0.2.2.2 0))), ((a0 6), .inl (q 0, 40, .inl (t0.2.2.2 1))), ((a0 7), .inl (q 2, 400, .inl (t0.2.2.2 2)))] H := hP
      have hD : va_D _ [((a0 0), .inr (6, [.ref (a0 1), .ref (a0 2), .int (t0.1 0), .ref (a0 3), .ref (a0 5), .ref (a0 4), .long t0.2.1, .int (t0.1 1), .int (t0.1 2), .ref (a0 6), .int (t0.1 3), .int (t0.1 4), .ref (a0 7), .int (t0.1 5), .int (t0.1 6), .int (t0.1 7), .int (t0.1 8), .int (t0.1 9), .int (t0.1 10), .int (t0.1 11), .int (t0.1 12), .int (t0.1 13), .int (t0.1 14)])), ((a0 1), .inl (q 1, 6896, .inr (.inl (vp_updL (vp_updL (t0.2.2.1 0) (Int32.toNatClampNeg 4) (Int32.toInt64 (Int64.toInt32 (((t0.2.2.1 0) (Int32.toNatClampNeg 4)) + (Int32.toInt64 ((t0.1 1) * (t0.1 1))))))) (Int32.toNatClampNeg 5) (((vp_updL (t0.2.2.1 0) (Int32.toNatClampNeg 4) (Int32.toInt64 (Int64.toInt32 (((t0.2.2.1 0) (Int32.toNatClampNeg 4)) + (Int32.toInt64 ((t0.1 1) * (t0.1 1))))))) (Int32.toNatClampNeg 5)) + 1))))), ((a0 2), .inl (q 1, 68960, .inr (.inl (t0.2.2.1 1)))), ((a0 3), .inl (q 1, 13792, .inr (.inl (t0.2.2.1 2)))), ((a0 4), .inl (q 1, 6896, .inr (.inl (t0.2.2.1 3)))), ((a0 5), .inl (q 3, 2, .inl (t0.2.2.2 0))), ((a0 6), .inl (q 0, 40, .inl (t0.2.2.2 1))), ((a0 7), .inl (q 2, 400, .inl (t0.2.2.2 2)))] := hD
      refine lv_aload_n hx hb dX7_ticks_80 rfl (lv_at hl 1 rfl) ?_
      refine fl_get (C := RX7) (T := TX7) (N := 23) (ci := 6) (v := .int (t0.1 1)) hx hb ht in_X7 hown hK hP 0 rfl rfl 7 (by decide) mw_1137 rfl dX7_ticks_81 ?_
      exact mt_iret (t0.1, t0.2.1, (va_up t0.2.2.1 0 (vp_updL (vp_updL (t0.2.2.1 0) (Int32.toNatClampNeg 4) (Int32.toInt64 (Int64.toInt32 (((t0.2.2.1 0) (Int32.toNatClampNeg 4)) + (Int32.toInt64 ((t0.1 1) * (t0.1 1))))))) (Int32.toNatClampNeg 5) (((vp_updL (t0.2.2.1 0) (Int32.toNatClampNeg 4) (Int32.toInt64 (Int64.toInt32 (((t0.2.2.1 0) (Int32.toNatClampNeg 4)) + (Int32.toInt64 ((t0.1 1) * (t0.1 1))))))) (Int32.toNatClampNeg 5)) + 1))), t0.2.2.2) hx hb hr hk h (hP.sub (ws' := md_v a0 q (t0.1, t0.2.1, (va_up t0.2.2.1 0 (vp_updL (vp_updL (t0.2.2.1 0) (Int32.toNatClampNeg 4) (Int32.toInt64 (Int64.toInt32 (((t0.2.2.1 0) (Int32.toNatClampNeg 4)) + (Int32.toInt64 ((t0.1 1) * (t0.1 1))))))) (Int32.toNatClampNeg 5) (((vp_updL (t0.2.2.1 0) (Int32.toNatClampNeg 4) (Int32.toInt64 (Int64.toInt32 (((t0.2.2.1 0) (Int32.toNatClampNeg 4)) + (Int32.toInt64 ((t0.1 1) * (t0.1 1))))))) (Int32.toNatClampNeg 5)) + 1))), t0.2.2.2)) [0, 1, 2, 3, 4, 5, 6, 7] rfl) (hD.sub (ws' := md_v a0 q (t0.1, t0.2.1, (va_up t0.2.2.1 0 (vp_updL (vp_updL (t0.2.2.1 0) (Int32.toNatClampNeg 4) (Int32.toInt64 (Int64.toInt32 (((t0.2.2.1 0) (Int32.toNatClampNeg 4)) + (Int32.toInt64 ((t0.1 1) * (t0.1 1))))))) (Int32.toNatClampNeg 5) (((vp_updL (t0.2.2.1 0) (Int32.toNatClampNeg 4) (Int32.toInt64 (Int64.toInt32 (((t0.2.2.1 0) (Int32.toNatClampNeg 4)) + (Int32.toInt64 ((t0.1 1) * (t0.1 1))))))) (Int32.toNatClampNeg 5)) + 1))), t0.2.2.2)) [0, 1, 2, 3, 4, 5, 6, 7] (by decide) rfl) hS dX7_ticks_84
    · replace h := h.2 c_11
      refine lv_iconst (v := 0) hx hb dX7_ticks_43 (by decide) ?_
      exact mt_iret t0 hx hb hr hk h (hP.sub (ws' := md_v a0 q t0) [0, 1, 2, 3, 4, 5, 6, 7] rfl) (hD.sub (ws' := md_v a0 q t0) [0, 1, 2, 3, 4, 5, 6, 7] (by decide) rfl) hS dX7_ticks_44

def wp_X7_flapFor_L5 (s0 : Md) (post : Int32 → Prop) (e95 : Int32 → Int32 → Int32 → Int32 → Prop) : Nat → Int32 → Int32 → Int32 → Int32 → Prop
  | 0, _, _, _, _ => False
  | n5 + 1, z1, z2, z3, z4 => wp_X7_flaps (fun r_1 => ((r_1 ≤ z4 → e95 z1 z2 z3 z4) ∧ (¬ r_1 ≤ z4 → wp_X7_of (fun r_4 => wp_X7_signOf (fun r_6 => ((¬ r_6 = z2 → wp_X7_flapFor_L5 s0 post e95 n5 z1 z2 z3 (z4 + 1)) ∧ (r_6 = z2 → wp_X7_wornOf (fun r_9 => wp_X7_isIn (fun r_11 => ((r_11 = 0 → ((z3 = (-1) → wp_X7_flapFor_L5 s0 post e95 n5 z1 z2 z4 (z4 + 1)) ∧ (¬ z3 = (-1) → wp_X7_of (fun r_15 => wp_X7_flaps (fun r_17 => wp_X7_on (fun r_19 => wp_X7_of (fun r_21 => wp_X7_flaps (fun r_23 => wp_X7_on (fun r_25 => ((r_25 ≤ r_19 → wp_X7_flapFor_L5 s0 post e95 n5 z1 z2 z3 (z4 + 1)) ∧ (¬ r_25 ≤ r_19 → wp_X7_flapFor_L5 s0 post e95 n5 z1 z2 z4 (z4 + 1)))) r_21 z3 r_23) s0 z1) s0 z1 (2 : Int32)) r_15 z4 r_17) s0 z1) s0 z1 (2 : Int32)))) ∧ (¬ r_11 = 0 → wp_X7_flapFor_L5 s0 post e95 n5 z1 z2 z3 (z4 + 1)))) r_9 z4) s0 z1))) s0 r_4 z4) s0 z1 (0 : Int32)))) s0 z1
def wp_X7_flapFor (post : Int32 → Prop) (s0 : Md) (x1 : Int32) (x2 : Int32) : Prop := (∃ n5, wp_X7_flapFor_L5 s0 post (fun z1 z2 z3 z4 => post z3) n5 x1 x2 (-1) 0)
set_option maxHeartbeats 4000000 in
set_option maxRecDepth 100000 in
theorem c2_X7_flapFor {l : Launch} {D : va_G} {q : Nat → ClassId} {a0 : Nat → Nat} {s0 : Md} {x1 : Int32} {x2 : Int32} {post : Int32 → Prop} (h : wp_X7_flapFor post s0 x1 x2) : Met l yX7_flapFor (Cond.code yX7_flapFor cX7_flapFor 5 (some .int) :: w_all) ({ frames := 2, cells := 0, slots := 0, locals := 43 } : Room) (rd_P D q [.ref (a0 0), .int x1, .int x2] (md_v a0 q s0)) (vp_Si post) 0 0 (fun _ => False) := by
  refine rd_start (by decide) (Nat.le_of_ble_eq_true rfl) ?_
  intro p e s m below meth c ls hx hb hr hml hown ht hk hP hQ hV hl
  have hK := hQ.1
  have hown : s.vm.findClass RX7 = some m.cls := hown
  have hl : lv_has ls 5 [(0, .ref (a0 0)), (1, .int x1), (2, .int x2)] := hl
  have hP : va_P D vwCl [((a0 0), .inr (6, [.ref (a0 1), .ref (a0 2), .int (s0.1 0), .ref (a0 3), .ref (a0 5), .ref (a0 4), .long s0.2.1, .int (s0.1 1), .int (s0.1 2), .ref (a0 6), .int (s0.1 3), .int (s0.1 4), .ref (a0 7), .int (s0.1 5), .int (s0.1 6), .int (s0.1 7), .int (s0.1 8), .int (s0.1 9), .int (s0.1 10), .int (s0.1 11), .int (s0.1 12), .int (s0.1 13), .int (s0.1 14)])), ((a0 1), .inl (q 1, 6896, .inr (.inl (s0.2.2.1 0)))), ((a0 2), .inl (q 1, 68960, .inr (.inl (s0.2.2.1 1)))), ((a0 3), .inl (q 1, 13792, .inr (.inl (s0.2.2.1 2)))), ((a0 4), .inl (q 1, 6896, .inr (.inl (s0.2.2.1 3)))), ((a0 5), .inl (q 3, 2, .inl (s0.2.2.2 0))), ((a0 6), .inl (q 0, 40, .inl (s0.2.2.2 1))), ((a0 7), .inl (q 2, 400, .inl (s0.2.2.2 2)))] s.heap := hP
  unfold wp_X7_flapFor at h
  refine lv_iconst (v := (-1)) hx hb dX7_flapFor_0 (by decide) ?_
  refine lv_istore_n (lv' := [(3, .int (-1)), (0, .ref (a0 0)), (1, .int x1), (2, .int x2)]) hx hb dX7_flapFor_1 rfl hl (by decide) rfl (fun ls hl => ?_)
  refine lv_iconst (v := 0) hx hb dX7_flapFor_2 (by decide) ?_
  refine lv_istore (lv' := [(4, .int 0), (3, .int (-1)), (0, .ref (a0 0)), (1, .int x1), (2, .int x2)]) hx hb dX7_flapFor_3 hl (by decide) rfl (fun ls hl => ?_)
  have lp5 : ∀ (e95 : Int32 → Int32 → Int32 → Int32 → Prop) (k95 : ∀ (z1 : Int32) (z2 : Int32) (z3 : Int32) (z4 : Int32) (ls : Array Slot), e95 z1 z2 z3 z4 → lv_has ls 5 [(1, .int z1), (2, .int z2), (3, .int z3), (4, .int z4), (0, .ref (a0 0))] → W p l e ({ frames := 2, cells := 0, slots := 0, locals := 43 } : Room) s m [.ref (a0 0), .int x1, .int x2].toArray below meth c s.heap [] 0 0 (MQ below (vp_Si post) [.ref (a0 0), .int x1, .int x2].toArray s 0 0 (fun _ => False)) (F0 m 95 ls [])) (n : Nat) (z1 : Int32) (z2 : Int32) (z3 : Int32) (z4 : Int32) (ls : Array Slot), wp_X7_flapFor_L5 s0 post e95 n z1 z2 z3 z4 → lv_has ls 5 [(1, .int z1), (2, .int z2), (3, .int z3), (4, .int z4), (0, .ref (a0 0))] → W p l e ({ frames := 2, cells := 0, slots := 0, locals := 43 } : Room) s m [.ref (a0 0), .int x1, .int x2].toArray below meth c s.heap [] 0 0 (MQ below (vp_Si post) [.ref (a0 0), .int x1, .int x2].toArray s 0 0 (fun _ => False)) (F0 m 5 ls []) := by
    intro e95 k95 n
    induction n with
    | zero =>
      intro z1 z2 z3 z4 ls h
      exact h.elim
    | succ n ih =>
      intro z1 z2 z3 z4 ls h hl
      unfold wp_X7_flapFor_L5 at h
      refine lv_iload hx hb dX7_flapFor_5 (lv_at hl 3 rfl) ?_
      refine lv_aload_n hx hb dX7_flapFor_7 rfl (lv_at hl 4 rfl) ?_
      refine lv_iload_n hx hb dX7_flapFor_8 rfl (lv_at hl 0 rfl) ?_
      refine vp_callSi (rd_wV (wc := md_v a0 q s0) (As := [.int z1]) (rest := [.int z4]) hx hb hml hown ht (c2_X7_flaps h) wd_X7_flaps mw_1245 hQ hV va_S.rf (hP.sub [0, 1, 2, 3, 4, 5, 6, 7] rfl) rfl rfl rfl hl.1 rfl (Nat.le_of_ble_eq_true rfl) dX7_flapFor_9 ⟨Nat.le_of_ble_eq_true rfl, Nat.le_of_ble_eq_true rfl, rfl, rfl⟩ ⟨Nat.le_of_ble_eq_true rfl, Nat.le_of_ble_eq_true rfl⟩) (fun r_1 h => ?_)
      try dsimp only at h
      refine lv_icmp_ge (tgt := 95) hx hb dX7_flapFor_12 (by decide) (fun c_3 => ?_) (fun c_3 => ?_)
      · replace h := h.1 c_3
        exact k95 _ _ _ _ ls h (lv_sub hl [0, 1, 2, 3, 4] rfl)
      · replace h := h.2 c_3
        refine lv_aload_n hx hb dX7_flapFor_15 rfl (lv_at hl 4 rfl) ?_
        refine lv_aload_n hx hb dX7_flapFor_16 rfl (lv_at hl 4 rfl) ?_
        refine lv_iload_n hx hb dX7_flapFor_17 rfl (lv_at hl 0 rfl) ?_
        refine lv_iconst (v := 0) hx hb dX7_flapFor_18 (by decide) ?_
        refine vp_callSi (rd_wV (wc := md_v a0 q s0) (As := [.int z1, .int 0]) (rest := [.ref (a0 0)]) hx hb hml hown ht (c2_X7_of h) wd_X7_of mw_1249 hQ hV va_S.rf (hP.sub [0, 1, 2, 3, 4, 5, 6, 7] rfl) rfl rfl rfl hl.1 rfl (Nat.le_of_ble_eq_true rfl) dX7_flapFor_19 ⟨Nat.le_of_ble_eq_true rfl, Nat.le_of_ble_eq_true rfl, rfl, rfl⟩ ⟨Nat.le_of_ble_eq_true rfl, Nat.le_of_ble_eq_true rfl⟩) (fun r_4 h => ?_)
        try dsimp only at h
        refine lv_iload hx hb dX7_flapFor_22 (lv_at hl 3 rfl) ?_
        refine vp_callSi (rd_wV (wc := md_v a0 q s0) (As := [.int r_4, .int z4]) (rest := []) hx hb hml hown ht (c2_X7_signOf h) wd_X7_signOf mw_1257 hQ hV va_S.rf (hP.sub [0, 1, 2, 3, 4, 5, 6, 7] rfl) rfl rfl rfl hl.1 rfl (Nat.le_of_ble_eq_true rfl) dX7_flapFor_24 ⟨Nat.le_of_ble_eq_true rfl, Nat.le_of_ble_eq_true rfl, rfl, rfl⟩ ⟨Nat.le_of_ble_eq_true rfl, Nat.le_of_ble_eq_true rfl⟩) (fun r_6 h => ?_)
        try dsimp only at h
        refine lv_iload_n hx hb dX7_flapFor_27 rfl (lv_at hl 1 rfl) ?_
        refine lv_icmp_ne (tgt := 89) hx hb dX7_flapFor_28 (by decide) (fun c_8 => ?_) (fun c_8 => ?_)
        · replace h := h.1 c_8
          refine lv_iinc (v := (z4 + 1)) (lv' := [(4, .int (z4 + 1)), (1, .int z1), (2, .int z2), (3, .int z3), (0, .ref (a0 0))]) hx hb dX7_flapFor_89 hl (k := 3) rfl rfl (by decide) rfl (fun ls hl => ?_)
          refine lv_goto (tgt := 5) hx hb dX7_flapFor_92 (by decide) ?_
          exact ih _ _ _ _ ls h (lv_sub hl [1, 2, 3, 0, 4] rfl)
        · replace h := h.2 c_8
          refine lv_aload_n hx hb dX7_flapFor_31 rfl (lv_at hl 4 rfl) ?_
          refine lv_iload_n hx hb dX7_flapFor_32 rfl (lv_at hl 0 rfl) ?_
          refine vp_callSl (rd_wV (wc := md_v a0 q s0) (As := [.int z1]) (rest := []) hx hb hml hown ht (c2_X7_wornOf h) wd_X7_wornOf mw_1261 hQ hV va_S.rf (hP.sub [0, 1, 2, 3, 4, 5, 6, 7] rfl) rfl rfl rfl hl.1 rfl (Nat.le_of_ble_eq_true rfl) dX7_flapFor_33 ⟨Nat.le_of_ble_eq_true rfl, Nat.le_of_ble_eq_true rfl, rfl, rfl⟩ ⟨Nat.le_of_ble_eq_true rfl, Nat.le_of_ble_eq_true rfl⟩) (fun r_9 h => ?_)
          try dsimp only at h
          refine lv_iload hx hb dX7_flapFor_36 (lv_at hl 3 rfl) ?_
          refine vp_callSi (rd_wS (wc := ([] : va_W)) (As := [.long r_9, .int z4]) (rest := []) hx hb hml hown ht (c2_X7_isIn h) wd_X7_isIn mw_1265 hQ hV va_S.rf (hP.sub [] rfl) rfl hl.1 rfl (Nat.le_of_ble_eq_true rfl) dX7_flapFor_38 ⟨Nat.le_of_ble_eq_true rfl, Nat.le_of_ble_eq_true rfl, rfl, rfl⟩ ⟨Nat.le_of_ble_eq_true rfl, Nat.le_of_ble_eq_true rfl⟩) (fun r_11 h => ?_)
          try dsimp only at h
          refine lv_if_eq (tgt := 47) hx hb dX7_flapFor_41 (by decide) (fun c_13 => ?_) (fun c_13 => ?_)
          · replace h := h.1 c_13
            refine lv_iload_n hx hb dX7_flapFor_47 rfl (lv_at hl 2 rfl) ?_
            refine lv_iconst (v := (-1)) hx hb dX7_flapFor_48 (by decide) ?_
            refine lv_icmp_eq (tgt := 86) hx hb dX7_flapFor_49 (by decide) (fun c_14 => ?_) (fun c_14 => ?_)
            · replace h := h.1 c_14
              refine lv_iload hx hb dX7_flapFor_86 (lv_at hl 3 rfl) ?_
              refine lv_istore_n (lv' := [(3, .int z4), (1, .int z1), (2, .int z2), (4, .int z4), (0, .ref (a0 0))]) hx hb dX7_flapFor_88 rfl hl (by decide) rfl (fun ls hl => ?_)
              refine lv_iinc (v := (z4 + 1)) (lv' := [(4, .int (z4 + 1)), (3, .int z4), (1, .int z1), (2, .int z2), (0, .ref (a0 0))]) hx hb dX7_flapFor_89 hl (k := 3) rfl rfl (by decide) rfl (fun ls hl => ?_)
              refine lv_goto (tgt := 5) hx hb dX7_flapFor_92 (by decide) ?_
              exact ih _ _ _ _ ls h (lv_sub hl [2, 3, 1, 0, 4] rfl)
            · replace h := h.2 c_14
              refine lv_aload_n hx hb dX7_flapFor_52 rfl (lv_at hl 4 rfl) ?_
              refine lv_iload_n hx hb dX7_flapFor_53 rfl (lv_at hl 0 rfl) ?_
              refine lv_iconst (v := 2) hx hb dX7_flapFor_54 (by decide) ?_
              refine vp_callSi (rd_wV (wc := md_v a0 q s0) (As := [.int z1, .int 2]) (rest := []) hx hb hml hown ht (c2_X7_of h) wd_X7_of mw_1249 hQ hV va_S.rf (hP.sub [0, 1, 2, 3, 4, 5, 6, 7] rfl) rfl rfl rfl hl.1 rfl (Nat.le_of_ble_eq_true rfl) dX7_flapFor_55 ⟨Nat.le_of_ble_eq_true rfl, Nat.le_of_ble_eq_true rfl, rfl, rfl⟩ ⟨Nat.le_of_ble_eq_true rfl, Nat.le_of_ble_eq_true rfl⟩) (fun r_15 h => ?_)
              try dsimp only at h
              refine lv_iload hx hb dX7_flapFor_58 (lv_at hl 3 rfl) ?_
              refine lv_aload_n hx hb dX7_flapFor_60 rfl (lv_at hl 4 rfl) ?_
              refine lv_iload_n hx hb dX7_flapFor_61 rfl (lv_at hl 0 rfl) ?_
              refine vp_callSi (rd_wV (wc := md_v a0 q s0) (As := [.int z1]) (rest := [.int z4, .int r_15]) hx hb hml hown ht (c2_X7_flaps h) wd_X7_flaps mw_1245 hQ hV va_S.rf (hP.sub [0, 1, 2, 3, 4, 5, 6, 7] rfl) rfl rfl rfl hl.1 rfl (Nat.le_of_ble_eq_true rfl) dX7_flapFor_62 ⟨Nat.le_of_ble_eq_true rfl, Nat.le_of_ble_eq_true rfl, rfl, rfl⟩ ⟨Nat.le_of_ble_eq_true rfl, Nat.le_of_ble_eq_true rfl⟩) (fun r_17 h => ?_)
              try dsimp only at h
              refine vp_callSi (rd_wS (wc := ([] : va_W)) (As := [.int r_15, .int z4, .int r_17]) (rest := []) hx hb hml hown ht (c2_X7_on h) wd_X7_on mw_1268 hQ hV va_S.rf (hP.sub [] rfl) rfl hl.1 rfl (Nat.le_of_ble_eq_true rfl) dX7_flapFor_65 ⟨Nat.le_of_ble_eq_true rfl, Nat.le_of_ble_eq_true rfl, rfl, rfl⟩ ⟨Nat.le_of_ble_eq_true rfl, Nat.le_of_ble_eq_true rfl⟩) (fun r_19 h => ?_)
              try dsimp only at h
              refine lv_aload_n hx hb dX7_flapFor_68 rfl (lv_at hl 4 rfl) ?_
              refine lv_iload_n hx hb dX7_flapFor_69 rfl (lv_at hl 0 rfl) ?_
              refine lv_iconst (v := 2) hx hb dX7_flapFor_70 (by decide) ?_
              refine vp_callSi (rd_wV (wc := md_v a0 q s0) (As := [.int z1, .int 2]) (rest := [.int r_19]) hx hb hml hown ht (c2_X7_of h) wd_X7_of mw_1249 hQ hV va_S.rf (hP.sub [0, 1, 2, 3, 4, 5, 6, 7] rfl) rfl rfl rfl hl.1 rfl (Nat.le_of_ble_eq_true rfl) dX7_flapFor_71 ⟨Nat.le_of_ble_eq_true rfl, Nat.le_of_ble_eq_true rfl, rfl, rfl⟩ ⟨Nat.le_of_ble_eq_true rfl, Nat.le_of_ble_eq_true rfl⟩) (fun r_21 h => ?_)
              try dsimp only at h
              refine lv_iload_n hx hb dX7_flapFor_74 rfl (lv_at hl 2 rfl) ?_
              refine lv_aload_n hx hb dX7_flapFor_75 rfl (lv_at hl 4 rfl) ?_
              refine lv_iload_n hx hb dX7_flapFor_76 rfl (lv_at hl 0 rfl) ?_
              refine vp_callSi (rd_wV (wc := md_v a0 q s0) (As := [.int z1]) (rest := [.int z3, .int r_21, .int r_19]) hx hb hml hown ht (c2_X7_flaps h) wd_X7_flaps mw_1245 hQ hV va_S.rf (hP.sub [0, 1, 2, 3, 4, 5, 6, 7] rfl) rfl rfl rfl hl.1 rfl (Nat.le_of_ble_eq_true rfl) dX7_flapFor_77 ⟨Nat.le_of_ble_eq_true rfl, Nat.le_of_ble_eq_true rfl, rfl, rfl⟩ ⟨Nat.le_of_ble_eq_true rfl, Nat.le_of_ble_eq_true rfl⟩) (fun r_23 h => ?_)
              try dsimp only at h
              refine vp_callSi (rd_wS (wc := ([] : va_W)) (As := [.int r_21, .int z3, .int r_23]) (rest := [.int r_19]) hx hb hml hown ht (c2_X7_on h) wd_X7_on mw_1268 hQ hV va_S.rf (hP.sub [] rfl) rfl hl.1 rfl (Nat.le_of_ble_eq_true rfl) dX7_flapFor_80 ⟨Nat.le_of_ble_eq_true rfl, Nat.le_of_ble_eq_true rfl, rfl, rfl⟩ ⟨Nat.le_of_ble_eq_true rfl, Nat.le_of_ble_eq_true rfl⟩) (fun r_25 h => ?_)
              try dsimp only at h
              refine lv_icmp_ge (tgt := 89) hx hb dX7_flapFor_83 (by decide) (fun c_27 => ?_) (fun c_27 => ?_)
              · replace h := h.1 c_27
                refine lv_iinc (v := (z4 + 1)) (lv' := [(4, .int (z4 + 1)), (1, .int z1), (2, .int z2), (3, .int z3), (0, .ref (a0 0))]) hx hb dX7_flapFor_89 hl (k := 3) rfl rfl (by decide) rfl (fun ls hl => ?_)
                refine lv_goto (tgt := 5) hx hb dX7_flapFor_92 (by decide) ?_
                exact ih _ _ _ _ ls h (lv_sub hl [1, 2, 3, 0, 4] rfl)
              · replace h := h.2 c_27
                refine lv_iload hx hb dX7_flapFor_86 (lv_at hl 3 rfl) ?_
                refine lv_istore_n (lv' := [(3, .int z4), (1, .int z1), (2, .int z2), (4, .int z4), (0, .ref (a0 0))]) hx hb dX7_flapFor_88 rfl hl (by decide) rfl (fun ls hl => ?_)
                refine lv_iinc (v := (z4 + 1)) (lv' := [(4, .int (z4 + 1)), (3, .int z4), (1, .int z1), (2, .int z2), (0, .ref (a0 0))]) hx hb dX7_flapFor_89 hl (k := 3) rfl rfl (by decide) rfl (fun ls hl => ?_)
                refine lv_goto (tgt := 5) hx hb dX7_flapFor_92 (by decide) ?_
                exact ih _ _ _ _ ls h (lv_sub hl [2, 3, 1, 0, 4] rfl)
          · replace h := h.2 c_13
            refine lv_goto (tgt := 89) hx hb dX7_flapFor_44 (by decide) ?_
            refine lv_iinc (v := (z4 + 1)) (lv' := [(4, .int (z4 + 1)), (1, .int z1), (2, .int z2), (3, .int z3), (0, .ref (a0 0))]) hx hb dX7_flapFor_89 hl (k := 3) rfl rfl (by decide) rfl (fun ls hl => ?_)
            refine lv_goto (tgt := 5) hx hb dX7_flapFor_92 (by decide) ?_
            exact ih _ _ _ _ ls h (lv_sub hl [1, 2, 3, 0, 4] rfl)
  obtain ⟨n5, h⟩ := h
  refine lp5 _ ?_ n5 _ _ _ _ ls h (lv_sub hl [3, 4, 1, 0, 2] rfl)
  · intro z1 z2 z3 z4 ls h hl
    try dsimp only at h
    refine lv_iload_n hx hb dX7_flapFor_95 rfl (lv_at hl 2 rfl) ?_
    exact rd_iret hx hb hr hk h dX7_flapFor_96

def wp_X7_wantsFlap (post : Md → Prop) (s0 : Md) (x1 : Int32) (x2 : Int32) (x3 : Int32) : Prop := wp_X7_sets (fun u_2 => ((x3 = 0 → post u_2) ∧ (¬ x3 = 0 → wp_X7_of (fun r_4 => ((x2 = r_4 → post u_2) ∧ (¬ x2 = r_4 → wp_X7_of (fun r_7 => wp_X7_of (fun r_9 => vp_in ((496 + (40 * ((40 * r_7) + r_9))) + x2) 6896 ∧ vp_in ((496 + (40 * ((40 * r_7) + r_9))) + x2) 6896 ∧ post (u_2.1, u_2.2.1, (va_up u_2.2.2.1 0 (vp_updL (u_2.2.2.1 0) (Int32.toNatClampNeg ((496 + (40 * ((40 * r_7) + r_9))) + x2)) (((u_2.2.2.1 0) (Int32.toNatClampNeg ((496 + (40 * ((40 * r_7) + r_9))) + x2))) + 1))), u_2.2.2.2)) u_2 x1 (2 : Int32)) u_2 x1 (0 : Int32)))) u_2 x1 (2 : Int32)))) s0 x1 (3 : Int32) (Int32.toInt64 x2)
set_option maxHeartbeats 4000000 in
set_option maxRecDepth 100000 in
theorem c2_X7_wantsFlap {l : Launch} {D : va_G} {q : Nat → ClassId} {sz : Nat} {a0 : Nat → Nat} {s0 : Md} {x1 : Int32} {x2 : Int32} {x3 : Int32} {post : Md → Prop} (h : wp_X7_wantsFlap post s0 x1 x2 x3) : Met l yX7_wantsFlap (Cond.code yX7_wantsFlap cX7_wantsFlap 4 none :: w_all) ({ frames := 1, cells := 0, slots := 0, locals := 24 } : Room) (mt_P D q [.ref (a0 0), .int x1, .int x2, .int x3] (md_v a0 q s0) sz) (va_Qv (fun u : Md => post u) (mt_B D (md_v a0 q s0) sz (fun u : Md => md_v a0 q u)) (va_A (md_v a0 q s0) sz)) 0 0 (va_A (md_v a0 q s0) sz) := by
  refine mt_start (by decide) (Nat.le_of_ble_eq_true rfl) ?_
  intro p e s m below meth c ls hx hb hr hml hown ht hk hin hP hQ hD hA hS hV hl
  have hK := hQ.1
  have hown : s.vm.findClass RX7 = some m.cls := hown
  have hl : lv_has ls 4 [(0, .ref (a0 0)), (1, .int x1), (2, .int x2), (3, .int x3)] := hl
  have hP : va_P D vwCl [((a0 0), .inr (6, [.ref (a0 1), .ref (a0 2), .int (s0.1 0), .ref (a0 3), .ref (a0 5), .ref (a0 4), .long s0.2.1, .int (s0.1 1), .int (s0.1 2), .ref (a0 6), .int (s0.1 3), .int (s0.1 4), .ref (a0 7), .int (s0.1 5), .int (s0.1 6), .int (s0.1 7), .int (s0.1 8), .int (s0.1 9), .int (s0.1 10), .int (s0.1 11), .int (s0.1 12), .int (s0.1 13), .int (s0.1 14)])), ((a0 1), .inl (q 1, 6896, .inr (.inl (s0.2.2.1 0)))), ((a0 2), .inl (q 1, 68960, .inr (.inl (s0.2.2.1 1)))), ((a0 3), .inl (q 1, 13792, .inr (.inl (s0.2.2.1 2)))), ((a0 4), .inl (q 1, 6896, .inr (.inl (s0.2.2.1 3)))), ((a0 5), .inl (q 3, 2, .inl (s0.2.2.2 0))), ((a0 6), .inl (q 0, 40, .inl (s0.2.2.2 1))), ((a0 7), .inl (q 2, 400, .inl (s0.2.2.2 2)))] s.heap := hP
  have hD : va_D _ [((a0 0), .inr (6, [.ref (a0 1), .ref (a0 2), .int (s0.1 0), .ref (a0 3), .ref (a0 5), .ref (a0 4), .long s0.2.1, .int (s0.1 1), .int (s0.1 2), .ref (a0 6), .int (s0.1 3), .int (s0.1 4), .ref (a0 7), .int (s0.1 5), .int (s0.1 6), .int (s0.1 7), .int (s0.1 8), .int (s0.1 9), .int (s0.1 10), .int (s0.1 11), .int (s0.1 12), .int (s0.1 13), .int (s0.1 14)])), ((a0 1), .inl (q 1, 6896, .inr (.inl (s0.2.2.1 0)))), ((a0 2), .inl (q 1, 68960, .inr (.inl (s0.2.2.1 1)))), ((a0 3), .inl (q 1, 13792, .inr (.inl (s0.2.2.1 2)))), ((a0 4), .inl (q 1, 6896, .inr (.inl (s0.2.2.1 3)))), ((a0 5), .inl (q 3, 2, .inl (s0.2.2.2 0))), ((a0 6), .inl (q 0, 40, .inl (s0.2.2.2 1))), ((a0 7), .inl (q 2, 400, .inl (s0.2.2.2 2)))] := hD
  unfold wp_X7_wantsFlap at h
  refine lv_aload_n hx hb dX7_wantsFlap_0 rfl (lv_at hl 0 rfl) ?_
  refine lv_iload_n hx hb dX7_wantsFlap_1 rfl (lv_at hl 1 rfl) ?_
  refine lv_iconst (v := 3) hx hb dX7_wantsFlap_2 (by decide) ?_
  refine lv_iload_n hx hb dX7_wantsFlap_3 rfl (lv_at hl 2 rfl) ?_
  refine lv_i2l (v := (Int32.toInt64 x2)) hx hb dX7_wantsFlap_4 rfl ?_
  refine mt_gov (mt_wV (wc := md_v a0 q s0) (As := [.int x1, .int 3, .long (Int32.toInt64 x2)]) (rest := []) hx hb hml hown ht (c2_X7_sets h) wd_X7_sets mw_1275 hQ hV hS hA (hP.sub [0, 1, 2, 3, 4, 5, 6, 7] rfl) (hD.sub [0, 1, 2, 3, 4, 5, 6, 7] (by decide) rfl) rfl rfl rfl hl.1 rfl (Nat.le_of_ble_eq_true rfl) dX7_wantsFlap_5 ⟨Nat.le_of_ble_eq_true rfl, Nat.le_of_ble_eq_true rfl, rfl, rfl⟩ ⟨Nat.le_of_ble_eq_true rfl, Nat.le_of_ble_eq_true rfl⟩) (wr := []) hP hD hS hA [0, 1, 2, 3, 4, 5, 6, 7] [] rfl rfl (by decide) (by decide) (fun u_2 H locs h hP hD hS => ?_)
  try dsimp only at h
  have hP : va_P D vwCl [((a0 0), .inr (6, [.ref (a0 1), .ref (a0 2), .int (u_2.1 0), .ref (a0 3), .ref (a0 5), .ref (a0 4), .long u_2.2.1, .int (u_2.1 1), .int (u_2.1 2), .ref (a0 6), .int (u_2.1 3), .int (u_2.1 4), .ref (a0 7), .int (u_2.1 5), .int (u_2.1 6), .int (u_2.1 7), .int (u_2.1 8), .int (u_2.1 9), .int (u_2.1 10), .int (u_2.1 11), .int (u_2.1 12), .int (u_2.1 13), .int (u_2.1 14)])), ((a0 1), .inl (q 1, 6896, .inr (.inl (u_2.2.2.1 0)))), ((a0 2), .inl (q 1, 68960, .inr (.inl (u_2.2.2.1 1)))), ((a0 3), .inl (q 1, 13792, .inr (.inl (u_2.2.2.1 2)))), ((a0 4), .inl (q 1, 6896, .inr (.inl (u_2.2.2.1 3)))), ((a0 5), .inl (q 3, 2, .inl (u_2.2.2.2 0))), ((a0 6), .inl (q 0, 40, .inl (u_2.2.2.2 1))), ((a0 7), .inl (q 2, 400, .inl (u_2.2.2.2 2)))] H := hP
  have hD : va_D _ [((a0 0), .inr (6, [.ref (a0 1), .ref (a0 2), .int (u_2.1 0), .ref (a0 3), .ref (a0 5), .ref (a0 4), .long u_2.2.1, .int (u_2.1 1), .int (u_2.1 2), .ref (a0 6), .int (u_2.1 3), .int (u_2.1 4), .ref (a0 7), .int (u_2.1 5), .int (u_2.1 6), .int (u_2.1 7), .int (u_2.1 8), .int (u_2.1 9), .int (u_2.1 10), .int (u_2.1 11), .int (u_2.1 12), .int (u_2.1 13), .int (u_2.1 14)])), ((a0 1), .inl (q 1, 6896, .inr (.inl (u_2.2.2.1 0)))), ((a0 2), .inl (q 1, 68960, .inr (.inl (u_2.2.2.1 1)))), ((a0 3), .inl (q 1, 13792, .inr (.inl (u_2.2.2.1 2)))), ((a0 4), .inl (q 1, 6896, .inr (.inl (u_2.2.2.1 3)))), ((a0 5), .inl (q 3, 2, .inl (u_2.2.2.2 0))), ((a0 6), .inl (q 0, 40, .inl (u_2.2.2.2 1))), ((a0 7), .inl (q 2, 400, .inl (u_2.2.2.2 2)))] := hD
  refine lv_iload_n hx hb dX7_wantsFlap_8 rfl (lv_at hl 3 rfl) ?_
  refine lv_if_eq (tgt := 56) hx hb dX7_wantsFlap_9 (by decide) (fun c_3 => ?_) (fun c_3 => ?_)
  · replace h := h.1 c_3
    exact mt_vret u_2 hx hb hr hk h (hP.sub (ws' := md_v a0 q u_2) [0, 1, 2, 3, 4, 5, 6, 7] rfl) (hD.sub (ws' := md_v a0 q u_2) [0, 1, 2, 3, 4, 5, 6, 7] (by decide) rfl) hS dX7_wantsFlap_56
  · replace h := h.2 c_3
    refine lv_iload_n hx hb dX7_wantsFlap_12 rfl (lv_at hl 2 rfl) ?_
    refine lv_aload_n hx hb dX7_wantsFlap_13 rfl (lv_at hl 0 rfl) ?_
    refine lv_iload_n hx hb dX7_wantsFlap_14 rfl (lv_at hl 1 rfl) ?_
    refine lv_iconst (v := 2) hx hb dX7_wantsFlap_15 (by decide) ?_
    refine vp_callSi (rd_wV (wc := md_v a0 q u_2) (As := [.int x1, .int 2]) (rest := [.int x2]) hx hb hml hown ht (c2_X7_of h) wd_X7_of mw_1249 hQ hV hS (hP.sub [0, 1, 2, 3, 4, 5, 6, 7] rfl) rfl rfl rfl hl.1 rfl (Nat.le_of_ble_eq_true rfl) dX7_wantsFlap_16 ⟨Nat.le_of_ble_eq_true rfl, Nat.le_of_ble_eq_true rfl, rfl, rfl⟩ ⟨Nat.le_of_ble_eq_true rfl, Nat.le_of_ble_eq_true rfl⟩) (fun r_4 h => ?_)
    try dsimp only at h
    refine lv_icmp_eq (tgt := 56) hx hb dX7_wantsFlap_19 (by decide) (fun c_6 => ?_) (fun c_6 => ?_)
    · replace h := h.1 c_6
      exact mt_vret u_2 hx hb hr hk h (hP.sub (ws' := md_v a0 q u_2) [0, 1, 2, 3, 4, 5, 6, 7] rfl) (hD.sub (ws' := md_v a0 q u_2) [0, 1, 2, 3, 4, 5, 6, 7] (by decide) rfl) hS dX7_wantsFlap_56
    · replace h := h.2 c_6
      refine lv_aload_n hx hb dX7_wantsFlap_22 rfl (lv_at hl 0 rfl) ?_
      refine fl_get (C := RX7) (T := TX7) (N := 23) (ci := 6) (v := .ref (a0 1)) hx hb ht in_X7 hown hK hP 0 rfl rfl 0 (by decide) mw_1130 rfl dX7_wantsFlap_23 ?_
      refine lv_sipush (v := 496) hx hb dX7_wantsFlap_26 (by decide) ?_
      refine lv_bipush (v := 40) hx hb dX7_wantsFlap_29 (by decide) ?_
      refine lv_bipush (v := 40) hx hb dX7_wantsFlap_31 (by decide) ?_
      refine lv_aload_n hx hb dX7_wantsFlap_33 rfl (lv_at hl 0 rfl) ?_
      refine lv_iload_n hx hb dX7_wantsFlap_34 rfl (lv_at hl 1 rfl) ?_
      refine lv_iconst (v := 0) hx hb dX7_wantsFlap_35 (by decide) ?_
      refine vp_callSi (rd_wV (wc := md_v a0 q u_2) (As := [.int x1, .int 0]) (rest := [.int 40, .int 40, .int 496, .ref (a0 1)]) hx hb hml hown ht (c2_X7_of h) wd_X7_of mw_1249 hQ hV hS (hP.sub [0, 1, 2, 3, 4, 5, 6, 7] rfl) rfl rfl rfl hl.1 rfl (Nat.le_of_ble_eq_true rfl) dX7_wantsFlap_36 ⟨Nat.le_of_ble_eq_true rfl, Nat.le_of_ble_eq_true rfl, rfl, rfl⟩ ⟨Nat.le_of_ble_eq_true rfl, Nat.le_of_ble_eq_true rfl⟩) (fun r_7 h => ?_)
      try dsimp only at h
      refine lv_imul hx hb dX7_wantsFlap_39 ?_
      refine lv_aload_n hx hb dX7_wantsFlap_40 rfl (lv_at hl 0 rfl) ?_
      refine lv_iload_n hx hb dX7_wantsFlap_41 rfl (lv_at hl 1 rfl) ?_
      refine lv_iconst (v := 2) hx hb dX7_wantsFlap_42 (by decide) ?_
      refine vp_callSi (rd_wV (wc := md_v a0 q u_2) (As := [.int x1, .int 2]) (rest := [.int (40 * r_7), .int 40, .int 496, .ref (a0 1)]) hx hb hml hown ht (c2_X7_of h) wd_X7_of mw_1249 hQ hV hS (hP.sub [0, 1, 2, 3, 4, 5, 6, 7] rfl) rfl rfl rfl hl.1 rfl (Nat.le_of_ble_eq_true rfl) dX7_wantsFlap_43 ⟨Nat.le_of_ble_eq_true rfl, Nat.le_of_ble_eq_true rfl, rfl, rfl⟩ ⟨Nat.le_of_ble_eq_true rfl, Nat.le_of_ble_eq_true rfl⟩) (fun r_9 h => ?_)
      try dsimp only at h
      refine lv_iadd hx hb dX7_wantsFlap_46 ?_
      refine lv_imul hx hb dX7_wantsFlap_47 ?_
      refine lv_iadd hx hb dX7_wantsFlap_48 ?_
      refine lv_iload_n hx hb dX7_wantsFlap_49 rfl (lv_at hl 2 rfl) ?_
      refine lv_iadd hx hb dX7_wantsFlap_50 ?_
      refine lv_dup2_11 hx hb dX7_wantsFlap_51 rfl rfl ?_
      obtain ⟨g_11, h⟩ := h
      refine va_lald hx hb hK hP 1 1 rfl rfl g_11 dX7_wantsFlap_52 ?_
      refine lv_lconst (v := 1) hx hb dX7_wantsFlap_53 (by decide) ?_
      refine lv_ladd hx hb dX7_wantsFlap_54 ?_
      obtain ⟨g_12, h⟩ := h
      refine va_last hx hb hK hP hD hS 1 1 rfl rfl g_12 dX7_wantsFlap_55 (fun H locs hP hD hS => ?_)
      have hP : va_P D vwCl [((a0 0), .inr (6, [.ref (a0 1), .ref (a0 2), .int (u_2.1 0), .ref (a0 3), .ref (a0 5), .ref (a0 4), .long u_2.2.1, .int (u_2.1 1), .int (u_2.1 2), .ref (a0 6), .int (u_2.1 3), .int (u_2.1 4), .ref (a0 7), .int (u_2.1 5), .int (u_2.1 6), .int (u_2.1 7), .int (u_2.1 8), .int (u_2.1 9), .int (u_2.1 10), .int (u_2.1 11), .int (u_2.1 12), .int (u_2.1 13), .int (u_2.1 14)])), ((a0 1), .inl (q 1, 6896, .inr (.inl (vp_updL (u_2.2.2.1 0) (Int32.toNatClampNeg ((496 + (40 * ((40 * r_7) + r_9))) + x2)) (((u_2.2.2.1 0) (Int32.toNatClampNeg ((496 + (40 * ((40 * r_7) + r_9))) + x2))) + 1))))), ((a0 2), .inl (q 1, 68960, .inr (.inl (u_2.2.2.1 1)))), ((a0 3), .inl (q 1, 13792, .inr (.inl (u_2.2.2.1 2)))), ((a0 4), .inl (q 1, 6896, .inr (.inl (u_2.2.2.1 3)))), ((a0 5), .inl (q 3, 2, .inl (u_2.2.2.2 0))), ((a0 6), .inl (q 0, 40, .inl (u_2.2.2.2 1))), ((a0 7), .inl (q 2, 400, .inl (u_2.2.2.2 2)))] H := hP
      have hD : va_D _ [((a0 0), .inr (6, [.ref (a0 1), .ref (a0 2), .int (u_2.1 0), .ref (a0 3), .ref (a0 5), .ref (a0 4), .long u_2.2.1, .int (u_2.1 1), .int (u_2.1 2), .ref (a0 6), .int (u_2.1 3), .int (u_2.1 4), .ref (a0 7), .int (u_2.1 5), .int (u_2.1 6), .int (u_2.1 7), .int (u_2.1 8), .int (u_2.1 9), .int (u_2.1 10), .int (u_2.1 11), .int (u_2.1 12), .int (u_2.1 13), .int (u_2.1 14)])), ((a0 1), .inl (q 1, 6896, .inr (.inl (vp_updL (u_2.2.2.1 0) (Int32.toNatClampNeg ((496 + (40 * ((40 * r_7) + r_9))) + x2)) (((u_2.2.2.1 0) (Int32.toNatClampNeg ((496 + (40 * ((40 * r_7) + r_9))) + x2))) + 1))))), ((a0 2), .inl (q 1, 68960, .inr (.inl (u_2.2.2.1 1)))), ((a0 3), .inl (q 1, 13792, .inr (.inl (u_2.2.2.1 2)))), ((a0 4), .inl (q 1, 6896, .inr (.inl (u_2.2.2.1 3)))), ((a0 5), .inl (q 3, 2, .inl (u_2.2.2.2 0))), ((a0 6), .inl (q 0, 40, .inl (u_2.2.2.2 1))), ((a0 7), .inl (q 2, 400, .inl (u_2.2.2.2 2)))] := hD
      exact mt_vret (u_2.1, u_2.2.1, (va_up u_2.2.2.1 0 (vp_updL (u_2.2.2.1 0) (Int32.toNatClampNeg ((496 + (40 * ((40 * r_7) + r_9))) + x2)) (((u_2.2.2.1 0) (Int32.toNatClampNeg ((496 + (40 * ((40 * r_7) + r_9))) + x2))) + 1))), u_2.2.2.2) hx hb hr hk h (hP.sub (ws' := md_v a0 q (u_2.1, u_2.2.1, (va_up u_2.2.2.1 0 (vp_updL (u_2.2.2.1 0) (Int32.toNatClampNeg ((496 + (40 * ((40 * r_7) + r_9))) + x2)) (((u_2.2.2.1 0) (Int32.toNatClampNeg ((496 + (40 * ((40 * r_7) + r_9))) + x2))) + 1))), u_2.2.2.2)) [0, 1, 2, 3, 4, 5, 6, 7] rfl) (hD.sub (ws' := md_v a0 q (u_2.1, u_2.2.1, (va_up u_2.2.2.1 0 (vp_updL (u_2.2.2.1 0) (Int32.toNatClampNeg ((496 + (40 * ((40 * r_7) + r_9))) + x2)) (((u_2.2.2.1 0) (Int32.toNatClampNeg ((496 + (40 * ((40 * r_7) + r_9))) + x2))) + 1))), u_2.2.2.2)) [0, 1, 2, 3, 4, 5, 6, 7] (by decide) rfl) hS dX7_wantsFlap_56

def wp_X7_wantsSigns_L6 (post : Int32 → Md → Prop) (e81 : Md → Int32 → Int32 → Int32 → Int32 → Int32 → Int32 → Prop) : Nat → Md → Int32 → Int32 → Int32 → Int32 → Int32 → Int32 → Prop
  | 0, _, _, _, _, _, _, _ => False
  | n6 + 1, t0, z1, z2, z3, z4, z5, z6 => wp_X7_wide (fun r_1 => ((r_1 ≤ z6 → e81 t0 z1 z2 z3 z4 z5 z6) ∧ (¬ r_1 ≤ z6 → wp_X7_wide (fun r_4 => ((z3 ≤ z6 → wp_X7_wantsFlap (fun u_8 => wp_X7_wantsSigns_L6 post e81 n6 u_8 z1 z2 z3 z4 z5 (z6 + 1)) t0 ((r_4 * z1) + z6) (0 : Int32) z4) ∧ (¬ z3 ≤ z6 → vp_in (z2 + z6) 400 ∧ wp_X7_flapFor (fun r_10 => ((¬ r_10 = (-1) → wp_X7_wantsFlap (fun u_14 => wp_X7_wantsSigns_L6 post e81 n6 u_14 z1 z2 z3 z4 z5 (z6 + 1)) t0 ((r_4 * z1) + z6) r_10 z4) ∧ (r_10 = (-1) → wp_X7_wantsSigns_L6 post e81 n6 t0 z1 z2 z3 z4 (z5 + 1) (z6 + 1)))) t0 ((r_4 * z1) + z6) ((t0.2.2.2 2) (Int32.toNatClampNeg (z2 + z6)))))) t0))) t0
def wp_X7_wantsSigns (post : Int32 → Md → Prop) (s0 : Md) (x1 : Int32) (x2 : Int32) (x3 : Int32) (x4 : Int32) : Prop := (∃ n6, wp_X7_wantsSigns_L6 post (fun t0 z1 z2 z3 z4 z5 z6 => post z5 t0) n6 s0 x1 x2 x3 x4 0 0)
set_option maxHeartbeats 4000000 in
set_option maxRecDepth 100000 in
theorem c2_X7_wantsSigns {l : Launch} {D : va_G} {q : Nat → ClassId} {sz : Nat} {a0 : Nat → Nat} {s0 : Md} {x1 : Int32} {x2 : Int32} {x3 : Int32} {x4 : Int32} {post : Int32 → Md → Prop} (h : wp_X7_wantsSigns post s0 x1 x2 x3 x4) : Met l yX7_wantsSigns (Cond.code yX7_wantsSigns cX7_wantsSigns 9 (some .int) :: w_all) ({ frames := 3, cells := 0, slots := 0, locals := 67 } : Room) (mt_P D q [.ref (a0 0), .int x1, .int x2, .int x3, .int x4] (md_v a0 q s0) sz) (va_Qi (fun r (u : Md) => post r u) (mt_B D (md_v a0 q s0) sz (fun u : Md => md_v a0 q u)) (va_A (md_v a0 q s0) sz)) 0 0 (va_A (md_v a0 q s0) sz) := by
  refine mt_start (by decide) (Nat.le_of_ble_eq_true rfl) ?_
  intro p e s m below meth c ls hx hb hr hml hown ht hk hin hP hQ hD hA hS hV hl
  have hK := hQ.1
  have hown : s.vm.findClass RX7 = some m.cls := hown
  have hl : lv_has ls 9 [(0, .ref (a0 0)), (1, .int x1), (2, .int x2), (3, .int x3), (4, .int x4)] := hl
  have hP : va_P D vwCl [((a0 0), .inr (6, [.ref (a0 1), .ref (a0 2), .int (s0.1 0), .ref (a0 3), .ref (a0 5), .ref (a0 4), .long s0.2.1, .int (s0.1 1), .int (s0.1 2), .ref (a0 6), .int (s0.1 3), .int (s0.1 4), .ref (a0 7), .int (s0.1 5), .int (s0.1 6), .int (s0.1 7), .int (s0.1 8), .int (s0.1 9), .int (s0.1 10), .int (s0.1 11), .int (s0.1 12), .int (s0.1 13), .int (s0.1 14)])), ((a0 1), .inl (q 1, 6896, .inr (.inl (s0.2.2.1 0)))), ((a0 2), .inl (q 1, 68960, .inr (.inl (s0.2.2.1 1)))), ((a0 3), .inl (q 1, 13792, .inr (.inl (s0.2.2.1 2)))), ((a0 4), .inl (q 1, 6896, .inr (.inl (s0.2.2.1 3)))), ((a0 5), .inl (q 3, 2, .inl (s0.2.2.2 0))), ((a0 6), .inl (q 0, 40, .inl (s0.2.2.2 1))), ((a0 7), .inl (q 2, 400, .inl (s0.2.2.2 2)))] s.heap := hP
  have hD : va_D _ [((a0 0), .inr (6, [.ref (a0 1), .ref (a0 2), .int (s0.1 0), .ref (a0 3), .ref (a0 5), .ref (a0 4), .long s0.2.1, .int (s0.1 1), .int (s0.1 2), .ref (a0 6), .int (s0.1 3), .int (s0.1 4), .ref (a0 7), .int (s0.1 5), .int (s0.1 6), .int (s0.1 7), .int (s0.1 8), .int (s0.1 9), .int (s0.1 10), .int (s0.1 11), .int (s0.1 12), .int (s0.1 13), .int (s0.1 14)])), ((a0 1), .inl (q 1, 6896, .inr (.inl (s0.2.2.1 0)))), ((a0 2), .inl (q 1, 68960, .inr (.inl (s0.2.2.1 1)))), ((a0 3), .inl (q 1, 13792, .inr (.inl (s0.2.2.1 2)))), ((a0 4), .inl (q 1, 6896, .inr (.inl (s0.2.2.1 3)))), ((a0 5), .inl (q 3, 2, .inl (s0.2.2.2 0))), ((a0 6), .inl (q 0, 40, .inl (s0.2.2.2 1))), ((a0 7), .inl (q 2, 400, .inl (s0.2.2.2 2)))] := hD
  unfold wp_X7_wantsSigns at h
  refine lv_iconst (v := 0) hx hb dX7_wantsSigns_0 (by decide) ?_
  refine lv_istore (lv' := [(5, .int 0), (0, .ref (a0 0)), (1, .int x1), (2, .int x2), (3, .int x3), (4, .int x4)]) hx hb dX7_wantsSigns_1 hl (by decide) rfl (fun ls hl => ?_)
  refine lv_iconst (v := 0) hx hb dX7_wantsSigns_3 (by decide) ?_
  refine lv_istore (lv' := [(6, .int 0), (5, .int 0), (0, .ref (a0 0)), (1, .int x1), (2, .int x2), (3, .int x3), (4, .int x4)]) hx hb dX7_wantsSigns_4 hl (by decide) rfl (fun ls hl => ?_)
  have lp6 : ∀ (e81 : Md → Int32 → Int32 → Int32 → Int32 → Int32 → Int32 → Prop) (k81 : ∀ (t0 : Md) (z1 : Int32) (z2 : Int32) (z3 : Int32) (z4 : Int32) (z5 : Int32) (z6 : Int32) (H : Heap) (locs : List Loc) (ls : Array Slot), e81 t0 z1 z2 z3 z4 z5 z6 → va_P D vwCl (md_v a0 q t0) H → va_D (va_A (md_v a0 q s0) sz) (md_v a0 q t0) → va_S (va_A (md_v a0 q s0) sz) s.heap H locs → lv_has ls 9 [(1, .int z1), (2, .int z2), (3, .int z3), (4, .int z4), (5, .int z5), (6, .int z6), (0, .ref (a0 0))] → W p l e ({ frames := 3, cells := 0, slots := 0, locals := 67 } : Room) s m [.ref (a0 0), .int x1, .int x2, .int x3, .int x4].toArray below meth c H locs 0 0 (MQ below (va_Qi (fun r (u : Md) => post r u) (mt_B D (md_v a0 q s0) sz (fun u : Md => md_v a0 q u)) (va_A (md_v a0 q s0) sz)) [.ref (a0 0), .int x1, .int x2, .int x3, .int x4].toArray s 0 0 (va_A (md_v a0 q s0) sz)) (F0 m 81 ls [])) (n : Nat) (t0 : Md) (z1 : Int32) (z2 : Int32) (z3 : Int32) (z4 : Int32) (z5 : Int32) (z6 : Int32) (H : Heap) (locs : List Loc) (ls : Array Slot), wp_X7_wantsSigns_L6 post e81 n t0 z1 z2 z3 z4 z5 z6 → va_P D vwCl (md_v a0 q t0) H → va_D (va_A (md_v a0 q s0) sz) (md_v a0 q t0) → va_S (va_A (md_v a0 q s0) sz) s.heap H locs → lv_has ls 9 [(1, .int z1), (2, .int z2), (3, .int z3), (4, .int z4), (5, .int z5), (6, .int z6), (0, .ref (a0 0))] → W p l e ({ frames := 3, cells := 0, slots := 0, locals := 67 } : Room) s m [.ref (a0 0), .int x1, .int x2, .int x3, .int x4].toArray below meth c H locs 0 0 (MQ below (va_Qi (fun r (u : Md) => post r u) (mt_B D (md_v a0 q s0) sz (fun u : Md => md_v a0 q u)) (va_A (md_v a0 q s0) sz)) [.ref (a0 0), .int x1, .int x2, .int x3, .int x4].toArray s 0 0 (va_A (md_v a0 q s0) sz)) (F0 m 6 ls []) := by
    intro e81 k81 n
    induction n with
    | zero =>
      intro t0 z1 z2 z3 z4 z5 z6 H locs ls h
      exact h.elim
    | succ n ih =>
      intro t0 z1 z2 z3 z4 z5 z6 H locs ls h hP hD hS hl
      have hP : va_P D vwCl [((a0 0), .inr (6, [.ref (a0 1), .ref (a0 2), .int (t0.1 0), .ref (a0 3), .ref (a0 5), .ref (a0 4), .long t0.2.1, .int (t0.1 1), .int (t0.1 2), .ref (a0 6), .int (t0.1 3), .int (t0.1 4), .ref (a0 7), .int (t0.1 5), .int (t0.1 6), .int (t0.1 7), .int (t0.1 8), .int (t0.1 9), .int (t0.1 10), .int (t0.1 11), .int (t0.1 12), .int (t0.1 13), .int (t0.1 14)])), ((a0 1), .inl (q 1, 6896, .inr (.inl (t0.2.2.1 0)))), ((a0 2), .inl (q 1, 68960, .inr (.inl (t0.2.2.1 1)))), ((a0 3), .inl (q 1, 13792, .inr (.inl (t0.2.2.1 2)))), ((a0 4), .inl (q 1, 6896, .inr (.inl (t0.2.2.1 3)))), ((a0 5), .inl (q 3, 2, .inl (t0.2.2.2 0))), ((a0 6), .inl (q 0, 40, .inl (t0.2.2.2 1))), ((a0 7), .inl (q 2, 400, .inl (t0.2.2.2 2)))] H := hP
      have hD : va_D _ [((a0 0), .inr (6, [.ref (a0 1), .ref (a0 2), .int (t0.1 0), .ref (a0 3), .ref (a0 5), .ref (a0 4), .long t0.2.1, .int (t0.1 1), .int (t0.1 2), .ref (a0 6), .int (t0.1 3), .int (t0.1 4), .ref (a0 7), .int (t0.1 5), .int (t0.1 6), .int (t0.1 7), .int (t0.1 8), .int (t0.1 9), .int (t0.1 10), .int (t0.1 11), .int (t0.1 12), .int (t0.1 13), .int (t0.1 14)])), ((a0 1), .inl (q 1, 6896, .inr (.inl (t0.2.2.1 0)))), ((a0 2), .inl (q 1, 68960, .inr (.inl (t0.2.2.1 1)))), ((a0 3), .inl (q 1, 13792, .inr (.inl (t0.2.2.1 2)))), ((a0 4), .inl (q 1, 6896, .inr (.inl (t0.2.2.1 3)))), ((a0 5), .inl (q 3, 2, .inl (t0.2.2.2 0))), ((a0 6), .inl (q 0, 40, .inl (t0.2.2.2 1))), ((a0 7), .inl (q 2, 400, .inl (t0.2.2.2 2)))] := hD
      unfold wp_X7_wantsSigns_L6 at h
      refine lv_iload hx hb dX7_wantsSigns_6 (lv_at hl 5 rfl) ?_
      refine lv_aload_n hx hb dX7_wantsSigns_8 rfl (lv_at hl 6 rfl) ?_
      refine vp_callSi (rd_wV (wc := md_v a0 q t0) (As := []) (rest := [.int z6]) hx hb hml hown ht (c2_X7_wide h) wd_X7_wide mw_1220 hQ hV hS (hP.sub [0, 1, 2, 3, 4, 5, 6, 7] rfl) rfl rfl rfl hl.1 rfl (Nat.le_of_ble_eq_true rfl) dX7_wantsSigns_9 ⟨Nat.le_of_ble_eq_true rfl, Nat.le_of_ble_eq_true rfl, rfl, rfl⟩ ⟨Nat.le_of_ble_eq_true rfl, Nat.le_of_ble_eq_true rfl⟩) (fun r_1 h => ?_)
      try dsimp only at h
      refine lv_icmp_ge (tgt := 81) hx hb dX7_wantsSigns_12 (by decide) (fun c_3 => ?_) (fun c_3 => ?_)
      · replace h := h.1 c_3
        exact k81 _ _ _ _ _ _ _ _ _ ls h (hP.sub (ws' := md_v a0 q t0) [0, 1, 2, 3, 4, 5, 6, 7] rfl) (hD.sub (ws' := md_v a0 q t0) [0, 1, 2, 3, 4, 5, 6, 7] (by decide) rfl) hS (lv_sub hl [0, 1, 2, 3, 4, 5, 6] rfl)
      · replace h := h.2 c_3
        refine lv_aload_n hx hb dX7_wantsSigns_15 rfl (lv_at hl 6 rfl) ?_
        refine vp_callSi (rd_wV (wc := md_v a0 q t0) (As := []) (rest := []) hx hb hml hown ht (c2_X7_wide h) wd_X7_wide mw_1220 hQ hV hS (hP.sub [0, 1, 2, 3, 4, 5, 6, 7] rfl) rfl rfl rfl hl.1 rfl (Nat.le_of_ble_eq_true rfl) dX7_wantsSigns_16 ⟨Nat.le_of_ble_eq_true rfl, Nat.le_of_ble_eq_true rfl, rfl, rfl⟩ ⟨Nat.le_of_ble_eq_true rfl, Nat.le_of_ble_eq_true rfl⟩) (fun r_4 h => ?_)
        try dsimp only at h
        refine lv_iload_n hx hb dX7_wantsSigns_19 rfl (lv_at hl 0 rfl) ?_
        refine lv_imul hx hb dX7_wantsSigns_20 ?_
        refine lv_iload hx hb dX7_wantsSigns_21 (lv_at hl 5 rfl) ?_
        refine lv_iadd hx hb dX7_wantsSigns_23 ?_
        refine lv_istore (lv' := [(7, .int ((r_4 * z1) + z6)), (1, .int z1), (2, .int z2), (3, .int z3), (4, .int z4), (5, .int z5), (6, .int z6), (0, .ref (a0 0))]) hx hb dX7_wantsSigns_24 hl (by decide) rfl (fun ls hl => ?_)
        refine lv_iload hx hb dX7_wantsSigns_26 (lv_at hl 6 rfl) ?_
        refine lv_iload_n hx hb dX7_wantsSigns_28 rfl (lv_at hl 3 rfl) ?_
        refine lv_icmp_ge (tgt := 50) hx hb dX7_wantsSigns_29 (by decide) (fun c_6 => ?_) (fun c_6 => ?_)
        · replace h := h.1 c_6
          refine lv_iconst (v := 0) hx hb dX7_wantsSigns_50 (by decide) ?_
          refine lv_istore (lv' := [(8, .int 0), (7, .int ((r_4 * z1) + z6)), (1, .int z1), (2, .int z2), (3, .int z3), (4, .int z4), (5, .int z5), (6, .int z6), (0, .ref (a0 0))]) hx hb dX7_wantsSigns_51 hl (by decide) rfl (fun ls hl => ?_)
          refine lv_iload hx hb dX7_wantsSigns_53 (lv_at hl 0 rfl) ?_
          refine lv_iconst (v := (-1)) hx hb dX7_wantsSigns_55 (by decide) ?_
          refine lv_icmp_ne (tgt := 65) hx hb dX7_wantsSigns_56 (by decide) (fun _ => ?_) (fun c9 => absurd c9 (by decide))
          refine lv_aload_n hx hb dX7_wantsSigns_65 rfl (lv_at hl 8 rfl) ?_
          refine lv_iload hx hb dX7_wantsSigns_66 (lv_at hl 1 rfl) ?_
          refine lv_iload hx hb dX7_wantsSigns_68 (lv_at hl 0 rfl) ?_
          refine lv_iload hx hb dX7_wantsSigns_70 (lv_at hl 5 rfl) ?_
          refine mt_gov (mt_wV (wc := md_v a0 q t0) (As := [.int ((r_4 * z1) + z6), .int 0, .int z4]) (rest := []) hx hb hml hown ht (c2_X7_wantsFlap h) wd_X7_wantsFlap mw_1271 hQ hV hS hA (hP.sub [0, 1, 2, 3, 4, 5, 6, 7] rfl) (hD.sub [0, 1, 2, 3, 4, 5, 6, 7] (by decide) rfl) rfl rfl rfl hl.1 rfl (Nat.le_of_ble_eq_true rfl) dX7_wantsSigns_72 ⟨Nat.le_of_ble_eq_true rfl, Nat.le_of_ble_eq_true rfl, rfl, rfl⟩ ⟨Nat.le_of_ble_eq_true rfl, Nat.le_of_ble_eq_true rfl⟩) (wr := []) hP hD hS hA [0, 1, 2, 3, 4, 5, 6, 7] [] rfl rfl (by decide) (by decide) (fun u_8 H locs h hP hD hS => ?_)
          try dsimp only at h
          have hP : va_P D vwCl [((a0 0), .inr (6, [.ref (a0 1), .ref (a0 2), .int (u_8.1 0), .ref (a0 3), .ref (a0 5), .ref (a0 4), .long u_8.2.1, .int (u_8.1 1), .int (u_8.1 2), .ref (a0 6), .int (u_8.1 3), .int (u_8.1 4), .ref (a0 7), .int (u_8.1 5), .int (u_8.1 6), .int (u_8.1 7), .int (u_8.1 8), .int (u_8.1 9), .int (u_8.1 10), .int (u_8.1 11), .int (u_8.1 12), .int (u_8.1 13), .int (u_8.1 14)])), ((a0 1), .inl (q 1, 6896, .inr (.inl (u_8.2.2.1 0)))), ((a0 2), .inl (q 1, 68960, .inr (.inl (u_8.2.2.1 1)))), ((a0 3), .inl (q 1, 13792, .inr (.inl (u_8.2.2.1 2)))), ((a0 4), .inl (q 1, 6896, .inr (.inl (u_8.2.2.1 3)))), ((a0 5), .inl (q 3, 2, .inl (u_8.2.2.2 0))), ((a0 6), .inl (q 0, 40, .inl (u_8.2.2.2 1))), ((a0 7), .inl (q 2, 400, .inl (u_8.2.2.2 2)))] H := hP
          have hD : va_D _ [((a0 0), .inr (6, [.ref (a0 1), .ref (a0 2), .int (u_8.1 0), .ref (a0 3), .ref (a0 5), .ref (a0 4), .long u_8.2.1, .int (u_8.1 1), .int (u_8.1 2), .ref (a0 6), .int (u_8.1 3), .int (u_8.1 4), .ref (a0 7), .int (u_8.1 5), .int (u_8.1 6), .int (u_8.1 7), .int (u_8.1 8), .int (u_8.1 9), .int (u_8.1 10), .int (u_8.1 11), .int (u_8.1 12), .int (u_8.1 13), .int (u_8.1 14)])), ((a0 1), .inl (q 1, 6896, .inr (.inl (u_8.2.2.1 0)))), ((a0 2), .inl (q 1, 68960, .inr (.inl (u_8.2.2.1 1)))), ((a0 3), .inl (q 1, 13792, .inr (.inl (u_8.2.2.1 2)))), ((a0 4), .inl (q 1, 6896, .inr (.inl (u_8.2.2.1 3)))), ((a0 5), .inl (q 3, 2, .inl (u_8.2.2.2 0))), ((a0 6), .inl (q 0, 40, .inl (u_8.2.2.2 1))), ((a0 7), .inl (q 2, 400, .inl (u_8.2.2.2 2)))] := hD
          refine lv_iinc (v := (z6 + 1)) (lv' := [(6, .int (z6 + 1)), (8, .int 0), (7, .int ((r_4 * z1) + z6)), (1, .int z1), (2, .int z2), (3, .int z3), (4, .int z4), (5, .int z5), (0, .ref (a0 0))]) hx hb dX7_wantsSigns_75 hl (k := 7) rfl rfl (by decide) rfl (fun ls hl => ?_)
          refine lv_goto (tgt := 6) hx hb dX7_wantsSigns_78 (by decide) ?_
          exact ih _ _ _ _ _ _ _ _ _ ls h (hP.sub (ws' := md_v a0 q u_8) [0, 1, 2, 3, 4, 5, 6, 7] rfl) (hD.sub (ws' := md_v a0 q u_8) [0, 1, 2, 3, 4, 5, 6, 7] (by decide) rfl) hS (lv_sub hl [3, 4, 5, 6, 7, 0, 8] rfl)
        · replace h := h.2 c_6
          refine lv_aload_n hx hb dX7_wantsSigns_32 rfl (lv_at hl 7 rfl) ?_
          refine lv_iload hx hb dX7_wantsSigns_33 (lv_at hl 0 rfl) ?_
          refine lv_aload_n hx hb dX7_wantsSigns_35 rfl (lv_at hl 7 rfl) ?_
          refine fl_get (C := RX7) (T := TX7) (N := 23) (ci := 6) (v := .ref (a0 7)) hx hb ht in_X7 hown hK hP 0 rfl rfl 12 (by decide) mw_1142 rfl dX7_wantsSigns_36 ?_
          refine lv_iload_n hx hb dX7_wantsSigns_39 rfl (lv_at hl 2 rfl) ?_
          refine lv_iload hx hb dX7_wantsSigns_40 (lv_at hl 6 rfl) ?_
          refine lv_iadd hx hb dX7_wantsSigns_42 ?_
          obtain ⟨g_9, h⟩ := h
          refine va_bald hx hb hK hP 7 2 rfl rfl g_9 dX7_wantsSigns_43 ?_
          refine vp_callSi (rd_wV (wc := md_v a0 q t0) (As := [.int ((r_4 * z1) + z6), .int ((t0.2.2.2 2) (Int32.toNatClampNeg (z2 + z6)))]) (rest := []) hx hb hml hown ht (c2_X7_flapFor h) wd_X7_flapFor mw_1241 hQ hV hS (hP.sub [0, 1, 2, 3, 4, 5, 6, 7] rfl) rfl rfl rfl hl.1 rfl (Nat.le_of_ble_eq_true rfl) dX7_wantsSigns_44 ⟨Nat.le_of_ble_eq_true rfl, Nat.le_of_ble_eq_true rfl, rfl, rfl⟩ ⟨Nat.le_of_ble_eq_true rfl, Nat.le_of_ble_eq_true rfl⟩) (fun r_10 h => ?_)
          try dsimp only at h
          refine lv_goto (tgt := 51) hx hb dX7_wantsSigns_47 (by decide) ?_
          refine lv_istore (lv' := [(8, .int r_10), (7, .int ((r_4 * z1) + z6)), (1, .int z1), (2, .int z2), (3, .int z3), (4, .int z4), (5, .int z5), (6, .int z6), (0, .ref (a0 0))]) hx hb dX7_wantsSigns_51 hl (by decide) rfl (fun ls hl => ?_)
          refine lv_iload hx hb dX7_wantsSigns_53 (lv_at hl 0 rfl) ?_
          refine lv_iconst (v := (-1)) hx hb dX7_wantsSigns_55 (by decide) ?_
          refine lv_icmp_ne (tgt := 65) hx hb dX7_wantsSigns_56 (by decide) (fun c_12 => ?_) (fun c_12 => ?_)
          · replace h := h.1 c_12
            refine lv_aload_n hx hb dX7_wantsSigns_65 rfl (lv_at hl 8 rfl) ?_
            refine lv_iload hx hb dX7_wantsSigns_66 (lv_at hl 1 rfl) ?_
            refine lv_iload hx hb dX7_wantsSigns_68 (lv_at hl 0 rfl) ?_
            refine lv_iload hx hb dX7_wantsSigns_70 (lv_at hl 5 rfl) ?_
            refine mt_gov (mt_wV (wc := md_v a0 q t0) (As := [.int ((r_4 * z1) + z6), .int r_10, .int z4]) (rest := []) hx hb hml hown ht (c2_X7_wantsFlap h) wd_X7_wantsFlap mw_1271 hQ hV hS hA (hP.sub [0, 1, 2, 3, 4, 5, 6, 7] rfl) (hD.sub [0, 1, 2, 3, 4, 5, 6, 7] (by decide) rfl) rfl rfl rfl hl.1 rfl (Nat.le_of_ble_eq_true rfl) dX7_wantsSigns_72 ⟨Nat.le_of_ble_eq_true rfl, Nat.le_of_ble_eq_true rfl, rfl, rfl⟩ ⟨Nat.le_of_ble_eq_true rfl, Nat.le_of_ble_eq_true rfl⟩) (wr := []) hP hD hS hA [0, 1, 2, 3, 4, 5, 6, 7] [] rfl rfl (by decide) (by decide) (fun u_14 H locs h hP hD hS => ?_)
            try dsimp only at h
            have hP : va_P D vwCl [((a0 0), .inr (6, [.ref (a0 1), .ref (a0 2), .int (u_14.1 0), .ref (a0 3), .ref (a0 5), .ref (a0 4), .long u_14.2.1, .int (u_14.1 1), .int (u_14.1 2), .ref (a0 6), .int (u_14.1 3), .int (u_14.1 4), .ref (a0 7), .int (u_14.1 5), .int (u_14.1 6), .int (u_14.1 7), .int (u_14.1 8), .int (u_14.1 9), .int (u_14.1 10), .int (u_14.1 11), .int (u_14.1 12), .int (u_14.1 13), .int (u_14.1 14)])), ((a0 1), .inl (q 1, 6896, .inr (.inl (u_14.2.2.1 0)))), ((a0 2), .inl (q 1, 68960, .inr (.inl (u_14.2.2.1 1)))), ((a0 3), .inl (q 1, 13792, .inr (.inl (u_14.2.2.1 2)))), ((a0 4), .inl (q 1, 6896, .inr (.inl (u_14.2.2.1 3)))), ((a0 5), .inl (q 3, 2, .inl (u_14.2.2.2 0))), ((a0 6), .inl (q 0, 40, .inl (u_14.2.2.2 1))), ((a0 7), .inl (q 2, 400, .inl (u_14.2.2.2 2)))] H := hP
            have hD : va_D _ [((a0 0), .inr (6, [.ref (a0 1), .ref (a0 2), .int (u_14.1 0), .ref (a0 3), .ref (a0 5), .ref (a0 4), .long u_14.2.1, .int (u_14.1 1), .int (u_14.1 2), .ref (a0 6), .int (u_14.1 3), .int (u_14.1 4), .ref (a0 7), .int (u_14.1 5), .int (u_14.1 6), .int (u_14.1 7), .int (u_14.1 8), .int (u_14.1 9), .int (u_14.1 10), .int (u_14.1 11), .int (u_14.1 12), .int (u_14.1 13), .int (u_14.1 14)])), ((a0 1), .inl (q 1, 6896, .inr (.inl (u_14.2.2.1 0)))), ((a0 2), .inl (q 1, 68960, .inr (.inl (u_14.2.2.1 1)))), ((a0 3), .inl (q 1, 13792, .inr (.inl (u_14.2.2.1 2)))), ((a0 4), .inl (q 1, 6896, .inr (.inl (u_14.2.2.1 3)))), ((a0 5), .inl (q 3, 2, .inl (u_14.2.2.2 0))), ((a0 6), .inl (q 0, 40, .inl (u_14.2.2.2 1))), ((a0 7), .inl (q 2, 400, .inl (u_14.2.2.2 2)))] := hD
            refine lv_iinc (v := (z6 + 1)) (lv' := [(6, .int (z6 + 1)), (8, .int r_10), (7, .int ((r_4 * z1) + z6)), (1, .int z1), (2, .int z2), (3, .int z3), (4, .int z4), (5, .int z5), (0, .ref (a0 0))]) hx hb dX7_wantsSigns_75 hl (k := 7) rfl rfl (by decide) rfl (fun ls hl => ?_)
            refine lv_goto (tgt := 6) hx hb dX7_wantsSigns_78 (by decide) ?_
            exact ih _ _ _ _ _ _ _ _ _ ls h (hP.sub (ws' := md_v a0 q u_14) [0, 1, 2, 3, 4, 5, 6, 7] rfl) (hD.sub (ws' := md_v a0 q u_14) [0, 1, 2, 3, 4, 5, 6, 7] (by decide) rfl) hS (lv_sub hl [3, 4, 5, 6, 7, 0, 8] rfl)
          · replace h := h.2 c_12
            refine lv_iinc (v := (z5 + 1)) (lv' := [(5, .int (z5 + 1)), (8, .int r_10), (7, .int ((r_4 * z1) + z6)), (1, .int z1), (2, .int z2), (3, .int z3), (4, .int z4), (6, .int z6), (0, .ref (a0 0))]) hx hb dX7_wantsSigns_59 hl (k := 6) rfl rfl (by decide) rfl (fun ls hl => ?_)
            refine lv_goto (tgt := 75) hx hb dX7_wantsSigns_62 (by decide) ?_
            refine lv_iinc (v := (z6 + 1)) (lv' := [(6, .int (z6 + 1)), (5, .int (z5 + 1)), (8, .int r_10), (7, .int ((r_4 * z1) + z6)), (1, .int z1), (2, .int z2), (3, .int z3), (4, .int z4), (0, .ref (a0 0))]) hx hb dX7_wantsSigns_75 hl (k := 7) rfl rfl (by decide) rfl (fun ls hl => ?_)
            refine lv_goto (tgt := 6) hx hb dX7_wantsSigns_78 (by decide) ?_
            exact ih _ _ _ _ _ _ _ _ _ ls h (hP.sub (ws' := md_v a0 q t0) [0, 1, 2, 3, 4, 5, 6, 7] rfl) (hD.sub (ws' := md_v a0 q t0) [0, 1, 2, 3, 4, 5, 6, 7] (by decide) rfl) hS (lv_sub hl [4, 5, 6, 7, 1, 0, 8] rfl)
  obtain ⟨n6, h⟩ := h
  refine lp6 _ ?_ n6 _ _ _ _ _ _ _ _ _ ls h (hP.sub (ws' := md_v a0 q s0) [0, 1, 2, 3, 4, 5, 6, 7] rfl) (hD.sub (ws' := md_v a0 q s0) [0, 1, 2, 3, 4, 5, 6, 7] (by decide) rfl) hS (lv_sub hl [3, 4, 5, 6, 1, 0, 2] rfl)
  · intro t0 z1 z2 z3 z4 z5 z6 H locs ls h hP hD hS hl
    try dsimp only at h
    have hP : va_P D vwCl [((a0 0), .inr (6, [.ref (a0 1), .ref (a0 2), .int (t0.1 0), .ref (a0 3), .ref (a0 5), .ref (a0 4), .long t0.2.1, .int (t0.1 1), .int (t0.1 2), .ref (a0 6), .int (t0.1 3), .int (t0.1 4), .ref (a0 7), .int (t0.1 5), .int (t0.1 6), .int (t0.1 7), .int (t0.1 8), .int (t0.1 9), .int (t0.1 10), .int (t0.1 11), .int (t0.1 12), .int (t0.1 13), .int (t0.1 14)])), ((a0 1), .inl (q 1, 6896, .inr (.inl (t0.2.2.1 0)))), ((a0 2), .inl (q 1, 68960, .inr (.inl (t0.2.2.1 1)))), ((a0 3), .inl (q 1, 13792, .inr (.inl (t0.2.2.1 2)))), ((a0 4), .inl (q 1, 6896, .inr (.inl (t0.2.2.1 3)))), ((a0 5), .inl (q 3, 2, .inl (t0.2.2.2 0))), ((a0 6), .inl (q 0, 40, .inl (t0.2.2.2 1))), ((a0 7), .inl (q 2, 400, .inl (t0.2.2.2 2)))] H := hP
    have hD : va_D _ [((a0 0), .inr (6, [.ref (a0 1), .ref (a0 2), .int (t0.1 0), .ref (a0 3), .ref (a0 5), .ref (a0 4), .long t0.2.1, .int (t0.1 1), .int (t0.1 2), .ref (a0 6), .int (t0.1 3), .int (t0.1 4), .ref (a0 7), .int (t0.1 5), .int (t0.1 6), .int (t0.1 7), .int (t0.1 8), .int (t0.1 9), .int (t0.1 10), .int (t0.1 11), .int (t0.1 12), .int (t0.1 13), .int (t0.1 14)])), ((a0 1), .inl (q 1, 6896, .inr (.inl (t0.2.2.1 0)))), ((a0 2), .inl (q 1, 68960, .inr (.inl (t0.2.2.1 1)))), ((a0 3), .inl (q 1, 13792, .inr (.inl (t0.2.2.1 2)))), ((a0 4), .inl (q 1, 6896, .inr (.inl (t0.2.2.1 3)))), ((a0 5), .inl (q 3, 2, .inl (t0.2.2.2 0))), ((a0 6), .inl (q 0, 40, .inl (t0.2.2.2 1))), ((a0 7), .inl (q 2, 400, .inl (t0.2.2.2 2)))] := hD
    refine lv_iload hx hb dX7_wantsSigns_81 (lv_at hl 4 rfl) ?_
    exact mt_iret t0 hx hb hr hk h (hP.sub (ws' := md_v a0 q t0) [0, 1, 2, 3, 4, 5, 6, 7] rfl) (hD.sub (ws' := md_v a0 q t0) [0, 1, 2, 3, 4, 5, 6, 7] (by decide) rfl) hS dX7_wantsSigns_83

def wp_X7_scrolls_L5 (post : Int32 → Md → Prop) (e45 : Md → Int32 → Int32 → Int32 → Int32 → Prop) : Nat → Md → Int32 → Int32 → Int32 → Int32 → Prop
  | 0, _, _, _, _, _ => False
  | n5 + 1, t0, z1, z2, z3, z4 => wp_X7_cells (fun r_1 => ((r_1 ≤ z4 → e45 t0 z1 z2 z3 z4) ∧ (¬ r_1 ≤ z4 → wp_X7_of (fun r_4 => wp_X7_of (fun r_6 => wp_X7_signOf (fun r_8 => vp_in z4 40 ∧ wp_X7_scrolls_L5 post e45 n5 (t0.1, t0.2.1, t0.2.2.1, (va_up t0.2.2.2 1 (upd (t0.2.2.2 1) (Int32.toNatClampNeg z4) r_8))) z1 z2 z3 (z4 + 1)) t0 r_4 r_6) t0 z4 (3 : Int32)) t0 z4 (0 : Int32)))) t0
def wp_X7_scrolls_L48 (post : Int32 → Md → Prop) (e109 : Md → Int32 → Int32 → Int32 → Int32 → Prop) : Nat → Md → Int32 → Int32 → Int32 → Int32 → Prop
  | 0, _, _, _, _, _ => False
  | n48 + 1, t0, z1, z2, z3, z4 => wp_X7_wide (fun r_11 => wp_X7_cells (fun r_13 => ((r_13 ≤ (z4 + r_11) → e109 t0 z1 z2 z3 z4) ∧ (¬ r_13 ≤ (z4 + r_11) → wp_X7_wide (fun r_16 => vp_in (z4 + r_16) 40 ∧ wp_X7_flapFor (fun r_19 => ((¬ r_19 = (-1) → wp_X7_wantsFlap (fun u_23 => wp_X7_scrolls_L48 post e109 n48 u_23 z1 z2 z3 (z4 + 1)) t0 z4 r_19 (1 : Int32)) ∧ (r_19 = (-1) → wp_X7_scrolls_L48 post e109 n48 t0 z1 z2 (z3 + 1) (z4 + 1)))) t0 z4 ((t0.2.2.2 1) (Int32.toNatClampNeg (z4 + r_16)))) t0))) t0) t0
def wp_X7_scrolls (post : Int32 → Md → Prop) (s0 : Md) (x1 : Int32) (x2 : Int32) : Prop := (∃ n5, wp_X7_scrolls_L5 post (fun t0 z1 z2 z3 z4 => (∃ n48, wp_X7_scrolls_L48 post (fun t0 z1 z2 z3 z4 => wp_X7_rows (fun r_24 => wp_X7_wantsSigns (fun r_26 u_27 => post (z3 + r_26) u_27) t0 (r_24 - 1) z1 z2 (1 : Int32)) t0) n48 t0 z1 z2 z3 0)) n5 s0 x1 x2 0 0)
set_option maxHeartbeats 4000000 in
set_option maxRecDepth 100000 in
theorem c2_X7_scrolls {l : Launch} {D : va_G} {q : Nat → ClassId} {sz : Nat} {a0 : Nat → Nat} {s0 : Md} {x1 : Int32} {x2 : Int32} {post : Int32 → Md → Prop} (h : wp_X7_scrolls post s0 x1 x2) : Met l yX7_scrolls (Cond.code yX7_scrolls cX7_scrolls 6 (some .int) :: w_all) ({ frames := 4, cells := 0, slots := 0, locals := 95 } : Room) (mt_P D q [.ref (a0 0), .int x1, .int x2] (md_v a0 q s0) sz) (va_Qi (fun r (u : Md) => post r u) (mt_B D (md_v a0 q s0) sz (fun u : Md => md_v a0 q u)) (va_A (md_v a0 q s0) sz)) 0 0 (va_A (md_v a0 q s0) sz) := by
  refine mt_start (by decide) (Nat.le_of_ble_eq_true rfl) ?_
  intro p e s m below meth c ls hx hb hr hml hown ht hk hin hP hQ hD hA hS hV hl
  have hK := hQ.1
  have hown : s.vm.findClass RX7 = some m.cls := hown
  have hl : lv_has ls 6 [(0, .ref (a0 0)), (1, .int x1), (2, .int x2)] := hl
  have hP : va_P D vwCl [((a0 0), .inr (6, [.ref (a0 1), .ref (a0 2), .int (s0.1 0), .ref (a0 3), .ref (a0 5), .ref (a0 4), .long s0.2.1, .int (s0.1 1), .int (s0.1 2), .ref (a0 6), .int (s0.1 3), .int (s0.1 4), .ref (a0 7), .int (s0.1 5), .int (s0.1 6), .int (s0.1 7), .int (s0.1 8), .int (s0.1 9), .int (s0.1 10), .int (s0.1 11), .int (s0.1 12), .int (s0.1 13), .int (s0.1 14)])), ((a0 1), .inl (q 1, 6896, .inr (.inl (s0.2.2.1 0)))), ((a0 2), .inl (q 1, 68960, .inr (.inl (s0.2.2.1 1)))), ((a0 3), .inl (q 1, 13792, .inr (.inl (s0.2.2.1 2)))), ((a0 4), .inl (q 1, 6896, .inr (.inl (s0.2.2.1 3)))), ((a0 5), .inl (q 3, 2, .inl (s0.2.2.2 0))), ((a0 6), .inl (q 0, 40, .inl (s0.2.2.2 1))), ((a0 7), .inl (q 2, 400, .inl (s0.2.2.2 2)))] s.heap := hP
  have hD : va_D _ [((a0 0), .inr (6, [.ref (a0 1), .ref (a0 2), .int (s0.1 0), .ref (a0 3), .ref (a0 5), .ref (a0 4), .long s0.2.1, .int (s0.1 1), .int (s0.1 2), .ref (a0 6), .int (s0.1 3), .int (s0.1 4), .ref (a0 7), .int (s0.1 5), .int (s0.1 6), .int (s0.1 7), .int (s0.1 8), .int (s0.1 9), .int (s0.1 10), .int (s0.1 11), .int (s0.1 12), .int (s0.1 13), .int (s0.1 14)])), ((a0 1), .inl (q 1, 6896, .inr (.inl (s0.2.2.1 0)))), ((a0 2), .inl (q 1, 68960, .inr (.inl (s0.2.2.1 1)))), ((a0 3), .inl (q 1, 13792, .inr (.inl (s0.2.2.1 2)))), ((a0 4), .inl (q 1, 6896, .inr (.inl (s0.2.2.1 3)))), ((a0 5), .inl (q 3, 2, .inl (s0.2.2.2 0))), ((a0 6), .inl (q 0, 40, .inl (s0.2.2.2 1))), ((a0 7), .inl (q 2, 400, .inl (s0.2.2.2 2)))] := hD
  unfold wp_X7_scrolls at h
  refine lv_iconst (v := 0) hx hb dX7_scrolls_0 (by decide) ?_
  refine lv_istore_n (lv' := [(3, .int 0), (0, .ref (a0 0)), (1, .int x1), (2, .int x2)]) hx hb dX7_scrolls_1 rfl hl (by decide) rfl (fun ls hl => ?_)
  refine lv_iconst (v := 0) hx hb dX7_scrolls_2 (by decide) ?_
  refine lv_istore (lv' := [(4, .int 0), (3, .int 0), (0, .ref (a0 0)), (1, .int x1), (2, .int x2)]) hx hb dX7_scrolls_3 hl (by decide) rfl (fun ls hl => ?_)
  have lp5 : ∀ (e45 : Md → Int32 → Int32 → Int32 → Int32 → Prop) (k45 : ∀ (t0 : Md) (z1 : Int32) (z2 : Int32) (z3 : Int32) (z4 : Int32) (H : Heap) (locs : List Loc) (ls : Array Slot), e45 t0 z1 z2 z3 z4 → va_P D vwCl (md_v a0 q t0) H → va_D (va_A (md_v a0 q s0) sz) (md_v a0 q t0) → va_S (va_A (md_v a0 q s0) sz) s.heap H locs → lv_has ls 6 [(1, .int z1), (2, .int z2), (3, .int z3), (4, .int z4), (0, .ref (a0 0))] → W p l e ({ frames := 4, cells := 0, slots := 0, locals := 95 } : Room) s m [.ref (a0 0), .int x1, .int x2].toArray below meth c H locs 0 0 (MQ below (va_Qi (fun r (u : Md) => post r u) (mt_B D (md_v a0 q s0) sz (fun u : Md => md_v a0 q u)) (va_A (md_v a0 q s0) sz)) [.ref (a0 0), .int x1, .int x2].toArray s 0 0 (va_A (md_v a0 q s0) sz)) (F0 m 45 ls [])) (n : Nat) (t0 : Md) (z1 : Int32) (z2 : Int32) (z3 : Int32) (z4 : Int32) (H : Heap) (locs : List Loc) (ls : Array Slot), wp_X7_scrolls_L5 post e45 n t0 z1 z2 z3 z4 → va_P D vwCl (md_v a0 q t0) H → va_D (va_A (md_v a0 q s0) sz) (md_v a0 q t0) → va_S (va_A (md_v a0 q s0) sz) s.heap H locs → lv_has ls 6 [(1, .int z1), (2, .int z2), (3, .int z3), (4, .int z4), (0, .ref (a0 0))] → W p l e ({ frames := 4, cells := 0, slots := 0, locals := 95 } : Room) s m [.ref (a0 0), .int x1, .int x2].toArray below meth c H locs 0 0 (MQ below (va_Qi (fun r (u : Md) => post r u) (mt_B D (md_v a0 q s0) sz (fun u : Md => md_v a0 q u)) (va_A (md_v a0 q s0) sz)) [.ref (a0 0), .int x1, .int x2].toArray s 0 0 (va_A (md_v a0 q s0) sz)) (F0 m 5 ls []) := by
    intro e45 k45 n
    induction n with
    | zero =>
      intro t0 z1 z2 z3 z4 H locs ls h
      exact h.elim
    | succ n ih =>
      intro t0 z1 z2 z3 z4 H locs ls h hP hD hS hl
      have hP : va_P D vwCl [((a0 0), .inr (6, [.ref (a0 1), .ref (a0 2), .int (t0.1 0), .ref (a0 3), .ref (a0 5), .ref (a0 4), .long t0.2.1, .int (t0.1 1), .int (t0.1 2), .ref (a0 6), .int (t0.1 3), .int (t0.1 4), .ref (a0 7), .int (t0.1 5), .int (t0.1 6), .int (t0.1 7), .int (t0.1 8), .int (t0.1 9), .int (t0.1 10), .int (t0.1 11), .int (t0.1 12), .int (t0.1 13), .int (t0.1 14)])), ((a0 1), .inl (q 1, 6896, .inr (.inl (t0.2.2.1 0)))), ((a0 2), .inl (q 1, 68960, .inr (.inl (t0.2.2.1 1)))), ((a0 3), .inl (q 1, 13792, .inr (.inl (t0.2.2.1 2)))), ((a0 4), .inl (q 1, 6896, .inr (.inl (t0.2.2.1 3)))), ((a0 5), .inl (q 3, 2, .inl (t0.2.2.2 0))), ((a0 6), .inl (q 0, 40, .inl (t0.2.2.2 1))), ((a0 7), .inl (q 2, 400, .inl (t0.2.2.2 2)))] H := hP
      have hD : va_D _ [((a0 0), .inr (6, [.ref (a0 1), .ref (a0 2), .int (t0.1 0), .ref (a0 3), .ref (a0 5), .ref (a0 4), .long t0.2.1, .int (t0.1 1), .int (t0.1 2), .ref (a0 6), .int (t0.1 3), .int (t0.1 4), .ref (a0 7), .int (t0.1 5), .int (t0.1 6), .int (t0.1 7), .int (t0.1 8), .int (t0.1 9), .int (t0.1 10), .int (t0.1 11), .int (t0.1 12), .int (t0.1 13), .int (t0.1 14)])), ((a0 1), .inl (q 1, 6896, .inr (.inl (t0.2.2.1 0)))), ((a0 2), .inl (q 1, 68960, .inr (.inl (t0.2.2.1 1)))), ((a0 3), .inl (q 1, 13792, .inr (.inl (t0.2.2.1 2)))), ((a0 4), .inl (q 1, 6896, .inr (.inl (t0.2.2.1 3)))), ((a0 5), .inl (q 3, 2, .inl (t0.2.2.2 0))), ((a0 6), .inl (q 0, 40, .inl (t0.2.2.2 1))), ((a0 7), .inl (q 2, 400, .inl (t0.2.2.2 2)))] := hD
      unfold wp_X7_scrolls_L5 at h
      refine lv_iload hx hb dX7_scrolls_5 (lv_at hl 3 rfl) ?_
      refine lv_aload_n hx hb dX7_scrolls_7 rfl (lv_at hl 4 rfl) ?_
      refine vp_callSi (rd_wV (wc := md_v a0 q t0) (As := []) (rest := [.int z4]) hx hb hml hown ht (c2_X7_cells h) wd_X7_cells mw_1295 hQ hV hS (hP.sub [0, 1, 2, 3, 4, 5, 6, 7] rfl) rfl rfl rfl hl.1 rfl (Nat.le_of_ble_eq_true rfl) dX7_scrolls_8 ⟨Nat.le_of_ble_eq_true rfl, Nat.le_of_ble_eq_true rfl, rfl, rfl⟩ ⟨Nat.le_of_ble_eq_true rfl, Nat.le_of_ble_eq_true rfl⟩) (fun r_1 h => ?_)
      try dsimp only at h
      refine lv_icmp_ge (tgt := 45) hx hb dX7_scrolls_11 (by decide) (fun c_3 => ?_) (fun c_3 => ?_)
      · replace h := h.1 c_3
        exact k45 _ _ _ _ _ _ _ ls h (hP.sub (ws' := md_v a0 q t0) [0, 1, 2, 3, 4, 5, 6, 7] rfl) (hD.sub (ws' := md_v a0 q t0) [0, 1, 2, 3, 4, 5, 6, 7] (by decide) rfl) hS (lv_sub hl [0, 1, 2, 3, 4] rfl)
      · replace h := h.2 c_3
        refine lv_aload_n hx hb dX7_scrolls_14 rfl (lv_at hl 4 rfl) ?_
        refine fl_get (C := RX7) (T := TX7) (N := 23) (ci := 6) (v := .ref (a0 6)) hx hb ht in_X7 hown hK hP 0 rfl rfl 9 (by decide) mw_1139 rfl dX7_scrolls_15 ?_
        refine lv_iload hx hb dX7_scrolls_18 (lv_at hl 3 rfl) ?_
        refine lv_aload_n hx hb dX7_scrolls_20 rfl (lv_at hl 4 rfl) ?_
        refine lv_aload_n hx hb dX7_scrolls_21 rfl (lv_at hl 4 rfl) ?_
        refine lv_iload hx hb dX7_scrolls_22 (lv_at hl 3 rfl) ?_
        refine lv_iconst (v := 0) hx hb dX7_scrolls_24 (by decide) ?_
        refine vp_callSi (rd_wV (wc := md_v a0 q t0) (As := [.int z4, .int 0]) (rest := [.ref (a0 0), .int z4, .ref (a0 6)]) hx hb hml hown ht (c2_X7_of h) wd_X7_of mw_1249 hQ hV hS (hP.sub [0, 1, 2, 3, 4, 5, 6, 7] rfl) rfl rfl rfl hl.1 rfl (Nat.le_of_ble_eq_true rfl) dX7_scrolls_25 ⟨Nat.le_of_ble_eq_true rfl, Nat.le_of_ble_eq_true rfl, rfl, rfl⟩ ⟨Nat.le_of_ble_eq_true rfl, Nat.le_of_ble_eq_true rfl⟩) (fun r_4 h => ?_)
        try dsimp only at h
        refine lv_aload_n hx hb dX7_scrolls_28 rfl (lv_at hl 4 rfl) ?_
        refine lv_iload hx hb dX7_scrolls_29 (lv_at hl 3 rfl) ?_
        refine lv_iconst (v := 3) hx hb dX7_scrolls_31 (by decide) ?_
        refine vp_callSi (rd_wV (wc := md_v a0 q t0) (As := [.int z4, .int 3]) (rest := [.int r_4, .ref (a0 0), .int z4, .ref (a0 6)]) hx hb hml hown ht (c2_X7_of h) wd_X7_of mw_1249 hQ hV hS (hP.sub [0, 1, 2, 3, 4, 5, 6, 7] rfl) rfl rfl rfl hl.1 rfl (Nat.le_of_ble_eq_true rfl) dX7_scrolls_32 ⟨Nat.le_of_ble_eq_true rfl, Nat.le_of_ble_eq_true rfl, rfl, rfl⟩ ⟨Nat.le_of_ble_eq_true rfl, Nat.le_of_ble_eq_true rfl⟩) (fun r_6 h => ?_)
        try dsimp only at h
        refine vp_callSi (rd_wV (wc := md_v a0 q t0) (As := [.int r_4, .int r_6]) (rest := [.int z4, .ref (a0 6)]) hx hb hml hown ht (c2_X7_signOf h) wd_X7_signOf mw_1257 hQ hV hS (hP.sub [0, 1, 2, 3, 4, 5, 6, 7] rfl) rfl rfl rfl hl.1 rfl (Nat.le_of_ble_eq_true rfl) dX7_scrolls_35 ⟨Nat.le_of_ble_eq_true rfl, Nat.le_of_ble_eq_true rfl, rfl, rfl⟩ ⟨Nat.le_of_ble_eq_true rfl, Nat.le_of_ble_eq_true rfl⟩) (fun r_8 h => ?_)
        try dsimp only at h
        obtain ⟨g_10, h⟩ := h
        refine va_iast hx hb hK hP hD hS 6 0 rfl rfl g_10 dX7_scrolls_38 (fun H locs hP hD hS => ?_)
        have hP : va_P D vwCl [((a0 0), .inr (6, [.ref (a0 1), .ref (a0 2), .int (t0.1 0), .ref (a0 3), .ref (a0 5), .ref (a0 4), .long t0.2.1, .int (t0.1 1), .int (t0.1 2), .ref (a0 6), .int (t0.1 3), .int (t0.1 4), .ref (a0 7), .int (t0.1 5), .int (t0.1 6), .int (t0.1 7), .int (t0.1 8), .int (t0.1 9), .int (t0.1 10), .int (t0.1 11), .int (t0.1 12), .int (t0.1 13), .int (t0.1 14)])), ((a0 1), .inl (q 1, 6896, .inr (.inl (t0.2.2.1 0)))), ((a0 2), .inl (q 1, 68960, .inr (.inl (t0.2.2.1 1)))), ((a0 3), .inl (q 1, 13792, .inr (.inl (t0.2.2.1 2)))), ((a0 4), .inl (q 1, 6896, .inr (.inl (t0.2.2.1 3)))), ((a0 5), .inl (q 3, 2, .inl (t0.2.2.2 0))), ((a0 6), .inl (q 0, 40, .inl (upd (t0.2.2.2 1) (Int32.toNatClampNeg z4) r_8))), ((a0 7), .inl (q 2, 400, .inl (t0.2.2.2 2)))] H := hP
        have hD : va_D _ [((a0 0), .inr (6, [.ref (a0 1), .ref (a0 2), .int (t0.1 0), .ref (a0 3), .ref (a0 5), .ref (a0 4), .long t0.2.1, .int (t0.1 1), .int (t0.1 2), .ref (a0 6), .int (t0.1 3), .int (t0.1 4), .ref (a0 7), .int (t0.1 5), .int (t0.1 6), .int (t0.1 7), .int (t0.1 8), .int (t0.1 9), .int (t0.1 10), .int (t0.1 11), .int (t0.1 12), .int (t0.1 13), .int (t0.1 14)])), ((a0 1), .inl (q 1, 6896, .inr (.inl (t0.2.2.1 0)))), ((a0 2), .inl (q 1, 68960, .inr (.inl (t0.2.2.1 1)))), ((a0 3), .inl (q 1, 13792, .inr (.inl (t0.2.2.1 2)))), ((a0 4), .inl (q 1, 6896, .inr (.inl (t0.2.2.1 3)))), ((a0 5), .inl (q 3, 2, .inl (t0.2.2.2 0))), ((a0 6), .inl (q 0, 40, .inl (upd (t0.2.2.2 1) (Int32.toNatClampNeg z4) r_8))), ((a0 7), .inl (q 2, 400, .inl (t0.2.2.2 2)))] := hD
        refine lv_iinc (v := (z4 + 1)) (lv' := [(4, .int (z4 + 1)), (1, .int z1), (2, .int z2), (3, .int z3), (0, .ref (a0 0))]) hx hb dX7_scrolls_39 hl (k := 3) rfl rfl (by decide) rfl (fun ls hl => ?_)
        refine lv_goto (tgt := 5) hx hb dX7_scrolls_42 (by decide) ?_
        exact ih _ _ _ _ _ _ _ ls h (hP.sub (ws' := md_v a0 q (t0.1, t0.2.1, t0.2.2.1, (va_up t0.2.2.2 1 (upd (t0.2.2.2 1) (Int32.toNatClampNeg z4) r_8)))) [0, 1, 2, 3, 4, 5, 6, 7] rfl) (hD.sub (ws' := md_v a0 q (t0.1, t0.2.1, t0.2.2.1, (va_up t0.2.2.2 1 (upd (t0.2.2.2 1) (Int32.toNatClampNeg z4) r_8)))) [0, 1, 2, 3, 4, 5, 6, 7] (by decide) rfl) hS (lv_sub hl [1, 2, 3, 0, 4] rfl)
  obtain ⟨n5, h⟩ := h
  refine lp5 _ ?_ n5 _ _ _ _ _ _ _ ls h (hP.sub (ws' := md_v a0 q s0) [0, 1, 2, 3, 4, 5, 6, 7] rfl) (hD.sub (ws' := md_v a0 q s0) [0, 1, 2, 3, 4, 5, 6, 7] (by decide) rfl) hS (lv_sub hl [3, 4, 1, 0, 2] rfl)
  · intro t0 z1 z2 z3 z4 H locs ls h hP hD hS hl
    try dsimp only at h
    have hP : va_P D vwCl [((a0 0), .inr (6, [.ref (a0 1), .ref (a0 2), .int (t0.1 0), .ref (a0 3), .ref (a0 5), .ref (a0 4), .long t0.2.1, .int (t0.1 1), .int (t0.1 2), .ref (a0 6), .int (t0.1 3), .int (t0.1 4), .ref (a0 7), .int (t0.1 5), .int (t0.1 6), .int (t0.1 7), .int (t0.1 8), .int (t0.1 9), .int (t0.1 10), .int (t0.1 11), .int (t0.1 12), .int (t0.1 13), .int (t0.1 14)])), ((a0 1), .inl (q 1, 6896, .inr (.inl (t0.2.2.1 0)))), ((a0 2), .inl (q 1, 68960, .inr (.inl (t0.2.2.1 1)))), ((a0 3), .inl (q 1, 13792, .inr (.inl (t0.2.2.1 2)))), ((a0 4), .inl (q 1, 6896, .inr (.inl (t0.2.2.1 3)))), ((a0 5), .inl (q 3, 2, .inl (t0.2.2.2 0))), ((a0 6), .inl (q 0, 40, .inl (t0.2.2.2 1))), ((a0 7), .inl (q 2, 400, .inl (t0.2.2.2 2)))] H := hP
    have hD : va_D _ [((a0 0), .inr (6, [.ref (a0 1), .ref (a0 2), .int (t0.1 0), .ref (a0 3), .ref (a0 5), .ref (a0 4), .long t0.2.1, .int (t0.1 1), .int (t0.1 2), .ref (a0 6), .int (t0.1 3), .int (t0.1 4), .ref (a0 7), .int (t0.1 5), .int (t0.1 6), .int (t0.1 7), .int (t0.1 8), .int (t0.1 9), .int (t0.1 10), .int (t0.1 11), .int (t0.1 12), .int (t0.1 13), .int (t0.1 14)])), ((a0 1), .inl (q 1, 6896, .inr (.inl (t0.2.2.1 0)))), ((a0 2), .inl (q 1, 68960, .inr (.inl (t0.2.2.1 1)))), ((a0 3), .inl (q 1, 13792, .inr (.inl (t0.2.2.1 2)))), ((a0 4), .inl (q 1, 6896, .inr (.inl (t0.2.2.1 3)))), ((a0 5), .inl (q 3, 2, .inl (t0.2.2.2 0))), ((a0 6), .inl (q 0, 40, .inl (t0.2.2.2 1))), ((a0 7), .inl (q 2, 400, .inl (t0.2.2.2 2)))] := hD
    refine lv_iconst (v := 0) hx hb dX7_scrolls_45 (by decide) ?_
    refine lv_istore (lv' := [(4, .int 0), (1, .int z1), (2, .int z2), (3, .int z3), (0, .ref (a0 0))]) hx hb dX7_scrolls_46 hl (by decide) rfl (fun ls hl => ?_)
    have lp48 : ∀ (e109 : Md → Int32 → Int32 → Int32 → Int32 → Prop) (k109 : ∀ (t0 : Md) (z1 : Int32) (z2 : Int32) (z3 : Int32) (z4 : Int32) (H : Heap) (locs : List Loc) (ls : Array Slot), e109 t0 z1 z2 z3 z4 → va_P D vwCl (md_v a0 q t0) H → va_D (va_A (md_v a0 q s0) sz) (md_v a0 q t0) → va_S (va_A (md_v a0 q s0) sz) s.heap H locs → lv_has ls 6 [(1, .int z1), (2, .int z2), (3, .int z3), (4, .int z4), (0, .ref (a0 0))] → W p l e ({ frames := 4, cells := 0, slots := 0, locals := 95 } : Room) s m [.ref (a0 0), .int x1, .int x2].toArray below meth c H locs 0 0 (MQ below (va_Qi (fun r (u : Md) => post r u) (mt_B D (md_v a0 q s0) sz (fun u : Md => md_v a0 q u)) (va_A (md_v a0 q s0) sz)) [.ref (a0 0), .int x1, .int x2].toArray s 0 0 (va_A (md_v a0 q s0) sz)) (F0 m 109 ls [])) (n : Nat) (t0 : Md) (z1 : Int32) (z2 : Int32) (z3 : Int32) (z4 : Int32) (H : Heap) (locs : List Loc) (ls : Array Slot), wp_X7_scrolls_L48 post e109 n t0 z1 z2 z3 z4 → va_P D vwCl (md_v a0 q t0) H → va_D (va_A (md_v a0 q s0) sz) (md_v a0 q t0) → va_S (va_A (md_v a0 q s0) sz) s.heap H locs → lv_has ls 6 [(1, .int z1), (2, .int z2), (3, .int z3), (4, .int z4), (0, .ref (a0 0))] → W p l e ({ frames := 4, cells := 0, slots := 0, locals := 95 } : Room) s m [.ref (a0 0), .int x1, .int x2].toArray below meth c H locs 0 0 (MQ below (va_Qi (fun r (u : Md) => post r u) (mt_B D (md_v a0 q s0) sz (fun u : Md => md_v a0 q u)) (va_A (md_v a0 q s0) sz)) [.ref (a0 0), .int x1, .int x2].toArray s 0 0 (va_A (md_v a0 q s0) sz)) (F0 m 48 ls []) := by
      intro e109 k109 n
      induction n with
      | zero =>
        intro t0 z1 z2 z3 z4 H locs ls h
        exact h.elim
      | succ n ih =>
        intro t0 z1 z2 z3 z4 H locs ls h hP hD hS hl
        have hP : va_P D vwCl [((a0 0), .inr (6, [.ref (a0 1), .ref (a0 2), .int (t0.1 0), .ref (a0 3), .ref (a0 5), .ref (a0 4), .long t0.2.1, .int (t0.1 1), .int (t0.1 2), .ref (a0 6), .int (t0.1 3), .int (t0.1 4), .ref (a0 7), .int (t0.1 5), .int (t0.1 6), .int (t0.1 7), .int (t0.1 8), .int (t0.1 9), .int (t0.1 10), .int (t0.1 11), .int (t0.1 12), .int (t0.1 13), .int (t0.1 14)])), ((a0 1), .inl (q 1, 6896, .inr (.inl (t0.2.2.1 0)))), ((a0 2), .inl (q 1, 68960, .inr (.inl (t0.2.2.1 1)))), ((a0 3), .inl (q 1, 13792, .inr (.inl (t0.2.2.1 2)))), ((a0 4), .inl (q 1, 6896, .inr (.inl (t0.2.2.1 3)))), ((a0 5), .inl (q 3, 2, .inl (t0.2.2.2 0))), ((a0 6), .inl (q 0, 40, .inl (t0.2.2.2 1))), ((a0 7), .inl (q 2, 400, .inl (t0.2.2.2 2)))] H := hP
        have hD : va_D _ [((a0 0), .inr (6, [.ref (a0 1), .ref (a0 2), .int (t0.1 0), .ref (a0 3), .ref (a0 5), .ref (a0 4), .long t0.2.1, .int (t0.1 1), .int (t0.1 2), .ref (a0 6), .int (t0.1 3), .int (t0.1 4), .ref (a0 7), .int (t0.1 5), .int (t0.1 6), .int (t0.1 7), .int (t0.1 8), .int (t0.1 9), .int (t0.1 10), .int (t0.1 11), .int (t0.1 12), .int (t0.1 13), .int (t0.1 14)])), ((a0 1), .inl (q 1, 6896, .inr (.inl (t0.2.2.1 0)))), ((a0 2), .inl (q 1, 68960, .inr (.inl (t0.2.2.1 1)))), ((a0 3), .inl (q 1, 13792, .inr (.inl (t0.2.2.1 2)))), ((a0 4), .inl (q 1, 6896, .inr (.inl (t0.2.2.1 3)))), ((a0 5), .inl (q 3, 2, .inl (t0.2.2.2 0))), ((a0 6), .inl (q 0, 40, .inl (t0.2.2.2 1))), ((a0 7), .inl (q 2, 400, .inl (t0.2.2.2 2)))] := hD
        unfold wp_X7_scrolls_L48 at h
        refine lv_iload hx hb dX7_scrolls_48 (lv_at hl 3 rfl) ?_
        refine lv_aload_n hx hb dX7_scrolls_50 rfl (lv_at hl 4 rfl) ?_
        refine vp_callSi (rd_wV (wc := md_v a0 q t0) (As := []) (rest := [.int z4]) hx hb hml hown ht (c2_X7_wide h) wd_X7_wide mw_1220 hQ hV hS (hP.sub [0, 1, 2, 3, 4, 5, 6, 7] rfl) rfl rfl rfl hl.1 rfl (Nat.le_of_ble_eq_true rfl) dX7_scrolls_51 ⟨Nat.le_of_ble_eq_true rfl, Nat.le_of_ble_eq_true rfl, rfl, rfl⟩ ⟨Nat.le_of_ble_eq_true rfl, Nat.le_of_ble_eq_true rfl⟩) (fun r_11 h => ?_)
        try dsimp only at h
        refine lv_iadd hx hb dX7_scrolls_54 ?_
        refine lv_aload_n hx hb dX7_scrolls_55 rfl (lv_at hl 4 rfl) ?_
        refine vp_callSi (rd_wV (wc := md_v a0 q t0) (As := []) (rest := [.int (z4 + r_11)]) hx hb hml hown ht (c2_X7_cells h) wd_X7_cells mw_1295 hQ hV hS (hP.sub [0, 1, 2, 3, 4, 5, 6, 7] rfl) rfl rfl rfl hl.1 rfl (Nat.le_of_ble_eq_true rfl) dX7_scrolls_56 ⟨Nat.le_of_ble_eq_true rfl, Nat.le_of_ble_eq_true rfl, rfl, rfl⟩ ⟨Nat.le_of_ble_eq_true rfl, Nat.le_of_ble_eq_true rfl⟩) (fun r_13 h => ?_)
        try dsimp only at h
        refine lv_icmp_ge (tgt := 109) hx hb dX7_scrolls_59 (by decide) (fun c_15 => ?_) (fun c_15 => ?_)
        · replace h := h.1 c_15
          exact k109 _ _ _ _ _ _ _ ls h (hP.sub (ws' := md_v a0 q t0) [0, 1, 2, 3, 4, 5, 6, 7] rfl) (hD.sub (ws' := md_v a0 q t0) [0, 1, 2, 3, 4, 5, 6, 7] (by decide) rfl) hS (lv_sub hl [0, 1, 2, 3, 4] rfl)
        · replace h := h.2 c_15
          refine lv_aload_n hx hb dX7_scrolls_62 rfl (lv_at hl 4 rfl) ?_
          refine lv_iload hx hb dX7_scrolls_63 (lv_at hl 3 rfl) ?_
          refine lv_aload_n hx hb dX7_scrolls_65 rfl (lv_at hl 4 rfl) ?_
          refine fl_get (C := RX7) (T := TX7) (N := 23) (ci := 6) (v := .ref (a0 6)) hx hb ht in_X7 hown hK hP 0 rfl rfl 9 (by decide) mw_1139 rfl dX7_scrolls_66 ?_
          refine lv_iload hx hb dX7_scrolls_69 (lv_at hl 3 rfl) ?_
          refine lv_aload_n hx hb dX7_scrolls_71 rfl (lv_at hl 4 rfl) ?_
          refine vp_callSi (rd_wV (wc := md_v a0 q t0) (As := []) (rest := [.int z4, .ref (a0 6), .int z4, .ref (a0 0)]) hx hb hml hown ht (c2_X7_wide h) wd_X7_wide mw_1220 hQ hV hS (hP.sub [0, 1, 2, 3, 4, 5, 6, 7] rfl) rfl rfl rfl hl.1 rfl (Nat.le_of_ble_eq_true rfl) dX7_scrolls_72 ⟨Nat.le_of_ble_eq_true rfl, Nat.le_of_ble_eq_true rfl, rfl, rfl⟩ ⟨Nat.le_of_ble_eq_true rfl, Nat.le_of_ble_eq_true rfl⟩) (fun r_16 h => ?_)
          try dsimp only at h
          refine lv_iadd hx hb dX7_scrolls_75 ?_
          obtain ⟨g_18, h⟩ := h
          refine va_iald hx hb hK hP 6 0 rfl rfl g_18 dX7_scrolls_76 ?_
          refine vp_callSi (rd_wV (wc := md_v a0 q t0) (As := [.int z4, .int ((t0.2.2.2 1) (Int32.toNatClampNeg (z4 + r_16)))]) (rest := []) hx hb hml hown ht (c2_X7_flapFor h) wd_X7_flapFor mw_1241 hQ hV hS (hP.sub [0, 1, 2, 3, 4, 5, 6, 7] rfl) rfl rfl rfl hl.1 rfl (Nat.le_of_ble_eq_true rfl) dX7_scrolls_77 ⟨Nat.le_of_ble_eq_true rfl, Nat.le_of_ble_eq_true rfl, rfl, rfl⟩ ⟨Nat.le_of_ble_eq_true rfl, Nat.le_of_ble_eq_true rfl⟩) (fun r_19 h => ?_)
          try dsimp only at h
          refine lv_istore (lv' := [(5, .int r_19), (1, .int z1), (2, .int z2), (3, .int z3), (4, .int z4), (0, .ref (a0 0))]) hx hb dX7_scrolls_80 hl (by decide) rfl (fun ls hl => ?_)
          refine lv_iload hx hb dX7_scrolls_82 (lv_at hl 0 rfl) ?_
          refine lv_iconst (v := (-1)) hx hb dX7_scrolls_84 (by decide) ?_
          refine lv_icmp_ne (tgt := 94) hx hb dX7_scrolls_85 (by decide) (fun c_21 => ?_) (fun c_21 => ?_)
          · replace h := h.1 c_21
            refine lv_aload_n hx hb dX7_scrolls_94 rfl (lv_at hl 5 rfl) ?_
            refine lv_iload hx hb dX7_scrolls_95 (lv_at hl 4 rfl) ?_
            refine lv_iload hx hb dX7_scrolls_97 (lv_at hl 0 rfl) ?_
            refine lv_iconst (v := 1) hx hb dX7_scrolls_99 (by decide) ?_
            refine mt_gov (mt_wV (wc := md_v a0 q t0) (As := [.int z4, .int r_19, .int 1]) (rest := []) hx hb hml hown ht (c2_X7_wantsFlap h) wd_X7_wantsFlap mw_1271 hQ hV hS hA (hP.sub [0, 1, 2, 3, 4, 5, 6, 7] rfl) (hD.sub [0, 1, 2, 3, 4, 5, 6, 7] (by decide) rfl) rfl rfl rfl hl.1 rfl (Nat.le_of_ble_eq_true rfl) dX7_scrolls_100 ⟨Nat.le_of_ble_eq_true rfl, Nat.le_of_ble_eq_true rfl, rfl, rfl⟩ ⟨Nat.le_of_ble_eq_true rfl, Nat.le_of_ble_eq_true rfl⟩) (wr := []) hP hD hS hA [0, 1, 2, 3, 4, 5, 6, 7] [] rfl rfl (by decide) (by decide) (fun u_23 H locs h hP hD hS => ?_)
            try dsimp only at h
            have hP : va_P D vwCl [((a0 0), .inr (6, [.ref (a0 1), .ref (a0 2), .int (u_23.1 0), .ref (a0 3), .ref (a0 5), .ref (a0 4), .long u_23.2.1, .int (u_23.1 1), .int (u_23.1 2), .ref (a0 6), .int (u_23.1 3), .int (u_23.1 4), .ref (a0 7), .int (u_23.1 5), .int (u_23.1 6), .int (u_23.1 7), .int (u_23.1 8), .int (u_23.1 9), .int (u_23.1 10), .int (u_23.1 11), .int (u_23.1 12), .int (u_23.1 13), .int (u_23.1 14)])), ((a0 1), .inl (q 1, 6896, .inr (.inl (u_23.2.2.1 0)))), ((a0 2), .inl (q 1, 68960, .inr (.inl (u_23.2.2.1 1)))), ((a0 3), .inl (q 1, 13792, .inr (.inl (u_23.2.2.1 2)))), ((a0 4), .inl (q 1, 6896, .inr (.inl (u_23.2.2.1 3)))), ((a0 5), .inl (q 3, 2, .inl (u_23.2.2.2 0))), ((a0 6), .inl (q 0, 40, .inl (u_23.2.2.2 1))), ((a0 7), .inl (q 2, 400, .inl (u_23.2.2.2 2)))] H := hP
            have hD : va_D _ [((a0 0), .inr (6, [.ref (a0 1), .ref (a0 2), .int (u_23.1 0), .ref (a0 3), .ref (a0 5), .ref (a0 4), .long u_23.2.1, .int (u_23.1 1), .int (u_23.1 2), .ref (a0 6), .int (u_23.1 3), .int (u_23.1 4), .ref (a0 7), .int (u_23.1 5), .int (u_23.1 6), .int (u_23.1 7), .int (u_23.1 8), .int (u_23.1 9), .int (u_23.1 10), .int (u_23.1 11), .int (u_23.1 12), .int (u_23.1 13), .int (u_23.1 14)])), ((a0 1), .inl (q 1, 6896, .inr (.inl (u_23.2.2.1 0)))), ((a0 2), .inl (q 1, 68960, .inr (.inl (u_23.2.2.1 1)))), ((a0 3), .inl (q 1, 13792, .inr (.inl (u_23.2.2.1 2)))), ((a0 4), .inl (q 1, 6896, .inr (.inl (u_23.2.2.1 3)))), ((a0 5), .inl (q 3, 2, .inl (u_23.2.2.2 0))), ((a0 6), .inl (q 0, 40, .inl (u_23.2.2.2 1))), ((a0 7), .inl (q 2, 400, .inl (u_23.2.2.2 2)))] := hD
            refine lv_iinc (v := (z4 + 1)) (lv' := [(4, .int (z4 + 1)), (5, .int r_19), (1, .int z1), (2, .int z2), (3, .int z3), (0, .ref (a0 0))]) hx hb dX7_scrolls_103 hl (k := 4) rfl rfl (by decide) rfl (fun ls hl => ?_)
            refine lv_goto (tgt := 48) hx hb dX7_scrolls_106 (by decide) ?_
            exact ih _ _ _ _ _ _ _ ls h (hP.sub (ws' := md_v a0 q u_23) [0, 1, 2, 3, 4, 5, 6, 7] rfl) (hD.sub (ws' := md_v a0 q u_23) [0, 1, 2, 3, 4, 5, 6, 7] (by decide) rfl) hS (lv_sub hl [2, 3, 4, 0, 5] rfl)
          · replace h := h.2 c_21
            refine lv_iinc (v := (z3 + 1)) (lv' := [(3, .int (z3 + 1)), (5, .int r_19), (1, .int z1), (2, .int z2), (4, .int z4), (0, .ref (a0 0))]) hx hb dX7_scrolls_88 hl (k := 3) rfl rfl (by decide) rfl (fun ls hl => ?_)
            refine lv_goto (tgt := 103) hx hb dX7_scrolls_91 (by decide) ?_
            refine lv_iinc (v := (z4 + 1)) (lv' := [(4, .int (z4 + 1)), (3, .int (z3 + 1)), (5, .int r_19), (1, .int z1), (2, .int z2), (0, .ref (a0 0))]) hx hb dX7_scrolls_103 hl (k := 4) rfl rfl (by decide) rfl (fun ls hl => ?_)
            refine lv_goto (tgt := 48) hx hb dX7_scrolls_106 (by decide) ?_
            exact ih _ _ _ _ _ _ _ ls h (hP.sub (ws' := md_v a0 q t0) [0, 1, 2, 3, 4, 5, 6, 7] rfl) (hD.sub (ws' := md_v a0 q t0) [0, 1, 2, 3, 4, 5, 6, 7] (by decide) rfl) hS (lv_sub hl [3, 4, 1, 0, 5] rfl)
    obtain ⟨n48, h⟩ := h
    refine lp48 _ ?_ n48 _ _ _ _ _ _ _ ls h (hP.sub (ws' := md_v a0 q t0) [0, 1, 2, 3, 4, 5, 6, 7] rfl) (hD.sub (ws' := md_v a0 q t0) [0, 1, 2, 3, 4, 5, 6, 7] (by decide) rfl) hS (lv_sub hl [1, 2, 3, 0, 4] rfl)
    · intro t0 z1 z2 z3 z4 H locs ls h hP hD hS hl
      try dsimp only at h
      have hP : va_P D vwCl [((a0 0), .inr (6, [.ref (a0 1), .ref (a0 2), .int (t0.1 0), .ref (a0 3), .ref (a0 5), .ref (a0 4), .long t0.2.1, .int (t0.1 1), .int (t0.1 2), .ref (a0 6), .int (t0.1 3), .int (t0.1 4), .ref (a0 7), .int (t0.1 5), .int (t0.1 6), .int (t0.1 7), .int (t0.1 8), .int (t0.1 9), .int (t0.1 10), .int (t0.1 11), .int (t0.1 12), .int (t0.1 13), .int (t0.1 14)])), ((a0 1), .inl (q 1, 6896, .inr (.inl (t0.2.2.1 0)))), ((a0 2), .inl (q 1, 68960, .inr (.inl (t0.2.2.1 1)))), ((a0 3), .inl (q 1, 13792, .inr (.inl (t0.2.2.1 2)))), ((a0 4), .inl (q 1, 6896, .inr (.inl (t0.2.2.1 3)))), ((a0 5), .inl (q 3, 2, .inl (t0.2.2.2 0))), ((a0 6), .inl (q 0, 40, .inl (t0.2.2.2 1))), ((a0 7), .inl (q 2, 400, .inl (t0.2.2.2 2)))] H := hP
      have hD : va_D _ [((a0 0), .inr (6, [.ref (a0 1), .ref (a0 2), .int (t0.1 0), .ref (a0 3), .ref (a0 5), .ref (a0 4), .long t0.2.1, .int (t0.1 1), .int (t0.1 2), .ref (a0 6), .int (t0.1 3), .int (t0.1 4), .ref (a0 7), .int (t0.1 5), .int (t0.1 6), .int (t0.1 7), .int (t0.1 8), .int (t0.1 9), .int (t0.1 10), .int (t0.1 11), .int (t0.1 12), .int (t0.1 13), .int (t0.1 14)])), ((a0 1), .inl (q 1, 6896, .inr (.inl (t0.2.2.1 0)))), ((a0 2), .inl (q 1, 68960, .inr (.inl (t0.2.2.1 1)))), ((a0 3), .inl (q 1, 13792, .inr (.inl (t0.2.2.1 2)))), ((a0 4), .inl (q 1, 6896, .inr (.inl (t0.2.2.1 3)))), ((a0 5), .inl (q 3, 2, .inl (t0.2.2.2 0))), ((a0 6), .inl (q 0, 40, .inl (t0.2.2.2 1))), ((a0 7), .inl (q 2, 400, .inl (t0.2.2.2 2)))] := hD
      refine lv_iload_n hx hb dX7_scrolls_109 rfl (lv_at hl 2 rfl) ?_
      refine lv_aload_n hx hb dX7_scrolls_110 rfl (lv_at hl 4 rfl) ?_
      refine lv_aload_n hx hb dX7_scrolls_111 rfl (lv_at hl 4 rfl) ?_
      refine vp_callSi (rd_wV (wc := md_v a0 q t0) (As := []) (rest := [.ref (a0 0), .int z3]) hx hb hml hown ht (c2_X7_rows h) wd_X7_rows mw_1209 hQ hV hS (hP.sub [0, 1, 2, 3, 4, 5, 6, 7] rfl) rfl rfl rfl hl.1 rfl (Nat.le_of_ble_eq_true rfl) dX7_scrolls_112 ⟨Nat.le_of_ble_eq_true rfl, Nat.le_of_ble_eq_true rfl, rfl, rfl⟩ ⟨Nat.le_of_ble_eq_true rfl, Nat.le_of_ble_eq_true rfl⟩) (fun r_24 h => ?_)
      try dsimp only at h
      refine lv_iconst (v := 1) hx hb dX7_scrolls_115 (by decide) ?_
      refine lv_isub hx hb dX7_scrolls_116 ?_
      refine lv_iload_n hx hb dX7_scrolls_117 rfl (lv_at hl 0 rfl) ?_
      refine lv_iload_n hx hb dX7_scrolls_118 rfl (lv_at hl 1 rfl) ?_
      refine lv_iconst (v := 1) hx hb dX7_scrolls_119 (by decide) ?_
      refine mt_goi (mt_wV (wc := md_v a0 q t0) (As := [.int (r_24 - 1), .int z1, .int z2, .int 1]) (rest := [.int z3]) hx hb hml hown ht (c2_X7_wantsSigns h) wd_X7_wantsSigns mw_1237 hQ hV hS hA (hP.sub [0, 1, 2, 3, 4, 5, 6, 7] rfl) (hD.sub [0, 1, 2, 3, 4, 5, 6, 7] (by decide) rfl) rfl rfl rfl hl.1 rfl (Nat.le_of_ble_eq_true rfl) dX7_scrolls_120 ⟨Nat.le_of_ble_eq_true rfl, Nat.le_of_ble_eq_true rfl, rfl, rfl⟩ ⟨Nat.le_of_ble_eq_true rfl, Nat.le_of_ble_eq_true rfl⟩) (wr := []) hP hD hS hA [0, 1, 2, 3, 4, 5, 6, 7] [] rfl rfl (by decide) (by decide) (fun r_26 u_27 H locs h hP hD hS => ?_)
      try dsimp only at h
      have hP : va_P D vwCl [((a0 0), .inr (6, [.ref (a0 1), .ref (a0 2), .int (u_27.1 0), .ref (a0 3), .ref (a0 5), .ref (a0 4), .long u_27.2.1, .int (u_27.1 1), .int (u_27.1 2), .ref (a0 6), .int (u_27.1 3), .int (u_27.1 4), .ref (a0 7), .int (u_27.1 5), .int (u_27.1 6), .int (u_27.1 7), .int (u_27.1 8), .int (u_27.1 9), .int (u_27.1 10), .int (u_27.1 11), .int (u_27.1 12), .int (u_27.1 13), .int (u_27.1 14)])), ((a0 1), .inl (q 1, 6896, .inr (.inl (u_27.2.2.1 0)))), ((a0 2), .inl (q 1, 68960, .inr (.inl (u_27.2.2.1 1)))), ((a0 3), .inl (q 1, 13792, .inr (.inl (u_27.2.2.1 2)))), ((a0 4), .inl (q 1, 6896, .inr (.inl (u_27.2.2.1 3)))), ((a0 5), .inl (q 3, 2, .inl (u_27.2.2.2 0))), ((a0 6), .inl (q 0, 40, .inl (u_27.2.2.2 1))), ((a0 7), .inl (q 2, 400, .inl (u_27.2.2.2 2)))] H := hP
      have hD : va_D _ [((a0 0), .inr (6, [.ref (a0 1), .ref (a0 2), .int (u_27.1 0), .ref (a0 3), .ref (a0 5), .ref (a0 4), .long u_27.2.1, .int (u_27.1 1), .int (u_27.1 2), .ref (a0 6), .int (u_27.1 3), .int (u_27.1 4), .ref (a0 7), .int (u_27.1 5), .int (u_27.1 6), .int (u_27.1 7), .int (u_27.1 8), .int (u_27.1 9), .int (u_27.1 10), .int (u_27.1 11), .int (u_27.1 12), .int (u_27.1 13), .int (u_27.1 14)])), ((a0 1), .inl (q 1, 6896, .inr (.inl (u_27.2.2.1 0)))), ((a0 2), .inl (q 1, 68960, .inr (.inl (u_27.2.2.1 1)))), ((a0 3), .inl (q 1, 13792, .inr (.inl (u_27.2.2.1 2)))), ((a0 4), .inl (q 1, 6896, .inr (.inl (u_27.2.2.1 3)))), ((a0 5), .inl (q 3, 2, .inl (u_27.2.2.2 0))), ((a0 6), .inl (q 0, 40, .inl (u_27.2.2.2 1))), ((a0 7), .inl (q 2, 400, .inl (u_27.2.2.2 2)))] := hD
      refine lv_iadd hx hb dX7_scrolls_123 ?_
      exact mt_iret u_27 hx hb hr hk h (hP.sub (ws' := md_v a0 q u_27) [0, 1, 2, 3, 4, 5, 6, 7] rfl) (hD.sub (ws' := md_v a0 q u_27) [0, 1, 2, 3, 4, 5, 6, 7] (by decide) rfl) hS dX7_scrolls_124

def wp_X7_keepsAct_L53 (post : Md → Prop) (e87 : Md → Int32 → Prop) : Nat → Md → Int32 → Prop
  | 0, _, _ => False
  | n53 + 1, t0, z1 => ((6896 ≤ z1 → e87 t0 z1) ∧ (¬ 6896 ≤ z1 → vp_in z1 6896 ∧ vp_in ((6896 * (t0.1 0)) + z1) 68960 ∧ wp_X7_keepsAct_L53 post e87 n53 (t0.1, t0.2.1, (va_up t0.2.2.1 1 (vp_updL (t0.2.2.1 1) (Int32.toNatClampNeg ((6896 * (t0.1 0)) + z1)) ((t0.2.2.1 0) (Int32.toNatClampNeg z1)))), t0.2.2.2) (z1 + 1)))
def wp_X7_keepsAct_L13 (post : Md → Prop) (e41 : Md → Int32 → Prop) : Nat → Md → Int32 → Prop
  | 0, _, _ => False
  | n13 + 1, t0, z1 => ((68960 ≤ z1 → e41 t0 z1) ∧ (¬ 68960 ≤ z1 → vp_in z1 68960 ∧ vp_in (z1 - 6896) 68960 ∧ wp_X7_keepsAct_L13 post e41 n13 (t0.1, t0.2.1, (va_up t0.2.2.1 1 (vp_updL (t0.2.2.1 1) (Int32.toNatClampNeg (z1 - 6896)) ((t0.2.2.1 1) (Int32.toNatClampNeg z1)))), t0.2.2.2) (z1 + 1)))
def wp_X7_keepsAct (post : Md → Prop) (s0 : Md) : Prop := ((¬ (s0.1 0) = 10 → (∃ n53, wp_X7_keepsAct_L53 post (fun t0 z1 => post ((va_up t0.1 0 ((t0.1 0) + 1)), t0.2.1, t0.2.2.1, t0.2.2.2)) n53 s0 0)) ∧ ((s0.1 0) = 10 → (∃ n13, wp_X7_keepsAct_L13 post (fun t0 z1 => (∃ n53, wp_X7_keepsAct_L53 post (fun t0 z1 => post ((va_up t0.1 0 ((t0.1 0) + 1)), t0.2.1, t0.2.2.1, t0.2.2.2)) n53 ((va_up t0.1 0 ((t0.1 0) - 1)), t0.2.1, t0.2.2.1, t0.2.2.2) 0)) n13 s0 6896)))
set_option maxHeartbeats 4000000 in
set_option maxRecDepth 100000 in
theorem c2_X7_keepsAct {l : Launch} {D : va_G} {q : Nat → ClassId} {sz : Nat} {a0 : Nat → Nat} {s0 : Md} {post : Md → Prop} (h : wp_X7_keepsAct post s0) : Met l yX7_keepsAct (Cond.code yX7_keepsAct cX7_keepsAct 2 none :: w_all) ({ frames := 0, cells := 0, slots := 0, locals := 0 } : Room) (mt_P D q [.ref (a0 0)] (md_v a0 q s0) sz) (va_Qv (fun u : Md => post u) (mt_B D (md_v a0 q s0) sz (fun u : Md => md_v a0 q u)) (va_A (md_v a0 q s0) sz)) 0 0 (va_A (md_v a0 q s0) sz) := by
  refine mt_start (by decide) (Nat.le_of_ble_eq_true rfl) ?_
  intro p e s m below meth c ls hx hb hr hml hown ht hk hin hP hQ hD hA hS hV hl
  have hK := hQ.1
  have hown : s.vm.findClass RX7 = some m.cls := hown
  have hl : lv_has ls 2 [(0, .ref (a0 0))] := hl
  have hP : va_P D vwCl [((a0 0), .inr (6, [.ref (a0 1), .ref (a0 2), .int (s0.1 0), .ref (a0 3), .ref (a0 5), .ref (a0 4), .long s0.2.1, .int (s0.1 1), .int (s0.1 2), .ref (a0 6), .int (s0.1 3), .int (s0.1 4), .ref (a0 7), .int (s0.1 5), .int (s0.1 6), .int (s0.1 7), .int (s0.1 8), .int (s0.1 9), .int (s0.1 10), .int (s0.1 11), .int (s0.1 12), .int (s0.1 13), .int (s0.1 14)])), ((a0 1), .inl (q 1, 6896, .inr (.inl (s0.2.2.1 0)))), ((a0 2), .inl (q 1, 68960, .inr (.inl (s0.2.2.1 1)))), ((a0 3), .inl (q 1, 13792, .inr (.inl (s0.2.2.1 2)))), ((a0 4), .inl (q 1, 6896, .inr (.inl (s0.2.2.1 3)))), ((a0 5), .inl (q 3, 2, .inl (s0.2.2.2 0))), ((a0 6), .inl (q 0, 40, .inl (s0.2.2.2 1))), ((a0 7), .inl (q 2, 400, .inl (s0.2.2.2 2)))] s.heap := hP
  have hD : va_D _ [((a0 0), .inr (6, [.ref (a0 1), .ref (a0 2), .int (s0.1 0), .ref (a0 3), .ref (a0 5), .ref (a0 4), .long s0.2.1, .int (s0.1 1), .int (s0.1 2), .ref (a0 6), .int (s0.1 3), .int (s0.1 4), .ref (a0 7), .int (s0.1 5), .int (s0.1 6), .int (s0.1 7), .int (s0.1 8), .int (s0.1 9), .int (s0.1 10), .int (s0.1 11), .int (s0.1 12), .int (s0.1 13), .int (s0.1 14)])), ((a0 1), .inl (q 1, 6896, .inr (.inl (s0.2.2.1 0)))), ((a0 2), .inl (q 1, 68960, .inr (.inl (s0.2.2.1 1)))), ((a0 3), .inl (q 1, 13792, .inr (.inl (s0.2.2.1 2)))), ((a0 4), .inl (q 1, 6896, .inr (.inl (s0.2.2.1 3)))), ((a0 5), .inl (q 3, 2, .inl (s0.2.2.2 0))), ((a0 6), .inl (q 0, 40, .inl (s0.2.2.2 1))), ((a0 7), .inl (q 2, 400, .inl (s0.2.2.2 2)))] := hD
  unfold wp_X7_keepsAct at h
  refine lv_aload_n hx hb dX7_keepsAct_0 rfl (lv_at hl 0 rfl) ?_
  refine fl_get (C := RX7) (T := TX7) (N := 23) (ci := 6) (v := .int (s0.1 0)) hx hb ht in_X7 hown hK hP 0 rfl rfl 2 (by decide) mw_1132 rfl dX7_keepsAct_1 ?_
  refine lv_bipush (v := 10) hx hb dX7_keepsAct_4 (by decide) ?_
  refine lv_icmp_ne (tgt := 51) hx hb dX7_keepsAct_6 (by decide) (fun c_1 => ?_) (fun c_1 => ?_)
  · replace h := h.1 c_1
    refine lv_iconst (v := 0) hx hb dX7_keepsAct_51 (by decide) ?_
    refine lv_istore_n (lv' := [(1, .int 0), (0, .ref (a0 0))]) hx hb dX7_keepsAct_52 rfl hl (by decide) rfl (fun ls hl => ?_)
    have lp53 : ∀ (e87 : Md → Int32 → Prop) (k87 : ∀ (t0 : Md) (z1 : Int32) (H : Heap) (locs : List Loc) (ls : Array Slot), e87 t0 z1 → va_P D vwCl (md_v a0 q t0) H → va_D (va_A (md_v a0 q s0) sz) (md_v a0 q t0) → va_S (va_A (md_v a0 q s0) sz) s.heap H locs → lv_has ls 2 [(1, .int z1), (0, .ref (a0 0))] → W p l e ({ frames := 0, cells := 0, slots := 0, locals := 0 } : Room) s m [.ref (a0 0)].toArray below meth c H locs 0 0 (MQ below (va_Qv (fun u : Md => post u) (mt_B D (md_v a0 q s0) sz (fun u : Md => md_v a0 q u)) (va_A (md_v a0 q s0) sz)) [.ref (a0 0)].toArray s 0 0 (va_A (md_v a0 q s0) sz)) (F0 m 87 ls [])) (n : Nat) (t0 : Md) (z1 : Int32) (H : Heap) (locs : List Loc) (ls : Array Slot), wp_X7_keepsAct_L53 post e87 n t0 z1 → va_P D vwCl (md_v a0 q t0) H → va_D (va_A (md_v a0 q s0) sz) (md_v a0 q t0) → va_S (va_A (md_v a0 q s0) sz) s.heap H locs → lv_has ls 2 [(1, .int z1), (0, .ref (a0 0))] → W p l e ({ frames := 0, cells := 0, slots := 0, locals := 0 } : Room) s m [.ref (a0 0)].toArray below meth c H locs 0 0 (MQ below (va_Qv (fun u : Md => post u) (mt_B D (md_v a0 q s0) sz (fun u : Md => md_v a0 q u)) (va_A (md_v a0 q s0) sz)) [.ref (a0 0)].toArray s 0 0 (va_A (md_v a0 q s0) sz)) (F0 m 53 ls []) := by
      intro e87 k87 n
      induction n with
      | zero =>
        intro t0 z1 H locs ls h
        exact h.elim
      | succ n ih =>
        intro t0 z1 H locs ls h hP hD hS hl
        have hP : va_P D vwCl [((a0 0), .inr (6, [.ref (a0 1), .ref (a0 2), .int (t0.1 0), .ref (a0 3), .ref (a0 5), .ref (a0 4), .long t0.2.1, .int (t0.1 1), .int (t0.1 2), .ref (a0 6), .int (t0.1 3), .int (t0.1 4), .ref (a0 7), .int (t0.1 5), .int (t0.1 6), .int (t0.1 7), .int (t0.1 8), .int (t0.1 9), .int (t0.1 10), .int (t0.1 11), .int (t0.1 12), .int (t0.1 13), .int (t0.1 14)])), ((a0 1), .inl (q 1, 6896, .inr (.inl (t0.2.2.1 0)))), ((a0 2), .inl (q 1, 68960, .inr (.inl (t0.2.2.1 1)))), ((a0 3), .inl (q 1, 13792, .inr (.inl (t0.2.2.1 2)))), ((a0 4), .inl (q 1, 6896, .inr (.inl (t0.2.2.1 3)))), ((a0 5), .inl (q 3, 2, .inl (t0.2.2.2 0))), ((a0 6), .inl (q 0, 40, .inl (t0.2.2.2 1))), ((a0 7), .inl (q 2, 400, .inl (t0.2.2.2 2)))] H := hP
        have hD : va_D _ [((a0 0), .inr (6, [.ref (a0 1), .ref (a0 2), .int (t0.1 0), .ref (a0 3), .ref (a0 5), .ref (a0 4), .long t0.2.1, .int (t0.1 1), .int (t0.1 2), .ref (a0 6), .int (t0.1 3), .int (t0.1 4), .ref (a0 7), .int (t0.1 5), .int (t0.1 6), .int (t0.1 7), .int (t0.1 8), .int (t0.1 9), .int (t0.1 10), .int (t0.1 11), .int (t0.1 12), .int (t0.1 13), .int (t0.1 14)])), ((a0 1), .inl (q 1, 6896, .inr (.inl (t0.2.2.1 0)))), ((a0 2), .inl (q 1, 68960, .inr (.inl (t0.2.2.1 1)))), ((a0 3), .inl (q 1, 13792, .inr (.inl (t0.2.2.1 2)))), ((a0 4), .inl (q 1, 6896, .inr (.inl (t0.2.2.1 3)))), ((a0 5), .inl (q 3, 2, .inl (t0.2.2.2 0))), ((a0 6), .inl (q 0, 40, .inl (t0.2.2.2 1))), ((a0 7), .inl (q 2, 400, .inl (t0.2.2.2 2)))] := hD
        unfold wp_X7_keepsAct_L53 at h
        refine lv_iload_n hx hb dX7_keepsAct_53 rfl (lv_at hl 0 rfl) ?_
        refine lv_sipush (v := 6896) hx hb dX7_keepsAct_54 (by decide) ?_
        refine lv_icmp_ge (tgt := 87) hx hb dX7_keepsAct_57 (by decide) (fun c_2 => ?_) (fun c_2 => ?_)
        · replace h := h.1 c_2
          exact k87 _ _ _ _ ls h (hP.sub (ws' := md_v a0 q t0) [0, 1, 2, 3, 4, 5, 6, 7] rfl) (hD.sub (ws' := md_v a0 q t0) [0, 1, 2, 3, 4, 5, 6, 7] (by decide) rfl) hS (lv_sub hl [0, 1] rfl)
        · replace h := h.2 c_2
          refine lv_aload_n hx hb dX7_keepsAct_60 rfl (lv_at hl 1 rfl) ?_
          refine fl_get (C := RX7) (T := TX7) (N := 23) (ci := 6) (v := .ref (a0 2)) hx hb ht in_X7 hown hK hP 0 rfl rfl 1 (by decide) mw_1131 rfl dX7_keepsAct_61 ?_
          refine lv_sipush (v := 6896) hx hb dX7_keepsAct_64 (by decide) ?_
          refine lv_aload_n hx hb dX7_keepsAct_67 rfl (lv_at hl 1 rfl) ?_
          refine fl_get (C := RX7) (T := TX7) (N := 23) (ci := 6) (v := .int (t0.1 0)) hx hb ht in_X7 hown hK hP 0 rfl rfl 2 (by decide) mw_1132 rfl dX7_keepsAct_68 ?_
          refine lv_imul hx hb dX7_keepsAct_71 ?_
          refine lv_iload_n hx hb dX7_keepsAct_72 rfl (lv_at hl 0 rfl) ?_
          refine lv_iadd hx hb dX7_keepsAct_73 ?_
          refine lv_aload_n hx hb dX7_keepsAct_74 rfl (lv_at hl 1 rfl) ?_
          refine fl_get (C := RX7) (T := TX7) (N := 23) (ci := 6) (v := .ref (a0 1)) hx hb ht in_X7 hown hK hP 0 rfl rfl 0 (by decide) mw_1130 rfl dX7_keepsAct_75 ?_
          refine lv_iload_n hx hb dX7_keepsAct_78 rfl (lv_at hl 0 rfl) ?_
          obtain ⟨g_3, h⟩ := h
          refine va_lald hx hb hK hP 1 1 rfl rfl g_3 dX7_keepsAct_79 ?_
          obtain ⟨g_4, h⟩ := h
          refine va_last hx hb hK hP hD hS 2 1 rfl rfl g_4 dX7_keepsAct_80 (fun H locs hP hD hS => ?_)
          have hP : va_P D vwCl [((a0 0), .inr (6, [.ref (a0 1), .ref (a0 2), .int (t0.1 0), .ref (a0 3), .ref (a0 5), .ref (a0 4), .long t0.2.1, .int (t0.1 1), .int (t0.1 2), .ref (a0 6), .int (t0.1 3), .int (t0.1 4), .ref (a0 7), .int (t0.1 5), .int (t0.1 6), .int (t0.1 7), .int (t0.1 8), .int (t0.1 9), .int (t0.1 10), .int (t0.1 11), .int (t0.1 12), .int (t0.1 13), .int (t0.1 14)])), ((a0 1), .inl (q 1, 6896, .inr (.inl (t0.2.2.1 0)))), ((a0 2), .inl (q 1, 68960, .inr (.inl (vp_updL (t0.2.2.1 1) (Int32.toNatClampNeg ((6896 * (t0.1 0)) + z1)) ((t0.2.2.1 0) (Int32.toNatClampNeg z1)))))), ((a0 3), .inl (q 1, 13792, .inr (.inl (t0.2.2.1 2)))), ((a0 4), .inl (q 1, 6896, .inr (.inl (t0.2.2.1 3)))), ((a0 5), .inl (q 3, 2, .inl (t0.2.2.2 0))), ((a0 6), .inl (q 0, 40, .inl (t0.2.2.2 1))), ((a0 7), .inl (q 2, 400, .inl (t0.2.2.2 2)))] H := hP
          have hD : va_D _ [((a0 0), .inr (6, [.ref (a0 1), .ref (a0 2), .int (t0.1 0), .ref (a0 3), .ref (a0 5), .ref (a0 4), .long t0.2.1, .int (t0.1 1), .int (t0.1 2), .ref (a0 6), .int (t0.1 3), .int (t0.1 4), .ref (a0 7), .int (t0.1 5), .int (t0.1 6), .int (t0.1 7), .int (t0.1 8), .int (t0.1 9), .int (t0.1 10), .int (t0.1 11), .int (t0.1 12), .int (t0.1 13), .int (t0.1 14)])), ((a0 1), .inl (q 1, 6896, .inr (.inl (t0.2.2.1 0)))), ((a0 2), .inl (q 1, 68960, .inr (.inl (vp_updL (t0.2.2.1 1) (Int32.toNatClampNeg ((6896 * (t0.1 0)) + z1)) ((t0.2.2.1 0) (Int32.toNatClampNeg z1)))))), ((a0 3), .inl (q 1, 13792, .inr (.inl (t0.2.2.1 2)))), ((a0 4), .inl (q 1, 6896, .inr (.inl (t0.2.2.1 3)))), ((a0 5), .inl (q 3, 2, .inl (t0.2.2.2 0))), ((a0 6), .inl (q 0, 40, .inl (t0.2.2.2 1))), ((a0 7), .inl (q 2, 400, .inl (t0.2.2.2 2)))] := hD
          refine lv_iinc (v := (z1 + 1)) (lv' := [(1, .int (z1 + 1)), (0, .ref (a0 0))]) hx hb dX7_keepsAct_81 hl (k := 0) rfl rfl (by decide) rfl (fun ls hl => ?_)
          refine lv_goto (tgt := 53) hx hb dX7_keepsAct_84 (by decide) ?_
          exact ih _ _ _ _ ls h (hP.sub (ws' := md_v a0 q (t0.1, t0.2.1, (va_up t0.2.2.1 1 (vp_updL (t0.2.2.1 1) (Int32.toNatClampNeg ((6896 * (t0.1 0)) + z1)) ((t0.2.2.1 0) (Int32.toNatClampNeg z1)))), t0.2.2.2)) [0, 1, 2, 3, 4, 5, 6, 7] rfl) (hD.sub (ws' := md_v a0 q (t0.1, t0.2.1, (va_up t0.2.2.1 1 (vp_updL (t0.2.2.1 1) (Int32.toNatClampNeg ((6896 * (t0.1 0)) + z1)) ((t0.2.2.1 0) (Int32.toNatClampNeg z1)))), t0.2.2.2)) [0, 1, 2, 3, 4, 5, 6, 7] (by decide) rfl) hS (lv_sub hl [0, 1] rfl)
    obtain ⟨n53, h⟩ := h
    refine lp53 _ ?_ n53 _ _ _ _ ls h (hP.sub (ws' := md_v a0 q s0) [0, 1, 2, 3, 4, 5, 6, 7] rfl) (hD.sub (ws' := md_v a0 q s0) [0, 1, 2, 3, 4, 5, 6, 7] (by decide) rfl) hS (lv_sub hl [0, 1] rfl)
    · intro t0 z1 H locs ls h hP hD hS hl
      try dsimp only at h
      have hP : va_P D vwCl [((a0 0), .inr (6, [.ref (a0 1), .ref (a0 2), .int (t0.1 0), .ref (a0 3), .ref (a0 5), .ref (a0 4), .long t0.2.1, .int (t0.1 1), .int (t0.1 2), .ref (a0 6), .int (t0.1 3), .int (t0.1 4), .ref (a0 7), .int (t0.1 5), .int (t0.1 6), .int (t0.1 7), .int (t0.1 8), .int (t0.1 9), .int (t0.1 10), .int (t0.1 11), .int (t0.1 12), .int (t0.1 13), .int (t0.1 14)])), ((a0 1), .inl (q 1, 6896, .inr (.inl (t0.2.2.1 0)))), ((a0 2), .inl (q 1, 68960, .inr (.inl (t0.2.2.1 1)))), ((a0 3), .inl (q 1, 13792, .inr (.inl (t0.2.2.1 2)))), ((a0 4), .inl (q 1, 6896, .inr (.inl (t0.2.2.1 3)))), ((a0 5), .inl (q 3, 2, .inl (t0.2.2.2 0))), ((a0 6), .inl (q 0, 40, .inl (t0.2.2.2 1))), ((a0 7), .inl (q 2, 400, .inl (t0.2.2.2 2)))] H := hP
      have hD : va_D _ [((a0 0), .inr (6, [.ref (a0 1), .ref (a0 2), .int (t0.1 0), .ref (a0 3), .ref (a0 5), .ref (a0 4), .long t0.2.1, .int (t0.1 1), .int (t0.1 2), .ref (a0 6), .int (t0.1 3), .int (t0.1 4), .ref (a0 7), .int (t0.1 5), .int (t0.1 6), .int (t0.1 7), .int (t0.1 8), .int (t0.1 9), .int (t0.1 10), .int (t0.1 11), .int (t0.1 12), .int (t0.1 13), .int (t0.1 14)])), ((a0 1), .inl (q 1, 6896, .inr (.inl (t0.2.2.1 0)))), ((a0 2), .inl (q 1, 68960, .inr (.inl (t0.2.2.1 1)))), ((a0 3), .inl (q 1, 13792, .inr (.inl (t0.2.2.1 2)))), ((a0 4), .inl (q 1, 6896, .inr (.inl (t0.2.2.1 3)))), ((a0 5), .inl (q 3, 2, .inl (t0.2.2.2 0))), ((a0 6), .inl (q 0, 40, .inl (t0.2.2.2 1))), ((a0 7), .inl (q 2, 400, .inl (t0.2.2.2 2)))] := hD
      refine lv_aload_n hx hb dX7_keepsAct_87 rfl (lv_at hl 1 rfl) ?_
      refine lv_dup hx hb dX7_keepsAct_88 rfl ?_
      refine fl_get (C := RX7) (T := TX7) (N := 23) (ci := 6) (v := .int (t0.1 0)) hx hb ht in_X7 hown hK hP 0 rfl rfl 2 (by decide) mw_1132 rfl dX7_keepsAct_89 ?_
      refine lv_iconst (v := 1) hx hb dX7_keepsAct_92 (by decide) ?_
      refine lv_iadd hx hb dX7_keepsAct_93 ?_
      refine fl_put (C := RX7) (T := TX7) (N := 23) (ci := 6) (v := .int ((t0.1 0) + 1)) (ws2 := [((a0 0), .inr (6, [.ref (a0 1), .ref (a0 2), .int ((t0.1 0) + 1), .ref (a0 3), .ref (a0 5), .ref (a0 4), .long t0.2.1, .int (t0.1 1), .int (t0.1 2), .ref (a0 6), .int (t0.1 3), .int (t0.1 4), .ref (a0 7), .int (t0.1 5), .int (t0.1 6), .int (t0.1 7), .int (t0.1 8), .int (t0.1 9), .int (t0.1 10), .int (t0.1 11), .int (t0.1 12), .int (t0.1 13), .int (t0.1 14)])), ((a0 1), .inl (q 1, 6896, .inr (.inl (t0.2.2.1 0)))), ((a0 2), .inl (q 1, 68960, .inr (.inl (t0.2.2.1 1)))), ((a0 3), .inl (q 1, 13792, .inr (.inl (t0.2.2.1 2)))), ((a0 4), .inl (q 1, 6896, .inr (.inl (t0.2.2.1 3)))), ((a0 5), .inl (q 3, 2, .inl (t0.2.2.2 0))), ((a0 6), .inl (q 0, 40, .inl (t0.2.2.2 1))), ((a0 7), .inl (q 2, 400, .inl (t0.2.2.2 2)))]) hx hb ht in_X7 tyX7_ok nmX7 hown hK hP hD hS 0 rfl rfl 2 (by decide) mw_1132 rfl rfl rfl (Nat.le_of_ble_eq_true rfl) dX7_keepsAct_94 rfl (fun H locs hP hD hS => ?_)
      exact mt_vret ((va_up t0.1 0 ((t0.1 0) + 1)), t0.2.1, t0.2.2.1, t0.2.2.2) hx hb hr hk h (hP.sub (ws' := md_v a0 q ((va_up t0.1 0 ((t0.1 0) + 1)), t0.2.1, t0.2.2.1, t0.2.2.2)) [0, 1, 2, 3, 4, 5, 6, 7] rfl) (hD.sub (ws' := md_v a0 q ((va_up t0.1 0 ((t0.1 0) + 1)), t0.2.1, t0.2.2.1, t0.2.2.2)) [0, 1, 2, 3, 4, 5, 6, 7] (by decide) rfl) hS dX7_keepsAct_97
  · replace h := h.2 c_1
    refine lv_sipush (v := 6896) hx hb dX7_keepsAct_9 (by decide) ?_
    refine lv_istore_n (lv' := [(1, .int 6896), (0, .ref (a0 0))]) hx hb dX7_keepsAct_12 rfl hl (by decide) rfl (fun ls hl => ?_)
    have lp13 : ∀ (e41 : Md → Int32 → Prop) (k41 : ∀ (t0 : Md) (z1 : Int32) (H : Heap) (locs : List Loc) (ls : Array Slot), e41 t0 z1 → va_P D vwCl (md_v a0 q t0) H → va_D (va_A (md_v a0 q s0) sz) (md_v a0 q t0) → va_S (va_A (md_v a0 q s0) sz) s.heap H locs → lv_has ls 2 [(1, .int z1), (0, .ref (a0 0))] → W p l e ({ frames := 0, cells := 0, slots := 0, locals := 0 } : Room) s m [.ref (a0 0)].toArray below meth c H locs 0 0 (MQ below (va_Qv (fun u : Md => post u) (mt_B D (md_v a0 q s0) sz (fun u : Md => md_v a0 q u)) (va_A (md_v a0 q s0) sz)) [.ref (a0 0)].toArray s 0 0 (va_A (md_v a0 q s0) sz)) (F0 m 41 ls [])) (n : Nat) (t0 : Md) (z1 : Int32) (H : Heap) (locs : List Loc) (ls : Array Slot), wp_X7_keepsAct_L13 post e41 n t0 z1 → va_P D vwCl (md_v a0 q t0) H → va_D (va_A (md_v a0 q s0) sz) (md_v a0 q t0) → va_S (va_A (md_v a0 q s0) sz) s.heap H locs → lv_has ls 2 [(1, .int z1), (0, .ref (a0 0))] → W p l e ({ frames := 0, cells := 0, slots := 0, locals := 0 } : Room) s m [.ref (a0 0)].toArray below meth c H locs 0 0 (MQ below (va_Qv (fun u : Md => post u) (mt_B D (md_v a0 q s0) sz (fun u : Md => md_v a0 q u)) (va_A (md_v a0 q s0) sz)) [.ref (a0 0)].toArray s 0 0 (va_A (md_v a0 q s0) sz)) (F0 m 13 ls []) := by
      intro e41 k41 n
      induction n with
      | zero =>
        intro t0 z1 H locs ls h
        exact h.elim
      | succ n ih =>
        intro t0 z1 H locs ls h hP hD hS hl
        have hP : va_P D vwCl [((a0 0), .inr (6, [.ref (a0 1), .ref (a0 2), .int (t0.1 0), .ref (a0 3), .ref (a0 5), .ref (a0 4), .long t0.2.1, .int (t0.1 1), .int (t0.1 2), .ref (a0 6), .int (t0.1 3), .int (t0.1 4), .ref (a0 7), .int (t0.1 5), .int (t0.1 6), .int (t0.1 7), .int (t0.1 8), .int (t0.1 9), .int (t0.1 10), .int (t0.1 11), .int (t0.1 12), .int (t0.1 13), .int (t0.1 14)])), ((a0 1), .inl (q 1, 6896, .inr (.inl (t0.2.2.1 0)))), ((a0 2), .inl (q 1, 68960, .inr (.inl (t0.2.2.1 1)))), ((a0 3), .inl (q 1, 13792, .inr (.inl (t0.2.2.1 2)))), ((a0 4), .inl (q 1, 6896, .inr (.inl (t0.2.2.1 3)))), ((a0 5), .inl (q 3, 2, .inl (t0.2.2.2 0))), ((a0 6), .inl (q 0, 40, .inl (t0.2.2.2 1))), ((a0 7), .inl (q 2, 400, .inl (t0.2.2.2 2)))] H := hP
        have hD : va_D _ [((a0 0), .inr (6, [.ref (a0 1), .ref (a0 2), .int (t0.1 0), .ref (a0 3), .ref (a0 5), .ref (a0 4), .long t0.2.1, .int (t0.1 1), .int (t0.1 2), .ref (a0 6), .int (t0.1 3), .int (t0.1 4), .ref (a0 7), .int (t0.1 5), .int (t0.1 6), .int (t0.1 7), .int (t0.1 8), .int (t0.1 9), .int (t0.1 10), .int (t0.1 11), .int (t0.1 12), .int (t0.1 13), .int (t0.1 14)])), ((a0 1), .inl (q 1, 6896, .inr (.inl (t0.2.2.1 0)))), ((a0 2), .inl (q 1, 68960, .inr (.inl (t0.2.2.1 1)))), ((a0 3), .inl (q 1, 13792, .inr (.inl (t0.2.2.1 2)))), ((a0 4), .inl (q 1, 6896, .inr (.inl (t0.2.2.1 3)))), ((a0 5), .inl (q 3, 2, .inl (t0.2.2.2 0))), ((a0 6), .inl (q 0, 40, .inl (t0.2.2.2 1))), ((a0 7), .inl (q 2, 400, .inl (t0.2.2.2 2)))] := hD
        unfold wp_X7_keepsAct_L13 at h
        refine lv_iload_n hx hb dX7_keepsAct_13 rfl (lv_at hl 0 rfl) ?_
        refine lv_ldc (v := 68960) hx hb hown (ht _ mw_1129) dX7_keepsAct_14 ?_
        refine lv_icmp_ge (tgt := 41) hx hb dX7_keepsAct_16 (by decide) (fun c_5 => ?_) (fun c_5 => ?_)
        · replace h := h.1 c_5
          exact k41 _ _ _ _ ls h (hP.sub (ws' := md_v a0 q t0) [0, 1, 2, 3, 4, 5, 6, 7] rfl) (hD.sub (ws' := md_v a0 q t0) [0, 1, 2, 3, 4, 5, 6, 7] (by decide) rfl) hS (lv_sub hl [0, 1] rfl)
        · replace h := h.2 c_5
          refine lv_aload_n hx hb dX7_keepsAct_19 rfl (lv_at hl 1 rfl) ?_
          refine fl_get (C := RX7) (T := TX7) (N := 23) (ci := 6) (v := .ref (a0 2)) hx hb ht in_X7 hown hK hP 0 rfl rfl 1 (by decide) mw_1131 rfl dX7_keepsAct_20 ?_
          refine lv_iload_n hx hb dX7_keepsAct_23 rfl (lv_at hl 0 rfl) ?_
          refine lv_sipush (v := 6896) hx hb dX7_keepsAct_24 (by decide) ?_
          refine lv_isub hx hb dX7_keepsAct_27 ?_
          refine lv_aload_n hx hb dX7_keepsAct_28 rfl (lv_at hl 1 rfl) ?_
          refine fl_get (C := RX7) (T := TX7) (N := 23) (ci := 6) (v := .ref (a0 2)) hx hb ht in_X7 hown hK hP 0 rfl rfl 1 (by decide) mw_1131 rfl dX7_keepsAct_29 ?_
          refine lv_iload_n hx hb dX7_keepsAct_32 rfl (lv_at hl 0 rfl) ?_
          obtain ⟨g_6, h⟩ := h
          refine va_lald hx hb hK hP 2 1 rfl rfl g_6 dX7_keepsAct_33 ?_
          obtain ⟨g_7, h⟩ := h
          refine va_last hx hb hK hP hD hS 2 1 rfl rfl g_7 dX7_keepsAct_34 (fun H locs hP hD hS => ?_)
          have hP : va_P D vwCl [((a0 0), .inr (6, [.ref (a0 1), .ref (a0 2), .int (t0.1 0), .ref (a0 3), .ref (a0 5), .ref (a0 4), .long t0.2.1, .int (t0.1 1), .int (t0.1 2), .ref (a0 6), .int (t0.1 3), .int (t0.1 4), .ref (a0 7), .int (t0.1 5), .int (t0.1 6), .int (t0.1 7), .int (t0.1 8), .int (t0.1 9), .int (t0.1 10), .int (t0.1 11), .int (t0.1 12), .int (t0.1 13), .int (t0.1 14)])), ((a0 1), .inl (q 1, 6896, .inr (.inl (t0.2.2.1 0)))), ((a0 2), .inl (q 1, 68960, .inr (.inl (vp_updL (t0.2.2.1 1) (Int32.toNatClampNeg (z1 - 6896)) ((t0.2.2.1 1) (Int32.toNatClampNeg z1)))))), ((a0 3), .inl (q 1, 13792, .inr (.inl (t0.2.2.1 2)))), ((a0 4), .inl (q 1, 6896, .inr (.inl (t0.2.2.1 3)))), ((a0 5), .inl (q 3, 2, .inl (t0.2.2.2 0))), ((a0 6), .inl (q 0, 40, .inl (t0.2.2.2 1))), ((a0 7), .inl (q 2, 400, .inl (t0.2.2.2 2)))] H := hP
          have hD : va_D _ [((a0 0), .inr (6, [.ref (a0 1), .ref (a0 2), .int (t0.1 0), .ref (a0 3), .ref (a0 5), .ref (a0 4), .long t0.2.1, .int (t0.1 1), .int (t0.1 2), .ref (a0 6), .int (t0.1 3), .int (t0.1 4), .ref (a0 7), .int (t0.1 5), .int (t0.1 6), .int (t0.1 7), .int (t0.1 8), .int (t0.1 9), .int (t0.1 10), .int (t0.1 11), .int (t0.1 12), .int (t0.1 13), .int (t0.1 14)])), ((a0 1), .inl (q 1, 6896, .inr (.inl (t0.2.2.1 0)))), ((a0 2), .inl (q 1, 68960, .inr (.inl (vp_updL (t0.2.2.1 1) (Int32.toNatClampNeg (z1 - 6896)) ((t0.2.2.1 1) (Int32.toNatClampNeg z1)))))), ((a0 3), .inl (q 1, 13792, .inr (.inl (t0.2.2.1 2)))), ((a0 4), .inl (q 1, 6896, .inr (.inl (t0.2.2.1 3)))), ((a0 5), .inl (q 3, 2, .inl (t0.2.2.2 0))), ((a0 6), .inl (q 0, 40, .inl (t0.2.2.2 1))), ((a0 7), .inl (q 2, 400, .inl (t0.2.2.2 2)))] := hD
          refine lv_iinc (v := (z1 + 1)) (lv' := [(1, .int (z1 + 1)), (0, .ref (a0 0))]) hx hb dX7_keepsAct_35 hl (k := 0) rfl rfl (by decide) rfl (fun ls hl => ?_)
          refine lv_goto (tgt := 13) hx hb dX7_keepsAct_38 (by decide) ?_
          exact ih _ _ _ _ ls h (hP.sub (ws' := md_v a0 q (t0.1, t0.2.1, (va_up t0.2.2.1 1 (vp_updL (t0.2.2.1 1) (Int32.toNatClampNeg (z1 - 6896)) ((t0.2.2.1 1) (Int32.toNatClampNeg z1)))), t0.2.2.2)) [0, 1, 2, 3, 4, 5, 6, 7] rfl) (hD.sub (ws' := md_v a0 q (t0.1, t0.2.1, (va_up t0.2.2.1 1 (vp_updL (t0.2.2.1 1) (Int32.toNatClampNeg (z1 - 6896)) ((t0.2.2.1 1) (Int32.toNatClampNeg z1)))), t0.2.2.2)) [0, 1, 2, 3, 4, 5, 6, 7] (by decide) rfl) hS (lv_sub hl [0, 1] rfl)
    obtain ⟨n13, h⟩ := h
    refine lp13 _ ?_ n13 _ _ _ _ ls h (hP.sub (ws' := md_v a0 q s0) [0, 1, 2, 3, 4, 5, 6, 7] rfl) (hD.sub (ws' := md_v a0 q s0) [0, 1, 2, 3, 4, 5, 6, 7] (by decide) rfl) hS (lv_sub hl [0, 1] rfl)
    · intro t0 z1 H locs ls h hP hD hS hl
      try dsimp only at h
      have hP : va_P D vwCl [((a0 0), .inr (6, [.ref (a0 1), .ref (a0 2), .int (t0.1 0), .ref (a0 3), .ref (a0 5), .ref (a0 4), .long t0.2.1, .int (t0.1 1), .int (t0.1 2), .ref (a0 6), .int (t0.1 3), .int (t0.1 4), .ref (a0 7), .int (t0.1 5), .int (t0.1 6), .int (t0.1 7), .int (t0.1 8), .int (t0.1 9), .int (t0.1 10), .int (t0.1 11), .int (t0.1 12), .int (t0.1 13), .int (t0.1 14)])), ((a0 1), .inl (q 1, 6896, .inr (.inl (t0.2.2.1 0)))), ((a0 2), .inl (q 1, 68960, .inr (.inl (t0.2.2.1 1)))), ((a0 3), .inl (q 1, 13792, .inr (.inl (t0.2.2.1 2)))), ((a0 4), .inl (q 1, 6896, .inr (.inl (t0.2.2.1 3)))), ((a0 5), .inl (q 3, 2, .inl (t0.2.2.2 0))), ((a0 6), .inl (q 0, 40, .inl (t0.2.2.2 1))), ((a0 7), .inl (q 2, 400, .inl (t0.2.2.2 2)))] H := hP
      have hD : va_D _ [((a0 0), .inr (6, [.ref (a0 1), .ref (a0 2), .int (t0.1 0), .ref (a0 3), .ref (a0 5), .ref (a0 4), .long t0.2.1, .int (t0.1 1), .int (t0.1 2), .ref (a0 6), .int (t0.1 3), .int (t0.1 4), .ref (a0 7), .int (t0.1 5), .int (t0.1 6), .int (t0.1 7), .int (t0.1 8), .int (t0.1 9), .int (t0.1 10), .int (t0.1 11), .int (t0.1 12), .int (t0.1 13), .int (t0.1 14)])), ((a0 1), .inl (q 1, 6896, .inr (.inl (t0.2.2.1 0)))), ((a0 2), .inl (q 1, 68960, .inr (.inl (t0.2.2.1 1)))), ((a0 3), .inl (q 1, 13792, .inr (.inl (t0.2.2.1 2)))), ((a0 4), .inl (q 1, 6896, .inr (.inl (t0.2.2.1 3)))), ((a0 5), .inl (q 3, 2, .inl (t0.2.2.2 0))), ((a0 6), .inl (q 0, 40, .inl (t0.2.2.2 1))), ((a0 7), .inl (q 2, 400, .inl (t0.2.2.2 2)))] := hD
      refine lv_aload_n hx hb dX7_keepsAct_41 rfl (lv_at hl 1 rfl) ?_
      refine lv_dup hx hb dX7_keepsAct_42 rfl ?_
      refine fl_get (C := RX7) (T := TX7) (N := 23) (ci := 6) (v := .int (t0.1 0)) hx hb ht in_X7 hown hK hP 0 rfl rfl 2 (by decide) mw_1132 rfl dX7_keepsAct_43 ?_
      refine lv_iconst (v := 1) hx hb dX7_keepsAct_46 (by decide) ?_
      refine lv_isub hx hb dX7_keepsAct_47 ?_
      refine fl_put (C := RX7) (T := TX7) (N := 23) (ci := 6) (v := .int ((t0.1 0) - 1)) (ws2 := [((a0 0), .inr (6, [.ref (a0 1), .ref (a0 2), .int ((t0.1 0) - 1), .ref (a0 3), .ref (a0 5), .ref (a0 4), .long t0.2.1, .int (t0.1 1), .int (t0.1 2), .ref (a0 6), .int (t0.1 3), .int (t0.1 4), .ref (a0 7), .int (t0.1 5), .int (t0.1 6), .int (t0.1 7), .int (t0.1 8), .int (t0.1 9), .int (t0.1 10), .int (t0.1 11), .int (t0.1 12), .int (t0.1 13), .int (t0.1 14)])), ((a0 1), .inl (q 1, 6896, .inr (.inl (t0.2.2.1 0)))), ((a0 2), .inl (q 1, 68960, .inr (.inl (t0.2.2.1 1)))), ((a0 3), .inl (q 1, 13792, .inr (.inl (t0.2.2.1 2)))), ((a0 4), .inl (q 1, 6896, .inr (.inl (t0.2.2.1 3)))), ((a0 5), .inl (q 3, 2, .inl (t0.2.2.2 0))), ((a0 6), .inl (q 0, 40, .inl (t0.2.2.2 1))), ((a0 7), .inl (q 2, 400, .inl (t0.2.2.2 2)))]) hx hb ht in_X7 tyX7_ok nmX7 hown hK hP hD hS 0 rfl rfl 2 (by decide) mw_1132 rfl rfl rfl (Nat.le_of_ble_eq_true rfl) dX7_keepsAct_48 rfl (fun H locs hP hD hS => ?_)
      refine lv_iconst (v := 0) hx hb dX7_keepsAct_51 (by decide) ?_
      refine lv_istore_n (lv' := [(1, .int 0), (0, .ref (a0 0))]) hx hb dX7_keepsAct_52 rfl hl (by decide) rfl (fun ls hl => ?_)
      have lp53 : ∀ (e87 : Md → Int32 → Prop) (k87 : ∀ (t0 : Md) (z1 : Int32) (H : Heap) (locs : List Loc) (ls : Array Slot), e87 t0 z1 → va_P D vwCl (md_v a0 q t0) H → va_D (va_A (md_v a0 q s0) sz) (md_v a0 q t0) → va_S (va_A (md_v a0 q s0) sz) s.heap H locs → lv_has ls 2 [(1, .int z1), (0, .ref (a0 0))] → W p l e ({ frames := 0, cells := 0, slots := 0, locals := 0 } : Room) s m [.ref (a0 0)].toArray below meth c H locs 0 0 (MQ below (va_Qv (fun u : Md => post u) (mt_B D (md_v a0 q s0) sz (fun u : Md => md_v a0 q u)) (va_A (md_v a0 q s0) sz)) [.ref (a0 0)].toArray s 0 0 (va_A (md_v a0 q s0) sz)) (F0 m 87 ls [])) (n : Nat) (t0 : Md) (z1 : Int32) (H : Heap) (locs : List Loc) (ls : Array Slot), wp_X7_keepsAct_L53 post e87 n t0 z1 → va_P D vwCl (md_v a0 q t0) H → va_D (va_A (md_v a0 q s0) sz) (md_v a0 q t0) → va_S (va_A (md_v a0 q s0) sz) s.heap H locs → lv_has ls 2 [(1, .int z1), (0, .ref (a0 0))] → W p l e ({ frames := 0, cells := 0, slots := 0, locals := 0 } : Room) s m [.ref (a0 0)].toArray below meth c H locs 0 0 (MQ below (va_Qv (fun u : Md => post u) (mt_B D (md_v a0 q s0) sz (fun u : Md => md_v a0 q u)) (va_A (md_v a0 q s0) sz)) [.ref (a0 0)].toArray s 0 0 (va_A (md_v a0 q s0) sz)) (F0 m 53 ls []) := by
        intro e87 k87 n
        induction n with
        | zero =>
          intro t0 z1 H locs ls h
          exact h.elim
        | succ n ih =>
          intro t0 z1 H locs ls h hP hD hS hl
          have hP : va_P D vwCl [((a0 0), .inr (6, [.ref (a0 1), .ref (a0 2), .int (t0.1 0), .ref (a0 3), .ref (a0 5), .ref (a0 4), .long t0.2.1, .int (t0.1 1), .int (t0.1 2), .ref (a0 6), .int (t0.1 3), .int (t0.1 4), .ref (a0 7), .int (t0.1 5), .int (t0.1 6), .int (t0.1 7), .int (t0.1 8), .int (t0.1 9), .int (t0.1 10), .int (t0.1 11), .int (t0.1 12), .int (t0.1 13), .int (t0.1 14)])), ((a0 1), .inl (q 1, 6896, .inr (.inl (t0.2.2.1 0)))), ((a0 2), .inl (q 1, 68960, .inr (.inl (t0.2.2.1 1)))), ((a0 3), .inl (q 1, 13792, .inr (.inl (t0.2.2.1 2)))), ((a0 4), .inl (q 1, 6896, .inr (.inl (t0.2.2.1 3)))), ((a0 5), .inl (q 3, 2, .inl (t0.2.2.2 0))), ((a0 6), .inl (q 0, 40, .inl (t0.2.2.2 1))), ((a0 7), .inl (q 2, 400, .inl (t0.2.2.2 2)))] H := hP
          have hD : va_D _ [((a0 0), .inr (6, [.ref (a0 1), .ref (a0 2), .int (t0.1 0), .ref (a0 3), .ref (a0 5), .ref (a0 4), .long t0.2.1, .int (t0.1 1), .int (t0.1 2), .ref (a0 6), .int (t0.1 3), .int (t0.1 4), .ref (a0 7), .int (t0.1 5), .int (t0.1 6), .int (t0.1 7), .int (t0.1 8), .int (t0.1 9), .int (t0.1 10), .int (t0.1 11), .int (t0.1 12), .int (t0.1 13), .int (t0.1 14)])), ((a0 1), .inl (q 1, 6896, .inr (.inl (t0.2.2.1 0)))), ((a0 2), .inl (q 1, 68960, .inr (.inl (t0.2.2.1 1)))), ((a0 3), .inl (q 1, 13792, .inr (.inl (t0.2.2.1 2)))), ((a0 4), .inl (q 1, 6896, .inr (.inl (t0.2.2.1 3)))), ((a0 5), .inl (q 3, 2, .inl (t0.2.2.2 0))), ((a0 6), .inl (q 0, 40, .inl (t0.2.2.2 1))), ((a0 7), .inl (q 2, 400, .inl (t0.2.2.2 2)))] := hD
          unfold wp_X7_keepsAct_L53 at h
          refine lv_iload_n hx hb dX7_keepsAct_53 rfl (lv_at hl 0 rfl) ?_
          refine lv_sipush (v := 6896) hx hb dX7_keepsAct_54 (by decide) ?_
          refine lv_icmp_ge (tgt := 87) hx hb dX7_keepsAct_57 (by decide) (fun c_8 => ?_) (fun c_8 => ?_)
          · replace h := h.1 c_8
            exact k87 _ _ _ _ ls h (hP.sub (ws' := md_v a0 q t0) [0, 1, 2, 3, 4, 5, 6, 7] rfl) (hD.sub (ws' := md_v a0 q t0) [0, 1, 2, 3, 4, 5, 6, 7] (by decide) rfl) hS (lv_sub hl [0, 1] rfl)
          · replace h := h.2 c_8
            refine lv_aload_n hx hb dX7_keepsAct_60 rfl (lv_at hl 1 rfl) ?_
            refine fl_get (C := RX7) (T := TX7) (N := 23) (ci := 6) (v := .ref (a0 2)) hx hb ht in_X7 hown hK hP 0 rfl rfl 1 (by decide) mw_1131 rfl dX7_keepsAct_61 ?_
            refine lv_sipush (v := 6896) hx hb dX7_keepsAct_64 (by decide) ?_
            refine lv_aload_n hx hb dX7_keepsAct_67 rfl (lv_at hl 1 rfl) ?_
            refine fl_get (C := RX7) (T := TX7) (N := 23) (ci := 6) (v := .int (t0.1 0)) hx hb ht in_X7 hown hK hP 0 rfl rfl 2 (by decide) mw_1132 rfl dX7_keepsAct_68 ?_
            refine lv_imul hx hb dX7_keepsAct_71 ?_
            refine lv_iload_n hx hb dX7_keepsAct_72 rfl (lv_at hl 0 rfl) ?_
            refine lv_iadd hx hb dX7_keepsAct_73 ?_
            refine lv_aload_n hx hb dX7_keepsAct_74 rfl (lv_at hl 1 rfl) ?_
            refine fl_get (C := RX7) (T := TX7) (N := 23) (ci := 6) (v := .ref (a0 1)) hx hb ht in_X7 hown hK hP 0 rfl rfl 0 (by decide) mw_1130 rfl dX7_keepsAct_75 ?_
            refine lv_iload_n hx hb dX7_keepsAct_78 rfl (lv_at hl 0 rfl) ?_
            obtain ⟨g_9, h⟩ := h
            refine va_lald hx hb hK hP 1 1 rfl rfl g_9 dX7_keepsAct_79 ?_
            obtain ⟨g_10, h⟩ := h
            refine va_last hx hb hK hP hD hS 2 1 rfl rfl g_10 dX7_keepsAct_80 (fun H locs hP hD hS => ?_)
            have hP : va_P D vwCl [((a0 0), .inr (6, [.ref (a0 1), .ref (a0 2), .int (t0.1 0), .ref (a0 3), .ref (a0 5), .ref (a0 4), .long t0.2.1, .int (t0.1 1), .int (t0.1 2), .ref (a0 6), .int (t0.1 3), .int (t0.1 4), .ref (a0 7), .int (t0.1 5), .int (t0.1 6), .int (t0.1 7), .int (t0.1 8), .int (t0.1 9), .int (t0.1 10), .int (t0.1 11), .int (t0.1 12), .int (t0.1 13), .int (t0.1 14)])), ((a0 1), .inl (q 1, 6896, .inr (.inl (t0.2.2.1 0)))), ((a0 2), .inl (q 1, 68960, .inr (.inl (vp_updL (t0.2.2.1 1) (Int32.toNatClampNeg ((6896 * (t0.1 0)) + z1)) ((t0.2.2.1 0) (Int32.toNatClampNeg z1)))))), ((a0 3), .inl (q 1, 13792, .inr (.inl (t0.2.2.1 2)))), ((a0 4), .inl (q 1, 6896, .inr (.inl (t0.2.2.1 3)))), ((a0 5), .inl (q 3, 2, .inl (t0.2.2.2 0))), ((a0 6), .inl (q 0, 40, .inl (t0.2.2.2 1))), ((a0 7), .inl (q 2, 400, .inl (t0.2.2.2 2)))] H := hP
            have hD : va_D _ [((a0 0), .inr (6, [.ref (a0 1), .ref (a0 2), .int (t0.1 0), .ref (a0 3), .ref (a0 5), .ref (a0 4), .long t0.2.1, .int (t0.1 1), .int (t0.1 2), .ref (a0 6), .int (t0.1 3), .int (t0.1 4), .ref (a0 7), .int (t0.1 5), .int (t0.1 6), .int (t0.1 7), .int (t0.1 8), .int (t0.1 9), .int (t0.1 10), .int (t0.1 11), .int (t0.1 12), .int (t0.1 13), .int (t0.1 14)])), ((a0 1), .inl (q 1, 6896, .inr (.inl (t0.2.2.1 0)))), ((a0 2), .inl (q 1, 68960, .inr (.inl (vp_updL (t0.2.2.1 1) (Int32.toNatClampNeg ((6896 * (t0.1 0)) + z1)) ((t0.2.2.1 0) (Int32.toNatClampNeg z1)))))), ((a0 3), .inl (q 1, 13792, .inr (.inl (t0.2.2.1 2)))), ((a0 4), .inl (q 1, 6896, .inr (.inl (t0.2.2.1 3)))), ((a0 5), .inl (q 3, 2, .inl (t0.2.2.2 0))), ((a0 6), .inl (q 0, 40, .inl (t0.2.2.2 1))), ((a0 7), .inl (q 2, 400, .inl (t0.2.2.2 2)))] := hD
            refine lv_iinc (v := (z1 + 1)) (lv' := [(1, .int (z1 + 1)), (0, .ref (a0 0))]) hx hb dX7_keepsAct_81 hl (k := 0) rfl rfl (by decide) rfl (fun ls hl => ?_)
            refine lv_goto (tgt := 53) hx hb dX7_keepsAct_84 (by decide) ?_
            exact ih _ _ _ _ ls h (hP.sub (ws' := md_v a0 q (t0.1, t0.2.1, (va_up t0.2.2.1 1 (vp_updL (t0.2.2.1 1) (Int32.toNatClampNeg ((6896 * (t0.1 0)) + z1)) ((t0.2.2.1 0) (Int32.toNatClampNeg z1)))), t0.2.2.2)) [0, 1, 2, 3, 4, 5, 6, 7] rfl) (hD.sub (ws' := md_v a0 q (t0.1, t0.2.1, (va_up t0.2.2.1 1 (vp_updL (t0.2.2.1 1) (Int32.toNatClampNeg ((6896 * (t0.1 0)) + z1)) ((t0.2.2.1 0) (Int32.toNatClampNeg z1)))), t0.2.2.2)) [0, 1, 2, 3, 4, 5, 6, 7] (by decide) rfl) hS (lv_sub hl [0, 1] rfl)
      obtain ⟨n53, h⟩ := h
      refine lp53 _ ?_ n53 _ _ _ _ ls h (hP.sub (ws' := md_v a0 q ((va_up t0.1 0 ((t0.1 0) - 1)), t0.2.1, t0.2.2.1, t0.2.2.2)) [0, 1, 2, 3, 4, 5, 6, 7] rfl) (hD.sub (ws' := md_v a0 q ((va_up t0.1 0 ((t0.1 0) - 1)), t0.2.1, t0.2.2.1, t0.2.2.2)) [0, 1, 2, 3, 4, 5, 6, 7] (by decide) rfl) hS (lv_sub hl [0, 1] rfl)
      · intro t0 z1 H locs ls h hP hD hS hl
        try dsimp only at h
        have hP : va_P D vwCl [((a0 0), .inr (6, [.ref (a0 1), .ref (a0 2), .int (t0.1 0), .ref (a0 3), .ref (a0 5), .ref (a0 4), .long t0.2.1, .int (t0.1 1), .int (t0.1 2), .ref (a0 6), .int (t0.1 3), .int (t0.1 4), .ref (a0 7), .int (t0.1 5), .int (t0.1 6), .int (t0.1 7), .int (t0.1 8), .int (t0.1 9), .int (t0.1 10), .int (t0.1 11), .int (t0.1 12), .int (t0.1 13), .int (t0.1 14)])), ((a0 1), .inl (q 1, 6896, .inr (.inl (t0.2.2.1 0)))), ((a0 2), .inl (q 1, 68960, .inr (.inl (t0.2.2.1 1)))), ((a0 3), .inl (q 1, 13792, .inr (.inl (t0.2.2.1 2)))), ((a0 4), .inl (q 1, 6896, .inr (.inl (t0.2.2.1 3)))), ((a0 5), .inl (q 3, 2, .inl (t0.2.2.2 0))), ((a0 6), .inl (q 0, 40, .inl (t0.2.2.2 1))), ((a0 7), .inl (q 2, 400, .inl (t0.2.2.2 2)))] H := hP
        have hD : va_D _ [((a0 0), .inr (6, [.ref (a0 1), .ref (a0 2), .int (t0.1 0), .ref (a0 3), .ref (a0 5), .ref (a0 4), .long t0.2.1, .int (t0.1 1), .int (t0.1 2), .ref (a0 6), .int (t0.1 3), .int (t0.1 4), .ref (a0 7), .int (t0.1 5), .int (t0.1 6), .int (t0.1 7), .int (t0.1 8), .int (t0.1 9), .int (t0.1 10), .int (t0.1 11), .int (t0.1 12), .int (t0.1 13), .int (t0.1 14)])), ((a0 1), .inl (q 1, 6896, .inr (.inl (t0.2.2.1 0)))), ((a0 2), .inl (q 1, 68960, .inr (.inl (t0.2.2.1 1)))), ((a0 3), .inl (q 1, 13792, .inr (.inl (t0.2.2.1 2)))), ((a0 4), .inl (q 1, 6896, .inr (.inl (t0.2.2.1 3)))), ((a0 5), .inl (q 3, 2, .inl (t0.2.2.2 0))), ((a0 6), .inl (q 0, 40, .inl (t0.2.2.2 1))), ((a0 7), .inl (q 2, 400, .inl (t0.2.2.2 2)))] := hD
        refine lv_aload_n hx hb dX7_keepsAct_87 rfl (lv_at hl 1 rfl) ?_
        refine lv_dup hx hb dX7_keepsAct_88 rfl ?_
        refine fl_get (C := RX7) (T := TX7) (N := 23) (ci := 6) (v := .int (t0.1 0)) hx hb ht in_X7 hown hK hP 0 rfl rfl 2 (by decide) mw_1132 rfl dX7_keepsAct_89 ?_
        refine lv_iconst (v := 1) hx hb dX7_keepsAct_92 (by decide) ?_
        refine lv_iadd hx hb dX7_keepsAct_93 ?_
        refine fl_put (C := RX7) (T := TX7) (N := 23) (ci := 6) (v := .int ((t0.1 0) + 1)) (ws2 := [((a0 0), .inr (6, [.ref (a0 1), .ref (a0 2), .int ((t0.1 0) + 1), .ref (a0 3), .ref (a0 5), .ref (a0 4), .long t0.2.1, .int (t0.1 1), .int (t0.1 2), .ref (a0 6), .int (t0.1 3), .int (t0.1 4), .ref (a0 7), .int (t0.1 5), .int (t0.1 6), .int (t0.1 7), .int (t0.1 8), .int (t0.1 9), .int (t0.1 10), .int (t0.1 11), .int (t0.1 12), .int (t0.1 13), .int (t0.1 14)])), ((a0 1), .inl (q 1, 6896, .inr (.inl (t0.2.2.1 0)))), ((a0 2), .inl (q 1, 68960, .inr (.inl (t0.2.2.1 1)))), ((a0 3), .inl (q 1, 13792, .inr (.inl (t0.2.2.1 2)))), ((a0 4), .inl (q 1, 6896, .inr (.inl (t0.2.2.1 3)))), ((a0 5), .inl (q 3, 2, .inl (t0.2.2.2 0))), ((a0 6), .inl (q 0, 40, .inl (t0.2.2.2 1))), ((a0 7), .inl (q 2, 400, .inl (t0.2.2.2 2)))]) hx hb ht in_X7 tyX7_ok nmX7 hown hK hP hD hS 0 rfl rfl 2 (by decide) mw_1132 rfl rfl rfl (Nat.le_of_ble_eq_true rfl) dX7_keepsAct_94 rfl (fun H locs hP hD hS => ?_)
        exact mt_vret ((va_up t0.1 0 ((t0.1 0) + 1)), t0.2.1, t0.2.2.1, t0.2.2.2) hx hb hr hk h (hP.sub (ws' := md_v a0 q ((va_up t0.1 0 ((t0.1 0) + 1)), t0.2.1, t0.2.2.1, t0.2.2.2)) [0, 1, 2, 3, 4, 5, 6, 7] rfl) (hD.sub (ws' := md_v a0 q ((va_up t0.1 0 ((t0.1 0) + 1)), t0.2.1, t0.2.2.1, t0.2.2.2)) [0, 1, 2, 3, 4, 5, 6, 7] (by decide) rfl) hS dX7_keepsAct_97

def wp_X7_areSigns_L2 (s0 : Md) (post : Int32 → Prop) (e29 : Int32 → Int32 → Int32 → Prop) : Nat → Int32 → Int32 → Int32 → Prop
  | 0, _, _, _ => False
  | n2 + 1, z1, z2, z3 => ((z2 ≤ z3 → e29 z1 z2 z3) ∧ (¬ z2 ≤ z3 → vp_in (z1 + z3) 400 ∧ wp_X7_isSign (fun r_3 => ((¬ r_3 = 0 → wp_X7_areSigns_L2 s0 post e29 n2 z1 z2 (z3 + 1)) ∧ (r_3 = 0 → post 0))) ((s0.2.2.2 2) (Int32.toNatClampNeg (z1 + z3)))))
def wp_X7_areSigns (post : Int32 → Prop) (s0 : Md) (x1 : Int32) (x2 : Int32) : Prop := (∃ n2, wp_X7_areSigns_L2 s0 post (fun z1 z2 z3 => post 1) n2 x1 x2 0)
set_option maxHeartbeats 4000000 in
set_option maxRecDepth 100000 in
theorem c2_X7_areSigns {l : Launch} {D : va_G} {q : Nat → ClassId} {a0 : Nat → Nat} {s0 : Md} {x1 : Int32} {x2 : Int32} {post : Int32 → Prop} (h : wp_X7_areSigns post s0 x1 x2) : Met l yX7_areSigns (Cond.code yX7_areSigns cX7_areSigns 4 (some .boolean) :: w_all) ({ frames := 2, cells := 0, slots := 0, locals := 45 } : Room) (rd_P D q [.ref (a0 0), .int x1, .int x2] (md_v a0 q s0)) (vp_Si post) 0 0 (fun _ => False) := by
  refine rd_start (by decide) (Nat.le_of_ble_eq_true rfl) ?_
  intro p e s m below meth c ls hx hb hr hml hown ht hk hP hQ hV hl
  have hK := hQ.1
  have hown : s.vm.findClass RX7 = some m.cls := hown
  have hl : lv_has ls 4 [(0, .ref (a0 0)), (1, .int x1), (2, .int x2)] := hl
  have hP : va_P D vwCl [((a0 0), .inr (6, [.ref (a0 1), .ref (a0 2), .int (s0.1 0), .ref (a0 3), .ref (a0 5), .ref (a0 4), .long s0.2.1, .int (s0.1 1), .int (s0.1 2), .ref (a0 6), .int (s0.1 3), .int (s0.1 4), .ref (a0 7), .int (s0.1 5), .int (s0.1 6), .int (s0.1 7), .int (s0.1 8), .int (s0.1 9), .int (s0.1 10), .int (s0.1 11), .int (s0.1 12), .int (s0.1 13), .int (s0.1 14)])), ((a0 1), .inl (q 1, 6896, .inr (.inl (s0.2.2.1 0)))), ((a0 2), .inl (q 1, 68960, .inr (.inl (s0.2.2.1 1)))), ((a0 3), .inl (q 1, 13792, .inr (.inl (s0.2.2.1 2)))), ((a0 4), .inl (q 1, 6896, .inr (.inl (s0.2.2.1 3)))), ((a0 5), .inl (q 3, 2, .inl (s0.2.2.2 0))), ((a0 6), .inl (q 0, 40, .inl (s0.2.2.2 1))), ((a0 7), .inl (q 2, 400, .inl (s0.2.2.2 2)))] s.heap := hP
  unfold wp_X7_areSigns at h
  refine lv_iconst (v := 0) hx hb dX7_areSigns_0 (by decide) ?_
  refine lv_istore_n (lv' := [(3, .int 0), (0, .ref (a0 0)), (1, .int x1), (2, .int x2)]) hx hb dX7_areSigns_1 rfl hl (by decide) rfl (fun ls hl => ?_)
  have lp2 : ∀ (e29 : Int32 → Int32 → Int32 → Prop) (k29 : ∀ (z1 : Int32) (z2 : Int32) (z3 : Int32) (ls : Array Slot), e29 z1 z2 z3 → lv_has ls 4 [(1, .int z1), (2, .int z2), (3, .int z3), (0, .ref (a0 0))] → W p l e ({ frames := 2, cells := 0, slots := 0, locals := 45 } : Room) s m [.ref (a0 0), .int x1, .int x2].toArray below meth c s.heap [] 0 0 (MQ below (vp_Si post) [.ref (a0 0), .int x1, .int x2].toArray s 0 0 (fun _ => False)) (F0 m 29 ls [])) (n : Nat) (z1 : Int32) (z2 : Int32) (z3 : Int32) (ls : Array Slot), wp_X7_areSigns_L2 s0 post e29 n z1 z2 z3 → lv_has ls 4 [(1, .int z1), (2, .int z2), (3, .int z3), (0, .ref (a0 0))] → W p l e ({ frames := 2, cells := 0, slots := 0, locals := 45 } : Room) s m [.ref (a0 0), .int x1, .int x2].toArray below meth c s.heap [] 0 0 (MQ below (vp_Si post) [.ref (a0 0), .int x1, .int x2].toArray s 0 0 (fun _ => False)) (F0 m 2 ls []) := by
    intro e29 k29 n
    induction n with
    | zero =>
      intro z1 z2 z3 ls h
      exact h.elim
    | succ n ih =>
      intro z1 z2 z3 ls h hl
      unfold wp_X7_areSigns_L2 at h
      refine lv_iload_n hx hb dX7_areSigns_2 rfl (lv_at hl 2 rfl) ?_
      refine lv_iload_n hx hb dX7_areSigns_3 rfl (lv_at hl 1 rfl) ?_
      refine lv_icmp_ge (tgt := 29) hx hb dX7_areSigns_4 (by decide) (fun c_1 => ?_) (fun c_1 => ?_)
      · replace h := h.1 c_1
        exact k29 _ _ _ ls h (lv_sub hl [0, 1, 2, 3] rfl)
      · replace h := h.2 c_1
        refine lv_aload_n hx hb dX7_areSigns_7 rfl (lv_at hl 3 rfl) ?_
        refine fl_get (C := RX7) (T := TX7) (N := 23) (ci := 6) (v := .ref (a0 7)) hx hb ht in_X7 hown hK hP 0 rfl rfl 12 (by decide) mw_1142 rfl dX7_areSigns_8 ?_
        refine lv_iload_n hx hb dX7_areSigns_11 rfl (lv_at hl 0 rfl) ?_
        refine lv_iload_n hx hb dX7_areSigns_12 rfl (lv_at hl 2 rfl) ?_
        refine lv_iadd hx hb dX7_areSigns_13 ?_
        obtain ⟨g_2, h⟩ := h
        refine va_bald hx hb hK hP 7 2 rfl rfl g_2 dX7_areSigns_14 ?_
        refine vp_callSi (rd_wS (wc := ([] : va_W)) (As := [.int ((s0.2.2.2 2) (Int32.toNatClampNeg (z1 + z3)))]) (rest := []) hx hb hml hown ht (c2_X7_isSign h) wd_X7_isSign mw_1228 hQ hV va_S.rf (hP.sub [] rfl) rfl hl.1 rfl (Nat.le_of_ble_eq_true rfl) dX7_areSigns_15 ⟨Nat.le_of_ble_eq_true rfl, Nat.le_of_ble_eq_true rfl, rfl, rfl⟩ ⟨Nat.le_of_ble_eq_true rfl, Nat.le_of_ble_eq_true rfl⟩) (fun r_3 h => ?_)
        try dsimp only at h
        refine lv_if_ne (tgt := 23) hx hb dX7_areSigns_18 (by decide) (fun c_5 => ?_) (fun c_5 => ?_)
        · replace h := h.1 c_5
          refine lv_iinc (v := (z3 + 1)) (lv' := [(3, .int (z3 + 1)), (1, .int z1), (2, .int z2), (0, .ref (a0 0))]) hx hb dX7_areSigns_23 hl (k := 2) rfl rfl (by decide) rfl (fun ls hl => ?_)
          refine lv_goto (tgt := 2) hx hb dX7_areSigns_26 (by decide) ?_
          exact ih _ _ _ ls h (lv_sub hl [1, 2, 0, 3] rfl)
        · replace h := h.2 c_5
          refine lv_iconst (v := 0) hx hb dX7_areSigns_21 (by decide) ?_
          exact rd_zret hx hb hr hk rfl h dX7_areSigns_22
  obtain ⟨n2, h⟩ := h
  refine lp2 _ ?_ n2 _ _ _ ls h (lv_sub hl [2, 3, 0, 1] rfl)
  · intro z1 z2 z3 ls h hl
    try dsimp only at h
    refine lv_iconst (v := 1) hx hb dX7_areSigns_29 (by decide) ?_
    exact rd_zret hx hb hr hk rfl h dX7_areSigns_30

def wp_X7_isRowText (post : Int32 → Prop) (s0 : Md) (x1 : Int32) : Prop := wp_X7_wide (fun r_1 => ((r_1 < x1 → post 0) ∧ (¬ r_1 < x1 → wp_X7_areSigns (fun r_4 => ((r_4 = 0 → post 0) ∧ (¬ r_4 = 0 → post 1))) s0 (0 : Int32) x1))) s0
set_option maxHeartbeats 4000000 in
set_option maxRecDepth 100000 in
theorem c2_X7_isRowText {l : Launch} {D : va_G} {q : Nat → ClassId} {a0 : Nat → Nat} {s0 : Md} {x1 : Int32} {post : Int32 → Prop} (h : wp_X7_isRowText post s0 x1) : Met l yX7_isRowText (Cond.code yX7_isRowText cX7_isRowText 2 (some .boolean) :: w_all) ({ frames := 3, cells := 0, slots := 0, locals := 68 } : Room) (rd_P D q [.ref (a0 0), .int x1] (md_v a0 q s0)) (vp_Si post) 0 0 (fun _ => False) := by
  refine rd_start (by decide) (Nat.le_of_ble_eq_true rfl) ?_
  intro p e s m below meth c ls hx hb hr hml hown ht hk hP hQ hV hl
  have hK := hQ.1
  have hown : s.vm.findClass RX7 = some m.cls := hown
  have hl : lv_has ls 2 [(0, .ref (a0 0)), (1, .int x1)] := hl
  have hP : va_P D vwCl [((a0 0), .inr (6, [.ref (a0 1), .ref (a0 2), .int (s0.1 0), .ref (a0 3), .ref (a0 5), .ref (a0 4), .long s0.2.1, .int (s0.1 1), .int (s0.1 2), .ref (a0 6), .int (s0.1 3), .int (s0.1 4), .ref (a0 7), .int (s0.1 5), .int (s0.1 6), .int (s0.1 7), .int (s0.1 8), .int (s0.1 9), .int (s0.1 10), .int (s0.1 11), .int (s0.1 12), .int (s0.1 13), .int (s0.1 14)])), ((a0 1), .inl (q 1, 6896, .inr (.inl (s0.2.2.1 0)))), ((a0 2), .inl (q 1, 68960, .inr (.inl (s0.2.2.1 1)))), ((a0 3), .inl (q 1, 13792, .inr (.inl (s0.2.2.1 2)))), ((a0 4), .inl (q 1, 6896, .inr (.inl (s0.2.2.1 3)))), ((a0 5), .inl (q 3, 2, .inl (s0.2.2.2 0))), ((a0 6), .inl (q 0, 40, .inl (s0.2.2.2 1))), ((a0 7), .inl (q 2, 400, .inl (s0.2.2.2 2)))] s.heap := hP
  unfold wp_X7_isRowText at h
  refine lv_iload_n hx hb dX7_isRowText_0 rfl (lv_at hl 1 rfl) ?_
  refine lv_aload_n hx hb dX7_isRowText_1 rfl (lv_at hl 0 rfl) ?_
  refine vp_callSi (rd_wV (wc := md_v a0 q s0) (As := []) (rest := [.int x1]) hx hb hml hown ht (c2_X7_wide h) wd_X7_wide mw_1220 hQ hV va_S.rf (hP.sub [0, 1, 2, 3, 4, 5, 6, 7] rfl) rfl rfl rfl hl.1 rfl (Nat.le_of_ble_eq_true rfl) dX7_isRowText_2 ⟨Nat.le_of_ble_eq_true rfl, Nat.le_of_ble_eq_true rfl, rfl, rfl⟩ ⟨Nat.le_of_ble_eq_true rfl, Nat.le_of_ble_eq_true rfl⟩) (fun r_1 h => ?_)
  try dsimp only at h
  refine lv_icmp_gt (tgt := 21) hx hb dX7_isRowText_5 (by decide) (fun c_3 => ?_) (fun c_3 => ?_)
  · replace h := h.1 c_3
    refine lv_iconst (v := 0) hx hb dX7_isRowText_21 (by decide) ?_
    exact rd_zret hx hb hr hk rfl h dX7_isRowText_22
  · replace h := h.2 c_3
    refine lv_aload_n hx hb dX7_isRowText_8 rfl (lv_at hl 0 rfl) ?_
    refine lv_iconst (v := 0) hx hb dX7_isRowText_9 (by decide) ?_
    refine lv_iload_n hx hb dX7_isRowText_10 rfl (lv_at hl 1 rfl) ?_
    refine vp_callSi (rd_wV (wc := md_v a0 q s0) (As := [.int 0, .int x1]) (rest := []) hx hb hml hown ht (c2_X7_areSigns h) wd_X7_areSigns mw_1224 hQ hV va_S.rf (hP.sub [0, 1, 2, 3, 4, 5, 6, 7] rfl) rfl rfl rfl hl.1 rfl (Nat.le_of_ble_eq_true rfl) dX7_isRowText_11 ⟨Nat.le_of_ble_eq_true rfl, Nat.le_of_ble_eq_true rfl, rfl, rfl⟩ ⟨Nat.le_of_ble_eq_true rfl, Nat.le_of_ble_eq_true rfl⟩) (fun r_4 h => ?_)
    try dsimp only at h
    refine lv_if_eq (tgt := 21) hx hb dX7_isRowText_14 (by decide) (fun c_6 => ?_) (fun c_6 => ?_)
    · replace h := h.1 c_6
      refine lv_iconst (v := 0) hx hb dX7_isRowText_21 (by decide) ?_
      exact rd_zret hx hb hr hk rfl h dX7_isRowText_22
    · replace h := h.2 c_6
      refine lv_iconst (v := 1) hx hb dX7_isRowText_17 (by decide) ?_
      refine lv_goto (tgt := 22) hx hb dX7_isRowText_18 (by decide) ?_
      exact rd_zret hx hb hr hk rfl h dX7_isRowText_22

def wp_X7_row (post : Int32 → Md → Prop) (s0 : Md) (x1 : Int32) : Prop := wp_X7_isRow (fun r_1 => ((¬ r_1 = 0 → wp_X7_isRowText (fun r_4 => ((¬ r_4 = 0 → wp_X7_keepsAct (fun u_8 => wp_X7_wantsSigns (fun r_9 u_10 => post r_9 u_10) u_8 x1 (0 : Int32) (s0.1 5) (1 : Int32)) ((va_up s0.1 5 0), s0.2.1, s0.2.2.1, s0.2.2.2)) ∧ (r_4 = 0 → post (-2) ((va_up s0.1 5 0), s0.2.1, s0.2.2.1, s0.2.2.2)))) ((va_up s0.1 5 0), s0.2.1, s0.2.2.1, s0.2.2.2) (s0.1 5)) ∧ (r_1 = 0 → post (-1) ((va_up s0.1 5 0), s0.2.1, s0.2.2.1, s0.2.2.2)))) ((va_up s0.1 5 0), s0.2.1, s0.2.2.1, s0.2.2.2) x1
set_option maxHeartbeats 4000000 in
set_option maxRecDepth 100000 in
theorem c2_X7_row {l : Launch} {D : va_G} {q : Nat → ClassId} {sz : Nat} {a0 : Nat → Nat} {s0 : Md} {x1 : Int32} {post : Int32 → Md → Prop} (h : wp_X7_row post s0 x1) : Met l yX7_row (Cond.code yX7_row cX7_row 3 (some .int) :: w_all) ({ frames := 4, cells := 0, slots := 0, locals := 95 } : Room) (mt_P D q [.ref (a0 0), .int x1] (md_v a0 q s0) sz) (va_Qi (fun r (u : Md) => post r u) (mt_B D (md_v a0 q s0) sz (fun u : Md => md_v a0 q u)) (va_A (md_v a0 q s0) sz)) 0 0 (va_A (md_v a0 q s0) sz) := by
  refine mt_start (by decide) (Nat.le_of_ble_eq_true rfl) ?_
  intro p e s m below meth c ls hx hb hr hml hown ht hk hin hP hQ hD hA hS hV hl
  have hK := hQ.1
  have hown : s.vm.findClass RX7 = some m.cls := hown
  have hl : lv_has ls 3 [(0, .ref (a0 0)), (1, .int x1)] := hl
  have hP : va_P D vwCl [((a0 0), .inr (6, [.ref (a0 1), .ref (a0 2), .int (s0.1 0), .ref (a0 3), .ref (a0 5), .ref (a0 4), .long s0.2.1, .int (s0.1 1), .int (s0.1 2), .ref (a0 6), .int (s0.1 3), .int (s0.1 4), .ref (a0 7), .int (s0.1 5), .int (s0.1 6), .int (s0.1 7), .int (s0.1 8), .int (s0.1 9), .int (s0.1 10), .int (s0.1 11), .int (s0.1 12), .int (s0.1 13), .int (s0.1 14)])), ((a0 1), .inl (q 1, 6896, .inr (.inl (s0.2.2.1 0)))), ((a0 2), .inl (q 1, 68960, .inr (.inl (s0.2.2.1 1)))), ((a0 3), .inl (q 1, 13792, .inr (.inl (s0.2.2.1 2)))), ((a0 4), .inl (q 1, 6896, .inr (.inl (s0.2.2.1 3)))), ((a0 5), .inl (q 3, 2, .inl (s0.2.2.2 0))), ((a0 6), .inl (q 0, 40, .inl (s0.2.2.2 1))), ((a0 7), .inl (q 2, 400, .inl (s0.2.2.2 2)))] s.heap := hP
  have hD : va_D _ [((a0 0), .inr (6, [.ref (a0 1), .ref (a0 2), .int (s0.1 0), .ref (a0 3), .ref (a0 5), .ref (a0 4), .long s0.2.1, .int (s0.1 1), .int (s0.1 2), .ref (a0 6), .int (s0.1 3), .int (s0.1 4), .ref (a0 7), .int (s0.1 5), .int (s0.1 6), .int (s0.1 7), .int (s0.1 8), .int (s0.1 9), .int (s0.1 10), .int (s0.1 11), .int (s0.1 12), .int (s0.1 13), .int (s0.1 14)])), ((a0 1), .inl (q 1, 6896, .inr (.inl (s0.2.2.1 0)))), ((a0 2), .inl (q 1, 68960, .inr (.inl (s0.2.2.1 1)))), ((a0 3), .inl (q 1, 13792, .inr (.inl (s0.2.2.1 2)))), ((a0 4), .inl (q 1, 6896, .inr (.inl (s0.2.2.1 3)))), ((a0 5), .inl (q 3, 2, .inl (s0.2.2.2 0))), ((a0 6), .inl (q 0, 40, .inl (s0.2.2.2 1))), ((a0 7), .inl (q 2, 400, .inl (s0.2.2.2 2)))] := hD
  unfold wp_X7_row at h
  refine lv_aload_n hx hb dX7_row_0 rfl (lv_at hl 0 rfl) ?_
  refine fl_get (C := RX7) (T := TX7) (N := 23) (ci := 6) (v := .int (s0.1 5)) hx hb ht in_X7 hown hK hP 0 rfl rfl 13 (by decide) mw_1143 rfl dX7_row_1 ?_
  refine lv_istore_n (lv' := [(2, .int (s0.1 5)), (0, .ref (a0 0)), (1, .int x1)]) hx hb dX7_row_4 rfl hl (by decide) rfl (fun ls hl => ?_)
  refine lv_aload_n hx hb dX7_row_5 rfl (lv_at hl 1 rfl) ?_
  refine lv_iconst (v := 0) hx hb dX7_row_6 (by decide) ?_
  refine fl_put (C := RX7) (T := TX7) (N := 23) (ci := 6) (v := .int 0) (ws2 := [((a0 0), .inr (6, [.ref (a0 1), .ref (a0 2), .int (s0.1 0), .ref (a0 3), .ref (a0 5), .ref (a0 4), .long s0.2.1, .int (s0.1 1), .int (s0.1 2), .ref (a0 6), .int (s0.1 3), .int (s0.1 4), .ref (a0 7), .int 0, .int (s0.1 6), .int (s0.1 7), .int (s0.1 8), .int (s0.1 9), .int (s0.1 10), .int (s0.1 11), .int (s0.1 12), .int (s0.1 13), .int (s0.1 14)])), ((a0 1), .inl (q 1, 6896, .inr (.inl (s0.2.2.1 0)))), ((a0 2), .inl (q 1, 68960, .inr (.inl (s0.2.2.1 1)))), ((a0 3), .inl (q 1, 13792, .inr (.inl (s0.2.2.1 2)))), ((a0 4), .inl (q 1, 6896, .inr (.inl (s0.2.2.1 3)))), ((a0 5), .inl (q 3, 2, .inl (s0.2.2.2 0))), ((a0 6), .inl (q 0, 40, .inl (s0.2.2.2 1))), ((a0 7), .inl (q 2, 400, .inl (s0.2.2.2 2)))]) hx hb ht in_X7 tyX7_ok nmX7 hown hK hP hD hS 0 rfl rfl 13 (by decide) mw_1143 rfl rfl rfl (Nat.le_of_ble_eq_true rfl) dX7_row_7 rfl (fun H locs hP hD hS => ?_)
  refine lv_aload_n hx hb dX7_row_10 rfl (lv_at hl 1 rfl) ?_
  refine lv_iload_n hx hb dX7_row_11 rfl (lv_at hl 2 rfl) ?_
  refine vp_callSi (rd_wV (wc := md_v a0 q ((va_up s0.1 5 0), s0.2.1, s0.2.2.1, s0.2.2.2)) (As := [.int x1]) (rest := []) hx hb hml hown ht (c2_X7_isRow h) wd_X7_isRow mw_1205 hQ hV hS (hP.sub [0, 1, 2, 3, 4, 5, 6, 7] rfl) rfl rfl rfl hl.1 rfl (Nat.le_of_ble_eq_true rfl) dX7_row_12 ⟨Nat.le_of_ble_eq_true rfl, Nat.le_of_ble_eq_true rfl, rfl, rfl⟩ ⟨Nat.le_of_ble_eq_true rfl, Nat.le_of_ble_eq_true rfl⟩) (fun r_1 h => ?_)
  try dsimp only at h
  refine lv_if_ne (tgt := 20) hx hb dX7_row_15 (by decide) (fun c_3 => ?_) (fun c_3 => ?_)
  · replace h := h.1 c_3
    refine lv_aload_n hx hb dX7_row_20 rfl (lv_at hl 1 rfl) ?_
    refine lv_iload_n hx hb dX7_row_21 rfl (lv_at hl 0 rfl) ?_
    refine vp_callSi (rd_wV (wc := md_v a0 q ((va_up s0.1 5 0), s0.2.1, s0.2.2.1, s0.2.2.2)) (As := [.int (s0.1 5)]) (rest := []) hx hb hml hown ht (c2_X7_isRowText h) wd_X7_isRowText mw_1216 hQ hV hS (hP.sub [0, 1, 2, 3, 4, 5, 6, 7] rfl) rfl rfl rfl hl.1 rfl (Nat.le_of_ble_eq_true rfl) dX7_row_22 ⟨Nat.le_of_ble_eq_true rfl, Nat.le_of_ble_eq_true rfl, rfl, rfl⟩ ⟨Nat.le_of_ble_eq_true rfl, Nat.le_of_ble_eq_true rfl⟩) (fun r_4 h => ?_)
    try dsimp only at h
    refine lv_if_ne (tgt := 31) hx hb dX7_row_25 (by decide) (fun c_6 => ?_) (fun c_6 => ?_)
    · replace h := h.1 c_6
      refine lv_aload_n hx hb dX7_row_31 rfl (lv_at hl 1 rfl) ?_
      refine mt_gov (mt_wV (wc := md_v a0 q ((va_up s0.1 5 0), s0.2.1, s0.2.2.1, s0.2.2.2)) (As := []) (rest := []) hx hb hml hown ht (c2_X7_keepsAct h) wd_X7_keepsAct mw_1233 hQ hV hS hA (hP.sub [0, 1, 2, 3, 4, 5, 6, 7] rfl) (hD.sub [0, 1, 2, 3, 4, 5, 6, 7] (by decide) rfl) rfl rfl rfl hl.1 rfl (Nat.le_of_ble_eq_true rfl) dX7_row_32 ⟨Nat.le_of_ble_eq_true rfl, Nat.le_of_ble_eq_true rfl, rfl, rfl⟩ ⟨Nat.le_of_ble_eq_true rfl, Nat.le_of_ble_eq_true rfl⟩) (wr := []) hP hD hS hA [0, 1, 2, 3, 4, 5, 6, 7] [] rfl rfl (by decide) (by decide) (fun u_8 H locs h hP hD hS => ?_)
      try dsimp only at h
      have hP : va_P D vwCl [((a0 0), .inr (6, [.ref (a0 1), .ref (a0 2), .int (u_8.1 0), .ref (a0 3), .ref (a0 5), .ref (a0 4), .long u_8.2.1, .int (u_8.1 1), .int (u_8.1 2), .ref (a0 6), .int (u_8.1 3), .int (u_8.1 4), .ref (a0 7), .int (u_8.1 5), .int (u_8.1 6), .int (u_8.1 7), .int (u_8.1 8), .int (u_8.1 9), .int (u_8.1 10), .int (u_8.1 11), .int (u_8.1 12), .int (u_8.1 13), .int (u_8.1 14)])), ((a0 1), .inl (q 1, 6896, .inr (.inl (u_8.2.2.1 0)))), ((a0 2), .inl (q 1, 68960, .inr (.inl (u_8.2.2.1 1)))), ((a0 3), .inl (q 1, 13792, .inr (.inl (u_8.2.2.1 2)))), ((a0 4), .inl (q 1, 6896, .inr (.inl (u_8.2.2.1 3)))), ((a0 5), .inl (q 3, 2, .inl (u_8.2.2.2 0))), ((a0 6), .inl (q 0, 40, .inl (u_8.2.2.2 1))), ((a0 7), .inl (q 2, 400, .inl (u_8.2.2.2 2)))] H := hP
      have hD : va_D _ [((a0 0), .inr (6, [.ref (a0 1), .ref (a0 2), .int (u_8.1 0), .ref (a0 3), .ref (a0 5), .ref (a0 4), .long u_8.2.1, .int (u_8.1 1), .int (u_8.1 2), .ref (a0 6), .int (u_8.1 3), .int (u_8.1 4), .ref (a0 7), .int (u_8.1 5), .int (u_8.1 6), .int (u_8.1 7), .int (u_8.1 8), .int (u_8.1 9), .int (u_8.1 10), .int (u_8.1 11), .int (u_8.1 12), .int (u_8.1 13), .int (u_8.1 14)])), ((a0 1), .inl (q 1, 6896, .inr (.inl (u_8.2.2.1 0)))), ((a0 2), .inl (q 1, 68960, .inr (.inl (u_8.2.2.1 1)))), ((a0 3), .inl (q 1, 13792, .inr (.inl (u_8.2.2.1 2)))), ((a0 4), .inl (q 1, 6896, .inr (.inl (u_8.2.2.1 3)))), ((a0 5), .inl (q 3, 2, .inl (u_8.2.2.2 0))), ((a0 6), .inl (q 0, 40, .inl (u_8.2.2.2 1))), ((a0 7), .inl (q 2, 400, .inl (u_8.2.2.2 2)))] := hD
      refine lv_aload_n hx hb dX7_row_35 rfl (lv_at hl 1 rfl) ?_
      refine lv_iload_n hx hb dX7_row_36 rfl (lv_at hl 2 rfl) ?_
      refine lv_iconst (v := 0) hx hb dX7_row_37 (by decide) ?_
      refine lv_iload_n hx hb dX7_row_38 rfl (lv_at hl 0 rfl) ?_
      refine lv_iconst (v := 1) hx hb dX7_row_39 (by decide) ?_
      refine mt_goi (mt_wV (wc := md_v a0 q u_8) (As := [.int x1, .int 0, .int (s0.1 5), .int 1]) (rest := []) hx hb hml hown ht (c2_X7_wantsSigns h) wd_X7_wantsSigns mw_1237 hQ hV hS hA (hP.sub [0, 1, 2, 3, 4, 5, 6, 7] rfl) (hD.sub [0, 1, 2, 3, 4, 5, 6, 7] (by decide) rfl) rfl rfl rfl hl.1 rfl (Nat.le_of_ble_eq_true rfl) dX7_row_40 ⟨Nat.le_of_ble_eq_true rfl, Nat.le_of_ble_eq_true rfl, rfl, rfl⟩ ⟨Nat.le_of_ble_eq_true rfl, Nat.le_of_ble_eq_true rfl⟩) (wr := []) hP hD hS hA [0, 1, 2, 3, 4, 5, 6, 7] [] rfl rfl (by decide) (by decide) (fun r_9 u_10 H locs h hP hD hS => ?_)
      try dsimp only at h
      have hP : va_P D vwCl [((a0 0), .inr (6, [.ref (a0 1), .ref (a0 2), .int (u_10.1 0), .ref (a0 3), .ref (a0 5), .ref (a0 4), .long u_10.2.1, .int (u_10.1 1), .int (u_10.1 2), .ref (a0 6), .int (u_10.1 3), .int (u_10.1 4), .ref (a0 7), .int (u_10.1 5), .int (u_10.1 6), .int (u_10.1 7), .int (u_10.1 8), .int (u_10.1 9), .int (u_10.1 10), .int (u_10.1 11), .int (u_10.1 12), .int (u_10.1 13), .int (u_10.1 14)])), ((a0 1), .inl (q 1, 6896, .inr (.inl (u_10.2.2.1 0)))), ((a0 2), .inl (q 1, 68960, .inr (.inl (u_10.2.2.1 1)))), ((a0 3), .inl (q 1, 13792, .inr (.inl (u_10.2.2.1 2)))), ((a0 4), .inl (q 1, 6896, .inr (.inl (u_10.2.2.1 3)))), ((a0 5), .inl (q 3, 2, .inl (u_10.2.2.2 0))), ((a0 6), .inl (q 0, 40, .inl (u_10.2.2.2 1))), ((a0 7), .inl (q 2, 400, .inl (u_10.2.2.2 2)))] H := hP
      have hD : va_D _ [((a0 0), .inr (6, [.ref (a0 1), .ref (a0 2), .int (u_10.1 0), .ref (a0 3), .ref (a0 5), .ref (a0 4), .long u_10.2.1, .int (u_10.1 1), .int (u_10.1 2), .ref (a0 6), .int (u_10.1 3), .int (u_10.1 4), .ref (a0 7), .int (u_10.1 5), .int (u_10.1 6), .int (u_10.1 7), .int (u_10.1 8), .int (u_10.1 9), .int (u_10.1 10), .int (u_10.1 11), .int (u_10.1 12), .int (u_10.1 13), .int (u_10.1 14)])), ((a0 1), .inl (q 1, 6896, .inr (.inl (u_10.2.2.1 0)))), ((a0 2), .inl (q 1, 68960, .inr (.inl (u_10.2.2.1 1)))), ((a0 3), .inl (q 1, 13792, .inr (.inl (u_10.2.2.1 2)))), ((a0 4), .inl (q 1, 6896, .inr (.inl (u_10.2.2.1 3)))), ((a0 5), .inl (q 3, 2, .inl (u_10.2.2.2 0))), ((a0 6), .inl (q 0, 40, .inl (u_10.2.2.2 1))), ((a0 7), .inl (q 2, 400, .inl (u_10.2.2.2 2)))] := hD
      exact mt_iret u_10 hx hb hr hk h (hP.sub (ws' := md_v a0 q u_10) [0, 1, 2, 3, 4, 5, 6, 7] rfl) (hD.sub (ws' := md_v a0 q u_10) [0, 1, 2, 3, 4, 5, 6, 7] (by decide) rfl) hS dX7_row_43
    · replace h := h.2 c_6
      refine lv_bipush (v := (-2)) hx hb dX7_row_28 (by decide) ?_
      exact mt_iret ((va_up s0.1 5 0), s0.2.1, s0.2.2.1, s0.2.2.2) hx hb hr hk h (hP.sub (ws' := md_v a0 q ((va_up s0.1 5 0), s0.2.1, s0.2.2.1, s0.2.2.2)) [0, 1, 2, 3, 4, 5, 6, 7] rfl) (hD.sub (ws' := md_v a0 q ((va_up s0.1 5 0), s0.2.1, s0.2.2.1, s0.2.2.2)) [0, 1, 2, 3, 4, 5, 6, 7] (by decide) rfl) hS dX7_row_30
  · replace h := h.2 c_3
    refine lv_iconst (v := (-1)) hx hb dX7_row_18 (by decide) ?_
    exact mt_iret ((va_up s0.1 5 0), s0.2.1, s0.2.2.1, s0.2.2.2) hx hb hr hk h (hP.sub (ws' := md_v a0 q ((va_up s0.1 5 0), s0.2.1, s0.2.2.1, s0.2.2.2)) [0, 1, 2, 3, 4, 5, 6, 7] rfl) (hD.sub (ws' := md_v a0 q ((va_up s0.1 5 0), s0.2.1, s0.2.2.1, s0.2.2.2)) [0, 1, 2, 3, 4, 5, 6, 7] (by decide) rfl) hS dX7_row_19

def wp_X7_scroll (post : Int32 → Md → Prop) (s0 : Md) : Prop := wp_X7_isBoard (fun r_1 => ((¬ r_1 = 0 → wp_X7_isRowText (fun r_4 => ((¬ r_4 = 0 → wp_X7_keepsAct (fun u_8 => wp_X7_scrolls (fun r_9 u_10 => post r_9 u_10) u_8 (0 : Int32) (s0.1 5)) ((va_up s0.1 5 0), s0.2.1, s0.2.2.1, s0.2.2.2)) ∧ (r_4 = 0 → post (-2) ((va_up s0.1 5 0), s0.2.1, s0.2.2.1, s0.2.2.2)))) ((va_up s0.1 5 0), s0.2.1, s0.2.2.1, s0.2.2.2) (s0.1 5)) ∧ (r_1 = 0 → post (-1) ((va_up s0.1 5 0), s0.2.1, s0.2.2.1, s0.2.2.2)))) ((va_up s0.1 5 0), s0.2.1, s0.2.2.1, s0.2.2.2)
set_option maxHeartbeats 4000000 in
set_option maxRecDepth 100000 in
theorem c2_X7_scroll {l : Launch} {D : va_G} {q : Nat → ClassId} {sz : Nat} {a0 : Nat → Nat} {s0 : Md} {post : Int32 → Md → Prop} (h : wp_X7_scroll post s0) : Met l yX7_scroll (Cond.code yX7_scroll cX7_scroll 2 (some .int) :: w_all) ({ frames := 5, cells := 0, slots := 0, locals := 120 } : Room) (mt_P D q [.ref (a0 0)] (md_v a0 q s0) sz) (va_Qi (fun r (u : Md) => post r u) (mt_B D (md_v a0 q s0) sz (fun u : Md => md_v a0 q u)) (va_A (md_v a0 q s0) sz)) 0 0 (va_A (md_v a0 q s0) sz) := by
  refine mt_start (by decide) (Nat.le_of_ble_eq_true rfl) ?_
  intro p e s m below meth c ls hx hb hr hml hown ht hk hin hP hQ hD hA hS hV hl
  have hK := hQ.1
  have hown : s.vm.findClass RX7 = some m.cls := hown
  have hl : lv_has ls 2 [(0, .ref (a0 0))] := hl
  have hP : va_P D vwCl [((a0 0), .inr (6, [.ref (a0 1), .ref (a0 2), .int (s0.1 0), .ref (a0 3), .ref (a0 5), .ref (a0 4), .long s0.2.1, .int (s0.1 1), .int (s0.1 2), .ref (a0 6), .int (s0.1 3), .int (s0.1 4), .ref (a0 7), .int (s0.1 5), .int (s0.1 6), .int (s0.1 7), .int (s0.1 8), .int (s0.1 9), .int (s0.1 10), .int (s0.1 11), .int (s0.1 12), .int (s0.1 13), .int (s0.1 14)])), ((a0 1), .inl (q 1, 6896, .inr (.inl (s0.2.2.1 0)))), ((a0 2), .inl (q 1, 68960, .inr (.inl (s0.2.2.1 1)))), ((a0 3), .inl (q 1, 13792, .inr (.inl (s0.2.2.1 2)))), ((a0 4), .inl (q 1, 6896, .inr (.inl (s0.2.2.1 3)))), ((a0 5), .inl (q 3, 2, .inl (s0.2.2.2 0))), ((a0 6), .inl (q 0, 40, .inl (s0.2.2.2 1))), ((a0 7), .inl (q 2, 400, .inl (s0.2.2.2 2)))] s.heap := hP
  have hD : va_D _ [((a0 0), .inr (6, [.ref (a0 1), .ref (a0 2), .int (s0.1 0), .ref (a0 3), .ref (a0 5), .ref (a0 4), .long s0.2.1, .int (s0.1 1), .int (s0.1 2), .ref (a0 6), .int (s0.1 3), .int (s0.1 4), .ref (a0 7), .int (s0.1 5), .int (s0.1 6), .int (s0.1 7), .int (s0.1 8), .int (s0.1 9), .int (s0.1 10), .int (s0.1 11), .int (s0.1 12), .int (s0.1 13), .int (s0.1 14)])), ((a0 1), .inl (q 1, 6896, .inr (.inl (s0.2.2.1 0)))), ((a0 2), .inl (q 1, 68960, .inr (.inl (s0.2.2.1 1)))), ((a0 3), .inl (q 1, 13792, .inr (.inl (s0.2.2.1 2)))), ((a0 4), .inl (q 1, 6896, .inr (.inl (s0.2.2.1 3)))), ((a0 5), .inl (q 3, 2, .inl (s0.2.2.2 0))), ((a0 6), .inl (q 0, 40, .inl (s0.2.2.2 1))), ((a0 7), .inl (q 2, 400, .inl (s0.2.2.2 2)))] := hD
  unfold wp_X7_scroll at h
  refine lv_aload_n hx hb dX7_scroll_0 rfl (lv_at hl 0 rfl) ?_
  refine fl_get (C := RX7) (T := TX7) (N := 23) (ci := 6) (v := .int (s0.1 5)) hx hb ht in_X7 hown hK hP 0 rfl rfl 13 (by decide) mw_1143 rfl dX7_scroll_1 ?_
  refine lv_istore_n (lv' := [(1, .int (s0.1 5)), (0, .ref (a0 0))]) hx hb dX7_scroll_4 rfl hl (by decide) rfl (fun ls hl => ?_)
  refine lv_aload_n hx hb dX7_scroll_5 rfl (lv_at hl 1 rfl) ?_
  refine lv_iconst (v := 0) hx hb dX7_scroll_6 (by decide) ?_
  refine fl_put (C := RX7) (T := TX7) (N := 23) (ci := 6) (v := .int 0) (ws2 := [((a0 0), .inr (6, [.ref (a0 1), .ref (a0 2), .int (s0.1 0), .ref (a0 3), .ref (a0 5), .ref (a0 4), .long s0.2.1, .int (s0.1 1), .int (s0.1 2), .ref (a0 6), .int (s0.1 3), .int (s0.1 4), .ref (a0 7), .int 0, .int (s0.1 6), .int (s0.1 7), .int (s0.1 8), .int (s0.1 9), .int (s0.1 10), .int (s0.1 11), .int (s0.1 12), .int (s0.1 13), .int (s0.1 14)])), ((a0 1), .inl (q 1, 6896, .inr (.inl (s0.2.2.1 0)))), ((a0 2), .inl (q 1, 68960, .inr (.inl (s0.2.2.1 1)))), ((a0 3), .inl (q 1, 13792, .inr (.inl (s0.2.2.1 2)))), ((a0 4), .inl (q 1, 6896, .inr (.inl (s0.2.2.1 3)))), ((a0 5), .inl (q 3, 2, .inl (s0.2.2.2 0))), ((a0 6), .inl (q 0, 40, .inl (s0.2.2.2 1))), ((a0 7), .inl (q 2, 400, .inl (s0.2.2.2 2)))]) hx hb ht in_X7 tyX7_ok nmX7 hown hK hP hD hS 0 rfl rfl 13 (by decide) mw_1143 rfl rfl rfl (Nat.le_of_ble_eq_true rfl) dX7_scroll_7 rfl (fun H locs hP hD hS => ?_)
  refine lv_aload_n hx hb dX7_scroll_10 rfl (lv_at hl 1 rfl) ?_
  refine vp_callSi (rd_wV (wc := md_v a0 q ((va_up s0.1 5 0), s0.2.1, s0.2.2.1, s0.2.2.2)) (As := []) (rest := []) hx hb hml hown ht (c2_X7_isBoard h) wd_X7_isBoard mw_1283 hQ hV hS (hP.sub [0, 1, 2, 3, 4, 5, 6, 7] rfl) rfl rfl rfl hl.1 rfl (Nat.le_of_ble_eq_true rfl) dX7_scroll_11 ⟨Nat.le_of_ble_eq_true rfl, Nat.le_of_ble_eq_true rfl, rfl, rfl⟩ ⟨Nat.le_of_ble_eq_true rfl, Nat.le_of_ble_eq_true rfl⟩) (fun r_1 h => ?_)
  try dsimp only at h
  refine lv_if_ne (tgt := 19) hx hb dX7_scroll_14 (by decide) (fun c_3 => ?_) (fun c_3 => ?_)
  · replace h := h.1 c_3
    refine lv_aload_n hx hb dX7_scroll_19 rfl (lv_at hl 1 rfl) ?_
    refine lv_iload_n hx hb dX7_scroll_20 rfl (lv_at hl 0 rfl) ?_
    refine vp_callSi (rd_wV (wc := md_v a0 q ((va_up s0.1 5 0), s0.2.1, s0.2.2.1, s0.2.2.2)) (As := [.int (s0.1 5)]) (rest := []) hx hb hml hown ht (c2_X7_isRowText h) wd_X7_isRowText mw_1216 hQ hV hS (hP.sub [0, 1, 2, 3, 4, 5, 6, 7] rfl) rfl rfl rfl hl.1 rfl (Nat.le_of_ble_eq_true rfl) dX7_scroll_21 ⟨Nat.le_of_ble_eq_true rfl, Nat.le_of_ble_eq_true rfl, rfl, rfl⟩ ⟨Nat.le_of_ble_eq_true rfl, Nat.le_of_ble_eq_true rfl⟩) (fun r_4 h => ?_)
    try dsimp only at h
    refine lv_if_ne (tgt := 30) hx hb dX7_scroll_24 (by decide) (fun c_6 => ?_) (fun c_6 => ?_)
    · replace h := h.1 c_6
      refine lv_aload_n hx hb dX7_scroll_30 rfl (lv_at hl 1 rfl) ?_
      refine mt_gov (mt_wV (wc := md_v a0 q ((va_up s0.1 5 0), s0.2.1, s0.2.2.1, s0.2.2.2)) (As := []) (rest := []) hx hb hml hown ht (c2_X7_keepsAct h) wd_X7_keepsAct mw_1233 hQ hV hS hA (hP.sub [0, 1, 2, 3, 4, 5, 6, 7] rfl) (hD.sub [0, 1, 2, 3, 4, 5, 6, 7] (by decide) rfl) rfl rfl rfl hl.1 rfl (Nat.le_of_ble_eq_true rfl) dX7_scroll_31 ⟨Nat.le_of_ble_eq_true rfl, Nat.le_of_ble_eq_true rfl, rfl, rfl⟩ ⟨Nat.le_of_ble_eq_true rfl, Nat.le_of_ble_eq_true rfl⟩) (wr := []) hP hD hS hA [0, 1, 2, 3, 4, 5, 6, 7] [] rfl rfl (by decide) (by decide) (fun u_8 H locs h hP hD hS => ?_)
      try dsimp only at h
      have hP : va_P D vwCl [((a0 0), .inr (6, [.ref (a0 1), .ref (a0 2), .int (u_8.1 0), .ref (a0 3), .ref (a0 5), .ref (a0 4), .long u_8.2.1, .int (u_8.1 1), .int (u_8.1 2), .ref (a0 6), .int (u_8.1 3), .int (u_8.1 4), .ref (a0 7), .int (u_8.1 5), .int (u_8.1 6), .int (u_8.1 7), .int (u_8.1 8), .int (u_8.1 9), .int (u_8.1 10), .int (u_8.1 11), .int (u_8.1 12), .int (u_8.1 13), .int (u_8.1 14)])), ((a0 1), .inl (q 1, 6896, .inr (.inl (u_8.2.2.1 0)))), ((a0 2), .inl (q 1, 68960, .inr (.inl (u_8.2.2.1 1)))), ((a0 3), .inl (q 1, 13792, .inr (.inl (u_8.2.2.1 2)))), ((a0 4), .inl (q 1, 6896, .inr (.inl (u_8.2.2.1 3)))), ((a0 5), .inl (q 3, 2, .inl (u_8.2.2.2 0))), ((a0 6), .inl (q 0, 40, .inl (u_8.2.2.2 1))), ((a0 7), .inl (q 2, 400, .inl (u_8.2.2.2 2)))] H := hP
      have hD : va_D _ [((a0 0), .inr (6, [.ref (a0 1), .ref (a0 2), .int (u_8.1 0), .ref (a0 3), .ref (a0 5), .ref (a0 4), .long u_8.2.1, .int (u_8.1 1), .int (u_8.1 2), .ref (a0 6), .int (u_8.1 3), .int (u_8.1 4), .ref (a0 7), .int (u_8.1 5), .int (u_8.1 6), .int (u_8.1 7), .int (u_8.1 8), .int (u_8.1 9), .int (u_8.1 10), .int (u_8.1 11), .int (u_8.1 12), .int (u_8.1 13), .int (u_8.1 14)])), ((a0 1), .inl (q 1, 6896, .inr (.inl (u_8.2.2.1 0)))), ((a0 2), .inl (q 1, 68960, .inr (.inl (u_8.2.2.1 1)))), ((a0 3), .inl (q 1, 13792, .inr (.inl (u_8.2.2.1 2)))), ((a0 4), .inl (q 1, 6896, .inr (.inl (u_8.2.2.1 3)))), ((a0 5), .inl (q 3, 2, .inl (u_8.2.2.2 0))), ((a0 6), .inl (q 0, 40, .inl (u_8.2.2.2 1))), ((a0 7), .inl (q 2, 400, .inl (u_8.2.2.2 2)))] := hD
      refine lv_aload_n hx hb dX7_scroll_34 rfl (lv_at hl 1 rfl) ?_
      refine lv_iconst (v := 0) hx hb dX7_scroll_35 (by decide) ?_
      refine lv_iload_n hx hb dX7_scroll_36 rfl (lv_at hl 0 rfl) ?_
      refine mt_goi (mt_wV (wc := md_v a0 q u_8) (As := [.int 0, .int (s0.1 5)]) (rest := []) hx hb hml hown ht (c2_X7_scrolls h) wd_X7_scrolls mw_1291 hQ hV hS hA (hP.sub [0, 1, 2, 3, 4, 5, 6, 7] rfl) (hD.sub [0, 1, 2, 3, 4, 5, 6, 7] (by decide) rfl) rfl rfl rfl hl.1 rfl (Nat.le_of_ble_eq_true rfl) dX7_scroll_37 ⟨Nat.le_of_ble_eq_true rfl, Nat.le_of_ble_eq_true rfl, rfl, rfl⟩ ⟨Nat.le_of_ble_eq_true rfl, Nat.le_of_ble_eq_true rfl⟩) (wr := []) hP hD hS hA [0, 1, 2, 3, 4, 5, 6, 7] [] rfl rfl (by decide) (by decide) (fun r_9 u_10 H locs h hP hD hS => ?_)
      try dsimp only at h
      have hP : va_P D vwCl [((a0 0), .inr (6, [.ref (a0 1), .ref (a0 2), .int (u_10.1 0), .ref (a0 3), .ref (a0 5), .ref (a0 4), .long u_10.2.1, .int (u_10.1 1), .int (u_10.1 2), .ref (a0 6), .int (u_10.1 3), .int (u_10.1 4), .ref (a0 7), .int (u_10.1 5), .int (u_10.1 6), .int (u_10.1 7), .int (u_10.1 8), .int (u_10.1 9), .int (u_10.1 10), .int (u_10.1 11), .int (u_10.1 12), .int (u_10.1 13), .int (u_10.1 14)])), ((a0 1), .inl (q 1, 6896, .inr (.inl (u_10.2.2.1 0)))), ((a0 2), .inl (q 1, 68960, .inr (.inl (u_10.2.2.1 1)))), ((a0 3), .inl (q 1, 13792, .inr (.inl (u_10.2.2.1 2)))), ((a0 4), .inl (q 1, 6896, .inr (.inl (u_10.2.2.1 3)))), ((a0 5), .inl (q 3, 2, .inl (u_10.2.2.2 0))), ((a0 6), .inl (q 0, 40, .inl (u_10.2.2.2 1))), ((a0 7), .inl (q 2, 400, .inl (u_10.2.2.2 2)))] H := hP
      have hD : va_D _ [((a0 0), .inr (6, [.ref (a0 1), .ref (a0 2), .int (u_10.1 0), .ref (a0 3), .ref (a0 5), .ref (a0 4), .long u_10.2.1, .int (u_10.1 1), .int (u_10.1 2), .ref (a0 6), .int (u_10.1 3), .int (u_10.1 4), .ref (a0 7), .int (u_10.1 5), .int (u_10.1 6), .int (u_10.1 7), .int (u_10.1 8), .int (u_10.1 9), .int (u_10.1 10), .int (u_10.1 11), .int (u_10.1 12), .int (u_10.1 13), .int (u_10.1 14)])), ((a0 1), .inl (q 1, 6896, .inr (.inl (u_10.2.2.1 0)))), ((a0 2), .inl (q 1, 68960, .inr (.inl (u_10.2.2.1 1)))), ((a0 3), .inl (q 1, 13792, .inr (.inl (u_10.2.2.1 2)))), ((a0 4), .inl (q 1, 6896, .inr (.inl (u_10.2.2.1 3)))), ((a0 5), .inl (q 3, 2, .inl (u_10.2.2.2 0))), ((a0 6), .inl (q 0, 40, .inl (u_10.2.2.2 1))), ((a0 7), .inl (q 2, 400, .inl (u_10.2.2.2 2)))] := hD
      exact mt_iret u_10 hx hb hr hk h (hP.sub (ws' := md_v a0 q u_10) [0, 1, 2, 3, 4, 5, 6, 7] rfl) (hD.sub (ws' := md_v a0 q u_10) [0, 1, 2, 3, 4, 5, 6, 7] (by decide) rfl) hS dX7_scroll_40
    · replace h := h.2 c_6
      refine lv_bipush (v := (-2)) hx hb dX7_scroll_27 (by decide) ?_
      exact mt_iret ((va_up s0.1 5 0), s0.2.1, s0.2.2.1, s0.2.2.2) hx hb hr hk h (hP.sub (ws' := md_v a0 q ((va_up s0.1 5 0), s0.2.1, s0.2.2.1, s0.2.2.2)) [0, 1, 2, 3, 4, 5, 6, 7] rfl) (hD.sub (ws' := md_v a0 q ((va_up s0.1 5 0), s0.2.1, s0.2.2.1, s0.2.2.2)) [0, 1, 2, 3, 4, 5, 6, 7] (by decide) rfl) hS dX7_scroll_29
  · replace h := h.2 c_3
    refine lv_iconst (v := (-1)) hx hb dX7_scroll_17 (by decide) ?_
    exact mt_iret ((va_up s0.1 5 0), s0.2.1, s0.2.2.1, s0.2.2.2) hx hb hr hk h (hP.sub (ws' := md_v a0 q ((va_up s0.1 5 0), s0.2.1, s0.2.2.1, s0.2.2.2)) [0, 1, 2, 3, 4, 5, 6, 7] rfl) (hD.sub (ws' := md_v a0 q ((va_up s0.1 5 0), s0.2.1, s0.2.2.1, s0.2.2.2)) [0, 1, 2, 3, 4, 5, 6, 7] (by decide) rfl) hS dX7_scroll_18

def wp_X7_tick_L29 (post : Int32 → Md → Prop) (e47 : Md → Int32 → Int32 → Int32 → Prop) : Nat → Md → Int32 → Int32 → Int32 → Prop
  | 0, _, _, _, _ => False
  | n29 + 1, t0, z1, z2, z3 => ((z1 ≤ z3 → e47 t0 z1 z2 z3) ∧ (¬ z1 ≤ z3 → wp_X7_ticks (fun r_10 u_11 => wp_X7_tick_L29 post e47 n29 u_11 z1 (z2 + r_10) (z3 + 1)) t0))
def wp_X7_tick (post : Int32 → Md → Prop) (s0 : Md) (x1 : Int32) : Prop := wp_X7_isBoard (fun r_1 => ((r_1 = 0 → post (-1) s0) ∧ (¬ r_1 = 0 → wp_X7_in (fun r_4 => ((¬ r_4 = 0 → wp_X7_keepsAct (fun u_8 => (∃ n29, wp_X7_tick_L29 post (fun t0 z1 z2 z3 => post z2 t0) n29 u_8 x1 0 0)) s0) ∧ (r_4 = 0 → post (-1) s0))) (Int32.toInt64 x1) (1 : Int64) (99 : Int64)))) s0
set_option maxHeartbeats 4000000 in
set_option maxRecDepth 100000 in
theorem c2_X7_tick {l : Launch} {D : va_G} {q : Nat → ClassId} {sz : Nat} {a0 : Nat → Nat} {s0 : Md} {x1 : Int32} {post : Int32 → Md → Prop} (h : wp_X7_tick post s0 x1) : Met l yX7_tick (Cond.code yX7_tick cX7_tick 4 (some .int) :: w_all) ({ frames := 5, cells := 0, slots := 0, locals := 110 } : Room) (mt_P D q [.ref (a0 0), .int x1] (md_v a0 q s0) sz) (va_Qi (fun r (u : Md) => post r u) (mt_B D (md_v a0 q s0) sz (fun u : Md => md_v a0 q u)) (va_A (md_v a0 q s0) sz)) 0 0 (va_A (md_v a0 q s0) sz) := by
  refine mt_start (by decide) (Nat.le_of_ble_eq_true rfl) ?_
  intro p e s m below meth c ls hx hb hr hml hown ht hk hin hP hQ hD hA hS hV hl
  have hK := hQ.1
  have hown : s.vm.findClass RX7 = some m.cls := hown
  have hl : lv_has ls 4 [(0, .ref (a0 0)), (1, .int x1)] := hl
  have hP : va_P D vwCl [((a0 0), .inr (6, [.ref (a0 1), .ref (a0 2), .int (s0.1 0), .ref (a0 3), .ref (a0 5), .ref (a0 4), .long s0.2.1, .int (s0.1 1), .int (s0.1 2), .ref (a0 6), .int (s0.1 3), .int (s0.1 4), .ref (a0 7), .int (s0.1 5), .int (s0.1 6), .int (s0.1 7), .int (s0.1 8), .int (s0.1 9), .int (s0.1 10), .int (s0.1 11), .int (s0.1 12), .int (s0.1 13), .int (s0.1 14)])), ((a0 1), .inl (q 1, 6896, .inr (.inl (s0.2.2.1 0)))), ((a0 2), .inl (q 1, 68960, .inr (.inl (s0.2.2.1 1)))), ((a0 3), .inl (q 1, 13792, .inr (.inl (s0.2.2.1 2)))), ((a0 4), .inl (q 1, 6896, .inr (.inl (s0.2.2.1 3)))), ((a0 5), .inl (q 3, 2, .inl (s0.2.2.2 0))), ((a0 6), .inl (q 0, 40, .inl (s0.2.2.2 1))), ((a0 7), .inl (q 2, 400, .inl (s0.2.2.2 2)))] s.heap := hP
  have hD : va_D _ [((a0 0), .inr (6, [.ref (a0 1), .ref (a0 2), .int (s0.1 0), .ref (a0 3), .ref (a0 5), .ref (a0 4), .long s0.2.1, .int (s0.1 1), .int (s0.1 2), .ref (a0 6), .int (s0.1 3), .int (s0.1 4), .ref (a0 7), .int (s0.1 5), .int (s0.1 6), .int (s0.1 7), .int (s0.1 8), .int (s0.1 9), .int (s0.1 10), .int (s0.1 11), .int (s0.1 12), .int (s0.1 13), .int (s0.1 14)])), ((a0 1), .inl (q 1, 6896, .inr (.inl (s0.2.2.1 0)))), ((a0 2), .inl (q 1, 68960, .inr (.inl (s0.2.2.1 1)))), ((a0 3), .inl (q 1, 13792, .inr (.inl (s0.2.2.1 2)))), ((a0 4), .inl (q 1, 6896, .inr (.inl (s0.2.2.1 3)))), ((a0 5), .inl (q 3, 2, .inl (s0.2.2.2 0))), ((a0 6), .inl (q 0, 40, .inl (s0.2.2.2 1))), ((a0 7), .inl (q 2, 400, .inl (s0.2.2.2 2)))] := hD
  unfold wp_X7_tick at h
  refine lv_aload_n hx hb dX7_tick_0 rfl (lv_at hl 0 rfl) ?_
  refine vp_callSi (rd_wV (wc := md_v a0 q s0) (As := []) (rest := []) hx hb hml hown ht (c2_X7_isBoard h) wd_X7_isBoard mw_1283 hQ hV hS (hP.sub [0, 1, 2, 3, 4, 5, 6, 7] rfl) rfl rfl rfl hl.1 rfl (Nat.le_of_ble_eq_true rfl) dX7_tick_1 ⟨Nat.le_of_ble_eq_true rfl, Nat.le_of_ble_eq_true rfl, rfl, rfl⟩ ⟨Nat.le_of_ble_eq_true rfl, Nat.le_of_ble_eq_true rfl⟩) (fun r_1 h => ?_)
  try dsimp only at h
  refine lv_if_eq (tgt := 19) hx hb dX7_tick_4 (by decide) (fun c_3 => ?_) (fun c_3 => ?_)
  · replace h := h.1 c_3
    refine lv_iconst (v := (-1)) hx hb dX7_tick_19 (by decide) ?_
    exact mt_iret s0 hx hb hr hk h (hP.sub (ws' := md_v a0 q s0) [0, 1, 2, 3, 4, 5, 6, 7] rfl) (hD.sub (ws' := md_v a0 q s0) [0, 1, 2, 3, 4, 5, 6, 7] (by decide) rfl) hS dX7_tick_20
  · replace h := h.2 c_3
    refine lv_iload_n hx hb dX7_tick_7 rfl (lv_at hl 1 rfl) ?_
    refine lv_i2l (v := (Int32.toInt64 x1)) hx hb dX7_tick_8 rfl ?_
    refine lv_lconst (v := 1) hx hb dX7_tick_9 (by decide) ?_
    refine lv_ldc2 (v := 99) hx hb hown (ht _ mw_1303) dX7_tick_10 ?_
    refine vp_callSi (rd_wS (wc := ([] : va_W)) (As := [.long (Int32.toInt64 x1), .long 1, .long 99]) (rest := []) hx hb hml hown ht (c2_X7_in h) wd_X7_in mw_1213 hQ hV hS (hP.sub [] rfl) rfl hl.1 rfl (Nat.le_of_ble_eq_true rfl) dX7_tick_13 ⟨Nat.le_of_ble_eq_true rfl, Nat.le_of_ble_eq_true rfl, rfl, rfl⟩ ⟨Nat.le_of_ble_eq_true rfl, Nat.le_of_ble_eq_true rfl⟩) (fun r_4 h => ?_)
    try dsimp only at h
    refine lv_if_ne (tgt := 21) hx hb dX7_tick_16 (by decide) (fun c_6 => ?_) (fun c_6 => ?_)
    · replace h := h.1 c_6
      refine lv_aload_n hx hb dX7_tick_21 rfl (lv_at hl 0 rfl) ?_
      refine mt_gov (mt_wV (wc := md_v a0 q s0) (As := []) (rest := []) hx hb hml hown ht (c2_X7_keepsAct h) wd_X7_keepsAct mw_1233 hQ hV hS hA (hP.sub [0, 1, 2, 3, 4, 5, 6, 7] rfl) (hD.sub [0, 1, 2, 3, 4, 5, 6, 7] (by decide) rfl) rfl rfl rfl hl.1 rfl (Nat.le_of_ble_eq_true rfl) dX7_tick_22 ⟨Nat.le_of_ble_eq_true rfl, Nat.le_of_ble_eq_true rfl, rfl, rfl⟩ ⟨Nat.le_of_ble_eq_true rfl, Nat.le_of_ble_eq_true rfl⟩) (wr := []) hP hD hS hA [0, 1, 2, 3, 4, 5, 6, 7] [] rfl rfl (by decide) (by decide) (fun u_8 H locs h hP hD hS => ?_)
      try dsimp only at h
      have hP : va_P D vwCl [((a0 0), .inr (6, [.ref (a0 1), .ref (a0 2), .int (u_8.1 0), .ref (a0 3), .ref (a0 5), .ref (a0 4), .long u_8.2.1, .int (u_8.1 1), .int (u_8.1 2), .ref (a0 6), .int (u_8.1 3), .int (u_8.1 4), .ref (a0 7), .int (u_8.1 5), .int (u_8.1 6), .int (u_8.1 7), .int (u_8.1 8), .int (u_8.1 9), .int (u_8.1 10), .int (u_8.1 11), .int (u_8.1 12), .int (u_8.1 13), .int (u_8.1 14)])), ((a0 1), .inl (q 1, 6896, .inr (.inl (u_8.2.2.1 0)))), ((a0 2), .inl (q 1, 68960, .inr (.inl (u_8.2.2.1 1)))), ((a0 3), .inl (q 1, 13792, .inr (.inl (u_8.2.2.1 2)))), ((a0 4), .inl (q 1, 6896, .inr (.inl (u_8.2.2.1 3)))), ((a0 5), .inl (q 3, 2, .inl (u_8.2.2.2 0))), ((a0 6), .inl (q 0, 40, .inl (u_8.2.2.2 1))), ((a0 7), .inl (q 2, 400, .inl (u_8.2.2.2 2)))] H := hP
      have hD : va_D _ [((a0 0), .inr (6, [.ref (a0 1), .ref (a0 2), .int (u_8.1 0), .ref (a0 3), .ref (a0 5), .ref (a0 4), .long u_8.2.1, .int (u_8.1 1), .int (u_8.1 2), .ref (a0 6), .int (u_8.1 3), .int (u_8.1 4), .ref (a0 7), .int (u_8.1 5), .int (u_8.1 6), .int (u_8.1 7), .int (u_8.1 8), .int (u_8.1 9), .int (u_8.1 10), .int (u_8.1 11), .int (u_8.1 12), .int (u_8.1 13), .int (u_8.1 14)])), ((a0 1), .inl (q 1, 6896, .inr (.inl (u_8.2.2.1 0)))), ((a0 2), .inl (q 1, 68960, .inr (.inl (u_8.2.2.1 1)))), ((a0 3), .inl (q 1, 13792, .inr (.inl (u_8.2.2.1 2)))), ((a0 4), .inl (q 1, 6896, .inr (.inl (u_8.2.2.1 3)))), ((a0 5), .inl (q 3, 2, .inl (u_8.2.2.2 0))), ((a0 6), .inl (q 0, 40, .inl (u_8.2.2.2 1))), ((a0 7), .inl (q 2, 400, .inl (u_8.2.2.2 2)))] := hD
      refine lv_iconst (v := 0) hx hb dX7_tick_25 (by decide) ?_
      refine lv_istore_n (lv' := [(2, .int 0), (0, .ref (a0 0)), (1, .int x1)]) hx hb dX7_tick_26 rfl hl (by decide) rfl (fun ls hl => ?_)
      refine lv_iconst (v := 0) hx hb dX7_tick_27 (by decide) ?_
      refine lv_istore_n (lv' := [(3, .int 0), (2, .int 0), (0, .ref (a0 0)), (1, .int x1)]) hx hb dX7_tick_28 rfl hl (by decide) rfl (fun ls hl => ?_)
      have lp29 : ∀ (e47 : Md → Int32 → Int32 → Int32 → Prop) (k47 : ∀ (t0 : Md) (z1 : Int32) (z2 : Int32) (z3 : Int32) (H : Heap) (locs : List Loc) (ls : Array Slot), e47 t0 z1 z2 z3 → va_P D vwCl (md_v a0 q t0) H → va_D (va_A (md_v a0 q s0) sz) (md_v a0 q t0) → va_S (va_A (md_v a0 q s0) sz) s.heap H locs → lv_has ls 4 [(1, .int z1), (2, .int z2), (3, .int z3), (0, .ref (a0 0))] → W p l e ({ frames := 5, cells := 0, slots := 0, locals := 110 } : Room) s m [.ref (a0 0), .int x1].toArray below meth c H locs 0 0 (MQ below (va_Qi (fun r (u : Md) => post r u) (mt_B D (md_v a0 q s0) sz (fun u : Md => md_v a0 q u)) (va_A (md_v a0 q s0) sz)) [.ref (a0 0), .int x1].toArray s 0 0 (va_A (md_v a0 q s0) sz)) (F0 m 47 ls [])) (n : Nat) (t0 : Md) (z1 : Int32) (z2 : Int32) (z3 : Int32) (H : Heap) (locs : List Loc) (ls : Array Slot), wp_X7_tick_L29 post e47 n t0 z1 z2 z3 → va_P D vwCl (md_v a0 q t0) H → va_D (va_A (md_v a0 q s0) sz) (md_v a0 q t0) → va_S (va_A (md_v a0 q s0) sz) s.heap H locs → lv_has ls 4 [(1, .int z1), (2, .int z2), (3, .int z3), (0, .ref (a0 0))] → W p l e ({ frames := 5, cells := 0, slots := 0, locals := 110 } : Room) s m [.ref (a0 0), .int x1].toArray below meth c H locs 0 0 (MQ below (va_Qi (fun r (u : Md) => post r u) (mt_B D (md_v a0 q s0) sz (fun u : Md => md_v a0 q u)) (va_A (md_v a0 q s0) sz)) [.ref (a0 0), .int x1].toArray s 0 0 (va_A (md_v a0 q s0) sz)) (F0 m 29 ls []) := by
        intro e47 k47 n
        induction n with
        | zero =>
          intro t0 z1 z2 z3 H locs ls h
          exact h.elim
        | succ n ih =>
          intro t0 z1 z2 z3 H locs ls h hP hD hS hl
          have hP : va_P D vwCl [((a0 0), .inr (6, [.ref (a0 1), .ref (a0 2), .int (t0.1 0), .ref (a0 3), .ref (a0 5), .ref (a0 4), .long t0.2.1, .int (t0.1 1), .int (t0.1 2), .ref (a0 6), .int (t0.1 3), .int (t0.1 4), .ref (a0 7), .int (t0.1 5), .int (t0.1 6), .int (t0.1 7), .int (t0.1 8), .int (t0.1 9), .int (t0.1 10), .int (t0.1 11), .int (t0.1 12), .int (t0.1 13), .int (t0.1 14)])), ((a0 1), .inl (q 1, 6896, .inr (.inl (t0.2.2.1 0)))), ((a0 2), .inl (q 1, 68960, .inr (.inl (t0.2.2.1 1)))), ((a0 3), .inl (q 1, 13792, .inr (.inl (t0.2.2.1 2)))), ((a0 4), .inl (q 1, 6896, .inr (.inl (t0.2.2.1 3)))), ((a0 5), .inl (q 3, 2, .inl (t0.2.2.2 0))), ((a0 6), .inl (q 0, 40, .inl (t0.2.2.2 1))), ((a0 7), .inl (q 2, 400, .inl (t0.2.2.2 2)))] H := hP
          have hD : va_D _ [((a0 0), .inr (6, [.ref (a0 1), .ref (a0 2), .int (t0.1 0), .ref (a0 3), .ref (a0 5), .ref (a0 4), .long t0.2.1, .int (t0.1 1), .int (t0.1 2), .ref (a0 6), .int (t0.1 3), .int (t0.1 4), .ref (a0 7), .int (t0.1 5), .int (t0.1 6), .int (t0.1 7), .int (t0.1 8), .int (t0.1 9), .int (t0.1 10), .int (t0.1 11), .int (t0.1 12), .int (t0.1 13), .int (t0.1 14)])), ((a0 1), .inl (q 1, 6896, .inr (.inl (t0.2.2.1 0)))), ((a0 2), .inl (q 1, 68960, .inr (.inl (t0.2.2.1 1)))), ((a0 3), .inl (q 1, 13792, .inr (.inl (t0.2.2.1 2)))), ((a0 4), .inl (q 1, 6896, .inr (.inl (t0.2.2.1 3)))), ((a0 5), .inl (q 3, 2, .inl (t0.2.2.2 0))), ((a0 6), .inl (q 0, 40, .inl (t0.2.2.2 1))), ((a0 7), .inl (q 2, 400, .inl (t0.2.2.2 2)))] := hD
          unfold wp_X7_tick_L29 at h
          refine lv_iload_n hx hb dX7_tick_29 rfl (lv_at hl 2 rfl) ?_
          refine lv_iload_n hx hb dX7_tick_30 rfl (lv_at hl 0 rfl) ?_
          refine lv_icmp_ge (tgt := 47) hx hb dX7_tick_31 (by decide) (fun c_9 => ?_) (fun c_9 => ?_)
          · replace h := h.1 c_9
            exact k47 _ _ _ _ _ _ ls h (hP.sub (ws' := md_v a0 q t0) [0, 1, 2, 3, 4, 5, 6, 7] rfl) (hD.sub (ws' := md_v a0 q t0) [0, 1, 2, 3, 4, 5, 6, 7] (by decide) rfl) hS (lv_sub hl [0, 1, 2, 3] rfl)
          · replace h := h.2 c_9
            refine lv_iload_n hx hb dX7_tick_34 rfl (lv_at hl 1 rfl) ?_
            refine lv_aload_n hx hb dX7_tick_35 rfl (lv_at hl 3 rfl) ?_
            refine mt_goi (mt_wV (wc := md_v a0 q t0) (As := []) (rest := [.int z2]) hx hb hml hown ht (c2_X7_ticks h) wd_X7_ticks mw_1304 hQ hV hS hA (hP.sub [0, 1, 2, 3, 4, 5, 6, 7] rfl) (hD.sub [0, 1, 2, 3, 4, 5, 6, 7] (by decide) rfl) rfl rfl rfl hl.1 rfl (Nat.le_of_ble_eq_true rfl) dX7_tick_36 ⟨Nat.le_of_ble_eq_true rfl, Nat.le_of_ble_eq_true rfl, rfl, rfl⟩ ⟨Nat.le_of_ble_eq_true rfl, Nat.le_of_ble_eq_true rfl⟩) (wr := []) hP hD hS hA [0, 1, 2, 3, 4, 5, 6, 7] [] rfl rfl (by decide) (by decide) (fun r_10 u_11 H locs h hP hD hS => ?_)
            try dsimp only at h
            have hP : va_P D vwCl [((a0 0), .inr (6, [.ref (a0 1), .ref (a0 2), .int (u_11.1 0), .ref (a0 3), .ref (a0 5), .ref (a0 4), .long u_11.2.1, .int (u_11.1 1), .int (u_11.1 2), .ref (a0 6), .int (u_11.1 3), .int (u_11.1 4), .ref (a0 7), .int (u_11.1 5), .int (u_11.1 6), .int (u_11.1 7), .int (u_11.1 8), .int (u_11.1 9), .int (u_11.1 10), .int (u_11.1 11), .int (u_11.1 12), .int (u_11.1 13), .int (u_11.1 14)])), ((a0 1), .inl (q 1, 6896, .inr (.inl (u_11.2.2.1 0)))), ((a0 2), .inl (q 1, 68960, .inr (.inl (u_11.2.2.1 1)))), ((a0 3), .inl (q 1, 13792, .inr (.inl (u_11.2.2.1 2)))), ((a0 4), .inl (q 1, 6896, .inr (.inl (u_11.2.2.1 3)))), ((a0 5), .inl (q 3, 2, .inl (u_11.2.2.2 0))), ((a0 6), .inl (q 0, 40, .inl (u_11.2.2.2 1))), ((a0 7), .inl (q 2, 400, .inl (u_11.2.2.2 2)))] H := hP
            have hD : va_D _ [((a0 0), .inr (6, [.ref (a0 1), .ref (a0 2), .int (u_11.1 0), .ref (a0 3), .ref (a0 5), .ref (a0 4), .long u_11.2.1, .int (u_11.1 1), .int (u_11.1 2), .ref (a0 6), .int (u_11.1 3), .int (u_11.1 4), .ref (a0 7), .int (u_11.1 5), .int (u_11.1 6), .int (u_11.1 7), .int (u_11.1 8), .int (u_11.1 9), .int (u_11.1 10), .int (u_11.1 11), .int (u_11.1 12), .int (u_11.1 13), .int (u_11.1 14)])), ((a0 1), .inl (q 1, 6896, .inr (.inl (u_11.2.2.1 0)))), ((a0 2), .inl (q 1, 68960, .inr (.inl (u_11.2.2.1 1)))), ((a0 3), .inl (q 1, 13792, .inr (.inl (u_11.2.2.1 2)))), ((a0 4), .inl (q 1, 6896, .inr (.inl (u_11.2.2.1 3)))), ((a0 5), .inl (q 3, 2, .inl (u_11.2.2.2 0))), ((a0 6), .inl (q 0, 40, .inl (u_11.2.2.2 1))), ((a0 7), .inl (q 2, 400, .inl (u_11.2.2.2 2)))] := hD
            refine lv_iadd hx hb dX7_tick_39 ?_
            refine lv_istore_n (lv' := [(2, .int (z2 + r_10)), (1, .int z1), (3, .int z3), (0, .ref (a0 0))]) hx hb dX7_tick_40 rfl hl (by decide) rfl (fun ls hl => ?_)
            refine lv_iinc (v := (z3 + 1)) (lv' := [(3, .int (z3 + 1)), (2, .int (z2 + r_10)), (1, .int z1), (0, .ref (a0 0))]) hx hb dX7_tick_41 hl (k := 2) rfl rfl (by decide) rfl (fun ls hl => ?_)
            refine lv_goto (tgt := 29) hx hb dX7_tick_44 (by decide) ?_
            exact ih _ _ _ _ _ _ ls h (hP.sub (ws' := md_v a0 q u_11) [0, 1, 2, 3, 4, 5, 6, 7] rfl) (hD.sub (ws' := md_v a0 q u_11) [0, 1, 2, 3, 4, 5, 6, 7] (by decide) rfl) hS (lv_sub hl [2, 1, 0, 3] rfl)
      obtain ⟨n29, h⟩ := h
      refine lp29 _ ?_ n29 _ _ _ _ _ _ ls h (hP.sub (ws' := md_v a0 q u_8) [0, 1, 2, 3, 4, 5, 6, 7] rfl) (hD.sub (ws' := md_v a0 q u_8) [0, 1, 2, 3, 4, 5, 6, 7] (by decide) rfl) hS (lv_sub hl [3, 1, 0, 2] rfl)
      · intro t0 z1 z2 z3 H locs ls h hP hD hS hl
        try dsimp only at h
        have hP : va_P D vwCl [((a0 0), .inr (6, [.ref (a0 1), .ref (a0 2), .int (t0.1 0), .ref (a0 3), .ref (a0 5), .ref (a0 4), .long t0.2.1, .int (t0.1 1), .int (t0.1 2), .ref (a0 6), .int (t0.1 3), .int (t0.1 4), .ref (a0 7), .int (t0.1 5), .int (t0.1 6), .int (t0.1 7), .int (t0.1 8), .int (t0.1 9), .int (t0.1 10), .int (t0.1 11), .int (t0.1 12), .int (t0.1 13), .int (t0.1 14)])), ((a0 1), .inl (q 1, 6896, .inr (.inl (t0.2.2.1 0)))), ((a0 2), .inl (q 1, 68960, .inr (.inl (t0.2.2.1 1)))), ((a0 3), .inl (q 1, 13792, .inr (.inl (t0.2.2.1 2)))), ((a0 4), .inl (q 1, 6896, .inr (.inl (t0.2.2.1 3)))), ((a0 5), .inl (q 3, 2, .inl (t0.2.2.2 0))), ((a0 6), .inl (q 0, 40, .inl (t0.2.2.2 1))), ((a0 7), .inl (q 2, 400, .inl (t0.2.2.2 2)))] H := hP
        have hD : va_D _ [((a0 0), .inr (6, [.ref (a0 1), .ref (a0 2), .int (t0.1 0), .ref (a0 3), .ref (a0 5), .ref (a0 4), .long t0.2.1, .int (t0.1 1), .int (t0.1 2), .ref (a0 6), .int (t0.1 3), .int (t0.1 4), .ref (a0 7), .int (t0.1 5), .int (t0.1 6), .int (t0.1 7), .int (t0.1 8), .int (t0.1 9), .int (t0.1 10), .int (t0.1 11), .int (t0.1 12), .int (t0.1 13), .int (t0.1 14)])), ((a0 1), .inl (q 1, 6896, .inr (.inl (t0.2.2.1 0)))), ((a0 2), .inl (q 1, 68960, .inr (.inl (t0.2.2.1 1)))), ((a0 3), .inl (q 1, 13792, .inr (.inl (t0.2.2.1 2)))), ((a0 4), .inl (q 1, 6896, .inr (.inl (t0.2.2.1 3)))), ((a0 5), .inl (q 3, 2, .inl (t0.2.2.2 0))), ((a0 6), .inl (q 0, 40, .inl (t0.2.2.2 1))), ((a0 7), .inl (q 2, 400, .inl (t0.2.2.2 2)))] := hD
        refine lv_iload_n hx hb dX7_tick_47 rfl (lv_at hl 1 rfl) ?_
        exact mt_iret t0 hx hb hr hk h (hP.sub (ws' := md_v a0 q t0) [0, 1, 2, 3, 4, 5, 6, 7] rfl) (hD.sub (ws' := md_v a0 q t0) [0, 1, 2, 3, 4, 5, 6, 7] (by decide) rfl) hS dX7_tick_48
    · replace h := h.2 c_6
      refine lv_iconst (v := (-1)) hx hb dX7_tick_19 (by decide) ?_
      exact mt_iret s0 hx hb hr hk h (hP.sub (ws' := md_v a0 q s0) [0, 1, 2, 3, 4, 5, 6, 7] rfl) (hD.sub (ws' := md_v a0 q s0) [0, 1, 2, 3, 4, 5, 6, 7] (by decide) rfl) hS dX7_tick_20

def wp_X7_settles_L2 (post : Int32 → Md → Prop) (e15 : Md → Int32 → Prop) : Nat → Md → Int32 → Prop
  | 0, _, _ => False
  | n2 + 1, t0, z1 => wp_X7_ticks (fun r_1 u_2 => ((r_1 ≤ 0 → e15 u_2 z1) ∧ (¬ r_1 ≤ 0 → wp_X7_settles_L2 post e15 n2 u_2 (z1 + 1)))) t0
def wp_X7_settles (post : Int32 → Md → Prop) (s0 : Md) : Prop := (∃ n2, wp_X7_settles_L2 post (fun t0 z1 => post z1 t0) n2 s0 0)
set_option maxHeartbeats 4000000 in
set_option maxRecDepth 100000 in
theorem c2_X7_settles {l : Launch} {D : va_G} {q : Nat → ClassId} {sz : Nat} {a0 : Nat → Nat} {s0 : Md} {post : Int32 → Md → Prop} (h : wp_X7_settles post s0) : Met l yX7_settles (Cond.code yX7_settles cX7_settles 2 (some .int) :: w_all) ({ frames := 5, cells := 0, slots := 0, locals := 110 } : Room) (mt_P D q [.ref (a0 0)] (md_v a0 q s0) sz) (va_Qi (fun r (u : Md) => post r u) (mt_B D (md_v a0 q s0) sz (fun u : Md => md_v a0 q u)) (va_A (md_v a0 q s0) sz)) 0 0 (va_A (md_v a0 q s0) sz) := by
  refine mt_start (by decide) (Nat.le_of_ble_eq_true rfl) ?_
  intro p e s m below meth c ls hx hb hr hml hown ht hk hin hP hQ hD hA hS hV hl
  have hK := hQ.1
  have hown : s.vm.findClass RX7 = some m.cls := hown
  have hl : lv_has ls 2 [(0, .ref (a0 0))] := hl
  have hP : va_P D vwCl [((a0 0), .inr (6, [.ref (a0 1), .ref (a0 2), .int (s0.1 0), .ref (a0 3), .ref (a0 5), .ref (a0 4), .long s0.2.1, .int (s0.1 1), .int (s0.1 2), .ref (a0 6), .int (s0.1 3), .int (s0.1 4), .ref (a0 7), .int (s0.1 5), .int (s0.1 6), .int (s0.1 7), .int (s0.1 8), .int (s0.1 9), .int (s0.1 10), .int (s0.1 11), .int (s0.1 12), .int (s0.1 13), .int (s0.1 14)])), ((a0 1), .inl (q 1, 6896, .inr (.inl (s0.2.2.1 0)))), ((a0 2), .inl (q 1, 68960, .inr (.inl (s0.2.2.1 1)))), ((a0 3), .inl (q 1, 13792, .inr (.inl (s0.2.2.1 2)))), ((a0 4), .inl (q 1, 6896, .inr (.inl (s0.2.2.1 3)))), ((a0 5), .inl (q 3, 2, .inl (s0.2.2.2 0))), ((a0 6), .inl (q 0, 40, .inl (s0.2.2.2 1))), ((a0 7), .inl (q 2, 400, .inl (s0.2.2.2 2)))] s.heap := hP
  have hD : va_D _ [((a0 0), .inr (6, [.ref (a0 1), .ref (a0 2), .int (s0.1 0), .ref (a0 3), .ref (a0 5), .ref (a0 4), .long s0.2.1, .int (s0.1 1), .int (s0.1 2), .ref (a0 6), .int (s0.1 3), .int (s0.1 4), .ref (a0 7), .int (s0.1 5), .int (s0.1 6), .int (s0.1 7), .int (s0.1 8), .int (s0.1 9), .int (s0.1 10), .int (s0.1 11), .int (s0.1 12), .int (s0.1 13), .int (s0.1 14)])), ((a0 1), .inl (q 1, 6896, .inr (.inl (s0.2.2.1 0)))), ((a0 2), .inl (q 1, 68960, .inr (.inl (s0.2.2.1 1)))), ((a0 3), .inl (q 1, 13792, .inr (.inl (s0.2.2.1 2)))), ((a0 4), .inl (q 1, 6896, .inr (.inl (s0.2.2.1 3)))), ((a0 5), .inl (q 3, 2, .inl (s0.2.2.2 0))), ((a0 6), .inl (q 0, 40, .inl (s0.2.2.2 1))), ((a0 7), .inl (q 2, 400, .inl (s0.2.2.2 2)))] := hD
  unfold wp_X7_settles at h
  refine lv_iconst (v := 0) hx hb dX7_settles_0 (by decide) ?_
  refine lv_istore_n (lv' := [(1, .int 0), (0, .ref (a0 0))]) hx hb dX7_settles_1 rfl hl (by decide) rfl (fun ls hl => ?_)
  have lp2 : ∀ (e15 : Md → Int32 → Prop) (k15 : ∀ (t0 : Md) (z1 : Int32) (H : Heap) (locs : List Loc) (ls : Array Slot), e15 t0 z1 → va_P D vwCl (md_v a0 q t0) H → va_D (va_A (md_v a0 q s0) sz) (md_v a0 q t0) → va_S (va_A (md_v a0 q s0) sz) s.heap H locs → lv_has ls 2 [(1, .int z1), (0, .ref (a0 0))] → W p l e ({ frames := 5, cells := 0, slots := 0, locals := 110 } : Room) s m [.ref (a0 0)].toArray below meth c H locs 0 0 (MQ below (va_Qi (fun r (u : Md) => post r u) (mt_B D (md_v a0 q s0) sz (fun u : Md => md_v a0 q u)) (va_A (md_v a0 q s0) sz)) [.ref (a0 0)].toArray s 0 0 (va_A (md_v a0 q s0) sz)) (F0 m 15 ls [])) (n : Nat) (t0 : Md) (z1 : Int32) (H : Heap) (locs : List Loc) (ls : Array Slot), wp_X7_settles_L2 post e15 n t0 z1 → va_P D vwCl (md_v a0 q t0) H → va_D (va_A (md_v a0 q s0) sz) (md_v a0 q t0) → va_S (va_A (md_v a0 q s0) sz) s.heap H locs → lv_has ls 2 [(1, .int z1), (0, .ref (a0 0))] → W p l e ({ frames := 5, cells := 0, slots := 0, locals := 110 } : Room) s m [.ref (a0 0)].toArray below meth c H locs 0 0 (MQ below (va_Qi (fun r (u : Md) => post r u) (mt_B D (md_v a0 q s0) sz (fun u : Md => md_v a0 q u)) (va_A (md_v a0 q s0) sz)) [.ref (a0 0)].toArray s 0 0 (va_A (md_v a0 q s0) sz)) (F0 m 2 ls []) := by
    intro e15 k15 n
    induction n with
    | zero =>
      intro t0 z1 H locs ls h
      exact h.elim
    | succ n ih =>
      intro t0 z1 H locs ls h hP hD hS hl
      have hP : va_P D vwCl [((a0 0), .inr (6, [.ref (a0 1), .ref (a0 2), .int (t0.1 0), .ref (a0 3), .ref (a0 5), .ref (a0 4), .long t0.2.1, .int (t0.1 1), .int (t0.1 2), .ref (a0 6), .int (t0.1 3), .int (t0.1 4), .ref (a0 7), .int (t0.1 5), .int (t0.1 6), .int (t0.1 7), .int (t0.1 8), .int (t0.1 9), .int (t0.1 10), .int (t0.1 11), .int (t0.1 12), .int (t0.1 13), .int (t0.1 14)])), ((a0 1), .inl (q 1, 6896, .inr (.inl (t0.2.2.1 0)))), ((a0 2), .inl (q 1, 68960, .inr (.inl (t0.2.2.1 1)))), ((a0 3), .inl (q 1, 13792, .inr (.inl (t0.2.2.1 2)))), ((a0 4), .inl (q 1, 6896, .inr (.inl (t0.2.2.1 3)))), ((a0 5), .inl (q 3, 2, .inl (t0.2.2.2 0))), ((a0 6), .inl (q 0, 40, .inl (t0.2.2.2 1))), ((a0 7), .inl (q 2, 400, .inl (t0.2.2.2 2)))] H := hP
      have hD : va_D _ [((a0 0), .inr (6, [.ref (a0 1), .ref (a0 2), .int (t0.1 0), .ref (a0 3), .ref (a0 5), .ref (a0 4), .long t0.2.1, .int (t0.1 1), .int (t0.1 2), .ref (a0 6), .int (t0.1 3), .int (t0.1 4), .ref (a0 7), .int (t0.1 5), .int (t0.1 6), .int (t0.1 7), .int (t0.1 8), .int (t0.1 9), .int (t0.1 10), .int (t0.1 11), .int (t0.1 12), .int (t0.1 13), .int (t0.1 14)])), ((a0 1), .inl (q 1, 6896, .inr (.inl (t0.2.2.1 0)))), ((a0 2), .inl (q 1, 68960, .inr (.inl (t0.2.2.1 1)))), ((a0 3), .inl (q 1, 13792, .inr (.inl (t0.2.2.1 2)))), ((a0 4), .inl (q 1, 6896, .inr (.inl (t0.2.2.1 3)))), ((a0 5), .inl (q 3, 2, .inl (t0.2.2.2 0))), ((a0 6), .inl (q 0, 40, .inl (t0.2.2.2 1))), ((a0 7), .inl (q 2, 400, .inl (t0.2.2.2 2)))] := hD
      unfold wp_X7_settles_L2 at h
      refine lv_aload_n hx hb dX7_settles_2 rfl (lv_at hl 1 rfl) ?_
      refine mt_goi (mt_wV (wc := md_v a0 q t0) (As := []) (rest := []) hx hb hml hown ht (c2_X7_ticks h) wd_X7_ticks mw_1304 hQ hV hS hA (hP.sub [0, 1, 2, 3, 4, 5, 6, 7] rfl) (hD.sub [0, 1, 2, 3, 4, 5, 6, 7] (by decide) rfl) rfl rfl rfl hl.1 rfl (Nat.le_of_ble_eq_true rfl) dX7_settles_3 ⟨Nat.le_of_ble_eq_true rfl, Nat.le_of_ble_eq_true rfl, rfl, rfl⟩ ⟨Nat.le_of_ble_eq_true rfl, Nat.le_of_ble_eq_true rfl⟩) (wr := []) hP hD hS hA [0, 1, 2, 3, 4, 5, 6, 7] [] rfl rfl (by decide) (by decide) (fun r_1 u_2 H locs h hP hD hS => ?_)
      try dsimp only at h
      have hP : va_P D vwCl [((a0 0), .inr (6, [.ref (a0 1), .ref (a0 2), .int (u_2.1 0), .ref (a0 3), .ref (a0 5), .ref (a0 4), .long u_2.2.1, .int (u_2.1 1), .int (u_2.1 2), .ref (a0 6), .int (u_2.1 3), .int (u_2.1 4), .ref (a0 7), .int (u_2.1 5), .int (u_2.1 6), .int (u_2.1 7), .int (u_2.1 8), .int (u_2.1 9), .int (u_2.1 10), .int (u_2.1 11), .int (u_2.1 12), .int (u_2.1 13), .int (u_2.1 14)])), ((a0 1), .inl (q 1, 6896, .inr (.inl (u_2.2.2.1 0)))), ((a0 2), .inl (q 1, 68960, .inr (.inl (u_2.2.2.1 1)))), ((a0 3), .inl (q 1, 13792, .inr (.inl (u_2.2.2.1 2)))), ((a0 4), .inl (q 1, 6896, .inr (.inl (u_2.2.2.1 3)))), ((a0 5), .inl (q 3, 2, .inl (u_2.2.2.2 0))), ((a0 6), .inl (q 0, 40, .inl (u_2.2.2.2 1))), ((a0 7), .inl (q 2, 400, .inl (u_2.2.2.2 2)))] H := hP
      have hD : va_D _ [((a0 0), .inr (6, [.ref (a0 1), .ref (a0 2), .int (u_2.1 0), .ref (a0 3), .ref (a0 5), .ref (a0 4), .long u_2.2.1, .int (u_2.1 1), .int (u_2.1 2), .ref (a0 6), .int (u_2.1 3), .int (u_2.1 4), .ref (a0 7), .int (u_2.1 5), .int (u_2.1 6), .int (u_2.1 7), .int (u_2.1 8), .int (u_2.1 9), .int (u_2.1 10), .int (u_2.1 11), .int (u_2.1 12), .int (u_2.1 13), .int (u_2.1 14)])), ((a0 1), .inl (q 1, 6896, .inr (.inl (u_2.2.2.1 0)))), ((a0 2), .inl (q 1, 68960, .inr (.inl (u_2.2.2.1 1)))), ((a0 3), .inl (q 1, 13792, .inr (.inl (u_2.2.2.1 2)))), ((a0 4), .inl (q 1, 6896, .inr (.inl (u_2.2.2.1 3)))), ((a0 5), .inl (q 3, 2, .inl (u_2.2.2.2 0))), ((a0 6), .inl (q 0, 40, .inl (u_2.2.2.2 1))), ((a0 7), .inl (q 2, 400, .inl (u_2.2.2.2 2)))] := hD
      refine lv_if_le (tgt := 15) hx hb dX7_settles_6 (by decide) (fun c_3 => ?_) (fun c_3 => ?_)
      · replace h := h.1 c_3
        exact k15 _ _ _ _ ls h (hP.sub (ws' := md_v a0 q u_2) [0, 1, 2, 3, 4, 5, 6, 7] rfl) (hD.sub (ws' := md_v a0 q u_2) [0, 1, 2, 3, 4, 5, 6, 7] (by decide) rfl) hS (lv_sub hl [0, 1] rfl)
      · replace h := h.2 c_3
        refine lv_iinc (v := (z1 + 1)) (lv' := [(1, .int (z1 + 1)), (0, .ref (a0 0))]) hx hb dX7_settles_9 hl (k := 0) rfl rfl (by decide) rfl (fun ls hl => ?_)
        refine lv_goto (tgt := 2) hx hb dX7_settles_12 (by decide) ?_
        exact ih _ _ _ _ ls h (hP.sub (ws' := md_v a0 q u_2) [0, 1, 2, 3, 4, 5, 6, 7] rfl) (hD.sub (ws' := md_v a0 q u_2) [0, 1, 2, 3, 4, 5, 6, 7] (by decide) rfl) hS (lv_sub hl [0, 1] rfl)
  obtain ⟨n2, h⟩ := h
  refine lp2 _ ?_ n2 _ _ _ _ ls h (hP.sub (ws' := md_v a0 q s0) [0, 1, 2, 3, 4, 5, 6, 7] rfl) (hD.sub (ws' := md_v a0 q s0) [0, 1, 2, 3, 4, 5, 6, 7] (by decide) rfl) hS (lv_sub hl [0, 1] rfl)
  · intro t0 z1 H locs ls h hP hD hS hl
    try dsimp only at h
    have hP : va_P D vwCl [((a0 0), .inr (6, [.ref (a0 1), .ref (a0 2), .int (t0.1 0), .ref (a0 3), .ref (a0 5), .ref (a0 4), .long t0.2.1, .int (t0.1 1), .int (t0.1 2), .ref (a0 6), .int (t0.1 3), .int (t0.1 4), .ref (a0 7), .int (t0.1 5), .int (t0.1 6), .int (t0.1 7), .int (t0.1 8), .int (t0.1 9), .int (t0.1 10), .int (t0.1 11), .int (t0.1 12), .int (t0.1 13), .int (t0.1 14)])), ((a0 1), .inl (q 1, 6896, .inr (.inl (t0.2.2.1 0)))), ((a0 2), .inl (q 1, 68960, .inr (.inl (t0.2.2.1 1)))), ((a0 3), .inl (q 1, 13792, .inr (.inl (t0.2.2.1 2)))), ((a0 4), .inl (q 1, 6896, .inr (.inl (t0.2.2.1 3)))), ((a0 5), .inl (q 3, 2, .inl (t0.2.2.2 0))), ((a0 6), .inl (q 0, 40, .inl (t0.2.2.2 1))), ((a0 7), .inl (q 2, 400, .inl (t0.2.2.2 2)))] H := hP
    have hD : va_D _ [((a0 0), .inr (6, [.ref (a0 1), .ref (a0 2), .int (t0.1 0), .ref (a0 3), .ref (a0 5), .ref (a0 4), .long t0.2.1, .int (t0.1 1), .int (t0.1 2), .ref (a0 6), .int (t0.1 3), .int (t0.1 4), .ref (a0 7), .int (t0.1 5), .int (t0.1 6), .int (t0.1 7), .int (t0.1 8), .int (t0.1 9), .int (t0.1 10), .int (t0.1 11), .int (t0.1 12), .int (t0.1 13), .int (t0.1 14)])), ((a0 1), .inl (q 1, 6896, .inr (.inl (t0.2.2.1 0)))), ((a0 2), .inl (q 1, 68960, .inr (.inl (t0.2.2.1 1)))), ((a0 3), .inl (q 1, 13792, .inr (.inl (t0.2.2.1 2)))), ((a0 4), .inl (q 1, 6896, .inr (.inl (t0.2.2.1 3)))), ((a0 5), .inl (q 3, 2, .inl (t0.2.2.2 0))), ((a0 6), .inl (q 0, 40, .inl (t0.2.2.2 1))), ((a0 7), .inl (q 2, 400, .inl (t0.2.2.2 2)))] := hD
    refine lv_iload_n hx hb dX7_settles_15 rfl (lv_at hl 0 rfl) ?_
    exact mt_iret t0 hx hb hr hk h (hP.sub (ws' := md_v a0 q t0) [0, 1, 2, 3, 4, 5, 6, 7] rfl) (hD.sub (ws' := md_v a0 q t0) [0, 1, 2, 3, 4, 5, 6, 7] (by decide) rfl) hS dX7_settles_16
