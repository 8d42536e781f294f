def wp_X5_takeWord_L13 (post : Int32 → Tp → Prop) (e63 : Tp → Prop) : Nat → Tp → Prop
  | 0, _ => False
  | n13 + 1, t0 => (((t0.1 0) ≤ (t0.1 1) → e63 t0) ∧ (¬ (t0.1 0) ≤ (t0.1 1) → wp_X5_byteAt (fun r_4 => ((r_4 < 97 → e63 t0) ∧ (¬ r_4 < 97 → wp_X5_byteAt (fun r_7 => ((122 < r_7 → e63 t0) ∧ (¬ 122 < r_7 → wp_X5_takeWord_L13 post e63 n13 ((va_up t0.1 1 ((t0.1 1) + 1)), t0.2)))) t0 (t0.1 1)))) t0 (t0.1 1)))
def wp_X5_takeWord (post : Int32 → Tp → Prop) (s0 : Tp) : Prop := wp_X5_peek (fun r_1 u_2 => (∃ n13, wp_X5_takeWord_L13 post (fun t0 => wp_X5_wordRead (fun r_10 => post r_10 t0) t0) n13 ((va_up u_2.1 2 (u_2.1 1)), u_2.2))) s0
set_option maxHeartbeats 4000000 in
set_option maxRecDepth 100000 in
theorem c2_X5_takeWord {l : Launch} {D : va_G} {q : Nat → ClassId} {sz : Nat} {a0 : Nat → Nat} {s0 : Tp} {post : Int32 → Tp → Prop} (h : wp_X5_takeWord post s0) : Met l yX5_takeWord (Cond.code yX5_takeWord cX5_takeWord 1 (some .int) :: w_all) ({ frames := 6, cells := 0, slots := 0, locals := 127 } : Room) (mt_P D q [.ref (a0 0)] (tp_w a0 q s0) sz) (va_Qi (fun r (u : Tp) => post r u) (mt_B D (tp_w a0 q s0) sz (fun u : Tp => tp_w a0 q u)) (va_A (tp_w a0 q s0) sz)) 0 0 (va_A (tp_w a0 q s0) sz) := by
  refine mt_start (by decide) (Nat.le_of_ble_eq_true rfl) ?_
  intro p e s m below meth c ls hx hb hr hml hown ht hk hin hP hQ hD hA hS hV hl
  have hK := hQ.1
  have hown : s.vm.findClass RX5 = some m.cls := hown
  have hl : lv_has ls 1 [(0, .ref (a0 0))] := hl
  have hP : va_P D vwCl [((a0 0), .inr (4, [.ref (a0 1), .int (s0.1 0), .int (s0.1 1), .int (s0.1 2), .int (s0.1 3), .int (s0.1 4), .int (s0.1 5)])), ((a0 1), .inl (q 0, 400, .inl s0.2))] s.heap := hP
  have hD : va_D _ [((a0 0), .inr (4, [.ref (a0 1), .int (s0.1 0), .int (s0.1 1), .int (s0.1 2), .int (s0.1 3), .int (s0.1 4), .int (s0.1 5)])), ((a0 1), .inl (q 0, 400, .inl s0.2))] := hD
  unfold wp_X5_takeWord at h
  refine lv_aload_n hx hb dX5_takeWord_0 rfl (lv_at hl 0 rfl) ?_
  refine mt_goi (mt_wV (wc := tp_w a0 q s0) (As := []) (rest := []) hx hb hml hown ht (c2_X5_peek h) wd_X5_peek mw_419 hQ hV hS hA (hP.sub [0, 1] rfl) (hD.sub [0, 1] (by decide) rfl) rfl rfl rfl hl.1 rfl (Nat.le_of_ble_eq_true rfl) dX5_takeWord_1 ⟨Nat.le_of_ble_eq_true rfl, Nat.le_of_ble_eq_true rfl, rfl, rfl⟩ ⟨Nat.le_of_ble_eq_true rfl, Nat.le_of_ble_eq_true rfl⟩) (wr := []) hP hD hS hA [0, 1] [] rfl rfl (by decide) (by decide) (fun r_1 u_2 H locs h hP hD hS => ?_)
  try dsimp only at h
  have hP : va_P D vwCl [((a0 0), .inr (4, [.ref (a0 1), .int (u_2.1 0), .int (u_2.1 1), .int (u_2.1 2), .int (u_2.1 3), .int (u_2.1 4), .int (u_2.1 5)])), ((a0 1), .inl (q 0, 400, .inl u_2.2))] H := hP
  have hD : va_D _ [((a0 0), .inr (4, [.ref (a0 1), .int (u_2.1 0), .int (u_2.1 1), .int (u_2.1 2), .int (u_2.1 3), .int (u_2.1 4), .int (u_2.1 5)])), ((a0 1), .inl (q 0, 400, .inl u_2.2))] := hD
  refine lv_pop hx hb dX5_takeWord_4 rfl ?_
  refine lv_aload_n hx hb dX5_takeWord_5 rfl (lv_at hl 0 rfl) ?_
  refine lv_aload_n hx hb dX5_takeWord_6 rfl (lv_at hl 0 rfl) ?_
  refine fl_get (C := RX5) (T := TX5) (N := 7) (ci := 4) (v := .int (u_2.1 1)) hx hb ht in_X5 hown hK hP 0 rfl rfl 2 (by decide) mw_132 rfl dX5_takeWord_7 ?_
  refine fl_put (C := RX5) (T := TX5) (N := 7) (ci := 4) (v := .int (u_2.1 1)) (ws2 := [((a0 0), .inr (4, [.ref (a0 1), .int (u_2.1 0), .int (u_2.1 1), .int (u_2.1 1), .int (u_2.1 3), .int (u_2.1 4), .int (u_2.1 5)])), ((a0 1), .inl (q 0, 400, .inl u_2.2))]) hx hb ht in_X5 tyX5_ok nmX5 hown hK hP hD hS 0 rfl rfl 3 (by decide) mw_135 rfl rfl rfl (Nat.le_of_ble_eq_true rfl) dX5_takeWord_10 rfl (fun H locs hP hD hS => ?_)
  have lp13 : ∀ (e63 : Tp → Prop) (k63 : ∀ (t0 : Tp) (H : Heap) (locs : List Loc) (ls : Array Slot), e63 t0 → va_P D vwCl (tp_w a0 q t0) H → va_D (va_A (tp_w a0 q s0) sz) (tp_w a0 q t0) → va_S (va_A (tp_w a0 q s0) sz) s.heap H locs → lv_has ls 1 [(0, .ref (a0 0))] → W p l e ({ frames := 6, cells := 0, slots := 0, locals := 127 } : Room) s m [.ref (a0 0)].toArray below meth c H locs 0 0 (MQ below (va_Qi (fun r (u : Tp) => post r u) (mt_B D (tp_w a0 q s0) sz (fun u : Tp => tp_w a0 q u)) (va_A (tp_w a0 q s0) sz)) [.ref (a0 0)].toArray s 0 0 (va_A (tp_w a0 q s0) sz)) (F0 m 63 ls [])) (n : Nat) (t0 : Tp) (H : Heap) (locs : List Loc) (ls : Array Slot), wp_X5_takeWord_L13 post e63 n t0 → va_P D vwCl (tp_w a0 q t0) H → va_D (va_A (tp_w a0 q s0) sz) (tp_w a0 q t0) → va_S (va_A (tp_w a0 q s0) sz) s.heap H locs → lv_has ls 1 [(0, .ref (a0 0))] → W p l e ({ frames := 6, cells := 0, slots := 0, locals := 127 } : Room) s m [.ref (a0 0)].toArray below meth c H locs 0 0 (MQ below (va_Qi (fun r (u : Tp) => post r u) (mt_B D (tp_w a0 q s0) sz (fun u : Tp => tp_w a0 q u)) (va_A (tp_w a0 q s0) sz)) [.ref (a0 0)].toArray s 0 0 (va_A (tp_w a0 q s0) sz)) (F0 m 13 ls []) := by
    intro e63 k63 n
    induction n with
    | zero =>
      intro t0 H locs ls h
      exact h.elim
    | succ n ih =>
      intro t0 H locs ls h hP hD hS hl
      have hP : va_P D vwCl [((a0 0), .inr (4, [.ref (a0 1), .int (t0.1 0), .int (t0.1 1), .int (t0.1 2), .int (t0.1 3), .int (t0.1 4), .int (t0.1 5)])), ((a0 1), .inl (q 0, 400, .inl t0.2))] H := hP
      have hD : va_D _ [((a0 0), .inr (4, [.ref (a0 1), .int (t0.1 0), .int (t0.1 1), .int (t0.1 2), .int (t0.1 3), .int (t0.1 4), .int (t0.1 5)])), ((a0 1), .inl (q 0, 400, .inl t0.2))] := hD
      unfold wp_X5_takeWord_L13 at h
      refine lv_aload_n hx hb dX5_takeWord_13 rfl (lv_at hl 0 rfl) ?_
      refine fl_get (C := RX5) (T := TX5) (N := 7) (ci := 4) (v := .int (t0.1 1)) hx hb ht in_X5 hown hK hP 0 rfl rfl 2 (by decide) mw_132 rfl dX5_takeWord_14 ?_
      refine lv_aload_n hx hb dX5_takeWord_17 rfl (lv_at hl 0 rfl) ?_
      refine fl_get (C := RX5) (T := TX5) (N := 7) (ci := 4) (v := .int (t0.1 0)) hx hb ht in_X5 hown hK hP 0 rfl rfl 1 (by decide) mw_130 rfl dX5_takeWord_18 ?_
      refine lv_icmp_ge (tgt := 63) hx hb dX5_takeWord_21 (by decide) (fun c_3 => ?_) (fun c_3 => ?_)
      · replace h := h.1 c_3
        exact k63 _ _ _ ls h (hP.sub (ws' := tp_w a0 q t0) [0, 1] rfl) (hD.sub (ws' := tp_w a0 q t0) [0, 1] (by decide) rfl) hS (lv_sub hl [0] rfl)
      · replace h := h.2 c_3
        refine lv_aload_n hx hb dX5_takeWord_24 rfl (lv_at hl 0 rfl) ?_
        refine lv_aload_n hx hb dX5_takeWord_25 rfl (lv_at hl 0 rfl) ?_
        refine fl_get (C := RX5) (T := TX5) (N := 7) (ci := 4) (v := .int (t0.1 1)) hx hb ht in_X5 hown hK hP 0 rfl rfl 2 (by decide) mw_132 rfl dX5_takeWord_26 ?_
        refine vp_callSi (rd_wV (wc := tp_w a0 q t0) (As := [.int (t0.1 1)]) (rest := []) hx hb hml hown ht (c2_X5_byteAt h) wd_X5_byteAt mw_423 hQ hV hS (hP.sub [0, 1] rfl) rfl rfl rfl hl.1 rfl (Nat.le_of_ble_eq_true rfl) dX5_takeWord_29 ⟨Nat.le_of_ble_eq_true rfl, Nat.le_of_ble_eq_true rfl, rfl, rfl⟩ ⟨Nat.le_of_ble_eq_true rfl, Nat.le_of_ble_eq_true rfl⟩) (fun r_4 h => ?_)
        try dsimp only at h
        refine lv_bipush (v := 97) hx hb dX5_takeWord_32 (by decide) ?_
        refine lv_icmp_lt (tgt := 63) hx hb dX5_takeWord_34 (by decide) (fun c_6 => ?_) (fun c_6 => ?_)
        · replace h := h.1 c_6
          exact k63 _ _ _ ls h (hP.sub (ws' := tp_w a0 q t0) [0, 1] rfl) (hD.sub (ws' := tp_w a0 q t0) [0, 1] (by decide) rfl) hS (lv_sub hl [0] rfl)
        · replace h := h.2 c_6
          refine lv_aload_n hx hb dX5_takeWord_37 rfl (lv_at hl 0 rfl) ?_
          refine lv_aload_n hx hb dX5_takeWord_38 rfl (lv_at hl 0 rfl) ?_
          refine fl_get (C := RX5) (T := TX5) (N := 7) (ci := 4) (v := .int (t0.1 1)) hx hb ht in_X5 hown hK hP 0 rfl rfl 2 (by decide) mw_132 rfl dX5_takeWord_39 ?_
          refine vp_callSi (rd_wV (wc := tp_w a0 q t0) (As := [.int (t0.1 1)]) (rest := []) hx hb hml hown ht (c2_X5_byteAt h) wd_X5_byteAt mw_423 hQ hV hS (hP.sub [0, 1] rfl) rfl rfl rfl hl.1 rfl (Nat.le_of_ble_eq_true rfl) dX5_takeWord_42 ⟨Nat.le_of_ble_eq_true rfl, Nat.le_of_ble_eq_true rfl, rfl, rfl⟩ ⟨Nat.le_of_ble_eq_true rfl, Nat.le_of_ble_eq_true rfl⟩) (fun r_7 h => ?_)
          try dsimp only at h
          refine lv_bipush (v := 122) hx hb dX5_takeWord_45 (by decide) ?_
          refine lv_icmp_gt (tgt := 63) hx hb dX5_takeWord_47 (by decide) (fun c_9 => ?_) (fun c_9 => ?_)
          · replace h := h.1 c_9
            exact k63 _ _ _ ls h (hP.sub (ws' := tp_w a0 q t0) [0, 1] rfl) (hD.sub (ws' := tp_w a0 q t0) [0, 1] (by decide) rfl) hS (lv_sub hl [0] rfl)
          · replace h := h.2 c_9
            refine lv_aload_n hx hb dX5_takeWord_50 rfl (lv_at hl 0 rfl) ?_
            refine lv_dup hx hb dX5_takeWord_51 rfl ?_
            refine fl_get (C := RX5) (T := TX5) (N := 7) (ci := 4) (v := .int (t0.1 1)) hx hb ht in_X5 hown hK hP 0 rfl rfl 2 (by decide) mw_132 rfl dX5_takeWord_52 ?_
            refine lv_iconst (v := 1) hx hb dX5_takeWord_55 (by decide) ?_
            refine lv_iadd hx hb dX5_takeWord_56 ?_
            refine fl_put (C := RX5) (T := TX5) (N := 7) (ci := 4) (v := .int ((t0.1 1) + 1)) (ws2 := [((a0 0), .inr (4, [.ref (a0 1), .int (t0.1 0), .int ((t0.1 1) + 1), .int (t0.1 2), .int (t0.1 3), .int (t0.1 4), .int (t0.1 5)])), ((a0 1), .inl (q 0, 400, .inl t0.2))]) hx hb ht in_X5 tyX5_ok nmX5 hown hK hP hD hS 0 rfl rfl 2 (by decide) mw_132 rfl rfl rfl (Nat.le_of_ble_eq_true rfl) dX5_takeWord_57 rfl (fun H locs hP hD hS => ?_)
            refine lv_goto (tgt := 13) hx hb dX5_takeWord_60 (by decide) ?_
            exact ih _ _ _ ls h (hP.sub (ws' := tp_w a0 q ((va_up t0.1 1 ((t0.1 1) + 1)), t0.2)) [0, 1] rfl) (hD.sub (ws' := tp_w a0 q ((va_up t0.1 1 ((t0.1 1) + 1)), t0.2)) [0, 1] (by decide) rfl) hS (lv_sub hl [0] rfl)
  obtain ⟨n13, h⟩ := h
  refine lp13 _ ?_ n13 _ _ _ ls h (hP.sub (ws' := tp_w a0 q ((va_up u_2.1 2 (u_2.1 1)), u_2.2)) [0, 1] rfl) (hD.sub (ws' := tp_w a0 q ((va_up u_2.1 2 (u_2.1 1)), u_2.2)) [0, 1] (by decide) rfl) hS (lv_sub hl [0] rfl)
  · intro t0 H locs ls h hP hD hS hl
    try dsimp only at h
    have hP : va_P D vwCl [((a0 0), .inr (4, [.ref (a0 1), .int (t0.1 0), .int (t0.1 1), .int (t0.1 2), .int (t0.1 3), .int (t0.1 4), .int (t0.1 5)])), ((a0 1), .inl (q 0, 400, .inl t0.2))] H := hP
    have hD : va_D _ [((a0 0), .inr (4, [.ref (a0 1), .int (t0.1 0), .int (t0.1 1), .int (t0.1 2), .int (t0.1 3), .int (t0.1 4), .int (t0.1 5)])), ((a0 1), .inl (q 0, 400, .inl t0.2))] := hD
    refine lv_aload_n hx hb dX5_takeWord_63 rfl (lv_at hl 0 rfl) ?_
    refine vp_callSi (rd_wV (wc := tp_w a0 q t0) (As := []) (rest := []) hx hb hml hown ht (c2_X5_wordRead h) wd_X5_wordRead mw_427 hQ hV hS (hP.sub [0, 1] rfl) rfl rfl rfl hl.1 rfl (Nat.le_of_ble_eq_true rfl) dX5_takeWord_64 ⟨Nat.le_of_ble_eq_true rfl, Nat.le_of_ble_eq_true rfl, rfl, rfl⟩ ⟨Nat.le_of_ble_eq_true rfl, Nat.le_of_ble_eq_true rfl⟩) (fun r_10 h => ?_)
    try dsimp only at h
    exact mt_iret t0 hx hb hr hk h (hP.sub (ws' := tp_w a0 q t0) [0, 1] rfl) (hD.sub (ws' := tp_w a0 q t0) [0, 1] (by decide) rfl) hS dX5_takeWord_67

def wp_X5_blame (post : Tp → Prop) (s0 : Tp) (x1 : Int32) (x2 : Int32) : Prop := ((¬ (s0.1 5) = 0 → post s0) ∧ ((s0.1 5) = 0 → post ((va_up s0.1 5 ((8 * x1) + x2)), s0.2)))
set_option maxHeartbeats 4000000 in
set_option maxRecDepth 100000 in
theorem c2_X5_blame {l : Launch} {D : va_G} {q : Nat → ClassId} {sz : Nat} {a0 : Nat → Nat} {s0 : Tp} {x1 : Int32} {x2 : Int32} {post : Tp → Prop} (h : wp_X5_blame post s0 x1 x2) : Met l yX5_blame (Cond.code yX5_blame cX5_blame 3 none :: w_all) ({ frames := 0, cells := 0, slots := 0, locals := 0 } : Room) (mt_P D q [.ref (a0 0), .int x1, .int x2] (tp_w a0 q s0) sz) (va_Qv (fun u : Tp => post u) (mt_B D (tp_w a0 q s0) sz (fun u : Tp => tp_w a0 q u)) (va_A (tp_w a0 q s0) sz)) 0 0 (va_A (tp_w a0 q s0) sz) := by
  refine mt_start (by decide) (Nat.le_of_ble_eq_true rfl) ?_
  intro p e s m below meth c ls hx hb hr hml hown ht hk hin hP hQ hD hA hS hV hl
  have hK := hQ.1
  have hown : s.vm.findClass RX5 = some m.cls := hown
  have hl : lv_has ls 3 [(0, .ref (a0 0)), (1, .int x1), (2, .int x2)] := hl
  have hP : va_P D vwCl [((a0 0), .inr (4, [.ref (a0 1), .int (s0.1 0), .int (s0.1 1), .int (s0.1 2), .int (s0.1 3), .int (s0.1 4), .int (s0.1 5)])), ((a0 1), .inl (q 0, 400, .inl s0.2))] s.heap := hP
  have hD : va_D _ [((a0 0), .inr (4, [.ref (a0 1), .int (s0.1 0), .int (s0.1 1), .int (s0.1 2), .int (s0.1 3), .int (s0.1 4), .int (s0.1 5)])), ((a0 1), .inl (q 0, 400, .inl s0.2))] := hD
  unfold wp_X5_blame at h
  refine lv_aload_n hx hb dX5_blame_0 rfl (lv_at hl 0 rfl) ?_
  refine fl_get (C := RX5) (T := TX5) (N := 7) (ci := 4) (v := .int (s0.1 5)) hx hb ht in_X5 hown hK hP 0 rfl rfl 6 (by decide) mw_143 rfl dX5_blame_1 ?_
  refine lv_if_ne (tgt := 17) hx hb dX5_blame_4 (by decide) (fun c_1 => ?_) (fun c_1 => ?_)
  · replace h := h.1 c_1
    exact mt_vret s0 hx hb hr hk h (hP.sub (ws' := tp_w a0 q s0) [0, 1] rfl) (hD.sub (ws' := tp_w a0 q s0) [0, 1] (by decide) rfl) hS dX5_blame_17
  · replace h := h.2 c_1
    refine lv_aload_n hx hb dX5_blame_7 rfl (lv_at hl 0 rfl) ?_
    refine lv_bipush (v := 8) hx hb dX5_blame_8 (by decide) ?_
    refine lv_iload_n hx hb dX5_blame_10 rfl (lv_at hl 1 rfl) ?_
    refine lv_imul hx hb dX5_blame_11 ?_
    refine lv_iload_n hx hb dX5_blame_12 rfl (lv_at hl 2 rfl) ?_
    refine lv_iadd hx hb dX5_blame_13 ?_
    refine fl_put (C := RX5) (T := TX5) (N := 7) (ci := 4) (v := .int ((8 * x1) + x2)) (ws2 := [((a0 0), .inr (4, [.ref (a0 1), .int (s0.1 0), .int (s0.1 1), .int (s0.1 2), .int (s0.1 3), .int (s0.1 4), .int ((8 * x1) + x2)])), ((a0 1), .inl (q 0, 400, .inl s0.2))]) hx hb ht in_X5 tyX5_ok nmX5 hown hK hP hD hS 0 rfl rfl 6 (by decide) mw_143 rfl rfl rfl (Nat.le_of_ble_eq_true rfl) dX5_blame_14 rfl (fun H locs hP hD hS => ?_)
    exact mt_vret ((va_up s0.1 5 ((8 * x1) + x2)), s0.2) hx hb hr hk h (hP.sub (ws' := tp_w a0 q ((va_up s0.1 5 ((8 * x1) + x2)), s0.2)) [0, 1] rfl) (hD.sub (ws' := tp_w a0 q ((va_up s0.1 5 ((8 * x1) + x2)), s0.2)) [0, 1] (by decide) rfl) hS dX5_blame_17

def wp_X5_takeThisWord (post : Tp → Prop) (s0 : Tp) (x1 : Int32) : Prop := wp_X5_takeWord (fun r_1 u_2 => ((r_1 = x1 → post u_2) ∧ (¬ r_1 = x1 → wp_X5_blame (fun u_5 => post u_5) u_2 (u_2.1 2) (1 : Int32)))) s0
set_option maxHeartbeats 4000000 in
set_option maxRecDepth 100000 in
theorem c2_X5_takeThisWord {l : Launch} {D : va_G} {q : Nat → ClassId} {sz : Nat} {a0 : Nat → Nat} {s0 : Tp} {x1 : Int32} {post : Tp → Prop} (h : wp_X5_takeThisWord post s0 x1) : Met l yX5_takeThisWord (Cond.code yX5_takeThisWord cX5_takeThisWord 2 none :: w_all) ({ frames := 7, cells := 0, slots := 0, locals := 147 } : Room) (mt_P D q [.ref (a0 0), .int x1] (tp_w a0 q s0) sz) (va_Qv (fun u : Tp => post u) (mt_B D (tp_w a0 q s0) sz (fun u : Tp => tp_w a0 q u)) (va_A (tp_w a0 q s0) sz)) 0 0 (va_A (tp_w a0 q s0) sz) := by
  refine mt_start (by decide) (Nat.le_of_ble_eq_true rfl) ?_
  intro p e s m below meth c ls hx hb hr hml hown ht hk hin hP hQ hD hA hS hV hl
  have hK := hQ.1
  have hown : s.vm.findClass RX5 = some m.cls := hown
  have hl : lv_has ls 2 [(0, .ref (a0 0)), (1, .int x1)] := hl
  have hP : va_P D vwCl [((a0 0), .inr (4, [.ref (a0 1), .int (s0.1 0), .int (s0.1 1), .int (s0.1 2), .int (s0.1 3), .int (s0.1 4), .int (s0.1 5)])), ((a0 1), .inl (q 0, 400, .inl s0.2))] s.heap := hP
  have hD : va_D _ [((a0 0), .inr (4, [.ref (a0 1), .int (s0.1 0), .int (s0.1 1), .int (s0.1 2), .int (s0.1 3), .int (s0.1 4), .int (s0.1 5)])), ((a0 1), .inl (q 0, 400, .inl s0.2))] := hD
  unfold wp_X5_takeThisWord at h
  refine lv_aload_n hx hb dX5_takeThisWord_0 rfl (lv_at hl 0 rfl) ?_
  refine mt_goi (mt_wV (wc := tp_w a0 q s0) (As := []) (rest := []) hx hb hml hown ht (c2_X5_takeWord h) wd_X5_takeWord mw_415 hQ hV hS hA (hP.sub [0, 1] rfl) (hD.sub [0, 1] (by decide) rfl) rfl rfl rfl hl.1 rfl (Nat.le_of_ble_eq_true rfl) dX5_takeThisWord_1 ⟨Nat.le_of_ble_eq_true rfl, Nat.le_of_ble_eq_true rfl, rfl, rfl⟩ ⟨Nat.le_of_ble_eq_true rfl, Nat.le_of_ble_eq_true rfl⟩) (wr := []) hP hD hS hA [0, 1] [] rfl rfl (by decide) (by decide) (fun r_1 u_2 H locs h hP hD hS => ?_)
  try dsimp only at h
  have hP : va_P D vwCl [((a0 0), .inr (4, [.ref (a0 1), .int (u_2.1 0), .int (u_2.1 1), .int (u_2.1 2), .int (u_2.1 3), .int (u_2.1 4), .int (u_2.1 5)])), ((a0 1), .inl (q 0, 400, .inl u_2.2))] H := hP
  have hD : va_D _ [((a0 0), .inr (4, [.ref (a0 1), .int (u_2.1 0), .int (u_2.1 1), .int (u_2.1 2), .int (u_2.1 3), .int (u_2.1 4), .int (u_2.1 5)])), ((a0 1), .inl (q 0, 400, .inl u_2.2))] := hD
  refine lv_iload_n hx hb dX5_takeThisWord_4 rfl (lv_at hl 1 rfl) ?_
  refine lv_icmp_eq (tgt := 17) hx hb dX5_takeThisWord_5 (by decide) (fun c_3 => ?_) (fun c_3 => ?_)
  · replace h := h.1 c_3
    exact mt_vret u_2 hx hb hr hk h (hP.sub (ws' := tp_w a0 q u_2) [0, 1] rfl) (hD.sub (ws' := tp_w a0 q u_2) [0, 1] (by decide) rfl) hS dX5_takeThisWord_17
  · replace h := h.2 c_3
    refine lv_aload_n hx hb dX5_takeThisWord_8 rfl (lv_at hl 0 rfl) ?_
    refine lv_aload_n hx hb dX5_takeThisWord_9 rfl (lv_at hl 0 rfl) ?_
    refine fl_get (C := RX5) (T := TX5) (N := 7) (ci := 4) (v := .int (u_2.1 2)) hx hb ht in_X5 hown hK hP 0 rfl rfl 3 (by decide) mw_135 rfl dX5_takeThisWord_10 ?_
    refine lv_iconst (v := 1) hx hb dX5_takeThisWord_13 (by decide) ?_
    refine mt_gov (mt_wV (wc := tp_w a0 q u_2) (As := [.int (u_2.1 2), .int 1]) (rest := []) hx hb hml hown ht (c2_X5_blame h) wd_X5_blame mw_495 hQ hV hS hA (hP.sub [0, 1] rfl) (hD.sub [0, 1] (by decide) rfl) rfl rfl rfl hl.1 rfl (Nat.le_of_ble_eq_true rfl) dX5_takeThisWord_14 ⟨Nat.le_of_ble_eq_true rfl, Nat.le_of_ble_eq_true rfl, rfl, rfl⟩ ⟨Nat.le_of_ble_eq_true rfl, Nat.le_of_ble_eq_true rfl⟩) (wr := []) hP hD hS hA [0, 1] [] rfl rfl (by decide) (by decide) (fun u_5 H locs h hP hD hS => ?_)
    try dsimp only at h
    have hP : va_P D vwCl [((a0 0), .inr (4, [.ref (a0 1), .int (u_5.1 0), .int (u_5.1 1), .int (u_5.1 2), .int (u_5.1 3), .int (u_5.1 4), .int (u_5.1 5)])), ((a0 1), .inl (q 0, 400, .inl u_5.2))] H := hP
    have hD : va_D _ [((a0 0), .inr (4, [.ref (a0 1), .int (u_5.1 0), .int (u_5.1 1), .int (u_5.1 2), .int (u_5.1 3), .int (u_5.1 4), .int (u_5.1 5)])), ((a0 1), .inl (q 0, 400, .inl u_5.2))] := hD
    exact mt_vret u_5 hx hb hr hk h (hP.sub (ws' := tp_w a0 q u_5) [0, 1] rfl) (hD.sub (ws' := tp_w a0 q u_5) [0, 1] (by decide) rfl) hS dX5_takeThisWord_17

def wp_X5_takeNumber_L15 (post : Int32 → Tp → Prop) (e88 : Tp → Int32 → Int32 → Int32 → Prop) : Nat → Tp → Int32 → Int32 → Int32 → Prop
  | 0, _, _, _, _ => False
  | n15 + 1, t0, z1, z2, z3 => (((t0.1 0) ≤ (t0.1 1) → e88 t0 z1 z2 z3) ∧ (¬ (t0.1 0) ≤ (t0.1 1) → wp_X5_byteAt (fun r_4 => ((r_4 < 48 → e88 t0 z1 z2 z3) ∧ (¬ r_4 < 48 → wp_X5_byteAt (fun r_7 => ((57 < r_7 → e88 t0 z1 z2 z3) ∧ (¬ 57 < r_7 → wp_X5_byteAt (fun r_10 => wp_X5_takeNumber_L15 post e88 n15 ((va_up t0.1 1 ((t0.1 1) + 1)), t0.2) z1 z2 (if (((z3 * 10) + r_10) - 48) < (1000 : Int32) then (((z3 * 10) + r_10) - 48) else (1000 : Int32))) t0 (t0.1 1)))) t0 (t0.1 1)))) t0 (t0.1 1)))
def wp_X5_takeNumber (post : Int32 → Tp → Prop) (s0 : Tp) (x1 : Int32) (x2 : Int32) : Prop := wp_X5_peek (fun r_1 u_2 => (∃ n15, wp_X5_takeNumber_L15 post (fun t0 z1 z2 z3 => ((¬ (t0.1 1) = (t0.1 2) → ((z3 < z1 → wp_X5_blame (fun u_15 => post z1 u_15) t0 (t0.1 2) (2 : Int32)) ∧ (¬ z3 < z1 → ((z3 ≤ z2 → post z3 t0) ∧ (¬ z3 ≤ z2 → wp_X5_blame (fun u_18 => post z1 u_18) t0 (t0.1 2) (2 : Int32)))))) ∧ ((t0.1 1) = (t0.1 2) → wp_X5_blame (fun u_20 => post z1 u_20) t0 (t0.1 1) (1 : Int32)))) n15 ((va_up u_2.1 2 (u_2.1 1)), u_2.2) x1 x2 0)) s0
set_option maxHeartbeats 4000000 in
set_option maxRecDepth 100000 in
theorem c2_X5_takeNumber {l : Launch} {D : va_G} {q : Nat → ClassId} {sz : Nat} {a0 : Nat → Nat} {s0 : Tp} {x1 : Int32} {x2 : Int32} {post : Int32 → Tp → Prop} (h : wp_X5_takeNumber post s0 x1 x2) : Met l yX5_takeNumber (Cond.code yX5_takeNumber cX5_takeNumber 4 (some .int) :: w_all) ({ frames := 1, cells := 0, slots := 0, locals := 40 } : Room) (mt_P D q [.ref (a0 0), .int x1, .int x2] (tp_w a0 q s0) sz) (va_Qi (fun r (u : Tp) => post r u) (mt_B D (tp_w a0 q s0) sz (fun u : Tp => tp_w a0 q u)) (va_A (tp_w a0 q s0) sz)) 0 0 (va_A (tp_w a0 q s0) sz) := by
  refine mt_start (by decide) (Nat.le_of_ble_eq_true rfl) ?_
  intro p e s m below meth c ls hx hb hr hml hown ht hk hin hP hQ hD hA hS hV hl
  have hK := hQ.1
  have hown : s.vm.findClass RX5 = some m.cls := hown
  have hl : lv_has ls 4 [(0, .ref (a0 0)), (1, .int x1), (2, .int x2)] := hl
  have hP : va_P D vwCl [((a0 0), .inr (4, [.ref (a0 1), .int (s0.1 0), .int (s0.1 1), .int (s0.1 2), .int (s0.1 3), .int (s0.1 4), .int (s0.1 5)])), ((a0 1), .inl (q 0, 400, .inl s0.2))] s.heap := hP
  have hD : va_D _ [((a0 0), .inr (4, [.ref (a0 1), .int (s0.1 0), .int (s0.1 1), .int (s0.1 2), .int (s0.1 3), .int (s0.1 4), .int (s0.1 5)])), ((a0 1), .inl (q 0, 400, .inl s0.2))] := hD
  unfold wp_X5_takeNumber at h
  refine lv_aload_n hx hb dX5_takeNumber_0 rfl (lv_at hl 0 rfl) ?_
  refine mt_goi (mt_wV (wc := tp_w a0 q s0) (As := []) (rest := []) hx hb hml hown ht (c2_X5_peek h) wd_X5_peek mw_419 hQ hV hS hA (hP.sub [0, 1] rfl) (hD.sub [0, 1] (by decide) rfl) rfl rfl rfl hl.1 rfl (Nat.le_of_ble_eq_true rfl) dX5_takeNumber_1 ⟨Nat.le_of_ble_eq_true rfl, Nat.le_of_ble_eq_true rfl, rfl, rfl⟩ ⟨Nat.le_of_ble_eq_true rfl, Nat.le_of_ble_eq_true rfl⟩) (wr := []) hP hD hS hA [0, 1] [] rfl rfl (by decide) (by decide) (fun r_1 u_2 H locs h hP hD hS => ?_)
  try dsimp only at h
  have hP : va_P D vwCl [((a0 0), .inr (4, [.ref (a0 1), .int (u_2.1 0), .int (u_2.1 1), .int (u_2.1 2), .int (u_2.1 3), .int (u_2.1 4), .int (u_2.1 5)])), ((a0 1), .inl (q 0, 400, .inl u_2.2))] H := hP
  have hD : va_D _ [((a0 0), .inr (4, [.ref (a0 1), .int (u_2.1 0), .int (u_2.1 1), .int (u_2.1 2), .int (u_2.1 3), .int (u_2.1 4), .int (u_2.1 5)])), ((a0 1), .inl (q 0, 400, .inl u_2.2))] := hD
  refine lv_pop hx hb dX5_takeNumber_4 rfl ?_
  refine lv_aload_n hx hb dX5_takeNumber_5 rfl (lv_at hl 0 rfl) ?_
  refine lv_aload_n hx hb dX5_takeNumber_6 rfl (lv_at hl 0 rfl) ?_
  refine fl_get (C := RX5) (T := TX5) (N := 7) (ci := 4) (v := .int (u_2.1 1)) hx hb ht in_X5 hown hK hP 0 rfl rfl 2 (by decide) mw_132 rfl dX5_takeNumber_7 ?_
  refine fl_put (C := RX5) (T := TX5) (N := 7) (ci := 4) (v := .int (u_2.1 1)) (ws2 := [((a0 0), .inr (4, [.ref (a0 1), .int (u_2.1 0), .int (u_2.1 1), .int (u_2.1 1), .int (u_2.1 3), .int (u_2.1 4), .int (u_2.1 5)])), ((a0 1), .inl (q 0, 400, .inl u_2.2))]) hx hb ht in_X5 tyX5_ok nmX5 hown hK hP hD hS 0 rfl rfl 3 (by decide) mw_135 rfl rfl rfl (Nat.le_of_ble_eq_true rfl) dX5_takeNumber_10 rfl (fun H locs hP hD hS => ?_)
  refine lv_iconst (v := 0) hx hb dX5_takeNumber_13 (by decide) ?_
  refine lv_istore_n (lv' := [(3, .int 0), (0, .ref (a0 0)), (1, .int x1), (2, .int x2)]) hx hb dX5_takeNumber_14 rfl hl (by decide) rfl (fun ls hl => ?_)
  have lp15 : ∀ (e88 : Tp → Int32 → Int32 → Int32 → Prop) (k88 : ∀ (t0 : Tp) (z1 : Int32) (z2 : Int32) (z3 : Int32) (H : Heap) (locs : List Loc) (ls : Array Slot), e88 t0 z1 z2 z3 → va_P D vwCl (tp_w a0 q t0) H → va_D (va_A (tp_w a0 q s0) sz) (tp_w a0 q t0) → va_S (va_A (tp_w a0 q s0) sz) s.heap H locs → lv_has ls 4 [(1, .int z1), (2, .int z2), (3, .int z3), (0, .ref (a0 0))] → W p l e ({ frames := 1, cells := 0, slots := 0, locals := 40 } : Room) s m [.ref (a0 0), .int x1, .int x2].toArray below meth c H locs 0 0 (MQ below (va_Qi (fun r (u : Tp) => post r u) (mt_B D (tp_w a0 q s0) sz (fun u : Tp => tp_w a0 q u)) (va_A (tp_w a0 q s0) sz)) [.ref (a0 0), .int x1, .int x2].toArray s 0 0 (va_A (tp_w a0 q s0) sz)) (F0 m 88 ls [])) (n : Nat) (t0 : Tp) (z1 : Int32) (z2 : Int32) (z3 : Int32) (H : Heap) (locs : List Loc) (ls : Array Slot), wp_X5_takeNumber_L15 post e88 n t0 z1 z2 z3 → va_P D vwCl (tp_w a0 q t0) H → va_D (va_A (tp_w a0 q s0) sz) (tp_w a0 q t0) → va_S (va_A (tp_w a0 q s0) sz) s.heap H locs → lv_has ls 4 [(1, .int z1), (2, .int z2), (3, .int z3), (0, .ref (a0 0))] → W p l e ({ frames := 1, cells := 0, slots := 0, locals := 40 } : Room) s m [.ref (a0 0), .int x1, .int x2].toArray below meth c H locs 0 0 (MQ below (va_Qi (fun r (u : Tp) => post r u) (mt_B D (tp_w a0 q s0) sz (fun u : Tp => tp_w a0 q u)) (va_A (tp_w a0 q s0) sz)) [.ref (a0 0), .int x1, .int x2].toArray s 0 0 (va_A (tp_w a0 q s0) sz)) (F0 m 15 ls []) := by
    intro e88 k88 n
    induction n with
    | zero =>
      intro t0 z1 z2 z3 H locs ls h
      exact h.elim
    | succ n ih =>
      intro t0 z1 z2 z3 H locs ls h hP hD hS hl
      have hP : va_P D vwCl [((a0 0), .inr (4, [.ref (a0 1), .int (t0.1 0), .int (t0.1 1), .int (t0.1 2), .int (t0.1 3), .int (t0.1 4), .int (t0.1 5)])), ((a0 1), .inl (q 0, 400, .inl t0.2))] H := hP
      have hD : va_D _ [((a0 0), .inr (4, [.ref (a0 1), .int (t0.1 0), .int (t0.1 1), .int (t0.1 2), .int (t0.1 3), .int (t0.1 4), .int (t0.1 5)])), ((a0 1), .inl (q 0, 400, .inl t0.2))] := hD
      unfold wp_X5_takeNumber_L15 at h
      refine lv_aload_n hx hb dX5_takeNumber_15 rfl (lv_at hl 3 rfl) ?_
      refine fl_get (C := RX5) (T := TX5) (N := 7) (ci := 4) (v := .int (t0.1 1)) hx hb ht in_X5 hown hK hP 0 rfl rfl 2 (by decide) mw_132 rfl dX5_takeNumber_16 ?_
      refine lv_aload_n hx hb dX5_takeNumber_19 rfl (lv_at hl 3 rfl) ?_
      refine fl_get (C := RX5) (T := TX5) (N := 7) (ci := 4) (v := .int (t0.1 0)) hx hb ht in_X5 hown hK hP 0 rfl rfl 1 (by decide) mw_130 rfl dX5_takeNumber_20 ?_
      refine lv_icmp_ge (tgt := 88) hx hb dX5_takeNumber_23 (by decide) (fun c_3 => ?_) (fun c_3 => ?_)
      · replace h := h.1 c_3
        exact k88 _ _ _ _ _ _ ls h (hP.sub (ws' := tp_w a0 q t0) [0, 1] rfl) (hD.sub (ws' := tp_w a0 q t0) [0, 1] (by decide) rfl) hS (lv_sub hl [0, 1, 2, 3] rfl)
      · replace h := h.2 c_3
        refine lv_aload_n hx hb dX5_takeNumber_26 rfl (lv_at hl 3 rfl) ?_
        refine lv_aload_n hx hb dX5_takeNumber_27 rfl (lv_at hl 3 rfl) ?_
        refine fl_get (C := RX5) (T := TX5) (N := 7) (ci := 4) (v := .int (t0.1 1)) hx hb ht in_X5 hown hK hP 0 rfl rfl 2 (by decide) mw_132 rfl dX5_takeNumber_28 ?_
        refine vp_callSi (rd_wV (wc := tp_w a0 q t0) (As := [.int (t0.1 1)]) (rest := []) hx hb hml hown ht (c2_X5_byteAt h) wd_X5_byteAt mw_423 hQ hV hS (hP.sub [0, 1] rfl) rfl rfl rfl hl.1 rfl (Nat.le_of_ble_eq_true rfl) dX5_takeNumber_31 ⟨Nat.le_of_ble_eq_true rfl, Nat.le_of_ble_eq_true rfl, rfl, rfl⟩ ⟨Nat.le_of_ble_eq_true rfl, Nat.le_of_ble_eq_true rfl⟩) (fun r_4 h => ?_)
        try dsimp only at h
        refine lv_bipush (v := 48) hx hb dX5_takeNumber_34 (by decide) ?_
        refine lv_icmp_lt (tgt := 88) hx hb dX5_takeNumber_36 (by decide) (fun c_6 => ?_) (fun c_6 => ?_)
        · replace h := h.1 c_6
          exact k88 _ _ _ _ _ _ ls h (hP.sub (ws' := tp_w a0 q t0) [0, 1] rfl) (hD.sub (ws' := tp_w a0 q t0) [0, 1] (by decide) rfl) hS (lv_sub hl [0, 1, 2, 3] rfl)
        · replace h := h.2 c_6
          refine lv_aload_n hx hb dX5_takeNumber_39 rfl (lv_at hl 3 rfl) ?_
          refine lv_aload_n hx hb dX5_takeNumber_40 rfl (lv_at hl 3 rfl) ?_
          refine fl_get (C := RX5) (T := TX5) (N := 7) (ci := 4) (v := .int (t0.1 1)) hx hb ht in_X5 hown hK hP 0 rfl rfl 2 (by decide) mw_132 rfl dX5_takeNumber_41 ?_
          refine vp_callSi (rd_wV (wc := tp_w a0 q t0) (As := [.int (t0.1 1)]) (rest := []) hx hb hml hown ht (c2_X5_byteAt h) wd_X5_byteAt mw_423 hQ hV hS (hP.sub [0, 1] rfl) rfl rfl rfl hl.1 rfl (Nat.le_of_ble_eq_true rfl) dX5_takeNumber_44 ⟨Nat.le_of_ble_eq_true rfl, Nat.le_of_ble_eq_true rfl, rfl, rfl⟩ ⟨Nat.le_of_ble_eq_true rfl, Nat.le_of_ble_eq_true rfl⟩) (fun r_7 h => ?_)
          try dsimp only at h
          refine lv_bipush (v := 57) hx hb dX5_takeNumber_47 (by decide) ?_
          refine lv_icmp_gt (tgt := 88) hx hb dX5_takeNumber_49 (by decide) (fun c_9 => ?_) (fun c_9 => ?_)
          · replace h := h.1 c_9
            exact k88 _ _ _ _ _ _ ls h (hP.sub (ws' := tp_w a0 q t0) [0, 1] rfl) (hD.sub (ws' := tp_w a0 q t0) [0, 1] (by decide) rfl) hS (lv_sub hl [0, 1, 2, 3] rfl)
          · replace h := h.2 c_9
            refine lv_sipush (v := 1000) hx hb dX5_takeNumber_52 (by decide) ?_
            refine lv_iload_n hx hb dX5_takeNumber_55 rfl (lv_at hl 2 rfl) ?_
            refine lv_bipush (v := 10) hx hb dX5_takeNumber_56 (by decide) ?_
            refine lv_imul hx hb dX5_takeNumber_58 ?_
            refine lv_aload_n hx hb dX5_takeNumber_59 rfl (lv_at hl 3 rfl) ?_
            refine lv_aload_n hx hb dX5_takeNumber_60 rfl (lv_at hl 3 rfl) ?_
            refine fl_get (C := RX5) (T := TX5) (N := 7) (ci := 4) (v := .int (t0.1 1)) hx hb ht in_X5 hown hK hP 0 rfl rfl 2 (by decide) mw_132 rfl dX5_takeNumber_61 ?_
            refine vp_callSi (rd_wV (wc := tp_w a0 q t0) (As := [.int (t0.1 1)]) (rest := [.int (z3 * 10), .int 1000]) hx hb hml hown ht (c2_X5_byteAt h) wd_X5_byteAt mw_423 hQ hV hS (hP.sub [0, 1] rfl) rfl rfl rfl hl.1 rfl (Nat.le_of_ble_eq_true rfl) dX5_takeNumber_64 ⟨Nat.le_of_ble_eq_true rfl, Nat.le_of_ble_eq_true rfl, rfl, rfl⟩ ⟨Nat.le_of_ble_eq_true rfl, Nat.le_of_ble_eq_true rfl⟩) (fun r_10 h => ?_)
            try dsimp only at h
            refine lv_iadd hx hb dX5_takeNumber_67 ?_
            refine lv_bipush (v := 48) hx hb dX5_takeNumber_68 (by decide) ?_
            refine lv_isub hx hb dX5_takeNumber_70 ?_
            refine va_mmin hx hb (hml.trans hl.1.symm) hown (ht _ mw_503) (ht _ mw_504) (ht _ mw_110) (ht _ mw_505) (Nat.le_of_ble_eq_true rfl) (Nat.le_of_ble_eq_true rfl) (Nat.le_of_ble_eq_true rfl) (Nat.le_of_ble_eq_true rfl) dX5_takeNumber_71 ?_
            refine lv_istore_n (lv' := [(3, .int (if (((z3 * 10) + r_10) - 48) < (1000 : Int32) then (((z3 * 10) + r_10) - 48) else (1000 : Int32))), (1, .int z1), (2, .int z2), (0, .ref (a0 0))]) hx hb dX5_takeNumber_74 rfl hl (by decide) rfl (fun ls hl => ?_)
            refine lv_aload_n hx hb dX5_takeNumber_75 rfl (lv_at hl 3 rfl) ?_
            refine lv_dup hx hb dX5_takeNumber_76 rfl ?_
            refine fl_get (C := RX5) (T := TX5) (N := 7) (ci := 4) (v := .int (t0.1 1)) hx hb ht in_X5 hown hK hP 0 rfl rfl 2 (by decide) mw_132 rfl dX5_takeNumber_77 ?_
            refine lv_iconst (v := 1) hx hb dX5_takeNumber_80 (by decide) ?_
            refine lv_iadd hx hb dX5_takeNumber_81 ?_
            refine fl_put (C := RX5) (T := TX5) (N := 7) (ci := 4) (v := .int ((t0.1 1) + 1)) (ws2 := [((a0 0), .inr (4, [.ref (a0 1), .int (t0.1 0), .int ((t0.1 1) + 1), .int (t0.1 2), .int (t0.1 3), .int (t0.1 4), .int (t0.1 5)])), ((a0 1), .inl (q 0, 400, .inl t0.2))]) hx hb ht in_X5 tyX5_ok nmX5 hown hK hP hD hS 0 rfl rfl 2 (by decide) mw_132 rfl rfl rfl (Nat.le_of_ble_eq_true rfl) dX5_takeNumber_82 rfl (fun H locs hP hD hS => ?_)
            refine lv_goto (tgt := 15) hx hb dX5_takeNumber_85 (by decide) ?_
            exact ih _ _ _ _ _ _ ls h (hP.sub (ws' := tp_w a0 q ((va_up t0.1 1 ((t0.1 1) + 1)), t0.2)) [0, 1] rfl) (hD.sub (ws' := tp_w a0 q ((va_up t0.1 1 ((t0.1 1) + 1)), t0.2)) [0, 1] (by decide) rfl) hS (lv_sub hl [1, 2, 0, 3] rfl)
  obtain ⟨n15, h⟩ := h
  refine lp15 _ ?_ n15 _ _ _ _ _ _ ls h (hP.sub (ws' := tp_w a0 q ((va_up u_2.1 2 (u_2.1 1)), u_2.2)) [0, 1] rfl) (hD.sub (ws' := tp_w a0 q ((va_up u_2.1 2 (u_2.1 1)), u_2.2)) [0, 1] (by decide) rfl) hS (lv_sub hl [2, 3, 0, 1] rfl)
  · intro t0 z1 z2 z3 H locs ls h hP hD hS hl
    try dsimp only at h
    have hP : va_P D vwCl [((a0 0), .inr (4, [.ref (a0 1), .int (t0.1 0), .int (t0.1 1), .int (t0.1 2), .int (t0.1 3), .int (t0.1 4), .int (t0.1 5)])), ((a0 1), .inl (q 0, 400, .inl t0.2))] H := hP
    have hD : va_D _ [((a0 0), .inr (4, [.ref (a0 1), .int (t0.1 0), .int (t0.1 1), .int (t0.1 2), .int (t0.1 3), .int (t0.1 4), .int (t0.1 5)])), ((a0 1), .inl (q 0, 400, .inl t0.2))] := hD
    refine lv_aload_n hx hb dX5_takeNumber_88 rfl (lv_at hl 3 rfl) ?_
    refine fl_get (C := RX5) (T := TX5) (N := 7) (ci := 4) (v := .int (t0.1 1)) hx hb ht in_X5 hown hK hP 0 rfl rfl 2 (by decide) mw_132 rfl dX5_takeNumber_89 ?_
    refine lv_aload_n hx hb dX5_takeNumber_92 rfl (lv_at hl 3 rfl) ?_
    refine fl_get (C := RX5) (T := TX5) (N := 7) (ci := 4) (v := .int (t0.1 2)) hx hb ht in_X5 hown hK hP 0 rfl rfl 3 (by decide) mw_135 rfl dX5_takeNumber_93 ?_
    refine lv_icmp_ne (tgt := 110) hx hb dX5_takeNumber_96 (by decide) (fun c_12 => ?_) (fun c_12 => ?_)
    · replace h := h.1 c_12
      refine lv_iload_n hx hb dX5_takeNumber_110 rfl (lv_at hl 2 rfl) ?_
      refine lv_iload_n hx hb dX5_takeNumber_111 rfl (lv_at hl 0 rfl) ?_
      refine lv_icmp_lt (tgt := 120) hx hb dX5_takeNumber_112 (by decide) (fun c_13 => ?_) (fun c_13 => ?_)
      · replace h := h.1 c_13
        refine lv_aload_n hx hb dX5_takeNumber_120 rfl (lv_at hl 3 rfl) ?_
        refine lv_aload_n hx hb dX5_takeNumber_121 rfl (lv_at hl 3 rfl) ?_
        refine fl_get (C := RX5) (T := TX5) (N := 7) (ci := 4) (v := .int (t0.1 2)) hx hb ht in_X5 hown hK hP 0 rfl rfl 3 (by decide) mw_135 rfl dX5_takeNumber_122 ?_
        refine lv_iconst (v := 2) hx hb dX5_takeNumber_125 (by decide) ?_
        refine mt_gov (mt_wV (wc := tp_w a0 q t0) (As := [.int (t0.1 2), .int 2]) (rest := []) hx hb hml hown ht (c2_X5_blame h) wd_X5_blame mw_495 hQ hV hS hA (hP.sub [0, 1] rfl) (hD.sub [0, 1] (by decide) rfl) rfl rfl rfl hl.1 rfl (Nat.le_of_ble_eq_true rfl) dX5_takeNumber_126 ⟨Nat.le_of_ble_eq_true rfl, Nat.le_of_ble_eq_true rfl, rfl, rfl⟩ ⟨Nat.le_of_ble_eq_true rfl, Nat.le_of_ble_eq_true rfl⟩) (wr := []) hP hD hS hA [0, 1] [] rfl rfl (by decide) (by decide) (fun u_15 H locs h hP hD hS => ?_)
        try dsimp only at h
        have hP : va_P D vwCl [((a0 0), .inr (4, [.ref (a0 1), .int (u_15.1 0), .int (u_15.1 1), .int (u_15.1 2), .int (u_15.1 3), .int (u_15.1 4), .int (u_15.1 5)])), ((a0 1), .inl (q 0, 400, .inl u_15.2))] H := hP
        have hD : va_D _ [((a0 0), .inr (4, [.ref (a0 1), .int (u_15.1 0), .int (u_15.1 1), .int (u_15.1 2), .int (u_15.1 3), .int (u_15.1 4), .int (u_15.1 5)])), ((a0 1), .inl (q 0, 400, .inl u_15.2))] := hD
        refine lv_iload_n hx hb dX5_takeNumber_129 rfl (lv_at hl 0 rfl) ?_
        exact mt_iret u_15 hx hb hr hk h (hP.sub (ws' := tp_w a0 q u_15) [0, 1] rfl) (hD.sub (ws' := tp_w a0 q u_15) [0, 1] (by decide) rfl) hS dX5_takeNumber_130
      · replace h := h.2 c_13
        refine lv_iload_n hx hb dX5_takeNumber_115 rfl (lv_at hl 2 rfl) ?_
        refine lv_iload_n hx hb dX5_takeNumber_116 rfl (lv_at hl 1 rfl) ?_
        refine lv_icmp_le (tgt := 131) hx hb dX5_takeNumber_117 (by decide) (fun c_16 => ?_) (fun c_16 => ?_)
        · replace h := h.1 c_16
          refine lv_iload_n hx hb dX5_takeNumber_131 rfl (lv_at hl 2 rfl) ?_
          exact mt_iret t0 hx hb hr hk h (hP.sub (ws' := tp_w a0 q t0) [0, 1] rfl) (hD.sub (ws' := tp_w a0 q t0) [0, 1] (by decide) rfl) hS dX5_takeNumber_132
        · replace h := h.2 c_16
          refine lv_aload_n hx hb dX5_takeNumber_120 rfl (lv_at hl 3 rfl) ?_
          refine lv_aload_n hx hb dX5_takeNumber_121 rfl (lv_at hl 3 rfl) ?_
          refine fl_get (C := RX5) (T := TX5) (N := 7) (ci := 4) (v := .int (t0.1 2)) hx hb ht in_X5 hown hK hP 0 rfl rfl 3 (by decide) mw_135 rfl dX5_takeNumber_122 ?_
          refine lv_iconst (v := 2) hx hb dX5_takeNumber_125 (by decide) ?_
          refine mt_gov (mt_wV (wc := tp_w a0 q t0) (As := [.int (t0.1 2), .int 2]) (rest := []) hx hb hml hown ht (c2_X5_blame h) wd_X5_blame mw_495 hQ hV hS hA (hP.sub [0, 1] rfl) (hD.sub [0, 1] (by decide) rfl) rfl rfl rfl hl.1 rfl (Nat.le_of_ble_eq_true rfl) dX5_takeNumber_126 ⟨Nat.le_of_ble_eq_true rfl, Nat.le_of_ble_eq_true rfl, rfl, rfl⟩ ⟨Nat.le_of_ble_eq_true rfl, Nat.le_of_ble_eq_true rfl⟩) (wr := []) hP hD hS hA [0, 1] [] rfl rfl (by decide) (by decide) (fun u_18 H locs h hP hD hS => ?_)
          try dsimp only at h
          have hP : va_P D vwCl [((a0 0), .inr (4, [.ref (a0 1), .int (u_18.1 0), .int (u_18.1 1), .int (u_18.1 2), .int (u_18.1 3), .int (u_18.1 4), .int (u_18.1 5)])), ((a0 1), .inl (q 0, 400, .inl u_18.2))] H := hP
          have hD : va_D _ [((a0 0), .inr (4, [.ref (a0 1), .int (u_18.1 0), .int (u_18.1 1), .int (u_18.1 2), .int (u_18.1 3), .int (u_18.1 4), .int (u_18.1 5)])), ((a0 1), .inl (q 0, 400, .inl u_18.2))] := hD
          refine lv_iload_n hx hb dX5_takeNumber_129 rfl (lv_at hl 0 rfl) ?_
          exact mt_iret u_18 hx hb hr hk h (hP.sub (ws' := tp_w a0 q u_18) [0, 1] rfl) (hD.sub (ws' := tp_w a0 q u_18) [0, 1] (by decide) rfl) hS dX5_takeNumber_130
    · replace h := h.2 c_12
      refine lv_aload_n hx hb dX5_takeNumber_99 rfl (lv_at hl 3 rfl) ?_
      refine lv_aload_n hx hb dX5_takeNumber_100 rfl (lv_at hl 3 rfl) ?_
      refine fl_get (C := RX5) (T := TX5) (N := 7) (ci := 4) (v := .int (t0.1 1)) hx hb ht in_X5 hown hK hP 0 rfl rfl 2 (by decide) mw_132 rfl dX5_takeNumber_101 ?_
      refine lv_iconst (v := 1) hx hb dX5_takeNumber_104 (by decide) ?_
      refine mt_gov (mt_wV (wc := tp_w a0 q t0) (As := [.int (t0.1 1), .int 1]) (rest := []) hx hb hml hown ht (c2_X5_blame h) wd_X5_blame mw_495 hQ hV hS hA (hP.sub [0, 1] rfl) (hD.sub [0, 1] (by decide) rfl) rfl rfl rfl hl.1 rfl (Nat.le_of_ble_eq_true rfl) dX5_takeNumber_105 ⟨Nat.le_of_ble_eq_true rfl, Nat.le_of_ble_eq_true rfl, rfl, rfl⟩ ⟨Nat.le_of_ble_eq_true rfl, Nat.le_of_ble_eq_true rfl⟩) (wr := []) hP hD hS hA [0, 1] [] rfl rfl (by decide) (by decide) (fun u_20 H locs h hP hD hS => ?_)
      try dsimp only at h
      have hP : va_P D vwCl [((a0 0), .inr (4, [.ref (a0 1), .int (u_20.1 0), .int (u_20.1 1), .int (u_20.1 2), .int (u_20.1 3), .int (u_20.1 4), .int (u_20.1 5)])), ((a0 1), .inl (q 0, 400, .inl u_20.2))] H := hP
      have hD : va_D _ [((a0 0), .inr (4, [.ref (a0 1), .int (u_20.1 0), .int (u_20.1 1), .int (u_20.1 2), .int (u_20.1 3), .int (u_20.1 4), .int (u_20.1 5)])), ((a0 1), .inl (q 0, 400, .inl u_20.2))] := hD
      refine lv_iload_n hx hb dX5_takeNumber_108 rfl (lv_at hl 0 rfl) ?_
      exact mt_iret u_20 hx hb hr hk h (hP.sub (ws' := tp_w a0 q u_20) [0, 1] rfl) (hD.sub (ws' := tp_w a0 q u_20) [0, 1] (by decide) rfl) hS dX5_takeNumber_109

def wp_X5_isSound (post : Int32 → Prop) (s0 : Tp) : Prop := ((¬ (s0.1 5) = 0 → post 0) ∧ ((s0.1 5) = 0 → post 1))
set_option maxHeartbeats 4000000 in
set_option maxRecDepth 100000 in
theorem c2_X5_isSound {l : Launch} {D : va_G} {q : Nat → ClassId} {a0 : Nat → Nat} {s0 : Tp} {post : Int32 → Prop} (h : wp_X5_isSound post s0) : Met l yX5_isSound (Cond.code yX5_isSound cX5_isSound 1 (some .boolean) :: w_all) ({ frames := 0, cells := 0, slots := 0, locals := 0 } : Room) (rd_P D q [.ref (a0 0)] (tp_w a0 q s0)) (vp_Si post) 0 0 (fun _ => False) := by
  refine rd_start (by decide) (Nat.le_of_ble_eq_true rfl) ?_
  intro p e s m below meth c ls hx hb hr hml hown ht hk hP hQ hV hl
  have hK := hQ.1
  have hown : s.vm.findClass RX5 = some m.cls := hown
  have hl : lv_has ls 1 [(0, .ref (a0 0))] := hl
  have hP : va_P D vwCl [((a0 0), .inr (4, [.ref (a0 1), .int (s0.1 0), .int (s0.1 1), .int (s0.1 2), .int (s0.1 3), .int (s0.1 4), .int (s0.1 5)])), ((a0 1), .inl (q 0, 400, .inl s0.2))] s.heap := hP
  unfold wp_X5_isSound at h
  refine lv_aload_n hx hb dX5_isSound_0 rfl (lv_at hl 0 rfl) ?_
  refine fl_get (C := RX5) (T := TX5) (N := 7) (ci := 4) (v := .int (s0.1 5)) hx hb ht in_X5 hown hK hP 0 rfl rfl 6 (by decide) mw_143 rfl dX5_isSound_1 ?_
  refine lv_if_ne (tgt := 11) hx hb dX5_isSound_4 (by decide) (fun c_1 => ?_) (fun c_1 => ?_)
  · replace h := h.1 c_1
    refine lv_iconst (v := 0) hx hb dX5_isSound_11 (by decide) ?_
    exact rd_zret hx hb hr hk rfl h dX5_isSound_12
  · replace h := h.2 c_1
    refine lv_iconst (v := 1) hx hb dX5_isSound_7 (by decide) ?_
    refine lv_goto (tgt := 12) hx hb dX5_isSound_8 (by decide) ?_
    exact rd_zret hx hb hr hk rfl h dX5_isSound_12

def wp_X1_readHead (post : Bd → Tp → Prop) (s0 : Bd) (s1 : Tp) : Prop := wp_X5_takeThisWord (fun u_2 => wp_X5_takeNumber (fun r_3 u_4 => ((r_3 ≤ 0 → wp_X5_takeNumber (fun r_6 u_7 => wp_X5_takeThisWord (fun u_9 => wp_X5_takeNumber (fun r_10 u_11 => wp_X5_isSound (fun r_12 => ((r_12 = 0 → post s0 u_11) ∧ (¬ r_12 = 0 → post ((va_up (va_up (va_up s0.1 0 r_3) 1 r_6) 2 r_10), s0.2.1, s0.2.2.1, s0.2.2.2.1, s0.2.2.2.2) u_11))) u_11) u_9 (1 : Int32) (99 : Int32)) u_7 (2 : Int32)) u_4 (1 : Int32) (0 : Int32)) ∧ (¬ r_3 ≤ 0 → ¬ r_3 = 0 ∧ wp_X5_takeNumber (fun r_16 u_17 => wp_X5_takeThisWord (fun u_19 => wp_X5_takeNumber (fun r_20 u_21 => wp_X5_isSound (fun r_22 => ((r_22 = 0 → post s0 u_21) ∧ (¬ r_22 = 0 → post ((va_up (va_up (va_up s0.1 0 r_3) 1 r_16) 2 r_20), s0.2.1, s0.2.2.1, s0.2.2.2.1, s0.2.2.2.2) u_21))) u_21) u_19 (1 : Int32) (99 : Int32)) u_17 (2 : Int32)) u_4 (1 : Int32) (if (40 / r_3) < (10 : Int32) then (40 / r_3) else (10 : Int32))))) u_2 (1 : Int32) (6 : Int32)) s1 (1 : Int32)
set_option maxHeartbeats 4000000 in
set_option maxRecDepth 100000 in
theorem c2_X1_readHead {l : Launch} {D : va_G} {q : Nat → ClassId} {sz : Nat} {a0 : Nat → Nat} {a1 : Nat → Nat} {s0 : Bd} {s1 : Tp} {post : Bd → Tp → Prop} (h : wp_X1_readHead post s0 s1) : Met l yX1_readHead (Cond.code yX1_readHead cX1_readHead 6 none :: w_all) ({ frames := 8, cells := 0, slots := 0, locals := 168 } : Room) (mt_P D q [.ref (a0 0), .ref (a1 0)] (bd_w a0 q s0 ++ tp_w a1 q s1) sz) (va_Qv (fun u : Bd × Tp => post u.1 u.2) (mt_B D (bd_w a0 q s0 ++ tp_w a1 q s1) sz (fun u : Bd × Tp => bd_w a0 q u.1 ++ tp_w a1 q u.2)) (va_A (bd_w a0 q s0 ++ tp_w a1 q s1) sz)) 0 0 (va_A (bd_w a0 q s0 ++ tp_w a1 q s1) sz) := by
  refine mt_start (by decide) (Nat.le_of_ble_eq_true rfl) ?_
  intro p e s m below meth c ls hx hb hr hml hown ht hk hin hP hQ hD hA hS hV hl
  have hK := hQ.1
  have hown : s.vm.findClass RX1 = some m.cls := hown
  have hl : lv_has ls 6 [(0, .ref (a0 0)), (1, .ref (a1 0))] := hl
  have hP : va_P D vwCl [((a0 0), .inr (0, [.int (s0.1 0), .int (s0.1 1), .int (s0.1 2), .int (s0.1 3), .int (s0.1 4), .int (s0.1 5), .ref (a0 1), .ref (a0 2), .ref (a0 3), .ref (a0 4), .ref (a0 5), .ref (a0 6), .ref (a0 7), .ref (a0 8), .ref (a0 9), .ref (a0 10), .ref (a0 11), .ref (a0 12)])), ((a0 1), .inl (q 0, 4, .inl (s0.2.1 0))), ((a0 2), .inl (q 0, 4, .inl (s0.2.1 1))), ((a0 3), .inl (q 0, 160, .inl (s0.2.1 2))), ((a0 4), .inl (q 0, 40, .inl (s0.2.1 3))), ((a0 5), .inl (q 0, 40, .inl (s0.2.1 4))), ((a0 6), .inl (q 0, 40, .inl (s0.2.1 5))), ((a0 7), .inl (q 0, 40, .inl (s0.2.1 6))), ((a0 8), .inl (q 0, 40, .inl (s0.2.1 7))), ((a0 9), .inl (q 0, 40, .inl (s0.2.1 8))), ((a0 10), .inl (q 0, 40, .inl (s0.2.1 9))), ((a0 11), .inl (q 1, 40, .inr (.inl s0.2.2.1))), ((a0 12), .inl (q 0, s0.2.2.2.1, .inl s0.2.2.2.2)), ((a1 0), .inr (4, [.ref (a1 1), .int (s1.1 0), .int (s1.1 1), .int (s1.1 2), .int (s1.1 3), .int (s1.1 4), .int (s1.1 5)])), ((a1 1), .inl (q 0, 400, .inl s1.2))] s.heap := hP
  have hD : va_D _ [((a0 0), .inr (0, [.int (s0.1 0), .int (s0.1 1), .int (s0.1 2), .int (s0.1 3), .int (s0.1 4), .int (s0.1 5), .ref (a0 1), .ref (a0 2), .ref (a0 3), .ref (a0 4), .ref (a0 5), .ref (a0 6), .ref (a0 7), .ref (a0 8), .ref (a0 9), .ref (a0 10), .ref (a0 11), .ref (a0 12)])), ((a0 1), .inl (q 0, 4, .inl (s0.2.1 0))), ((a0 2), .inl (q 0, 4, .inl (s0.2.1 1))), ((a0 3), .inl (q 0, 160, .inl (s0.2.1 2))), ((a0 4), .inl (q 0, 40, .inl (s0.2.1 3))), ((a0 5), .inl (q 0, 40, .inl (s0.2.1 4))), ((a0 6), .inl (q 0, 40, .inl (s0.2.1 5))), ((a0 7), .inl (q 0, 40, .inl (s0.2.1 6))), ((a0 8), .inl (q 0, 40, .inl (s0.2.1 7))), ((a0 9), .inl (q 0, 40, .inl (s0.2.1 8))), ((a0 10), .inl (q 0, 40, .inl (s0.2.1 9))), ((a0 11), .inl (q 1, 40, .inr (.inl s0.2.2.1))), ((a0 12), .inl (q 0, s0.2.2.2.1, .inl s0.2.2.2.2)), ((a1 0), .inr (4, [.ref (a1 1), .int (s1.1 0), .int (s1.1 1), .int (s1.1 2), .int (s1.1 3), .int (s1.1 4), .int (s1.1 5)])), ((a1 1), .inl (q 0, 400, .inl s1.2))] := hD
  unfold wp_X1_readHead at h
  refine lv_aload_n hx hb dX1_readHead_0 rfl (lv_at hl 1 rfl) ?_
  refine lv_iconst (v := 1) hx hb dX1_readHead_1 (by decide) ?_
  refine mt_gov (mt_wV (wc := tp_w a1 q s1) (As := [.int 1]) (rest := []) hx hb hml hown ht (c2_X5_takeThisWord h) wd_X5_takeThisWord mw_411 hQ hV hS hA (hP.sub [13, 14] rfl) (hD.sub [13, 14] (by decide) rfl) rfl rfl rfl hl.1 rfl (Nat.le_of_ble_eq_true rfl) dX1_readHead_2 ⟨Nat.le_of_ble_eq_true rfl, Nat.le_of_ble_eq_true rfl, rfl, rfl⟩ ⟨Nat.le_of_ble_eq_true rfl, Nat.le_of_ble_eq_true rfl⟩) (wr := [((a0 0), .inr (0, [.int (s0.1 0), .int (s0.1 1), .int (s0.1 2), .int (s0.1 3), .int (s0.1 4), .int (s0.1 5), .ref (a0 1), .ref (a0 2), .ref (a0 3), .ref (a0 4), .ref (a0 5), .ref (a0 6), .ref (a0 7), .ref (a0 8), .ref (a0 9), .ref (a0 10), .ref (a0 11), .ref (a0 12)])), ((a0 1), .inl (q 0, 4, .inl (s0.2.1 0))), ((a0 2), .inl (q 0, 4, .inl (s0.2.1 1))), ((a0 3), .inl (q 0, 160, .inl (s0.2.1 2))), ((a0 4), .inl (q 0, 40, .inl (s0.2.1 3))), ((a0 5), .inl (q 0, 40, .inl (s0.2.1 4))), ((a0 6), .inl (q 0, 40, .inl (s0.2.1 5))), ((a0 7), .inl (q 0, 40, .inl (s0.2.1 6))), ((a0 8), .inl (q 0, 40, .inl (s0.2.1 7))), ((a0 9), .inl (q 0, 40, .inl (s0.2.1 8))), ((a0 10), .inl (q 0, 40, .inl (s0.2.1 9))), ((a0 11), .inl (q 1, 40, .inr (.inl s0.2.2.1))), ((a0 12), .inl (q 0, s0.2.2.2.1, .inl s0.2.2.2.2))]) hP hD hS hA [13, 14] [0, 1, 2, 3, 4, 5, 6, 7, 8, 9, 10, 11, 12] rfl rfl (by decide) (by decide) (fun u_2 H locs h hP hD hS => ?_)
  try dsimp only at h
  have hP : va_P D vwCl [((a0 0), .inr (0, [.int (s0.1 0), .int (s0.1 1), .int (s0.1 2), .int (s0.1 3), .int (s0.1 4), .int (s0.1 5), .ref (a0 1), .ref (a0 2), .ref (a0 3), .ref (a0 4), .ref (a0 5), .ref (a0 6), .ref (a0 7), .ref (a0 8), .ref (a0 9), .ref (a0 10), .ref (a0 11), .ref (a0 12)])), ((a0 1), .inl (q 0, 4, .inl (s0.2.1 0))), ((a0 2), .inl (q 0, 4, .inl (s0.2.1 1))), ((a0 3), .inl (q 0, 160, .inl (s0.2.1 2))), ((a0 4), .inl (q 0, 40, .inl (s0.2.1 3))), ((a0 5), .inl (q 0, 40, .inl (s0.2.1 4))), ((a0 6), .inl (q 0, 40, .inl (s0.2.1 5))), ((a0 7), .inl (q 0, 40, .inl (s0.2.1 6))), ((a0 8), .inl (q 0, 40, .inl (s0.2.1 7))), ((a0 9), .inl (q 0, 40, .inl (s0.2.1 8))), ((a0 10), .inl (q 0, 40, .inl (s0.2.1 9))), ((a0 11), .inl (q 1, 40, .inr (.inl s0.2.2.1))), ((a0 12), .inl (q 0, s0.2.2.2.1, .inl s0.2.2.2.2)), ((a1 0), .inr (4, [.ref (a1 1), .int (u_2.1 0), .int (u_2.1 1), .int (u_2.1 2), .int (u_2.1 3), .int (u_2.1 4), .int (u_2.1 5)])), ((a1 1), .inl (q 0, 400, .inl u_2.2))] H := hP
  have hD : va_D _ [((a0 0), .inr (0, [.int (s0.1 0), .int (s0.1 1), .int (s0.1 2), .int (s0.1 3), .int (s0.1 4), .int (s0.1 5), .ref (a0 1), .ref (a0 2), .ref (a0 3), .ref (a0 4), .ref (a0 5), .ref (a0 6), .ref (a0 7), .ref (a0 8), .ref (a0 9), .ref (a0 10), .ref (a0 11), .ref (a0 12)])), ((a0 1), .inl (q 0, 4, .inl (s0.2.1 0))), ((a0 2), .inl (q 0, 4, .inl (s0.2.1 1))), ((a0 3), .inl (q 0, 160, .inl (s0.2.1 2))), ((a0 4), .inl (q 0, 40, .inl (s0.2.1 3))), ((a0 5), .inl (q 0, 40, .inl (s0.2.1 4))), ((a0 6), .inl (q 0, 40, .inl (s0.2.1 5))), ((a0 7), .inl (q 0, 40, .inl (s0.2.1 6))), ((a0 8), .inl (q 0, 40, .inl (s0.2.1 7))), ((a0 9), .inl (q 0, 40, .inl (s0.2.1 8))), ((a0 10), .inl (q 0, 40, .inl (s0.2.1 9))), ((a0 11), .inl (q 1, 40, .inr (.inl s0.2.2.1))), ((a0 12), .inl (q 0, s0.2.2.2.1, .inl s0.2.2.2.2)), ((a1 0), .inr (4, [.ref (a1 1), .int (u_2.1 0), .int (u_2.1 1), .int (u_2.1 2), .int (u_2.1 3), .int (u_2.1 4), .int (u_2.1 5)])), ((a1 1), .inl (q 0, 400, .inl u_2.2))] := hD
  refine lv_aload_n hx hb dX1_readHead_5 rfl (lv_at hl 1 rfl) ?_
  refine lv_iconst (v := 1) hx hb dX1_readHead_6 (by decide) ?_
  refine lv_bipush (v := 6) hx hb dX1_readHead_7 (by decide) ?_
  refine mt_goi (mt_wV (wc := tp_w a1 q u_2) (As := [.int 1, .int 6]) (rest := []) hx hb hml hown ht (c2_X5_takeNumber h) wd_X5_takeNumber mw_499 hQ hV hS hA (hP.sub [13, 14] rfl) (hD.sub [13, 14] (by decide) rfl) rfl rfl rfl hl.1 rfl (Nat.le_of_ble_eq_true rfl) dX1_readHead_9 ⟨Nat.le_of_ble_eq_true rfl, Nat.le_of_ble_eq_true rfl, rfl, rfl⟩ ⟨Nat.le_of_ble_eq_true rfl, Nat.le_of_ble_eq_true rfl⟩) (wr := [((a0 0), .inr (0, [.int (s0.1 0), .int (s0.1 1), .int (s0.1 2), .int (s0.1 3), .int (s0.1 4), .int (s0.1 5), .ref (a0 1), .ref (a0 2), .ref (a0 3), .ref (a0 4), .ref (a0 5), .ref (a0 6), .ref (a0 7), .ref (a0 8), .ref (a0 9), .ref (a0 10), .ref (a0 11), .ref (a0 12)])), ((a0 1), .inl (q 0, 4, .inl (s0.2.1 0))), ((a0 2), .inl (q 0, 4, .inl (s0.2.1 1))), ((a0 3), .inl (q 0, 160, .inl (s0.2.1 2))), ((a0 4), .inl (q 0, 40, .inl (s0.2.1 3))), ((a0 5), .inl (q 0, 40, .inl (s0.2.1 4))), ((a0 6), .inl (q 0, 40, .inl (s0.2.1 5))), ((a0 7), .inl (q 0, 40, .inl (s0.2.1 6))), ((a0 8), .inl (q 0, 40, .inl (s0.2.1 7))), ((a0 9), .inl (q 0, 40, .inl (s0.2.1 8))), ((a0 10), .inl (q 0, 40, .inl (s0.2.1 9))), ((a0 11), .inl (q 1, 40, .inr (.inl s0.2.2.1))), ((a0 12), .inl (q 0, s0.2.2.2.1, .inl s0.2.2.2.2))]) hP hD hS hA [13, 14] [0, 1, 2, 3, 4, 5, 6, 7, 8, 9, 10, 11, 12] rfl rfl (by decide) (by decide) (fun r_3 u_4 H locs h hP hD hS => ?_)
  try dsimp only at h
  have hP : va_P D vwCl [((a0 0), .inr (0, [.int (s0.1 0), .int (s0.1 1), .int (s0.1 2), .int (s0.1 3), .int (s0.1 4), .int (s0.1 5), .ref (a0 1), .ref (a0 2), .ref (a0 3), .ref (a0 4), .ref (a0 5), .ref (a0 6), .ref (a0 7), .ref (a0 8), .ref (a0 9), .ref (a0 10), .ref (a0 11), .ref (a0 12)])), ((a0 1), .inl (q 0, 4, .inl (s0.2.1 0))), ((a0 2), .inl (q 0, 4, .inl (s0.2.1 1))), ((a0 3), .inl (q 0, 160, .inl (s0.2.1 2))), ((a0 4), .inl (q 0, 40, .inl (s0.2.1 3))), ((a0 5), .inl (q 0, 40, .inl (s0.2.1 4))), ((a0 6), .inl (q 0, 40, .inl (s0.2.1 5))), ((a0 7), .inl (q 0, 40, .inl (s0.2.1 6))), ((a0 8), .inl (q 0, 40, .inl (s0.2.1 7))), ((a0 9), .inl (q 0, 40, .inl (s0.2.1 8))), ((a0 10), .inl (q 0, 40, .inl (s0.2.1 9))), ((a0 11), .inl (q 1, 40, .inr (.inl s0.2.2.1))), ((a0 12), .inl (q 0, s0.2.2.2.1, .inl s0.2.2.2.2)), ((a1 0), .inr (4, [.ref (a1 1), .int (u_4.1 0), .int (u_4.1 1), .int (u_4.1 2), .int (u_4.1 3), .int (u_4.1 4), .int (u_4.1 5)])), ((a1 1), .inl (q 0, 400, .inl u_4.2))] H := hP
  have hD : va_D _ [((a0 0), .inr (0, [.int (s0.1 0), .int (s0.1 1), .int (s0.1 2), .int (s0.1 3), .int (s0.1 4), .int (s0.1 5), .ref (a0 1), .ref (a0 2), .ref (a0 3), .ref (a0 4), .ref (a0 5), .ref (a0 6), .ref (a0 7), .ref (a0 8), .ref (a0 9), .ref (a0 10), .ref (a0 11), .ref (a0 12)])), ((a0 1), .inl (q 0, 4, .inl (s0.2.1 0))), ((a0 2), .inl (q 0, 4, .inl (s0.2.1 1))), ((a0 3), .inl (q 0, 160, .inl (s0.2.1 2))), ((a0 4), .inl (q 0, 40, .inl (s0.2.1 3))), ((a0 5), .inl (q 0, 40, .inl (s0.2.1 4))), ((a0 6), .inl (q 0, 40, .inl (s0.2.1 5))), ((a0 7), .inl (q 0, 40, .inl (s0.2.1 6))), ((a0 8), .inl (q 0, 40, .inl (s0.2.1 7))), ((a0 9), .inl (q 0, 40, .inl (s0.2.1 8))), ((a0 10), .inl (q 0, 40, .inl (s0.2.1 9))), ((a0 11), .inl (q 1, 40, .inr (.inl s0.2.2.1))), ((a0 12), .inl (q 0, s0.2.2.2.1, .inl s0.2.2.2.2)), ((a1 0), .inr (4, [.ref (a1 1), .int (u_4.1 0), .int (u_4.1 1), .int (u_4.1 2), .int (u_4.1 3), .int (u_4.1 4), .int (u_4.1 5)])), ((a1 1), .inl (q 0, 400, .inl u_4.2))] := hD
  refine lv_istore_n (lv' := [(2, .int r_3), (0, .ref (a0 0)), (1, .ref (a1 0))]) hx hb dX1_readHead_12 rfl hl (by decide) rfl (fun ls hl => ?_)
  refine lv_iload_n hx hb dX1_readHead_13 rfl (lv_at hl 0 rfl) ?_
  refine lv_if_le (tgt := 24) hx hb dX1_readHead_14 (by decide) (fun c_5 => ?_) (fun c_5 => ?_)
  · replace h := h.1 c_5
    refine lv_iconst (v := 0) hx hb dX1_readHead_24 (by decide) ?_
    refine lv_istore_n (lv' := [(3, .int 0), (2, .int r_3), (0, .ref (a0 0)), (1, .ref (a1 0))]) hx hb dX1_readHead_25 rfl hl (by decide) rfl (fun ls hl => ?_)
    refine lv_aload_n hx hb dX1_readHead_26 rfl (lv_at hl 3 rfl) ?_
    refine lv_iconst (v := 1) hx hb dX1_readHead_27 (by decide) ?_
    refine lv_bipush (v := 10) hx hb dX1_readHead_28 (by decide) ?_
    refine lv_iload_n hx hb dX1_readHead_30 rfl (lv_at hl 0 rfl) ?_
    refine va_mmin hx hb (hml.trans hl.1.symm) hown (ht _ mw_506) (ht _ mw_504) (ht _ mw_110) (ht _ mw_505) (Nat.le_of_ble_eq_true rfl) (Nat.le_of_ble_eq_true rfl) (Nat.le_of_ble_eq_true rfl) (Nat.le_of_ble_eq_true rfl) dX1_readHead_31 ?_
    refine ab_i (v := 0) (by decide) ?_
    refine mt_goi (mt_wV (wc := tp_w a1 q u_4) (As := [.int 1, .int 0]) (rest := []) hx hb hml hown ht (c2_X5_takeNumber h) wd_X5_takeNumber mw_499 hQ hV hS hA (hP.sub [13, 14] rfl) (hD.sub [13, 14] (by decide) rfl) rfl rfl rfl hl.1 rfl (Nat.le_of_ble_eq_true rfl) dX1_readHead_34 ⟨Nat.le_of_ble_eq_true rfl, Nat.le_of_ble_eq_true rfl, rfl, rfl⟩ ⟨Nat.le_of_ble_eq_true rfl, Nat.le_of_ble_eq_true rfl⟩) (wr := [((a0 0), .inr (0, [.int (s0.1 0), .int (s0.1 1), .int (s0.1 2), .int (s0.1 3), .int (s0.1 4), .int (s0.1 5), .ref (a0 1), .ref (a0 2), .ref (a0 3), .ref (a0 4), .ref (a0 5), .ref (a0 6), .ref (a0 7), .ref (a0 8), .ref (a0 9), .ref (a0 10), .ref (a0 11), .ref (a0 12)])), ((a0 1), .inl (q 0, 4, .inl (s0.2.1 0))), ((a0 2), .inl (q 0, 4, .inl (s0.2.1 1))), ((a0 3), .inl (q 0, 160, .inl (s0.2.1 2))), ((a0 4), .inl (q 0, 40, .inl (s0.2.1 3))), ((a0 5), .inl (q 0, 40, .inl (s0.2.1 4))), ((a0 6), .inl (q 0, 40, .inl (s0.2.1 5))), ((a0 7), .inl (q 0, 40, .inl (s0.2.1 6))), ((a0 8), .inl (q 0, 40, .inl (s0.2.1 7))), ((a0 9), .inl (q 0, 40, .inl (s0.2.1 8))), ((a0 10), .inl (q 0, 40, .inl (s0.2.1 9))), ((a0 11), .inl (q 1, 40, .inr (.inl s0.2.2.1))), ((a0 12), .inl (q 0, s0.2.2.2.1, .inl s0.2.2.2.2))]) hP hD hS hA [13, 14] [0, 1, 2, 3, 4, 5, 6, 7, 8, 9, 10, 11, 12] rfl rfl (by decide) (by decide) (fun r_6 u_7 H locs h hP hD hS => ?_)
    try dsimp only at h
    have hP : va_P D vwCl [((a0 0), .inr (0, [.int (s0.1 0), .int (s0.1 1), .int (s0.1 2), .int (s0.1 3), .int (s0.1 4), .int (s0.1 5), .ref (a0 1), .ref (a0 2), .ref (a0 3), .ref (a0 4), .ref (a0 5), .ref (a0 6), .ref (a0 7), .ref (a0 8), .ref (a0 9), .ref (a0 10), .ref (a0 11), .ref (a0 12)])), ((a0 1), .inl (q 0, 4, .inl (s0.2.1 0))), ((a0 2), .inl (q 0, 4, .inl (s0.2.1 1))), ((a0 3), .inl (q 0, 160, .inl (s0.2.1 2))), ((a0 4), .inl (q 0, 40, .inl (s0.2.1 3))), ((a0 5), .inl (q 0, 40, .inl (s0.2.1 4))), ((a0 6), .inl (q 0, 40, .inl (s0.2.1 5))), ((a0 7), .inl (q 0, 40, .inl (s0.2.1 6))), ((a0 8), .inl (q 0, 40, .inl (s0.2.1 7))), ((a0 9), .inl (q 0, 40, .inl (s0.2.1 8))), ((a0 10), .inl (q 0, 40, .inl (s0.2.1 9))), ((a0 11), .inl (q 1, 40, .inr (.inl s0.2.2.1))), ((a0 12), .inl (q 0, s0.2.2.2.1, .inl s0.2.2.2.2)), ((a1 0), .inr (4, [.ref (a1 1), .int (u_7.1 0), .int (u_7.1 1), .int (u_7.1 2), .int (u_7.1 3), .int (u_7.1 4), .int (u_7.1 5)])), ((a1 1), .inl (q 0, 400, .inl u_7.2))] H := hP
    have hD : va_D _ [((a0 0), .inr (0, [.int (s0.1 0), .int (s0.1 1), .int (s0.1 2), .int (s0.1 3), .int (s0.1 4), .int (s0.1 5), .ref (a0 1), .ref (a0 2), .ref (a0 3), .ref (a0 4), .ref (a0 5), .ref (a0 6), .ref (a0 7), .ref (a0 8), .ref (a0 9), .ref (a0 10), .ref (a0 11), .ref (a0 12)])), ((a0 1), .inl (q 0, 4, .inl (s0.2.1 0))), ((a0 2), .inl (q 0, 4, .inl (s0.2.1 1))), ((a0 3), .inl (q 0, 160, .inl (s0.2.1 2))), ((a0 4), .inl (q 0, 40, .inl (s0.2.1 3))), ((a0 5), .inl (q 0, 40, .inl (s0.2.1 4))), ((a0 6), .inl (q 0, 40, .inl (s0.2.1 5))), ((a0 7), .inl (q 0, 40, .inl (s0.2.1 6))), ((a0 8), .inl (q 0, 40, .inl (s0.2.1 7))), ((a0 9), .inl (q 0, 40, .inl (s0.2.1 8))), ((a0 10), .inl (q 0, 40, .inl (s0.2.1 9))), ((a0 11), .inl (q 1, 40, .inr (.inl s0.2.2.1))), ((a0 12), .inl (q 0, s0.2.2.2.1, .inl s0.2.2.2.2)), ((a1 0), .inr (4, [.ref (a1 1), .int (u_7.1 0), .int (u_7.1 1), .int (u_7.1 2), .int (u_7.1 3), .int (u_7.1 4), .int (u_7.1 5)])), ((a1 1), .inl (q 0, 400, .inl u_7.2))] := hD
    refine lv_istore (lv' := [(4, .int r_6), (3, .int 0), (2, .int r_3), (0, .ref (a0 0)), (1, .ref (a1 0))]) hx hb dX1_readHead_37 hl (by decide) rfl (fun ls hl => ?_)
    refine lv_aload_n hx hb dX1_readHead_39 rfl (lv_at hl 4 rfl) ?_
    refine lv_iconst (v := 2) hx hb dX1_readHead_40 (by decide) ?_
    refine mt_gov (mt_wV (wc := tp_w a1 q u_7) (As := [.int 2]) (rest := []) hx hb hml hown ht (c2_X5_takeThisWord h) wd_X5_takeThisWord mw_411 hQ hV hS hA (hP.sub [13, 14] rfl) (hD.sub [13, 14] (by decide) rfl) rfl rfl rfl hl.1 rfl (Nat.le_of_ble_eq_true rfl) dX1_readHead_41 ⟨Nat.le_of_ble_eq_true rfl, Nat.le_of_ble_eq_true rfl, rfl, rfl⟩ ⟨Nat.le_of_ble_eq_true rfl, Nat.le_of_ble_eq_true rfl⟩) (wr := [((a0 0), .inr (0, [.int (s0.1 0), .int (s0.1 1), .int (s0.1 2), .int (s0.1 3), .int (s0.1 4), .int (s0.1 5), .ref (a0 1), .ref (a0 2), .ref (a0 3), .ref (a0 4), .ref (a0 5), .ref (a0 6), .ref (a0 7), .ref (a0 8), .ref (a0 9), .ref (a0 10), .ref (a0 11), .ref (a0 12)])), ((a0 1), .inl (q 0, 4, .inl (s0.2.1 0))), ((a0 2), .inl (q 0, 4, .inl (s0.2.1 1))), ((a0 3), .inl (q 0, 160, .inl (s0.2.1 2))), ((a0 4), .inl (q 0, 40, .inl (s0.2.1 3))), ((a0 5), .inl (q 0, 40, .inl (s0.2.1 4))), ((a0 6), .inl (q 0, 40, .inl (s0.2.1 5))), ((a0 7), .inl (q 0, 40, .inl (s0.2.1 6))), ((a0 8), .inl (q 0, 40, .inl (s0.2.1 7))), ((a0 9), .inl (q 0, 40, .inl (s0.2.1 8))), ((a0 10), .inl (q 0, 40, .inl (s0.2.1 9))), ((a0 11), .inl (q 1, 40, .inr (.inl s0.2.2.1))), ((a0 12), .inl (q 0, s0.2.2.2.1, .inl s0.2.2.2.2))]) hP hD hS hA [13, 14] [0, 1, 2, 3, 4, 5, 6, 7, 8, 9, 10, 11, 12] rfl rfl (by decide) (by decide) (fun u_9 H locs h hP hD hS => ?_)
    try dsimp only at h
    have hP : va_P D vwCl [((a0 0), .inr (0, [.int (s0.1 0), .int (s0.1 1), .int (s0.1 2), .int (s0.1 3), .int (s0.1 4), .int (s0.1 5), .ref (a0 1), .ref (a0 2), .ref (a0 3), .ref (a0 4), .ref (a0 5), .ref (a0 6), .ref (a0 7), .ref (a0 8), .ref (a0 9), .ref (a0 10), .ref (a0 11), .ref (a0 12)])), ((a0 1), .inl (q 0, 4, .inl (s0.2.1 0))), ((a0 2), .inl (q 0, 4, .inl (s0.2.1 1))), ((a0 3), .inl (q 0, 160, .inl (s0.2.1 2))), ((a0 4), .inl (q 0, 40, .inl (s0.2.1 3))), ((a0 5), .inl (q 0, 40, .inl (s0.2.1 4))), ((a0 6), .inl (q 0, 40, .inl (s0.2.1 5))), ((a0 7), .inl (q 0, 40, .inl (s0.2.1 6))), ((a0 8), .inl (q 0, 40, .inl (s0.2.1 7))), ((a0 9), .inl (q 0, 40, .inl (s0.2.1 8))), ((a0 10), .inl (q 0, 40, .inl (s0.2.1 9))), ((a0 11), .inl (q 1, 40, .inr (.inl s0.2.2.1))), ((a0 12), .inl (q 0, s0.2.2.2.1, .inl s0.2.2.2.2)), ((a1 0), .inr (4, [.ref (a1 1), .int (u_9.1 0), .int (u_9.1 1), .int (u_9.1 2), .int (u_9.1 3), .int (u_9.1 4), .int (u_9.1 5)])), ((a1 1), .inl (q 0, 400, .inl u_9.2))] H := hP
    have hD : va_D _ [((a0 0), .inr (0, [.int (s0.1 0), .int (s0.1 1), .int (s0.1 2), .int (s0.1 3), .int (s0.1 4), .int (s0.1 5), .ref (a0 1), .ref (a0 2), .ref (a0 3), .ref (a0 4), .ref (a0 5), .ref (a0 6), .ref (a0 7), .ref (a0 8), .ref (a0 9), .ref (a0 10), .ref (a0 11), .ref (a0 12)])), ((a0 1), .inl (q 0, 4, .inl (s0.2.1 0))), ((a0 2), .inl (q 0, 4, .inl (s0.2.1 1))), ((a0 3), .inl (q 0, 160, .inl (s0.2.1 2))), ((a0 4), .inl (q 0, 40, .inl (s0.2.1 3))), ((a0 5), .inl (q 0, 40, .inl (s0.2.1 4))), ((a0 6), .inl (q 0, 40, .inl (s0.2.1 5))), ((a0 7), .inl (q 0, 40, .inl (s0.2.1 6))), ((a0 8), .inl (q 0, 40, .inl (s0.2.1 7))), ((a0 9), .inl (q 0, 40, .inl (s0.2.1 8))), ((a0 10), .inl (q 0, 40, .inl (s0.2.1 9))), ((a0 11), .inl (q 1, 40, .inr (.inl s0.2.2.1))), ((a0 12), .inl (q 0, s0.2.2.2.1, .inl s0.2.2.2.2)), ((a1 0), .inr (4, [.ref (a1 1), .int (u_9.1 0), .int (u_9.1 1), .int (u_9.1 2), .int (u_9.1 3), .int (u_9.1 4), .int (u_9.1 5)])), ((a1 1), .inl (q 0, 400, .inl u_9.2))] := hD
    refine lv_aload_n hx hb dX1_readHead_44 rfl (lv_at hl 4 rfl) ?_
    refine lv_iconst (v := 1) hx hb dX1_readHead_45 (by decide) ?_
    refine lv_bipush (v := 99) hx hb dX1_readHead_46 (by decide) ?_
    refine mt_goi (mt_wV (wc := tp_w a1 q u_9) (As := [.int 1, .int 99]) (rest := []) hx hb hml hown ht (c2_X5_takeNumber h) wd_X5_takeNumber mw_499 hQ hV hS hA (hP.sub [13, 14] rfl) (hD.sub [13, 14] (by decide) rfl) rfl rfl rfl hl.1 rfl (Nat.le_of_ble_eq_true rfl) dX1_readHead_48 ⟨Nat.le_of_ble_eq_true rfl, Nat.le_of_ble_eq_true rfl, rfl, rfl⟩ ⟨Nat.le_of_ble_eq_true rfl, Nat.le_of_ble_eq_true rfl⟩) (wr := [((a0 0), .inr (0, [.int (s0.1 0), .int (s0.1 1), .int (s0.1 2), .int (s0.1 3), .int (s0.1 4), .int (s0.1 5), .ref (a0 1), .ref (a0 2), .ref (a0 3), .ref (a0 4), .ref (a0 5), .ref (a0 6), .ref (a0 7), .ref (a0 8), .ref (a0 9), .ref (a0 10), .ref (a0 11), .ref (a0 12)])), ((a0 1), .inl (q 0, 4, .inl (s0.2.1 0))), ((a0 2), .inl (q 0, 4, .inl (s0.2.1 1))), ((a0 3), .inl (q 0, 160, .inl (s0.2.1 2))), ((a0 4), .inl (q 0, 40, .inl (s0.2.1 3))), ((a0 5), .inl (q 0, 40, .inl (s0.2.1 4))), ((a0 6), .inl (q 0, 40, .inl (s0.2.1 5))), ((a0 7), .inl (q 0, 40, .inl (s0.2.1 6))), ((a0 8), .inl (q 0, 40, .inl (s0.2.1 7))), ((a0 9), .inl (q 0, 40, .inl (s0.2.1 8))), ((a0 10), .inl (q 0, 40, .inl (s0.2.1 9))), ((a0 11), .inl (q 1, 40, .inr (.inl s0.2.2.1))), ((a0 12), .inl (q 0, s0.2.2.2.1, .inl s0.2.2.2.2))]) hP hD hS hA [13, 14] [0, 1, 2, 3, 4, 5, 6, 7, 8, 9, 10, 11, 12] rfl rfl (by decide) (by decide) (fun r_10 u_11 H locs h hP hD hS => ?_)
    try dsimp only at h
    have hP : va_P D vwCl [((a0 0), .inr (0, [.int (s0.1 0), .int (s0.1 1), .int (s0.1 2), .int (s0.1 3), .int (s0.1 4), .int (s0.1 5), .ref (a0 1), .ref (a0 2), .ref (a0 3), .ref (a0 4), .ref (a0 5), .ref (a0 6), .ref (a0 7), .ref (a0 8), .ref (a0 9), .ref (a0 10), .ref (a0 11), .ref (a0 12)])), ((a0 1), .inl (q 0, 4, .inl (s0.2.1 0))), ((a0 2), .inl (q 0, 4, .inl (s0.2.1 1))), ((a0 3), .inl (q 0, 160, .inl (s0.2.1 2))), ((a0 4), .inl (q 0, 40, .inl (s0.2.1 3))), ((a0 5), .inl (q 0, 40, .inl (s0.2.1 4))), ((a0 6), .inl (q 0, 40, .inl (s0.2.1 5))), ((a0 7), .inl (q 0, 40, .inl (s0.2.1 6))), ((a0 8), .inl (q 0, 40, .inl (s0.2.1 7))), ((a0 9), .inl (q 0, 40, .inl (s0.2.1 8))), ((a0 10), .inl (q 0, 40, .inl (s0.2.1 9))), ((a0 11), .inl (q 1, 40, .inr (.inl s0.2.2.1))), ((a0 12), .inl (q 0, s0.2.2.2.1, .inl s0.2.2.2.2)), ((a1 0), .inr (4, [.ref (a1 1), .int (u_11.1 0), .int (u_11.1 1), .int (u_11.1 2), .int (u_11.1 3), .int (u_11.1 4), .int (u_11.1 5)])), ((a1 1), .inl (q 0, 400, .inl u_11.2))] H := hP
    have hD : va_D _ [((a0 0), .inr (0, [.int (s0.1 0), .int (s0.1 1), .int (s0.1 2), .int (s0.1 3), .int (s0.1 4), .int (s0.1 5), .ref (a0 1), .ref (a0 2), .ref (a0 3), .ref (a0 4), .ref (a0 5), .ref (a0 6), .ref (a0 7), .ref (a0 8), .ref (a0 9), .ref (a0 10), .ref (a0 11), .ref (a0 12)])), ((a0 1), .inl (q 0, 4, .inl (s0.2.1 0))), ((a0 2), .inl (q 0, 4, .inl (s0.2.1 1))), ((a0 3), .inl (q 0, 160, .inl (s0.2.1 2))), ((a0 4), .inl (q 0, 40, .inl (s0.2.1 3))), ((a0 5), .inl (q 0, 40, .inl (s0.2.1 4))), ((a0 6), .inl (q 0, 40, .inl (s0.2.1 5))), ((a0 7), .inl (q 0, 40, .inl (s0.2.1 6))), ((a0 8), .inl (q 0, 40, .inl (s0.2.1 7))), ((a0 9), .inl (q 0, 40, .inl (s0.2.1 8))), ((a0 10), .inl (q 0, 40, .inl (s0.2.1 9))), ((a0 11), .inl (q 1, 40, .inr (.inl s0.2.2.1))), ((a0 12), .inl (q 0, s0.2.2.2.1, .inl s0.2.2.2.2)), ((a1 0), .inr (4, [.ref (a1 1), .int (u_11.1 0), .int (u_11.1 1), .int (u_11.1 2), .int (u_11.1 3), .int (u_11.1 4), .int (u_11.1 5)])), ((a1 1), .inl (q 0, 400, .inl u_11.2))] := hD
    refine lv_istore (lv' := [(5, .int r_10), (4, .int r_6), (3, .int 0), (2, .int r_3), (0, .ref (a0 0)), (1, .ref (a1 0))]) hx hb dX1_readHead_51 hl (by decide) rfl (fun ls hl => ?_)
    refine lv_aload_n hx hb dX1_readHead_53 rfl (lv_at hl 5 rfl) ?_
    refine vp_callSi (rd_wV (wc := tp_w a1 q u_11) (As := []) (rest := []) hx hb hml hown ht (c2_X5_isSound h) wd_X5_isSound mw_507 hQ hV hS (hP.sub [13, 14] rfl) rfl rfl rfl hl.1 rfl (Nat.le_of_ble_eq_true rfl) dX1_readHead_54 ⟨Nat.le_of_ble_eq_true rfl, Nat.le_of_ble_eq_true rfl, rfl, rfl⟩ ⟨Nat.le_of_ble_eq_true rfl, Nat.le_of_ble_eq_true rfl⟩) (fun r_12 h => ?_)
    try dsimp only at h
    refine lv_if_eq (tgt := 77) hx hb dX1_readHead_57 (by decide) (fun c_14 => ?_) (fun c_14 => ?_)
    · replace h := h.1 c_14
      exact mt_vret (s0, u_11) hx hb hr hk h (hP.sub (ws' := bd_w a0 q s0 ++ tp_w a1 q u_11) [0, 1, 2, 3, 4, 5, 6, 7, 8, 9, 10, 11, 12, 13, 14] rfl) (hD.sub (ws' := bd_w a0 q s0 ++ tp_w a1 q u_11) [0, 1, 2, 3, 4, 5, 6, 7, 8, 9, 10, 11, 12, 13, 14] (by decide) rfl) hS dX1_readHead_77
    · replace h := h.2 c_14
      refine lv_aload_n hx hb dX1_readHead_60 rfl (lv_at hl 4 rfl) ?_
      refine lv_iload_n hx hb dX1_readHead_61 rfl (lv_at hl 3 rfl) ?_
      refine fl_put (C := RX0) (T := TX0) (N := 18) (ci := 0) (v := .int r_3) (ws2 := [((a0 0), .inr (0, [.int r_3, .int (s0.1 1), .int (s0.1 2), .int (s0.1 3), .int (s0.1 4), .int (s0.1 5), .ref (a0 1), .ref (a0 2), .ref (a0 3), .ref (a0 4), .ref (a0 5), .ref (a0 6), .ref (a0 7), .ref (a0 8), .ref (a0 9), .ref (a0 10), .ref (a0 11), .ref (a0 12)])), ((a0 1), .inl (q 0, 4, .inl (s0.2.1 0))), ((a0 2), .inl (q 0, 4, .inl (s0.2.1 1))), ((a0 3), .inl (q 0, 160, .inl (s0.2.1 2))), ((a0 4), .inl (q 0, 40, .inl (s0.2.1 3))), ((a0 5), .inl (q 0, 40, .inl (s0.2.1 4))), ((a0 6), .inl (q 0, 40, .inl (s0.2.1 5))), ((a0 7), .inl (q 0, 40, .inl (s0.2.1 6))), ((a0 8), .inl (q 0, 40, .inl (s0.2.1 7))), ((a0 9), .inl (q 0, 40, .inl (s0.2.1 8))), ((a0 10), .inl (q 0, 40, .inl (s0.2.1 9))), ((a0 11), .inl (q 1, 40, .inr (.inl s0.2.2.1))), ((a0 12), .inl (q 0, s0.2.2.2.1, .inl s0.2.2.2.2)), ((a1 0), .inr (4, [.ref (a1 1), .int (u_11.1 0), .int (u_11.1 1), .int (u_11.1 2), .int (u_11.1 3), .int (u_11.1 4), .int (u_11.1 5)])), ((a1 1), .inl (q 0, 400, .inl u_11.2))]) hx hb ht in_X0 tyX0_ok nmX0 hown hK hP hD hS 0 rfl rfl 0 (by decide) mw_168 rfl rfl rfl (Nat.le_of_ble_eq_true rfl) dX1_readHead_62 rfl (fun H locs hP hD hS => ?_)
      refine lv_aload_n hx hb dX1_readHead_65 rfl (lv_at hl 4 rfl) ?_
      refine lv_iload hx hb dX1_readHead_66 (lv_at hl 1 rfl) ?_
      refine fl_put (C := RX0) (T := TX0) (N := 18) (ci := 0) (v := .int r_6) (ws2 := [((a0 0), .inr (0, [.int r_3, .int r_6, .int (s0.1 2), .int (s0.1 3), .int (s0.1 4), .int (s0.1 5), .ref (a0 1), .ref (a0 2), .ref (a0 3), .ref (a0 4), .ref (a0 5), .ref (a0 6), .ref (a0 7), .ref (a0 8), .ref (a0 9), .ref (a0 10), .ref (a0 11), .ref (a0 12)])), ((a0 1), .inl (q 0, 4, .inl (s0.2.1 0))), ((a0 2), .inl (q 0, 4, .inl (s0.2.1 1))), ((a0 3), .inl (q 0, 160, .inl (s0.2.1 2))), ((a0 4), .inl (q 0, 40, .inl (s0.2.1 3))), ((a0 5), .inl (q 0, 40, .inl (s0.2.1 4))), ((a0 6), .inl (q 0, 40, .inl (s0.2.1 5))), ((a0 7), .inl (q 0, 40, .inl (s0.2.1 6))), ((a0 8), .inl (q 0, 40, .inl (s0.2.1 7))), ((a0 9), .inl (q 0, 40, .inl (s0.2.1 8))), ((a0 10), .inl (q 0, 40, .inl (s0.2.1 9))), ((a0 11), .inl (q 1, 40, .inr (.inl s0.2.2.1))), ((a0 12), .inl (q 0, s0.2.2.2.1, .inl s0.2.2.2.2)), ((a1 0), .inr (4, [.ref (a1 1), .int (u_11.1 0), .int (u_11.1 1), .int (u_11.1 2), .int (u_11.1 3), .int (u_11.1 4), .int (u_11.1 5)])), ((a1 1), .inl (q 0, 400, .inl u_11.2))]) hx hb ht in_X0 tyX0_ok nmX0 hown hK hP hD hS 0 rfl rfl 1 (by decide) mw_172 rfl rfl rfl (Nat.le_of_ble_eq_true rfl) dX1_readHead_68 rfl (fun H locs hP hD hS => ?_)
      refine lv_aload_n hx hb dX1_readHead_71 rfl (lv_at hl 4 rfl) ?_
      refine lv_iload hx hb dX1_readHead_72 (lv_at hl 0 rfl) ?_
      refine fl_put (C := RX0) (T := TX0) (N := 18) (ci := 0) (v := .int r_10) (ws2 := [((a0 0), .inr (0, [.int r_3, .int r_6, .int r_10, .int (s0.1 3), .int (s0.1 4), .int (s0.1 5), .ref (a0 1), .ref (a0 2), .ref (a0 3), .ref (a0 4), .ref (a0 5), .ref (a0 6), .ref (a0 7), .ref (a0 8), .ref (a0 9), .ref (a0 10), .ref (a0 11), .ref (a0 12)])), ((a0 1), .inl (q 0, 4, .inl (s0.2.1 0))), ((a0 2), .inl (q 0, 4, .inl (s0.2.1 1))), ((a0 3), .inl (q 0, 160, .inl (s0.2.1 2))), ((a0 4), .inl (q 0, 40, .inl (s0.2.1 3))), ((a0 5), .inl (q 0, 40, .inl (s0.2.1 4))), ((a0 6), .inl (q 0, 40, .inl (s0.2.1 5))), ((a0 7), .inl (q 0, 40, .inl (s0.2.1 6))), ((a0 8), .inl (q 0, 40, .inl (s0.2.1 7))), ((a0 9), .inl (q 0, 40, .inl (s0.2.1 8))), ((a0 10), .inl (q 0, 40, .inl (s0.2.1 9))), ((a0 11), .inl (q 1, 40, .inr (.inl s0.2.2.1))), ((a0 12), .inl (q 0, s0.2.2.2.1, .inl s0.2.2.2.2)), ((a1 0), .inr (4, [.ref (a1 1), .int (u_11.1 0), .int (u_11.1 1), .int (u_11.1 2), .int (u_11.1 3), .int (u_11.1 4), .int (u_11.1 5)])), ((a1 1), .inl (q 0, 400, .inl u_11.2))]) hx hb ht in_X0 tyX0_ok nmX0 hown hK hP hD hS 0 rfl rfl 2 (by decide) mw_176 rfl rfl rfl (Nat.le_of_ble_eq_true rfl) dX1_readHead_74 rfl (fun H locs hP hD hS => ?_)
      exact mt_vret (((va_up (va_up (va_up s0.1 0 r_3) 1 r_6) 2 r_10), s0.2.1, s0.2.2.1, s0.2.2.2.1, s0.2.2.2.2), u_11) hx hb hr hk h (hP.sub (ws' := bd_w a0 q ((va_up (va_up (va_up s0.1 0 r_3) 1 r_6) 2 r_10), s0.2.1, s0.2.2.1, s0.2.2.2.1, s0.2.2.2.2) ++ tp_w a1 q u_11) [0, 1, 2, 3, 4, 5, 6, 7, 8, 9, 10, 11, 12, 13, 14] rfl) (hD.sub (ws' := bd_w a0 q ((va_up (va_up (va_up s0.1 0 r_3) 1 r_6) 2 r_10), s0.2.1, s0.2.2.1, s0.2.2.2.1, s0.2.2.2.2) ++ tp_w a1 q u_11) [0, 1, 2, 3, 4, 5, 6, 7, 8, 9, 10, 11, 12, 13, 14] (by decide) rfl) hS dX1_readHead_77
  · replace h := h.2 c_5
    refine lv_bipush (v := 40) hx hb dX1_readHead_17 (by decide) ?_
    refine lv_iload_n hx hb dX1_readHead_19 rfl (lv_at hl 0 rfl) ?_
    obtain ⟨g_15, h⟩ := h
    refine lv_idiv hx hb dX1_readHead_20 g_15 ?_
    refine lv_goto (tgt := 25) hx hb dX1_readHead_21 (by decide) ?_
    refine lv_istore_n (lv' := [(3, .int (40 / r_3)), (2, .int r_3), (0, .ref (a0 0)), (1, .ref (a1 0))]) hx hb dX1_readHead_25 rfl hl (by decide) rfl (fun ls hl => ?_)
    refine lv_aload_n hx hb dX1_readHead_26 rfl (lv_at hl 3 rfl) ?_
    refine lv_iconst (v := 1) hx hb dX1_readHead_27 (by decide) ?_
    refine lv_bipush (v := 10) hx hb dX1_readHead_28 (by decide) ?_
    refine lv_iload_n hx hb dX1_readHead_30 rfl (lv_at hl 0 rfl) ?_
    refine va_mmin hx hb (hml.trans hl.1.symm) hown (ht _ mw_506) (ht _ mw_504) (ht _ mw_110) (ht _ mw_505) (Nat.le_of_ble_eq_true rfl) (Nat.le_of_ble_eq_true rfl) (Nat.le_of_ble_eq_true rfl) (Nat.le_of_ble_eq_true rfl) dX1_readHead_31 ?_
    refine mt_goi (mt_wV (wc := tp_w a1 q u_4) (As := [.int 1, .int (if (40 / r_3) < (10 : Int32) then (40 / r_3) else (10 : Int32))]) (rest := []) hx hb hml hown ht (c2_X5_takeNumber h) wd_X5_takeNumber mw_499 hQ hV hS hA (hP.sub [13, 14] rfl) (hD.sub [13, 14] (by decide) rfl) rfl rfl rfl hl.1 rfl (Nat.le_of_ble_eq_true rfl) dX1_readHead_34 ⟨Nat.le_of_ble_eq_true rfl, Nat.le_of_ble_eq_true rfl, rfl, rfl⟩ ⟨Nat.le_of_ble_eq_true rfl, Nat.le_of_ble_eq_true rfl⟩) (wr := [((a0 0), .inr (0, [.int (s0.1 0), .int (s0.1 1), .int (s0.1 2), .int (s0.1 3), .int (s0.1 4), .int (s0.1 5), .ref (a0 1), .ref (a0 2), .ref (a0 3), .ref (a0 4), .ref (a0 5), .ref (a0 6), .ref (a0 7), .ref (a0 8), .ref (a0 9), .ref (a0 10), .ref (a0 11), .ref (a0 12)])), ((a0 1), .inl (q 0, 4, .inl (s0.2.1 0))), ((a0 2), .inl (q 0, 4, .inl (s0.2.1 1))), ((a0 3), .inl (q 0, 160, .inl (s0.2.1 2))), ((a0 4), .inl (q 0, 40, .inl (s0.2.1 3))), ((a0 5), .inl (q 0, 40, .inl (s0.2.1 4))), ((a0 6), .inl (q 0, 40, .inl (s0.2.1 5))), ((a0 7), .inl (q 0, 40, .inl (s0.2.1 6))), ((a0 8), .inl (q 0, 40, .inl (s0.2.1 7))), ((a0 9), .inl (q 0, 40, .inl (s0.2.1 8))), ((a0 10), .inl (q 0, 40, .inl (s0.2.1 9))), ((a0 11), .inl (q 1, 40, .inr (.inl s0.2.2.1))), ((a0 12), .inl (q 0, s0.2.2.2.1, .inl s0.2.2.2.2))]) hP hD hS hA [13, 14] [0, 1, 2, 3, 4, 5, 6, 7, 8, 9, 10, 11, 12] rfl rfl (by decide) (by decide) (fun r_16 u_17 H locs h hP hD hS => ?_)
    try dsimp only at h
    have hP : va_P D vwCl [((a0 0), .inr (0, [.int (s0.1 0), .int (s0.1 1), .int (s0.1 2), .int (s0.1 3), .int (s0.1 4), .int (s0.1 5), .ref (a0 1), .ref (a0 2), .ref (a0 3), .ref (a0 4), .ref (a0 5), .ref (a0 6), .ref (a0 7), .ref (a0 8), .ref (a0 9), .ref (a0 10), .ref (a0 11), .ref (a0 12)])), ((a0 1), .inl (q 0, 4, .inl (s0.2.1 0))), ((a0 2), .inl (q 0, 4, .inl (s0.2.1 1))), ((a0 3), .inl (q 0, 160, .inl (s0.2.1 2))), ((a0 4), .inl (q 0, 40, .inl (s0.2.1 3))), ((a0 5), .inl (q 0, 40, .inl (s0.2.1 4))), ((a0 6), .inl (q 0, 40, .inl (s0.2.1 5))), ((a0 7), .inl (q 0, 40, .inl (s0.2.1 6))), ((a0 8), .inl (q 0, 40, .inl (s0.2.1 7))), ((a0 9), .inl (q 0, 40, .inl (s0.2.1 8))), ((a0 10), .inl (q 0, 40, .inl (s0.2.1 9))), ((a0 11), .inl (q 1, 40, .inr (.inl s0.2.2.1))), ((a0 12), .inl (q 0, s0.2.2.2.1, .inl s0.2.2.2.2)), ((a1 0), .inr (4, [.ref (a1 1), .int (u_17.1 0), .int (u_17.1 1), .int (u_17.1 2), .int (u_17.1 3), .int (u_17.1 4), .int (u_17.1 5)])), ((a1 1), .inl (q 0, 400, .inl u_17.2))] H := hP
    have hD : va_D _ [((a0 0), .inr (0, [.int (s0.1 0), .int (s0.1 1), .int (s0.1 2), .int (s0.1 3), .int (s0.1 4), .int (s0.1 5), .ref (a0 1), .ref (a0 2), .ref (a0 3), .ref (a0 4), .ref (a0 5), .ref (a0 6), .ref (a0 7), .ref (a0 8), .ref (a0 9), .ref (a0 10), .ref (a0 11), .ref (a0 12)])), ((a0 1), .inl (q 0, 4, .inl (s0.2.1 0))), ((a0 2), .inl (q 0, 4, .inl (s0.2.1 1))), ((a0 3), .inl (q 0, 160, .inl (s0.2.1 2))), ((a0 4), .inl (q 0, 40, .inl (s0.2.1 3))), ((a0 5), .inl (q 0, 40, .inl (s0.2.1 4))), ((a0 6), .inl (q 0, 40, .inl (s0.2.1 5))), ((a0 7), .inl (q 0, 40, .inl (s0.2.1 6))), ((a0 8), .inl (q 0, 40, .inl (s0.2.1 7))), ((a0 9), .inl (q 0, 40, .inl (s0.2.1 8))), ((a0 10), .inl (q 0, 40, .inl (s0.2.1 9))), ((a0 11), .inl (q 1, 40, .inr (.inl s0.2.2.1))), ((a0 12), .inl (q 0, s0.2.2.2.1, .inl s0.2.2.2.2)), ((a1 0), .inr (4, [.ref (a1 1), .int (u_17.1 0), .int (u_17.1 1), .int (u_17.1 2), .int (u_17.1 3), .int (u_17.1 4), .int (u_17.1 5)])), ((a1 1), .inl (q 0, 400, .inl u_17.2))] := hD
    refine lv_istore (lv' := [(4, .int r_16), (3, .int (40 / r_3)), (2, .int r_3), (0, .ref (a0 0)), (1, .ref (a1 0))]) hx hb dX1_readHead_37 hl (by decide) rfl (fun ls hl => ?_)
    refine lv_aload_n hx hb dX1_readHead_39 rfl (lv_at hl 4 rfl) ?_
    refine lv_iconst (v := 2) hx hb dX1_readHead_40 (by decide) ?_
    refine mt_gov (mt_wV (wc := tp_w a1 q u_17) (As := [.int 2]) (rest := []) hx hb hml hown ht (c2_X5_takeThisWord h) wd_X5_takeThisWord mw_411 hQ hV hS hA (hP.sub [13, 14] rfl) (hD.sub [13, 14] (by decide) rfl) rfl rfl rfl hl.1 rfl (Nat.le_of_ble_eq_true rfl) dX1_readHead_41 ⟨Nat.le_of_ble_eq_true rfl, Nat.le_of_ble_eq_true rfl, rfl, rfl⟩ ⟨Nat.le_of_ble_eq_true rfl, Nat.le_of_ble_eq_true rfl⟩) (wr := [((a0 0), .inr (0, [.int (s0.1 0), .int (s0.1 1), .int (s0.1 2), .int (s0.1 3), .int (s0.1 4), .int (s0.1 5), .ref (a0 1), .ref (a0 2), .ref (a0 3), .ref (a0 4), .ref (a0 5), .ref (a0 6), .ref (a0 7), .ref (a0 8), .ref (a0 9), .ref (a0 10), .ref (a0 11), .ref (a0 12)])), ((a0 1), .inl (q 0, 4, .inl (s0.2.1 0))), ((a0 2), .inl (q 0, 4, .inl (s0.2.1 1))), ((a0 3), .inl (q 0, 160, .inl (s0.2.1 2))), ((a0 4), .inl (q 0, 40, .inl (s0.2.1 3))), ((a0 5), .inl (q 0, 40, .inl (s0.2.1 4))), ((a0 6), .inl (q 0, 40, .inl (s0.2.1 5))), ((a0 7), .inl (q 0, 40, .inl (s0.2.1 6))), ((a0 8), .inl (q 0, 40, .inl (s0.2.1 7))), ((a0 9), .inl (q 0, 40, .inl (s0.2.1 8))), ((a0 10), .inl (q 0, 40, .inl (s0.2.1 9))), ((a0 11), .inl (q 1, 40, .inr (.inl s0.2.2.1))), ((a0 12), .inl (q 0, s0.2.2.2.1, .inl s0.2.2.2.2))]) hP hD hS hA [13, 14] [0, 1, 2, 3, 4, 5, 6, 7, 8, 9, 10, 11, 12] rfl rfl (by decide) (by decide) (fun u_19 H locs h hP hD hS => ?_)
    try dsimp only at h
    have hP : va_P D vwCl [((a0 0), .inr (0, [.int (s0.1 0), .int (s0.1 1), .int (s0.1 2), .int (s0.1 3), .int (s0.1 4), .int (s0.1 5), .ref (a0 1), .ref (a0 2), .ref (a0 3), .ref (a0 4), .ref (a0 5), .ref (a0 6), .ref (a0 7), .ref (a0 8), .ref (a0 9), .ref (a0 10), .ref (a0 11), .ref (a0 12)])), ((a0 1), .inl (q 0, 4, .inl (s0.2.1 0))), ((a0 2), .inl (q 0, 4, .inl (s0.2.1 1))), ((a0 3), .inl (q 0, 160, .inl (s0.2.1 2))), ((a0 4), .inl (q 0, 40, .inl (s0.2.1 3))), ((a0 5), .inl (q 0, 40, .inl (s0.2.1 4))), ((a0 6), .inl (q 0, 40, .inl (s0.2.1 5))), ((a0 7), .inl (q 0, 40, .inl (s0.2.1 6))), ((a0 8), .inl (q 0, 40, .inl (s0.2.1 7))), ((a0 9), .inl (q 0, 40, .inl (s0.2.1 8))), ((a0 10), .inl (q 0, 40, .inl (s0.2.1 9))), ((a0 11), .inl (q 1, 40, .inr (.inl s0.2.2.1))), ((a0 12), .inl (q 0, s0.2.2.2.1, .inl s0.2.2.2.2)), ((a1 0), .inr (4, [.ref (a1 1), .int (u_19.1 0), .int (u_19.1 1), .int (u_19.1 2), .int (u_19.1 3), .int (u_19.1 4), .int (u_19.1 5)])), ((a1 1), .inl (q 0, 400, .inl u_19.2))] H := hP
    have hD : va_D _ [((a0 0), .inr (0, [.int (s0.1 0), .int (s0.1 1), .int (s0.1 2), .int (s0.1 3), .int (s0.1 4), .int (s0.1 5), .ref (a0 1), .ref (a0 2), .ref (a0 3), .ref (a0 4), .ref (a0 5), .ref (a0 6), .ref (a0 7), .ref (a0 8), .ref (a0 9), .ref (a0 10), .ref (a0 11), .ref (a0 12)])), ((a0 1), .inl (q 0, 4, .inl (s0.2.1 0))), ((a0 2), .inl (q 0, 4, .inl (s0.2.1 1))), ((a0 3), .inl (q 0, 160, .inl (s0.2.1 2))), ((a0 4), .inl (q 0, 40, .inl (s0.2.1 3))), ((a0 5), .inl (q 0, 40, .inl (s0.2.1 4))), ((a0 6), .inl (q 0, 40, .inl (s0.2.1 5))), ((a0 7), .inl (q 0, 40, .inl (s0.2.1 6))), ((a0 8), .inl (q 0, 40, .inl (s0.2.1 7))), ((a0 9), .inl (q 0, 40, .inl (s0.2.1 8))), ((a0 10), .inl (q 0, 40, .inl (s0.2.1 9))), ((a0 11), .inl (q 1, 40, .inr (.inl s0.2.2.1))), ((a0 12), .inl (q 0, s0.2.2.2.1, .inl s0.2.2.2.2)), ((a1 0), .inr (4, [.ref (a1 1), .int (u_19.1 0), .int (u_19.1 1), .int (u_19.1 2), .int (u_19.1 3), .int (u_19.1 4), .int (u_19.1 5)])), ((a1 1), .inl (q 0, 400, .inl u_19.2))] := hD
    refine lv_aload_n hx hb dX1_readHead_44 rfl (lv_at hl 4 rfl) ?_
    refine lv_iconst (v := 1) hx hb dX1_readHead_45 (by decide) ?_
    refine lv_bipush (v := 99) hx hb dX1_readHead_46 (by decide) ?_
    refine mt_goi (mt_wV (wc := tp_w a1 q u_19) (As := [.int 1, .int 99]) (rest := []) hx hb hml hown ht (c2_X5_takeNumber h) wd_X5_takeNumber mw_499 hQ hV hS hA (hP.sub [13, 14] rfl) (hD.sub [13, 14] (by decide) rfl) rfl rfl rfl hl.1 rfl (Nat.le_of_ble_eq_true rfl) dX1_readHead_48 ⟨Nat.le_of_ble_eq_true rfl, Nat.le_of_ble_eq_true rfl, rfl, rfl⟩ ⟨Nat.le_of_ble_eq_true rfl, Nat.le_of_ble_eq_true rfl⟩) (wr := [((a0 0), .inr (0, [.int (s0.1 0), .int (s0.1 1), .int (s0.1 2), .int (s0.1 3), .int (s0.1 4), .int (s0.1 5), .ref (a0 1), .ref (a0 2), .ref (a0 3), .ref (a0 4), .ref (a0 5), .ref (a0 6), .ref (a0 7), .ref (a0 8), .ref (a0 9), .ref (a0 10), .ref (a0 11), .ref (a0 12)])), ((a0 1), .inl (q 0, 4, .inl (s0.2.1 0))), ((a0 2), .inl (q 0, 4, .inl (s0.2.1 1))), ((a0 3), .inl (q 0, 160, .inl (s0.2.1 2))), ((a0 4), .inl (q 0, 40, .inl (s0.2.1 3))), ((a0 5), .inl (q 0, 40, .inl (s0.2.1 4))), ((a0 6), .inl (q 0, 40, .inl (s0.2.1 5))), ((a0 7), .inl (q 0, 40, .inl (s0.2.1 6))), ((a0 8), .inl (q 0, 40, .inl (s0.2.1 7))), ((a0 9), .inl (q 0, 40, .inl (s0.2.1 8))), ((a0 10), .inl (q 0, 40, .inl (s0.2.1 9))), ((a0 11), .inl (q 1, 40, .inr (.inl s0.2.2.1))), ((a0 12), .inl (q 0, s0.2.2.2.1, .inl s0.2.2.2.2))]) hP hD hS hA [13, 14] [0, 1, 2, 3, 4, 5, 6, 7, 8, 9, 10, 11, 12] rfl rfl (by decide) (by decide) (fun r_20 u_21 H locs h hP hD hS => ?_)
    try dsimp only at h
    have hP : va_P D vwCl [((a0 0), .inr (0, [.int (s0.1 0), .int (s0.1 1), .int (s0.1 2), .int (s0.1 3), .int (s0.1 4), .int (s0.1 5), .ref (a0 1), .ref (a0 2), .ref (a0 3), .ref (a0 4), .ref (a0 5), .ref (a0 6), .ref (a0 7), .ref (a0 8), .ref (a0 9), .ref (a0 10), .ref (a0 11), .ref (a0 12)])), ((a0 1), .inl (q 0, 4, .inl (s0.2.1 0))), ((a0 2), .inl (q 0, 4, .inl (s0.2.1 1))), ((a0 3), .inl (q 0, 160, .inl (s0.2.1 2))), ((a0 4), .inl (q 0, 40, .inl (s0.2.1 3))), ((a0 5), .inl (q 0, 40, .inl (s0.2.1 4))), ((a0 6), .inl (q 0, 40, .inl (s0.2.1 5))), ((a0 7), .inl (q 0, 40, .inl (s0.2.1 6))), ((a0 8), .inl (q 0, 40, .inl (s0.2.1 7))), ((a0 9), .inl (q 0, 40, .inl (s0.2.1 8))), ((a0 10), .inl (q 0, 40, .inl (s0.2.1 9))), ((a0 11), .inl (q 1, 40, .inr (.inl s0.2.2.1))), ((a0 12), .inl (q 0, s0.2.2.2.1, .inl s0.2.2.2.2)), ((a1 0), .inr (4, [.ref (a1 1), .int (u_21.1 0), .int (u_21.1 1), .int (u_21.1 2), .int (u_21.1 3), .int (u_21.1 4), .int (u_21.1 5)])), ((a1 1), .inl (q 0, 400, .inl u_21.2))] H := hP
    have hD : va_D _ [((a0 0), .inr (0, [.int (s0.1 0), .int (s0.1 1), .int (s0.1 2), .int (s0.1 3), .int (s0.1 4), .int (s0.1 5), .ref (a0 1), .ref (a0 2), .ref (a0 3), .ref (a0 4), .ref (a0 5), .ref (a0 6), .ref (a0 7), .ref (a0 8), .ref (a0 9), .ref (a0 10), .ref (a0 11), .ref (a0 12)])), ((a0 1), .inl (q 0, 4, .inl (s0.2.1 0))), ((a0 2), .inl (q 0, 4, .inl (s0.2.1 1))), ((a0 3), .inl (q 0, 160, .inl (s0.2.1 2))), ((a0 4), .inl (q 0, 40, .inl (s0.2.1 3))), ((a0 5), .inl (q 0, 40, .inl (s0.2.1 4))), ((a0 6), .inl (q 0, 40, .inl (s0.2.1 5))), ((a0 7), .inl (q 0, 40, .inl (s0.2.1 6))), ((a0 8), .inl (q 0, 40, .inl (s0.2.1 7))), ((a0 9), .inl (q 0, 40, .inl (s0.2.1 8))), ((a0 10), .inl (q 0, 40, .inl (s0.2.1 9))), ((a0 11), .inl (q 1, 40, .inr (.inl s0.2.2.1))), ((a0 12), .inl (q 0, s0.2.2.2.1, .inl s0.2.2.2.2)), ((a1 0), .inr (4, [.ref (a1 1), .int (u_21.1 0), .int (u_21.1 1), .int (u_21.1 2), .int (u_21.1 3), .int (u_21.1 4), .int (u_21.1 5)])), ((a1 1), .inl (q 0, 400, .inl u_21.2))] := hD
    refine lv_istore (lv' := [(5, .int r_20), (4, .int r_16), (3, .int (40 / r_3)), (2, .int r_3), (0, .ref (a0 0)), (1, .ref (a1 0))]) hx hb dX1_readHead_51 hl (by decide) rfl (fun ls hl => ?_)
    refine lv_aload_n hx hb dX1_readHead_53 rfl (lv_at hl 5 rfl) ?_
    refine vp_callSi (rd_wV (wc := tp_w a1 q u_21) (As := []) (rest := []) hx hb hml hown ht (c2_X5_isSound h) wd_X5_isSound mw_507 hQ hV hS (hP.sub [13, 14] rfl) rfl rfl rfl hl.1 rfl (Nat.le_of_ble_eq_true rfl) dX1_readHead_54 ⟨Nat.le_of_ble_eq_true rfl, Nat.le_of_ble_eq_true rfl, rfl, rfl⟩ ⟨Nat.le_of_ble_eq_true rfl, Nat.le_of_ble_eq_true rfl⟩) (fun r_22 h => ?_)
    try dsimp only at h
    refine lv_if_eq (tgt := 77) hx hb dX1_readHead_57 (by decide) (fun c_24 => ?_) (fun c_24 => ?_)
    · replace h := h.1 c_24
      exact mt_vret (s0, u_21) hx hb hr hk h (hP.sub (ws' := bd_w a0 q s0 ++ tp_w a1 q u_21) [0, 1, 2, 3, 4, 5, 6, 7, 8, 9, 10, 11, 12, 13, 14] rfl) (hD.sub (ws' := bd_w a0 q s0 ++ tp_w a1 q u_21) [0, 1, 2, 3, 4, 5, 6, 7, 8, 9, 10, 11, 12, 13, 14] (by decide) rfl) hS dX1_readHead_77
    · replace h := h.2 c_24
      refine lv_aload_n hx hb dX1_readHead_60 rfl (lv_at hl 4 rfl) ?_
      refine lv_iload_n hx hb dX1_readHead_61 rfl (lv_at hl 3 rfl) ?_
      refine fl_put (C := RX0) (T := TX0) (N := 18) (ci := 0) (v := .int r_3) (ws2 := [((a0 0), .inr (0, [.int r_3, .int (s0.1 1), .int (s0.1 2), .int (s0.1 3), .int (s0.1 4), .int (s0.1 5), .ref (a0 1), .ref (a0 2), .ref (a0 3), .ref (a0 4), .ref (a0 5), .ref (a0 6), .ref (a0 7), .ref (a0 8), .ref (a0 9), .ref (a0 10), .ref (a0 11), .ref (a0 12)])), ((a0 1), .inl (q 0, 4, .inl (s0.2.1 0))), ((a0 2), .inl (q 0, 4, .inl (s0.2.1 1))), ((a0 3), .inl (q 0, 160, .inl (s0.2.1 2))), ((a0 4), .inl (q 0, 40, .inl (s0.2.1 3))), ((a0 5), .inl (q 0, 40, .inl (s0.2.1 4))), ((a0 6), .inl (q 0, 40, .inl (s0.2.1 5))), ((a0 7), .inl (q 0, 40, .inl (s0.2.1 6))), ((a0 8), .inl (q 0, 40, .inl (s0.2.1 7))), ((a0 9), .inl (q 0, 40, .inl (s0.2.1 8))), ((a0 10), .inl (q 0, 40, .inl (s0.2.1 9))), ((a0 11), .inl (q 1, 40, .inr (.inl s0.2.2.1))), ((a0 12), .inl (q 0, s0.2.2.2.1, .inl s0.2.2.2.2)), ((a1 0), .inr (4, [.ref (a1 1), .int (u_21.1 0), .int (u_21.1 1), .int (u_21.1 2), .int (u_21.1 3), .int (u_21.1 4), .int (u_21.1 5)])), ((a1 1), .inl (q 0, 400, .inl u_21.2))]) hx hb ht in_X0 tyX0_ok nmX0 hown hK hP hD hS 0 rfl rfl 0 (by decide) mw_168 rfl rfl rfl (Nat.le_of_ble_eq_true rfl) dX1_readHead_62 rfl (fun H locs hP hD hS => ?_)
      refine lv_aload_n hx hb dX1_readHead_65 rfl (lv_at hl 4 rfl) ?_
      refine lv_iload hx hb dX1_readHead_66 (lv_at hl 1 rfl) ?_
      refine fl_put (C := RX0) (T := TX0) (N := 18) (ci := 0) (v := .int r_16) (ws2 := [((a0 0), .inr (0, [.int r_3, .int r_16, .int (s0.1 2), .int (s0.1 3), .int (s0.1 4), .int (s0.1 5), .ref (a0 1), .ref (a0 2), .ref (a0 3), .ref (a0 4), .ref (a0 5), .ref (a0 6), .ref (a0 7), .ref (a0 8), .ref (a0 9), .ref (a0 10), .ref (a0 11), .ref (a0 12)])), ((a0 1), .inl (q 0, 4, .inl (s0.2.1 0))), ((a0 2), .inl (q 0, 4, .inl (s0.2.1 1))), ((a0 3), .inl (q 0, 160, .inl (s0.2.1 2))), ((a0 4), .inl (q 0, 40, .inl (s0.2.1 3))), ((a0 5), .inl (q 0, 40, .inl (s0.2.1 4))), ((a0 6), .inl (q 0, 40, .inl (s0.2.1 5))), ((a0 7), .inl (q 0, 40, .inl (s0.2.1 6))), ((a0 8), .inl (q 0, 40, .inl (s0.2.1 7))), ((a0 9), .inl (q 0, 40, .inl (s0.2.1 8))), ((a0 10), .inl (q 0, 40, .inl (s0.2.1 9))), ((a0 11), .inl (q 1, 40, .inr (.inl s0.2.2.1))), ((a0 12), .inl (q 0, s0.2.2.2.1, .inl s0.2.2.2.2)), ((a1 0), .inr (4, [.ref (a1 1), .int (u_21.1 0), .int (u_21.1 1), .int (u_21.1 2), .int (u_21.1 3), .int (u_21.1 4), .int (u_21.1 5)])), ((a1 1), .inl (q 0, 400, .inl u_21.2))]) hx hb ht in_X0 tyX0_ok nmX0 hown hK hP hD hS 0 rfl rfl 1 (by decide) mw_172 rfl rfl rfl (Nat.le_of_ble_eq_true rfl) dX1_readHead_68 rfl (fun H locs hP hD hS => ?_)
      refine lv_aload_n hx hb dX1_readHead_71 rfl (lv_at hl 4 rfl) ?_
      refine lv_iload hx hb dX1_readHead_72 (lv_at hl 0 rfl) ?_
      refine fl_put (C := RX0) (T := TX0) (N := 18) (ci := 0) (v := .int r_20) (ws2 := [((a0 0), .inr (0, [.int r_3, .int r_16, .int r_20, .int (s0.1 3), .int (s0.1 4), .int (s0.1 5), .ref (a0 1), .ref (a0 2), .ref (a0 3), .ref (a0 4), .ref (a0 5), .ref (a0 6), .ref (a0 7), .ref (a0 8), .ref (a0 9), .ref (a0 10), .ref (a0 11), .ref (a0 12)])), ((a0 1), .inl (q 0, 4, .inl (s0.2.1 0))), ((a0 2), .inl (q 0, 4, .inl (s0.2.1 1))), ((a0 3), .inl (q 0, 160, .inl (s0.2.1 2))), ((a0 4), .inl (q 0, 40, .inl (s0.2.1 3))), ((a0 5), .inl (q 0, 40, .inl (s0.2.1 4))), ((a0 6), .inl (q 0, 40, .inl (s0.2.1 5))), ((a0 7), .inl (q 0, 40, .inl (s0.2.1 6))), ((a0 8), .inl (q 0, 40, .inl (s0.2.1 7))), ((a0 9), .inl (q 0, 40, .inl (s0.2.1 8))), ((a0 10), .inl (q 0, 40, .inl (s0.2.1 9))), ((a0 11), .inl (q 1, 40, .inr (.inl s0.2.2.1))), ((a0 12), .inl (q 0, s0.2.2.2.1, .inl s0.2.2.2.2)), ((a1 0), .inr (4, [.ref (a1 1), .int (u_21.1 0), .int (u_21.1 1), .int (u_21.1 2), .int (u_21.1 3), .int (u_21.1 4), .int (u_21.1 5)])), ((a1 1), .inl (q 0, 400, .inl u_21.2))]) hx hb ht in_X0 tyX0_ok nmX0 hown hK hP hD hS 0 rfl rfl 2 (by decide) mw_176 rfl rfl rfl (Nat.le_of_ble_eq_true rfl) dX1_readHead_74 rfl (fun H locs hP hD hS => ?_)
      exact mt_vret (((va_up (va_up (va_up s0.1 0 r_3) 1 r_16) 2 r_20), s0.2.1, s0.2.2.1, s0.2.2.2.1, s0.2.2.2.2), u_21) hx hb hr hk h (hP.sub (ws' := bd_w a0 q ((va_up (va_up (va_up s0.1 0 r_3) 1 r_16) 2 r_20), s0.2.1, s0.2.2.1, s0.2.2.2.1, s0.2.2.2.2) ++ tp_w a1 q u_21) [0, 1, 2, 3, 4, 5, 6, 7, 8, 9, 10, 11, 12, 13, 14] rfl) (hD.sub (ws' := bd_w a0 q ((va_up (va_up (va_up s0.1 0 r_3) 1 r_16) 2 r_20), s0.2.1, s0.2.2.1, s0.2.2.2.1, s0.2.2.2.2) ++ tp_w a1 q u_21) [0, 1, 2, 3, 4, 5, 6, 7, 8, 9, 10, 11, 12, 13, 14] (by decide) rfl) hS dX1_readHead_77

def wp_X5_takeByte (post : Tp → Prop) (s0 : Tp) (x1 : Int32) : Prop := wp_X5_peek (fun r_1 u_2 => ((¬ r_1 = x1 → wp_X5_blame (fun u_5 => post u_5) u_2 (u_2.1 1) (1 : Int32)) ∧ (r_1 = x1 → post ((va_up u_2.1 1 ((u_2.1 1) + 1)), u_2.2)))) s0
set_option maxHeartbeats 4000000 in
set_option maxRecDepth 100000 in
theorem c2_X5_takeByte {l : Launch} {D : va_G} {q : Nat → ClassId} {sz : Nat} {a0 : Nat → Nat} {s0 : Tp} {x1 : Int32} {post : Tp → Prop} (h : wp_X5_takeByte post s0 x1) : Met l yX5_takeByte (Cond.code yX5_takeByte cX5_takeByte 2 none :: w_all) ({ frames := 1, cells := 0, slots := 0, locals := 22 } : Room) (mt_P D q [.ref (a0 0), .int x1] (tp_w a0 q s0) sz) (va_Qv (fun u : Tp => post u) (mt_B D (tp_w a0 q s0) sz (fun u : Tp => tp_w a0 q u)) (va_A (tp_w a0 q s0) sz)) 0 0 (va_A (tp_w a0 q s0) sz) := by
  refine mt_start (by decide) (Nat.le_of_ble_eq_true rfl) ?_
  intro p e s m below meth c ls hx hb hr hml hown ht hk hin hP hQ hD hA hS hV hl
  have hK := hQ.1
  have hown : s.vm.findClass RX5 = some m.cls := hown
  have hl : lv_has ls 2 [(0, .ref (a0 0)), (1, .int x1)] := hl
  have hP : va_P D vwCl [((a0 0), .inr (4, [.ref (a0 1), .int (s0.1 0), .int (s0.1 1), .int (s0.1 2), .int (s0.1 3), .int (s0.1 4), .int (s0.1 5)])), ((a0 1), .inl (q 0, 400, .inl s0.2))] s.heap := hP
  have hD : va_D _ [((a0 0), .inr (4, [.ref (a0 1), .int (s0.1 0), .int (s0.1 1), .int (s0.1 2), .int (s0.1 3), .int (s0.1 4), .int (s0.1 5)])), ((a0 1), .inl (q 0, 400, .inl s0.2))] := hD
  unfold wp_X5_takeByte at h
  refine lv_aload_n hx hb dX5_takeByte_0 rfl (lv_at hl 0 rfl) ?_
  refine mt_goi (mt_wV (wc := tp_w a0 q s0) (As := []) (rest := []) hx hb hml hown ht (c2_X5_peek h) wd_X5_peek mw_419 hQ hV hS hA (hP.sub [0, 1] rfl) (hD.sub [0, 1] (by decide) rfl) rfl rfl rfl hl.1 rfl (Nat.le_of_ble_eq_true rfl) dX5_takeByte_1 ⟨Nat.le_of_ble_eq_true rfl, Nat.le_of_ble_eq_true rfl, rfl, rfl⟩ ⟨Nat.le_of_ble_eq_true rfl, Nat.le_of_ble_eq_true rfl⟩) (wr := []) hP hD hS hA [0, 1] [] rfl rfl (by decide) (by decide) (fun r_1 u_2 H locs h hP hD hS => ?_)
  try dsimp only at h
  have hP : va_P D vwCl [((a0 0), .inr (4, [.ref (a0 1), .int (u_2.1 0), .int (u_2.1 1), .int (u_2.1 2), .int (u_2.1 3), .int (u_2.1 4), .int (u_2.1 5)])), ((a0 1), .inl (q 0, 400, .inl u_2.2))] H := hP
  have hD : va_D _ [((a0 0), .inr (4, [.ref (a0 1), .int (u_2.1 0), .int (u_2.1 1), .int (u_2.1 2), .int (u_2.1 3), .int (u_2.1 4), .int (u_2.1 5)])), ((a0 1), .inl (q 0, 400, .inl u_2.2))] := hD
  refine lv_iload_n hx hb dX5_takeByte_4 rfl (lv_at hl 1 rfl) ?_
  refine lv_icmp_ne (tgt := 21) hx hb dX5_takeByte_5 (by decide) (fun c_3 => ?_) (fun c_3 => ?_)
  · replace h := h.1 c_3
    refine lv_aload_n hx hb dX5_takeByte_21 rfl (lv_at hl 0 rfl) ?_
    refine lv_aload_n hx hb dX5_takeByte_22 rfl (lv_at hl 0 rfl) ?_
    refine fl_get (C := RX5) (T := TX5) (N := 7) (ci := 4) (v := .int (u_2.1 1)) hx hb ht in_X5 hown hK hP 0 rfl rfl 2 (by decide) mw_132 rfl dX5_takeByte_23 ?_
    refine lv_iconst (v := 1) hx hb dX5_takeByte_26 (by decide) ?_
    refine mt_gov (mt_wV (wc := tp_w a0 q u_2) (As := [.int (u_2.1 1), .int 1]) (rest := []) hx hb hml hown ht (c2_X5_blame h) wd_X5_blame mw_495 hQ hV hS hA (hP.sub [0, 1] rfl) (hD.sub [0, 1] (by decide) rfl) rfl rfl rfl hl.1 rfl (Nat.le_of_ble_eq_true rfl) dX5_takeByte_27 ⟨Nat.le_of_ble_eq_true rfl, Nat.le_of_ble_eq_true rfl, rfl, rfl⟩ ⟨Nat.le_of_ble_eq_true rfl, Nat.le_of_ble_eq_true rfl⟩) (wr := []) hP hD hS hA [0, 1] [] rfl rfl (by decide) (by decide) (fun u_5 H locs h hP hD hS => ?_)
    try dsimp only at h
    have hP : va_P D vwCl [((a0 0), .inr (4, [.ref (a0 1), .int (u_5.1 0), .int (u_5.1 1), .int (u_5.1 2), .int (u_5.1 3), .int (u_5.1 4), .int (u_5.1 5)])), ((a0 1), .inl (q 0, 400, .inl u_5.2))] H := hP
    have hD : va_D _ [((a0 0), .inr (4, [.ref (a0 1), .int (u_5.1 0), .int (u_5.1 1), .int (u_5.1 2), .int (u_5.1 3), .int (u_5.1 4), .int (u_5.1 5)])), ((a0 1), .inl (q 0, 400, .inl u_5.2))] := hD
    exact mt_vret u_5 hx hb hr hk h (hP.sub (ws' := tp_w a0 q u_5) [0, 1] rfl) (hD.sub (ws' := tp_w a0 q u_5) [0, 1] (by decide) rfl) hS dX5_takeByte_30
  · replace h := h.2 c_3
    refine lv_aload_n hx hb dX5_takeByte_8 rfl (lv_at hl 0 rfl) ?_
    refine lv_dup hx hb dX5_takeByte_9 rfl ?_
    refine fl_get (C := RX5) (T := TX5) (N := 7) (ci := 4) (v := .int (u_2.1 1)) hx hb ht in_X5 hown hK hP 0 rfl rfl 2 (by decide) mw_132 rfl dX5_takeByte_10 ?_
    refine lv_iconst (v := 1) hx hb dX5_takeByte_13 (by decide) ?_
    refine lv_iadd hx hb dX5_takeByte_14 ?_
    refine fl_put (C := RX5) (T := TX5) (N := 7) (ci := 4) (v := .int ((u_2.1 1) + 1)) (ws2 := [((a0 0), .inr (4, [.ref (a0 1), .int (u_2.1 0), .int ((u_2.1 1) + 1), .int (u_2.1 2), .int (u_2.1 3), .int (u_2.1 4), .int (u_2.1 5)])), ((a0 1), .inl (q 0, 400, .inl u_2.2))]) hx hb ht in_X5 tyX5_ok nmX5 hown hK hP hD hS 0 rfl rfl 2 (by decide) mw_132 rfl rfl rfl (Nat.le_of_ble_eq_true rfl) dX5_takeByte_15 rfl (fun H locs hP hD hS => ?_)
    refine lv_goto (tgt := 30) hx hb dX5_takeByte_18 (by decide) ?_
    exact mt_vret ((va_up u_2.1 1 ((u_2.1 1) + 1)), u_2.2) hx hb hr hk h (hP.sub (ws' := tp_w a0 q ((va_up u_2.1 1 ((u_2.1 1) + 1)), u_2.2)) [0, 1] rfl) (hD.sub (ws' := tp_w a0 q ((va_up u_2.1 1 ((u_2.1 1) + 1)), u_2.2)) [0, 1] (by decide) rfl) hS dX5_takeByte_30
