def wp_X0_entryAt (post : Int32 → Prop) (s0 : Bd) (x1 : Int32) (x2 : Int32) (x3 : Int32) (x4 : Int32) : Prop := ((((x1 + (x3 * x2)) + x4) < 0 → post 0) ∧ (¬ ((x1 + (x3 * x2)) + x4) < 0 → (((Int32.ofNat s0.2.2.2.1) ≤ ((x1 + (x3 * x2)) + x4) → post 0) ∧ (¬ (Int32.ofNat s0.2.2.2.1) ≤ ((x1 + (x3 * x2)) + x4) → vp_in ((x1 + (x3 * x2)) + x4) s0.2.2.2.1 ∧ post (s0.2.2.2.2 (Int32.toNatClampNeg ((x1 + (x3 * x2)) + x4)))))))
set_option maxHeartbeats 4000000 in
set_option maxRecDepth 100000 in
theorem c2_X0_entryAt {l : Launch} {D : va_G} {q : Nat → ClassId} {a0 : Nat → Nat} {s0 : Bd} {x1 : Int32} {x2 : Int32} {x3 : Int32} {x4 : Int32} {post : Int32 → Prop} (h : wp_X0_entryAt post s0 x1 x2 x3 x4) : Met l yX0_entryAt (Cond.code yX0_entryAt cX0_entryAt 6 (some .int) :: w_all) ({ frames := 0, cells := 0, slots := 0, locals := 0 } : Room) (rd_P D q [.ref (a0 0), .int x1, .int x2, .int x3, .int x4] (bd_w a0 q s0)) (vp_Si post) 0 0 (fun _ => False) := by
  refine rd_start (by decide) (Nat.le_of_ble_eq_true rfl) ?_
  intro p e s m below meth c ls hx hb hr hml hown ht hk hP hQ hV hl
  have hK := hQ.1
  have hown : s.vm.findClass RX0 = some m.cls := hown
  have hl : lv_has ls 6 [(0, .ref (a0 0)), (1, .int x1), (2, .int x2), (3, .int x3), (4, .int x4)] := hl
  have hP : va_P D vwCl [((a0 0), .inr (0, [.int (s0.1 0), .int (s0.1 1), .int (s0.1 2), .int (s0.1 3), .int (s0.1 4), .int (s0.1 5), .ref (a0 1), .ref (a0 2), .ref (a0 3), .ref (a0 4), .ref (a0 5), .ref (a0 6), .ref (a0 7), .ref (a0 8), .ref (a0 9), .ref (a0 10), .ref (a0 11), .ref (a0 12)])), ((a0 1), .inl (q 0, 4, .inl (s0.2.1 0))), ((a0 2), .inl (q 0, 4, .inl (s0.2.1 1))), ((a0 3), .inl (q 0, 160, .inl (s0.2.1 2))), ((a0 4), .inl (q 0, 40, .inl (s0.2.1 3))), ((a0 5), .inl (q 0, 40, .inl (s0.2.1 4))), ((a0 6), .inl (q 0, 40, .inl (s0.2.1 5))), ((a0 7), .inl (q 0, 40, .inl (s0.2.1 6))), ((a0 8), .inl (q 0, 40, .inl (s0.2.1 7))), ((a0 9), .inl (q 0, 40, .inl (s0.2.1 8))), ((a0 10), .inl (q 0, 40, .inl (s0.2.1 9))), ((a0 11), .inl (q 1, 40, .inr (.inl s0.2.2.1))), ((a0 12), .inl (q 0, s0.2.2.2.1, .inl s0.2.2.2.2))] s.heap := hP
  unfold wp_X0_entryAt at h
  refine lv_iload_n hx hb dX0_entryAt_0 rfl (lv_at hl 1 rfl) ?_
  refine lv_iload_n hx hb dX0_entryAt_1 rfl (lv_at hl 3 rfl) ?_
  refine lv_iload_n hx hb dX0_entryAt_2 rfl (lv_at hl 2 rfl) ?_
  refine lv_imul hx hb dX0_entryAt_3 ?_
  refine lv_iadd hx hb dX0_entryAt_4 ?_
  refine lv_iload hx hb dX0_entryAt_5 (lv_at hl 4 rfl) ?_
  refine lv_iadd hx hb dX0_entryAt_7 ?_
  refine lv_istore (lv' := [(5, .int ((x1 + (x3 * x2)) + x4)), (0, .ref (a0 0)), (1, .int x1), (2, .int x2), (3, .int x3), (4, .int x4)]) hx hb dX0_entryAt_8 hl (by decide) rfl (fun ls hl => ?_)
  refine lv_iload hx hb dX0_entryAt_10 (lv_at hl 0 rfl) ?_
  refine lv_if_lt (tgt := 35) hx hb dX0_entryAt_12 (by decide) (fun c_1 => ?_) (fun c_1 => ?_)
  · replace h := h.1 c_1
    refine lv_iconst (v := 0) hx hb dX0_entryAt_35 (by decide) ?_
    exact rd_iret hx hb hr hk h dX0_entryAt_36
  · replace h := h.2 c_1
    refine lv_iload hx hb dX0_entryAt_15 (lv_at hl 0 rfl) ?_
    refine lv_aload_n hx hb dX0_entryAt_17 rfl (lv_at hl 1 rfl) ?_
    refine fl_get (C := RX0) (T := TX0) (N := 18) (ci := 0) (v := .ref (a0 12)) hx hb ht in_X0 hown hK hP 0 rfl rfl 17 (by decide) mw_208 rfl dX0_entryAt_18 ?_
    refine va_alen (v := (Int32.ofNat s0.2.2.2.1)) hx hb hK hP 12 0 rfl rfl rfl dX0_entryAt_21 ?_
    refine lv_icmp_ge (tgt := 35) hx hb dX0_entryAt_22 (by decide) (fun c_2 => ?_) (fun c_2 => ?_)
    · replace h := h.1 c_2
      refine lv_iconst (v := 0) hx hb dX0_entryAt_35 (by decide) ?_
      exact rd_iret hx hb hr hk h dX0_entryAt_36
    · replace h := h.2 c_2
      refine lv_aload_n hx hb dX0_entryAt_25 rfl (lv_at hl 1 rfl) ?_
      refine fl_get (C := RX0) (T := TX0) (N := 18) (ci := 0) (v := .ref (a0 12)) hx hb ht in_X0 hown hK hP 0 rfl rfl 17 (by decide) mw_208 rfl dX0_entryAt_26 ?_
      refine lv_iload hx hb dX0_entryAt_29 (lv_at hl 0 rfl) ?_
      obtain ⟨g_3, h⟩ := h
      refine va_iald hx hb hK hP 12 0 rfl rfl g_3 dX0_entryAt_31 ?_
      refine lv_goto (tgt := 36) hx hb dX0_entryAt_32 (by decide) ?_
      exact rd_iret hx hb hr hk h dX0_entryAt_36

def wp_X0_journey_L27 (s0 : Bd) (post : Int32 → Prop) (e63 : Int32 → Int32 → Int32 → Int32 → Int32 → Int32 → Prop) : Nat → Int32 → Int32 → Int32 → Int32 → Int32 → Int32 → Prop
  | 0, _, _, _, _, _, _ => False
  | n27 + 1, z1, z2, z3, z4, z5, z6 => ((z3 ≤ z6 → e63 z1 z2 z3 z4 z5 z6) ∧ (¬ z3 ≤ z6 → wp_X0_entryAt (fun r_7 => wp_X6_onFrom (fun r_9 => wp_X0_journey_L27 s0 post e63 n27 z1 z2 z3 (z4 + (r_7 * r_9)) z5 (z6 + 1)) z5 z6 z3) s0 z2 z3 z5 z6))
def wp_X0_journey_L18 (s0 : Bd) (post : Int32 → Prop) (e69 : Int32 → Int32 → Int32 → Int32 → Int32 → Prop) : Nat → Int32 → Int32 → Int32 → Int32 → Int32 → Prop
  | 0, _, _, _, _, _ => False
  | n18 + 1, z1, z2, z3, z4, z5 => ((z3 ≤ z5 → e69 z1 z2 z3 z4 z5) ∧ (¬ z3 ≤ z5 → (∃ n27, wp_X0_journey_L27 s0 post (fun z1 z2 z3 z4 z5 z6 => wp_X0_journey_L18 s0 post e69 n18 z1 z2 z3 z4 (z5 + 1)) n27 z1 z2 z3 z4 z5 0)))
def wp_X0_journey (post : Int32 → Prop) (s0 : Bd) (x1 : Int32) : Prop := wp_X0_entryStart (fun r_1 => wp_X0_flapsOn (fun r_3 => (∃ n18, wp_X0_journey_L18 s0 post (fun z1 z2 z3 z4 z5 => post z4) n18 x1 r_1 r_3 0 0)) s0 x1) s0 x1
set_option maxHeartbeats 4000000 in
set_option maxRecDepth 100000 in
theorem c2_X0_journey {l : Launch} {D : va_G} {q : Nat → ClassId} {a0 : Nat → Nat} {s0 : Bd} {x1 : Int32} {post : Int32 → Prop} (h : wp_X0_journey post s0 x1) : Met l yX0_journey (Cond.code yX0_journey cX0_journey 7 (some .int) :: w_all) ({ frames := 1, cells := 0, slots := 0, locals := 25 } : Room) (rd_P D q [.ref (a0 0), .int x1] (bd_w a0 q s0)) (vp_Si post) 0 0 (fun _ => False) := by
  refine rd_start (by decide) (Nat.le_of_ble_eq_true rfl) ?_
  intro p e s m below meth c ls hx hb hr hml hown ht hk hP hQ hV hl
  have hK := hQ.1
  have hown : s.vm.findClass RX0 = some m.cls := hown
  have hl : lv_has ls 7 [(0, .ref (a0 0)), (1, .int x1)] := hl
  have hP : va_P D vwCl [((a0 0), .inr (0, [.int (s0.1 0), .int (s0.1 1), .int (s0.1 2), .int (s0.1 3), .int (s0.1 4), .int (s0.1 5), .ref (a0 1), .ref (a0 2), .ref (a0 3), .ref (a0 4), .ref (a0 5), .ref (a0 6), .ref (a0 7), .ref (a0 8), .ref (a0 9), .ref (a0 10), .ref (a0 11), .ref (a0 12)])), ((a0 1), .inl (q 0, 4, .inl (s0.2.1 0))), ((a0 2), .inl (q 0, 4, .inl (s0.2.1 1))), ((a0 3), .inl (q 0, 160, .inl (s0.2.1 2))), ((a0 4), .inl (q 0, 40, .inl (s0.2.1 3))), ((a0 5), .inl (q 0, 40, .inl (s0.2.1 4))), ((a0 6), .inl (q 0, 40, .inl (s0.2.1 5))), ((a0 7), .inl (q 0, 40, .inl (s0.2.1 6))), ((a0 8), .inl (q 0, 40, .inl (s0.2.1 7))), ((a0 9), .inl (q 0, 40, .inl (s0.2.1 8))), ((a0 10), .inl (q 0, 40, .inl (s0.2.1 9))), ((a0 11), .inl (q 1, 40, .inr (.inl s0.2.2.1))), ((a0 12), .inl (q 0, s0.2.2.2.1, .inl s0.2.2.2.2))] s.heap := hP
  unfold wp_X0_journey at h
  refine lv_aload_n hx hb dX0_journey_0 rfl (lv_at hl 0 rfl) ?_
  refine lv_iload_n hx hb dX0_journey_1 rfl (lv_at hl 1 rfl) ?_
  refine vp_callSi (rd_wV (wc := bd_w a0 q s0) (As := [.int x1]) (rest := []) hx hb hml hown ht (c2_X0_entryStart h) wd_X0_entryStart mw_605 hQ hV va_S.rf (hP.sub [0, 1, 2, 3, 4, 5, 6, 7, 8, 9, 10, 11, 12] rfl) rfl rfl rfl hl.1 rfl (Nat.le_of_ble_eq_true rfl) dX0_journey_2 ⟨Nat.le_of_ble_eq_true rfl, Nat.le_of_ble_eq_true rfl, rfl, rfl⟩ ⟨Nat.le_of_ble_eq_true rfl, Nat.le_of_ble_eq_true rfl⟩) (fun r_1 h => ?_)
  try dsimp only at h
  refine lv_istore_n (lv' := [(2, .int r_1), (0, .ref (a0 0)), (1, .int x1)]) hx hb dX0_journey_5 rfl hl (by decide) rfl (fun ls hl => ?_)
  refine lv_aload_n hx hb dX0_journey_6 rfl (lv_at hl 1 rfl) ?_
  refine lv_iload_n hx hb dX0_journey_7 rfl (lv_at hl 2 rfl) ?_
  refine vp_callSi (rd_wV (wc := bd_w a0 q s0) (As := [.int x1]) (rest := []) hx hb hml hown ht (c2_X0_flapsOn h) wd_X0_flapsOn mw_772 hQ hV va_S.rf (hP.sub [0, 1, 2, 3, 4, 5, 6, 7, 8, 9, 10, 11, 12] rfl) rfl rfl rfl hl.1 rfl (Nat.le_of_ble_eq_true rfl) dX0_journey_8 ⟨Nat.le_of_ble_eq_true rfl, Nat.le_of_ble_eq_true rfl, rfl, rfl⟩ ⟨Nat.le_of_ble_eq_true rfl, Nat.le_of_ble_eq_true rfl⟩) (fun r_3 h => ?_)
  try dsimp only at h
  refine lv_istore_n (lv' := [(3, .int r_3), (2, .int r_1), (0, .ref (a0 0)), (1, .int x1)]) hx hb dX0_journey_11 rfl hl (by decide) rfl (fun ls hl => ?_)
  refine lv_iconst (v := 0) hx hb dX0_journey_12 (by decide) ?_
  refine lv_istore (lv' := [(4, .int 0), (3, .int r_3), (2, .int r_1), (0, .ref (a0 0)), (1, .int x1)]) hx hb dX0_journey_13 hl (by decide) rfl (fun ls hl => ?_)
  refine lv_iconst (v := 0) hx hb dX0_journey_15 (by decide) ?_
  refine lv_istore (lv' := [(5, .int 0), (4, .int 0), (3, .int r_3), (2, .int r_1), (0, .ref (a0 0)), (1, .int x1)]) hx hb dX0_journey_16 hl (by decide) rfl (fun ls hl => ?_)
  have lp18 : ∀ (e69 : Int32 → Int32 → Int32 → Int32 → Int32 → Prop) (k69 : ∀ (z1 : Int32) (z2 : Int32) (z3 : Int32) (z4 : Int32) (z5 : Int32) (ls : Array Slot), e69 z1 z2 z3 z4 z5 → lv_has ls 7 [(1, .int z1), (2, .int z2), (3, .int z3), (4, .int z4), (5, .int z5), (0, .ref (a0 0))] → W p l e ({ frames := 1, cells := 0, slots := 0, locals := 25 } : Room) s m [.ref (a0 0), .int x1].toArray below meth c s.heap [] 0 0 (MQ below (vp_Si post) [.ref (a0 0), .int x1].toArray s 0 0 (fun _ => False)) (F0 m 69 ls [])) (n : Nat) (z1 : Int32) (z2 : Int32) (z3 : Int32) (z4 : Int32) (z5 : Int32) (ls : Array Slot), wp_X0_journey_L18 s0 post e69 n z1 z2 z3 z4 z5 → lv_has ls 7 [(1, .int z1), (2, .int z2), (3, .int z3), (4, .int z4), (5, .int z5), (0, .ref (a0 0))] → W p l e ({ frames := 1, cells := 0, slots := 0, locals := 25 } : Room) s m [.ref (a0 0), .int x1].toArray below meth c s.heap [] 0 0 (MQ below (vp_Si post) [.ref (a0 0), .int x1].toArray s 0 0 (fun _ => False)) (F0 m 18 ls []) := by
    intro e69 k69 n
    induction n with
    | zero =>
      intro z1 z2 z3 z4 z5 ls h
      exact h.elim
    | succ n ih =>
      intro z1 z2 z3 z4 z5 ls h hl
      unfold wp_X0_journey_L18 at h
      refine lv_iload hx hb dX0_journey_18 (lv_at hl 4 rfl) ?_
      refine lv_iload_n hx hb dX0_journey_20 rfl (lv_at hl 2 rfl) ?_
      refine lv_icmp_ge (tgt := 69) hx hb dX0_journey_21 (by decide) (fun c_5 => ?_) (fun c_5 => ?_)
      · replace h := h.1 c_5
        exact k69 _ _ _ _ _ ls h (lv_sub hl [0, 1, 2, 3, 4, 5] rfl)
      · replace h := h.2 c_5
        refine lv_iconst (v := 0) hx hb dX0_journey_24 (by decide) ?_
        refine lv_istore (lv' := [(6, .int 0), (1, .int z1), (2, .int z2), (3, .int z3), (4, .int z4), (5, .int z5), (0, .ref (a0 0))]) hx hb dX0_journey_25 hl (by decide) rfl (fun ls hl => ?_)
        have lp27 : ∀ (e63 : Int32 → Int32 → Int32 → Int32 → Int32 → Int32 → Prop) (k63 : ∀ (z1 : Int32) (z2 : Int32) (z3 : Int32) (z4 : Int32) (z5 : Int32) (z6 : Int32) (ls : Array Slot), e63 z1 z2 z3 z4 z5 z6 → lv_has ls 7 [(1, .int z1), (2, .int z2), (3, .int z3), (4, .int z4), (5, .int z5), (6, .int z6), (0, .ref (a0 0))] → W p l e ({ frames := 1, cells := 0, slots := 0, locals := 25 } : Room) s m [.ref (a0 0), .int x1].toArray below meth c s.heap [] 0 0 (MQ below (vp_Si post) [.ref (a0 0), .int x1].toArray s 0 0 (fun _ => False)) (F0 m 63 ls [])) (n : Nat) (z1 : Int32) (z2 : Int32) (z3 : Int32) (z4 : Int32) (z5 : Int32) (z6 : Int32) (ls : Array Slot), wp_X0_journey_L27 s0 post e63 n z1 z2 z3 z4 z5 z6 → lv_has ls 7 [(1, .int z1), (2, .int z2), (3, .int z3), (4, .int z4), (5, .int z5), (6, .int z6), (0, .ref (a0 0))] → W p l e ({ frames := 1, cells := 0, slots := 0, locals := 25 } : Room) s m [.ref (a0 0), .int x1].toArray below meth c s.heap [] 0 0 (MQ below (vp_Si post) [.ref (a0 0), .int x1].toArray s 0 0 (fun _ => False)) (F0 m 27 ls []) := by
          intro e63 k63 n
          induction n with
          | zero =>
            intro z1 z2 z3 z4 z5 z6 ls h
            exact h.elim
          | succ n ih =>
            intro z1 z2 z3 z4 z5 z6 ls h hl
            unfold wp_X0_journey_L27 at h
            refine lv_iload hx hb dX0_journey_27 (lv_at hl 5 rfl) ?_
            refine lv_iload_n hx hb dX0_journey_29 rfl (lv_at hl 2 rfl) ?_
            refine lv_icmp_ge (tgt := 63) hx hb dX0_journey_30 (by decide) (fun c_6 => ?_) (fun c_6 => ?_)
            · replace h := h.1 c_6
              exact k63 _ _ _ _ _ _ ls h (lv_sub hl [0, 1, 2, 3, 4, 5, 6] rfl)
            · replace h := h.2 c_6
              refine lv_iload hx hb dX0_journey_33 (lv_at hl 3 rfl) ?_
              refine lv_aload_n hx hb dX0_journey_35 rfl (lv_at hl 6 rfl) ?_
              refine lv_iload_n hx hb dX0_journey_36 rfl (lv_at hl 1 rfl) ?_
              refine lv_iload_n hx hb dX0_journey_37 rfl (lv_at hl 2 rfl) ?_
              refine lv_iload hx hb dX0_journey_38 (lv_at hl 4 rfl) ?_
              refine lv_iload hx hb dX0_journey_40 (lv_at hl 5 rfl) ?_
              refine vp_callSi (rd_wV (wc := bd_w a0 q s0) (As := [.int z2, .int z3, .int z5, .int z6]) (rest := [.int z4]) hx hb hml hown ht (c2_X0_entryAt h) wd_X0_entryAt mw_1040 hQ hV va_S.rf (hP.sub [0, 1, 2, 3, 4, 5, 6, 7, 8, 9, 10, 11, 12] rfl) rfl rfl rfl hl.1 rfl (Nat.le_of_ble_eq_true rfl) dX0_journey_42 ⟨Nat.le_of_ble_eq_true rfl, Nat.le_of_ble_eq_true rfl, rfl, rfl⟩ ⟨Nat.le_of_ble_eq_true rfl, Nat.le_of_ble_eq_true rfl⟩) (fun r_7 h => ?_)
              try dsimp only at h
              refine lv_iload hx hb dX0_journey_45 (lv_at hl 4 rfl) ?_
              refine lv_iload hx hb dX0_journey_47 (lv_at hl 5 rfl) ?_
              refine lv_iload_n hx hb dX0_journey_49 rfl (lv_at hl 2 rfl) ?_
              refine vp_callSi (rd_wSN (wc := ([] : va_W)) (As := [.int z5, .int z6, .int z3]) (rest := [.int r_7, .int z4]) hx hb hml hown ht (c2_X6_onFrom h) wd_X6_onFrom (hQ.2.2.2.2.2) hQ hV va_S.rf (hP.sub [] rfl) rfl hl.1 rfl (Nat.le_of_ble_eq_true rfl) dX0_journey_50 ⟨Nat.le_of_ble_eq_true rfl, Nat.le_of_ble_eq_true rfl, rfl, rfl⟩ ⟨Nat.le_of_ble_eq_true rfl, Nat.le_of_ble_eq_true rfl⟩) (fun r_9 h => ?_)
              try dsimp only at h
              refine lv_imul hx hb dX0_journey_53 ?_
              refine lv_iadd hx hb dX0_journey_54 ?_
              refine lv_istore (lv' := [(4, .int (z4 + (r_7 * r_9))), (1, .int z1), (2, .int z2), (3, .int z3), (5, .int z5), (6, .int z6), (0, .ref (a0 0))]) hx hb dX0_journey_55 hl (by decide) rfl (fun ls hl => ?_)
              refine lv_iinc (v := (z6 + 1)) (lv' := [(6, .int (z6 + 1)), (4, .int (z4 + (r_7 * r_9))), (1, .int z1), (2, .int z2), (3, .int z3), (5, .int z5), (0, .ref (a0 0))]) hx hb dX0_journey_57 hl (k := 5) rfl rfl (by decide) rfl (fun ls hl => ?_)
              refine lv_goto (tgt := 27) hx hb dX0_journey_60 (by decide) ?_
              exact ih _ _ _ _ _ _ ls h (lv_sub hl [2, 3, 4, 1, 5, 0, 6] rfl)
        obtain ⟨n27, h⟩ := h
        refine lp27 _ ?_ n27 _ _ _ _ _ _ ls h (lv_sub hl [1, 2, 3, 4, 5, 0, 6] rfl)
        · intro z1 z2 z3 z4 z5 z6 ls h hl
          try dsimp only at h
          refine lv_iinc (v := (z5 + 1)) (lv' := [(5, .int (z5 + 1)), (1, .int z1), (2, .int z2), (3, .int z3), (4, .int z4), (6, .int z6), (0, .ref (a0 0))]) hx hb dX0_journey_63 hl (k := 4) rfl rfl (by decide) rfl (fun ls hl => ?_)
          refine lv_goto (tgt := 18) hx hb dX0_journey_66 (by decide) ?_
          exact ih _ _ _ _ _ ls h (lv_sub hl [1, 2, 3, 4, 0, 6] rfl)
  obtain ⟨n18, h⟩ := h
  refine lp18 _ ?_ n18 _ _ _ _ _ ls h (lv_sub hl [5, 3, 2, 1, 0, 4] rfl)
  · intro z1 z2 z3 z4 z5 ls h hl
    try dsimp only at h
    refine lv_iload hx hb dX0_journey_69 (lv_at hl 3 rfl) ?_
    exact rd_iret hx hb hr hk h dX0_journey_71

def wp_X0_entriesOf_L20 (s0 : Bd) (post : Int32 → Prop) (e67 : Int32 → Int32 → Int32 → Int32 → Int32 → Int32 → Int32 → Prop) : Nat → Int32 → Int32 → Int32 → Int32 → Int32 → Int32 → Int32 → Prop
  | 0, _, _, _, _, _, _, _ => False
  | n20 + 1, z1, z2, z3, z4, z5, z6, z7 => ((z5 ≤ z7 → e67 z1 z2 z3 z4 z5 z6 z7) ∧ (¬ z5 ≤ z7 → ((z3 = 0 → wp_X0_entryAt (fun r_7 => wp_X0_entriesOf_L20 s0 post e67 n20 z1 z2 z3 z4 z5 (z6 + r_7) (z7 + 1)) s0 z4 z5 z2 z7) ∧ (¬ z3 = 0 → wp_X0_entryAt (fun r_9 => wp_X0_entriesOf_L20 s0 post e67 n20 z1 z2 z3 z4 z5 (z6 + r_9) (z7 + 1)) s0 z4 z5 z7 z2))))
def wp_X0_entriesOf (post : Int32 → Prop) (s0 : Bd) (x1 : Int32) (x2 : Int32) (x3 : Int32) : Prop := wp_X0_entryStart (fun r_1 => wp_X0_flapsOn (fun r_3 => (∃ n20, wp_X0_entriesOf_L20 s0 post (fun z1 z2 z3 z4 z5 z6 z7 => post z6) n20 x1 x2 x3 r_1 r_3 0 0)) s0 x1) s0 x1
set_option maxHeartbeats 4000000 in
set_option maxRecDepth 100000 in
theorem c2_X0_entriesOf {l : Launch} {D : va_G} {q : Nat → ClassId} {a0 : Nat → Nat} {s0 : Bd} {x1 : Int32} {x2 : Int32} {x3 : Int32} {post : Int32 → Prop} (h : wp_X0_entriesOf post s0 x1 x2 x3) : Met l yX0_entriesOf (Cond.code yX0_entriesOf cX0_entriesOf 8 (some .int) :: w_all) ({ frames := 1, cells := 0, slots := 0, locals := 25 } : Room) (rd_P D q [.ref (a0 0), .int x1, .int x2, .int x3] (bd_w a0 q s0)) (vp_Si post) 0 0 (fun _ => False) := by
  refine rd_start (by decide) (Nat.le_of_ble_eq_true rfl) ?_
  intro p e s m below meth c ls hx hb hr hml hown ht hk hP hQ hV hl
  have hK := hQ.1
  have hown : s.vm.findClass RX0 = some m.cls := hown
  have hl : lv_has ls 8 [(0, .ref (a0 0)), (1, .int x1), (2, .int x2), (3, .int x3)] := hl
  have hP : va_P D vwCl [((a0 0), .inr (0, [.int (s0.1 0), .int (s0.1 1), .int (s0.1 2), .int (s0.1 3), .int (s0.1 4), .int (s0.1 5), .ref (a0 1), .ref (a0 2), .ref (a0 3), .ref (a0 4), .ref (a0 5), .ref (a0 6), .ref (a0 7), .ref (a0 8), .ref (a0 9), .ref (a0 10), .ref (a0 11), .ref (a0 12)])), ((a0 1), .inl (q 0, 4, .inl (s0.2.1 0))), ((a0 2), .inl (q 0, 4, .inl (s0.2.1 1))), ((a0 3), .inl (q 0, 160, .inl (s0.2.1 2))), ((a0 4), .inl (q 0, 40, .inl (s0.2.1 3))), ((a0 5), .inl (q 0, 40, .inl (s0.2.1 4))), ((a0 6), .inl (q 0, 40, .inl (s0.2.1 5))), ((a0 7), .inl (q 0, 40, .inl (s0.2.1 6))), ((a0 8), .inl (q 0, 40, .inl (s0.2.1 7))), ((a0 9), .inl (q 0, 40, .inl (s0.2.1 8))), ((a0 10), .inl (q 0, 40, .inl (s0.2.1 9))), ((a0 11), .inl (q 1, 40, .inr (.inl s0.2.2.1))), ((a0 12), .inl (q 0, s0.2.2.2.1, .inl s0.2.2.2.2))] s.heap := hP
  unfold wp_X0_entriesOf at h
  refine lv_aload_n hx hb dX0_entriesOf_0 rfl (lv_at hl 0 rfl) ?_
  refine lv_iload_n hx hb dX0_entriesOf_1 rfl (lv_at hl 1 rfl) ?_
  refine vp_callSi (rd_wV (wc := bd_w a0 q s0) (As := [.int x1]) (rest := []) hx hb hml hown ht (c2_X0_entryStart h) wd_X0_entryStart mw_605 hQ hV va_S.rf (hP.sub [0, 1, 2, 3, 4, 5, 6, 7, 8, 9, 10, 11, 12] rfl) rfl rfl rfl hl.1 rfl (Nat.le_of_ble_eq_true rfl) dX0_entriesOf_2 ⟨Nat.le_of_ble_eq_true rfl, Nat.le_of_ble_eq_true rfl, rfl, rfl⟩ ⟨Nat.le_of_ble_eq_true rfl, Nat.le_of_ble_eq_true rfl⟩) (fun r_1 h => ?_)
  try dsimp only at h
  refine lv_istore (lv' := [(4, .int r_1), (0, .ref (a0 0)), (1, .int x1), (2, .int x2), (3, .int x3)]) hx hb dX0_entriesOf_5 hl (by decide) rfl (fun ls hl => ?_)
  refine lv_aload_n hx hb dX0_entriesOf_7 rfl (lv_at hl 1 rfl) ?_
  refine lv_iload_n hx hb dX0_entriesOf_8 rfl (lv_at hl 2 rfl) ?_
  refine vp_callSi (rd_wV (wc := bd_w a0 q s0) (As := [.int x1]) (rest := []) hx hb hml hown ht (c2_X0_flapsOn h) wd_X0_flapsOn mw_772 hQ hV va_S.rf (hP.sub [0, 1, 2, 3, 4, 5, 6, 7, 8, 9, 10, 11, 12] rfl) rfl rfl rfl hl.1 rfl (Nat.le_of_ble_eq_true rfl) dX0_entriesOf_9 ⟨Nat.le_of_ble_eq_true rfl, Nat.le_of_ble_eq_true rfl, rfl, rfl⟩ ⟨Nat.le_of_ble_eq_true rfl, Nat.le_of_ble_eq_true rfl⟩) (fun r_3 h => ?_)
  try dsimp only at h
  refine lv_istore (lv' := [(5, .int r_3), (4, .int r_1), (0, .ref (a0 0)), (1, .int x1), (2, .int x2), (3, .int x3)]) hx hb dX0_entriesOf_12 hl (by decide) rfl (fun ls hl => ?_)
  refine lv_iconst (v := 0) hx hb dX0_entriesOf_14 (by decide) ?_
  refine lv_istore (lv' := [(6, .int 0), (5, .int r_3), (4, .int r_1), (0, .ref (a0 0)), (1, .int x1), (2, .int x2), (3, .int x3)]) hx hb dX0_entriesOf_15 hl (by decide) rfl (fun ls hl => ?_)
  refine lv_iconst (v := 0) hx hb dX0_entriesOf_17 (by decide) ?_
  refine lv_istore (lv' := [(7, .int 0), (6, .int 0), (5, .int r_3), (4, .int r_1), (0, .ref (a0 0)), (1, .int x1), (2, .int x2), (3, .int x3)]) hx hb dX0_entriesOf_18 hl (by decide) rfl (fun ls hl => ?_)
  have lp20 : ∀ (e67 : Int32 → Int32 → Int32 → Int32 → Int32 → Int32 → Int32 → Prop) (k67 : ∀ (z1 : Int32) (z2 : Int32) (z3 : Int32) (z4 : Int32) (z5 : Int32) (z6 : Int32) (z7 : Int32) (ls : Array Slot), e67 z1 z2 z3 z4 z5 z6 z7 → lv_has ls 8 [(1, .int z1), (2, .int z2), (3, .int z3), (4, .int z4), (5, .int z5), (6, .int z6), (7, .int z7), (0, .ref (a0 0))] → W p l e ({ frames := 1, cells := 0, slots := 0, locals := 25 } : Room) s m [.ref (a0 0), .int x1, .int x2, .int x3].toArray below meth c s.heap [] 0 0 (MQ below (vp_Si post) [.ref (a0 0), .int x1, .int x2, .int x3].toArray s 0 0 (fun _ => False)) (F0 m 67 ls [])) (n : Nat) (z1 : Int32) (z2 : Int32) (z3 : Int32) (z4 : Int32) (z5 : Int32) (z6 : Int32) (z7 : Int32) (ls : Array Slot), wp_X0_entriesOf_L20 s0 post e67 n z1 z2 z3 z4 z5 z6 z7 → lv_has ls 8 [(1, .int z1), (2, .int z2), (3, .int z3), (4, .int z4), (5, .int z5), (6, .int z6), (7, .int z7), (0, .ref (a0 0))] → W p l e ({ frames := 1, cells := 0, slots := 0, locals := 25 } : Room) s m [.ref (a0 0), .int x1, .int x2, .int x3].toArray below meth c s.heap [] 0 0 (MQ below (vp_Si post) [.ref (a0 0), .int x1, .int x2, .int x3].toArray s 0 0 (fun _ => False)) (F0 m 20 ls []) := by
    intro e67 k67 n
    induction n with
    | zero =>
      intro z1 z2 z3 z4 z5 z6 z7 ls h
      exact h.elim
    | succ n ih =>
      intro z1 z2 z3 z4 z5 z6 z7 ls h hl
      unfold wp_X0_entriesOf_L20 at h
      refine lv_iload hx hb dX0_entriesOf_20 (lv_at hl 6 rfl) ?_
      refine lv_iload hx hb dX0_entriesOf_22 (lv_at hl 4 rfl) ?_
      refine lv_icmp_ge (tgt := 67) hx hb dX0_entriesOf_24 (by decide) (fun c_5 => ?_) (fun c_5 => ?_)
      · replace h := h.1 c_5
        exact k67 _ _ _ _ _ _ _ ls h (lv_sub hl [0, 1, 2, 3, 4, 5, 6, 7] rfl)
      · replace h := h.2 c_5
        refine lv_iload hx hb dX0_entriesOf_27 (lv_at hl 5 rfl) ?_
        refine lv_iload_n hx hb dX0_entriesOf_29 rfl (lv_at hl 2 rfl) ?_
        refine lv_if_eq (tgt := 47) hx hb dX0_entriesOf_30 (by decide) (fun c_6 => ?_) (fun c_6 => ?_)
        · replace h := h.1 c_6
          refine lv_aload_n hx hb dX0_entriesOf_47 rfl (lv_at hl 7 rfl) ?_
          refine lv_iload hx hb dX0_entriesOf_48 (lv_at hl 3 rfl) ?_
          refine lv_iload hx hb dX0_entriesOf_50 (lv_at hl 4 rfl) ?_
          refine lv_iload_n hx hb dX0_entriesOf_52 rfl (lv_at hl 1 rfl) ?_
          refine lv_iload hx hb dX0_entriesOf_53 (lv_at hl 6 rfl) ?_
          refine vp_callSi (rd_wV (wc := bd_w a0 q s0) (As := [.int z4, .int z5, .int z2, .int z7]) (rest := [.int z6]) hx hb hml hown ht (c2_X0_entryAt h) wd_X0_entryAt mw_1040 hQ hV va_S.rf (hP.sub [0, 1, 2, 3, 4, 5, 6, 7, 8, 9, 10, 11, 12] rfl) rfl rfl rfl hl.1 rfl (Nat.le_of_ble_eq_true rfl) dX0_entriesOf_55 ⟨Nat.le_of_ble_eq_true rfl, Nat.le_of_ble_eq_true rfl, rfl, rfl⟩ ⟨Nat.le_of_ble_eq_true rfl, Nat.le_of_ble_eq_true rfl⟩) (fun r_7 h => ?_)
          try dsimp only at h
          refine lv_iadd hx hb dX0_entriesOf_58 ?_
          refine lv_istore (lv' := [(6, .int (z6 + r_7)), (1, .int z1), (2, .int z2), (3, .int z3), (4, .int z4), (5, .int z5), (7, .int z7), (0, .ref (a0 0))]) hx hb dX0_entriesOf_59 hl (by decide) rfl (fun ls hl => ?_)
          refine lv_iinc (v := (z7 + 1)) (lv' := [(7, .int (z7 + 1)), (6, .int (z6 + r_7)), (1, .int z1), (2, .int z2), (3, .int z3), (4, .int z4), (5, .int z5), (0, .ref (a0 0))]) hx hb dX0_entriesOf_61 hl (k := 6) rfl rfl (by decide) rfl (fun ls hl => ?_)
          refine lv_goto (tgt := 20) hx hb dX0_entriesOf_64 (by decide) ?_
          exact ih _ _ _ _ _ _ _ ls h (lv_sub hl [2, 3, 4, 5, 6, 1, 0, 7] rfl)
        · replace h := h.2 c_6
          refine lv_aload_n hx hb dX0_entriesOf_33 rfl (lv_at hl 7 rfl) ?_
          refine lv_iload hx hb dX0_entriesOf_34 (lv_at hl 3 rfl) ?_
          refine lv_iload hx hb dX0_entriesOf_36 (lv_at hl 4 rfl) ?_
          refine lv_iload hx hb dX0_entriesOf_38 (lv_at hl 6 rfl) ?_
          refine lv_iload_n hx hb dX0_entriesOf_40 rfl (lv_at hl 1 rfl) ?_
          refine vp_callSi (rd_wV (wc := bd_w a0 q s0) (As := [.int z4, .int z5, .int z7, .int z2]) (rest := [.int z6]) hx hb hml hown ht (c2_X0_entryAt h) wd_X0_entryAt mw_1040 hQ hV va_S.rf (hP.sub [0, 1, 2, 3, 4, 5, 6, 7, 8, 9, 10, 11, 12] rfl) rfl rfl rfl hl.1 rfl (Nat.le_of_ble_eq_true rfl) dX0_entriesOf_41 ⟨Nat.le_of_ble_eq_true rfl, Nat.le_of_ble_eq_true rfl, rfl, rfl⟩ ⟨Nat.le_of_ble_eq_true rfl, Nat.le_of_ble_eq_true rfl⟩) (fun r_9 h => ?_)
          try dsimp only at h
          refine lv_goto (tgt := 58) hx hb dX0_entriesOf_44 (by decide) ?_
          refine lv_iadd hx hb dX0_entriesOf_58 ?_
          refine lv_istore (lv' := [(6, .int (z6 + r_9)), (1, .int z1), (2, .int z2), (3, .int z3), (4, .int z4), (5, .int z5), (7, .int z7), (0, .ref (a0 0))]) hx hb dX0_entriesOf_59 hl (by decide) rfl (fun ls hl => ?_)
          refine lv_iinc (v := (z7 + 1)) (lv' := [(7, .int (z7 + 1)), (6, .int (z6 + r_9)), (1, .int z1), (2, .int z2), (3, .int z3), (4, .int z4), (5, .int z5), (0, .ref (a0 0))]) hx hb dX0_entriesOf_61 hl (k := 6) rfl rfl (by decide) rfl (fun ls hl => ?_)
          refine lv_goto (tgt := 20) hx hb dX0_entriesOf_64 (by decide) ?_
          exact ih _ _ _ _ _ _ _ ls h (lv_sub hl [2, 3, 4, 5, 6, 1, 0, 7] rfl)
  obtain ⟨n20, h⟩ := h
  refine lp20 _ ?_ n20 _ _ _ _ _ _ _ ls h (lv_sub hl [5, 6, 7, 3, 2, 1, 0, 4] rfl)
  · intro z1 z2 z3 z4 z5 z6 z7 ls h hl
    try dsimp only at h
    refine lv_iload hx hb dX0_entriesOf_67 (lv_at hl 5 rfl) ?_
    exact rd_iret hx hb hr hk h dX0_entriesOf_69

def wp_X0_logSize_L4 (s0 : Bd) (post : Int32 → Prop) (e29 : Int32 → Int32 → Int32 → Prop) : Nat → Int32 → Int32 → Int32 → Prop
  | 0, _, _, _ => False
  | n4 + 1, z1, z2, z3 => wp_X0_flapsOn (fun r_1 => ((r_1 ≤ z3 → e29 z1 z2 z3) ∧ (¬ r_1 ≤ z3 → wp_X0_entriesOf (fun r_4 => wp_X0_logSize_L4 s0 post e29 n4 z1 (z2 + r_4) (z3 + 1)) s0 z1 z3 (1 : Int32)))) s0 z1
def wp_X0_logSize (post : Int32 → Prop) (s0 : Bd) (x1 : Int32) : Prop := (∃ n4, wp_X0_logSize_L4 s0 post (fun z1 z2 z3 => post z2) n4 x1 0 0)
set_option maxHeartbeats 4000000 in
set_option maxRecDepth 100000 in
theorem c2_X0_logSize {l : Launch} {D : va_G} {q : Nat → ClassId} {a0 : Nat → Nat} {s0 : Bd} {x1 : Int32} {post : Int32 → Prop} (h : wp_X0_logSize post s0 x1) : Met l yX0_logSize (Cond.code yX0_logSize cX0_logSize 4 (some .int) :: w_all) ({ frames := 2, cells := 0, slots := 0, locals := 52 } : Room) (rd_P D q [.ref (a0 0), .int x1] (bd_w a0 q s0)) (vp_Si post) 0 0 (fun _ => False) := by
  refine rd_start (by decide) (Nat.le_of_ble_eq_true rfl) ?_
  intro p e s m below meth c ls hx hb hr hml hown ht hk hP hQ hV hl
  have hK := hQ.1
  have hown : s.vm.findClass RX0 = some m.cls := hown
  have hl : lv_has ls 4 [(0, .ref (a0 0)), (1, .int x1)] := hl
  have hP : va_P D vwCl [((a0 0), .inr (0, [.int (s0.1 0), .int (s0.1 1), .int (s0.1 2), .int (s0.1 3), .int (s0.1 4), .int (s0.1 5), .ref (a0 1), .ref (a0 2), .ref (a0 3), .ref (a0 4), .ref (a0 5), .ref (a0 6), .ref (a0 7), .ref (a0 8), .ref (a0 9), .ref (a0 10), .ref (a0 11), .ref (a0 12)])), ((a0 1), .inl (q 0, 4, .inl (s0.2.1 0))), ((a0 2), .inl (q 0, 4, .inl (s0.2.1 1))), ((a0 3), .inl (q 0, 160, .inl (s0.2.1 2))), ((a0 4), .inl (q 0, 40, .inl (s0.2.1 3))), ((a0 5), .inl (q 0, 40, .inl (s0.2.1 4))), ((a0 6), .inl (q 0, 40, .inl (s0.2.1 5))), ((a0 7), .inl (q 0, 40, .inl (s0.2.1 6))), ((a0 8), .inl (q 0, 40, .inl (s0.2.1 7))), ((a0 9), .inl (q 0, 40, .inl (s0.2.1 8))), ((a0 10), .inl (q 0, 40, .inl (s0.2.1 9))), ((a0 11), .inl (q 1, 40, .inr (.inl s0.2.2.1))), ((a0 12), .inl (q 0, s0.2.2.2.1, .inl s0.2.2.2.2))] s.heap := hP
  unfold wp_X0_logSize at h
  refine lv_iconst (v := 0) hx hb dX0_logSize_0 (by decide) ?_
  refine lv_istore_n (lv' := [(2, .int 0), (0, .ref (a0 0)), (1, .int x1)]) hx hb dX0_logSize_1 rfl hl (by decide) rfl (fun ls hl => ?_)
  refine lv_iconst (v := 0) hx hb dX0_logSize_2 (by decide) ?_
  refine lv_istore_n (lv' := [(3, .int 0), (2, .int 0), (0, .ref (a0 0)), (1, .int x1)]) hx hb dX0_logSize_3 rfl hl (by decide) rfl (fun ls hl => ?_)
  have lp4 : ∀ (e29 : Int32 → Int32 → Int32 → Prop) (k29 : ∀ (z1 : Int32) (z2 : Int32) (z3 : Int32) (ls : Array Slot), e29 z1 z2 z3 → lv_has ls 4 [(1, .int z1), (2, .int z2), (3, .int z3), (0, .ref (a0 0))] → W p l e ({ frames := 2, cells := 0, slots := 0, locals := 52 } : Room) s m [.ref (a0 0), .int x1].toArray below meth c s.heap [] 0 0 (MQ below (vp_Si post) [.ref (a0 0), .int x1].toArray s 0 0 (fun _ => False)) (F0 m 29 ls [])) (n : Nat) (z1 : Int32) (z2 : Int32) (z3 : Int32) (ls : Array Slot), wp_X0_logSize_L4 s0 post e29 n z1 z2 z3 → lv_has ls 4 [(1, .int z1), (2, .int z2), (3, .int z3), (0, .ref (a0 0))] → W p l e ({ frames := 2, cells := 0, slots := 0, locals := 52 } : Room) s m [.ref (a0 0), .int x1].toArray below meth c s.heap [] 0 0 (MQ below (vp_Si post) [.ref (a0 0), .int x1].toArray s 0 0 (fun _ => False)) (F0 m 4 ls []) := by
    intro e29 k29 n
    induction n with
    | zero =>
      intro z1 z2 z3 ls h
      exact h.elim
    | succ n ih =>
      intro z1 z2 z3 ls h hl
      unfold wp_X0_logSize_L4 at h
      refine lv_iload_n hx hb dX0_logSize_4 rfl (lv_at hl 2 rfl) ?_
      refine lv_aload_n hx hb dX0_logSize_5 rfl (lv_at hl 3 rfl) ?_
      refine lv_iload_n hx hb dX0_logSize_6 rfl (lv_at hl 0 rfl) ?_
      refine vp_callSi (rd_wV (wc := bd_w a0 q s0) (As := [.int z1]) (rest := [.int z3]) hx hb hml hown ht (c2_X0_flapsOn h) wd_X0_flapsOn mw_772 hQ hV va_S.rf (hP.sub [0, 1, 2, 3, 4, 5, 6, 7, 8, 9, 10, 11, 12] rfl) rfl rfl rfl hl.1 rfl (Nat.le_of_ble_eq_true rfl) dX0_logSize_7 ⟨Nat.le_of_ble_eq_true rfl, Nat.le_of_ble_eq_true rfl, rfl, rfl⟩ ⟨Nat.le_of_ble_eq_true rfl, Nat.le_of_ble_eq_true rfl⟩) (fun r_1 h => ?_)
      try dsimp only at h
      refine lv_icmp_ge (tgt := 29) hx hb dX0_logSize_10 (by decide) (fun c_3 => ?_) (fun c_3 => ?_)
      · replace h := h.1 c_3
        exact k29 _ _ _ ls h (lv_sub hl [0, 1, 2, 3] rfl)
      · replace h := h.2 c_3
        refine lv_iload_n hx hb dX0_logSize_13 rfl (lv_at hl 1 rfl) ?_
        refine lv_aload_n hx hb dX0_logSize_14 rfl (lv_at hl 3 rfl) ?_
        refine lv_iload_n hx hb dX0_logSize_15 rfl (lv_at hl 0 rfl) ?_
        refine lv_iload_n hx hb dX0_logSize_16 rfl (lv_at hl 2 rfl) ?_
        refine lv_iconst (v := 1) hx hb dX0_logSize_17 (by decide) ?_
        refine vp_callSi (rd_wV (wc := bd_w a0 q s0) (As := [.int z1, .int z3, .int 1]) (rest := [.int z2]) hx hb hml hown ht (c2_X0_entriesOf h) wd_X0_entriesOf mw_1048 hQ hV va_S.rf (hP.sub [0, 1, 2, 3, 4, 5, 6, 7, 8, 9, 10, 11, 12] rfl) rfl rfl rfl hl.1 rfl (Nat.le_of_ble_eq_true rfl) dX0_logSize_18 ⟨Nat.le_of_ble_eq_true rfl, Nat.le_of_ble_eq_true rfl, rfl, rfl⟩ ⟨Nat.le_of_ble_eq_true rfl, Nat.le_of_ble_eq_true rfl⟩) (fun r_4 h => ?_)
        try dsimp only at h
        refine lv_iadd hx hb dX0_logSize_21 ?_
        refine lv_istore_n (lv' := [(2, .int (z2 + r_4)), (1, .int z1), (3, .int z3), (0, .ref (a0 0))]) hx hb dX0_logSize_22 rfl hl (by decide) rfl (fun ls hl => ?_)
        refine lv_iinc (v := (z3 + 1)) (lv' := [(3, .int (z3 + 1)), (2, .int (z2 + r_4)), (1, .int z1), (0, .ref (a0 0))]) hx hb dX0_logSize_23 hl (k := 2) rfl rfl (by decide) rfl (fun ls hl => ?_)
        refine lv_goto (tgt := 4) hx hb dX0_logSize_26 (by decide) ?_
        exact ih _ _ _ ls h (lv_sub hl [2, 1, 0, 3] rfl)
  obtain ⟨n4, h⟩ := h
  refine lp4 _ ?_ n4 _ _ _ ls h (lv_sub hl [3, 1, 0, 2] rfl)
  · intro z1 z2 z3 ls h hl
    try dsimp only at h
    refine lv_iload_n hx hb dX0_logSize_29 rfl (lv_at hl 1 rfl) ?_
    exact rd_iret hx hb hr hk h dX0_logSize_30

def wp_X0_unlikeEntries_L27 (s0 : Bd) (post : Int32 → Prop) (e55 : Int32 → Int32 → Int32 → Int32 → Int32 → Int32 → Prop) : Nat → Int32 → Int32 → Int32 → Int32 → Int32 → Int32 → Prop
  | 0, _, _, _, _, _, _ => False
  | n27 + 1, z1, z2, z3, z4, z5, z6 => ((z3 ≤ z6 → e55 z1 z2 z3 z4 z5 z6) ∧ (¬ z3 ≤ z6 → wp_X0_entryAt (fun r_7 => ((r_7 ≤ 0 → wp_X0_unlikeEntries_L27 s0 post e55 n27 z1 z2 z3 z4 z5 (z6 + 1)) ∧ (¬ r_7 ≤ 0 → wp_X0_unlikeEntries_L27 s0 post e55 n27 z1 z2 z3 (z4 + 1) z5 (z6 + 1)))) s0 z2 z3 z5 z6))
def wp_X0_unlikeEntries_L18 (s0 : Bd) (post : Int32 → Prop) (e61 : Int32 → Int32 → Int32 → Int32 → Int32 → Prop) : Nat → Int32 → Int32 → Int32 → Int32 → Int32 → Prop
  | 0, _, _, _, _, _ => False
  | n18 + 1, z1, z2, z3, z4, z5 => ((z3 ≤ z5 → e61 z1 z2 z3 z4 z5) ∧ (¬ z3 ≤ z5 → (∃ n27, wp_X0_unlikeEntries_L27 s0 post (fun z1 z2 z3 z4 z5 z6 => wp_X0_unlikeEntries_L18 s0 post e61 n18 z1 z2 z3 z4 (z5 + 1)) n27 z1 z2 z3 z4 z5 0)))
def wp_X0_unlikeEntries (post : Int32 → Prop) (s0 : Bd) (x1 : Int32) : Prop := wp_X0_entryStart (fun r_1 => wp_X0_flapsOn (fun r_3 => (∃ n18, wp_X0_unlikeEntries_L18 s0 post (fun z1 z2 z3 z4 z5 => post z4) n18 x1 r_1 r_3 0 0)) s0 x1) s0 x1
set_option maxHeartbeats 4000000 in
set_option maxRecDepth 100000 in
theorem c2_X0_unlikeEntries {l : Launch} {D : va_G} {q : Nat → ClassId} {a0 : Nat → Nat} {s0 : Bd} {x1 : Int32} {post : Int32 → Prop} (h : wp_X0_unlikeEntries post s0 x1) : Met l yX0_unlikeEntries (Cond.code yX0_unlikeEntries cX0_unlikeEntries 7 (some .int) :: w_all) ({ frames := 1, cells := 0, slots := 0, locals := 25 } : Room) (rd_P D q [.ref (a0 0), .int x1] (bd_w a0 q s0)) (vp_Si post) 0 0 (fun _ => False) := by
  refine rd_start (by decide) (Nat.le_of_ble_eq_true rfl) ?_
  intro p e s m below meth c ls hx hb hr hml hown ht hk hP hQ hV hl
  have hK := hQ.1
  have hown : s.vm.findClass RX0 = some m.cls := hown
  have hl : lv_has ls 7 [(0, .ref (a0 0)), (1, .int x1)] := hl
  have hP : va_P D vwCl [((a0 0), .inr (0, [.int (s0.1 0), .int (s0.1 1), .int (s0.1 2), .int (s0.1 3), .int (s0.1 4), .int (s0.1 5), .ref (a0 1), .ref (a0 2), .ref (a0 3), .ref (a0 4), .ref (a0 5), .ref (a0 6), .ref (a0 7), .ref (a0 8), .ref (a0 9), .ref (a0 10), .ref (a0 11), .ref (a0 12)])), ((a0 1), .inl (q 0, 4, .inl (s0.2.1 0))), ((a0 2), .inl (q 0, 4, .inl (s0.2.1 1))), ((a0 3), .inl (q 0, 160, .inl (s0.2.1 2))), ((a0 4), .inl (q 0, 40, .inl (s0.2.1 3))), ((a0 5), .inl (q 0, 40, .inl (s0.2.1 4))), ((a0 6), .inl (q 0, 40, .inl (s0.2.1 5))), ((a0 7), .inl (q 0, 40, .inl (s0.2.1 6))), ((a0 8), .inl (q 0, 40, .inl (s0.2.1 7))), ((a0 9), .inl (q 0, 40, .inl (s0.2.1 8))), ((a0 10), .inl (q 0, 40, .inl (s0.2.1 9))), ((a0 11), .inl (q 1, 40, .inr (.inl s0.2.2.1))), ((a0 12), .inl (q 0, s0.2.2.2.1, .inl s0.2.2.2.2))] s.heap := hP
  unfold wp_X0_unlikeEntries at h
  refine lv_aload_n hx hb dX0_unlikeEntries_0 rfl (lv_at hl 0 rfl) ?_
  refine lv_iload_n hx hb dX0_unlikeEntries_1 rfl (lv_at hl 1 rfl) ?_
  refine vp_callSi (rd_wV (wc := bd_w a0 q s0) (As := [.int x1]) (rest := []) hx hb hml hown ht (c2_X0_entryStart h) wd_X0_entryStart mw_605 hQ hV va_S.rf (hP.sub [0, 1, 2, 3, 4, 5, 6, 7, 8, 9, 10, 11, 12] rfl) rfl rfl rfl hl.1 rfl (Nat.le_of_ble_eq_true rfl) dX0_unlikeEntries_2 ⟨Nat.le_of_ble_eq_true rfl, Nat.le_of_ble_eq_true rfl, rfl, rfl⟩ ⟨Nat.le_of_ble_eq_true rfl, Nat.le_of_ble_eq_true rfl⟩) (fun r_1 h => ?_)
  try dsimp only at h
  refine lv_istore_n (lv' := [(2, .int r_1), (0, .ref (a0 0)), (1, .int x1)]) hx hb dX0_unlikeEntries_5 rfl hl (by decide) rfl (fun ls hl => ?_)
  refine lv_aload_n hx hb dX0_unlikeEntries_6 rfl (lv_at hl 1 rfl) ?_
  refine lv_iload_n hx hb dX0_unlikeEntries_7 rfl (lv_at hl 2 rfl) ?_
  refine vp_callSi (rd_wV (wc := bd_w a0 q s0) (As := [.int x1]) (rest := []) hx hb hml hown ht (c2_X0_flapsOn h) wd_X0_flapsOn mw_772 hQ hV va_S.rf (hP.sub [0, 1, 2, 3, 4, 5, 6, 7, 8, 9, 10, 11, 12] rfl) rfl rfl rfl hl.1 rfl (Nat.le_of_ble_eq_true rfl) dX0_unlikeEntries_8 ⟨Nat.le_of_ble_eq_true rfl, Nat.le_of_ble_eq_true rfl, rfl, rfl⟩ ⟨Nat.le_of_ble_eq_true rfl, Nat.le_of_ble_eq_true rfl⟩) (fun r_3 h => ?_)
  try dsimp only at h
  refine lv_istore_n (lv' := [(3, .int r_3), (2, .int r_1), (0, .ref (a0 0)), (1, .int x1)]) hx hb dX0_unlikeEntries_11 rfl hl (by decide) rfl (fun ls hl => ?_)
  refine lv_iconst (v := 0) hx hb dX0_unlikeEntries_12 (by decide) ?_
  refine lv_istore (lv' := [(4, .int 0), (3, .int r_3), (2, .int r_1), (0, .ref (a0 0)), (1, .int x1)]) hx hb dX0_unlikeEntries_13 hl (by decide) rfl (fun ls hl => ?_)
  refine lv_iconst (v := 0) hx hb dX0_unlikeEntries_15 (by decide) ?_
  refine lv_istore (lv' := [(5, .int 0), (4, .int 0), (3, .int r_3), (2, .int r_1), (0, .ref (a0 0)), (1, .int x1)]) hx hb dX0_unlikeEntries_16 hl (by decide) rfl (fun ls hl => ?_)
  have lp18 : ∀ (e61 : Int32 → Int32 → Int32 → Int32 → Int32 → Prop) (k61 : ∀ (z1 : Int32) (z2 : Int32) (z3 : Int32) (z4 : Int32) (z5 : Int32) (ls : Array Slot), e61 z1 z2 z3 z4 z5 → lv_has ls 7 [(1, .int z1), (2, .int z2), (3, .int z3), (4, .int z4), (5, .int z5), (0, .ref (a0 0))] → W p l e ({ frames := 1, cells := 0, slots := 0, locals := 25 } : Room) s m [.ref (a0 0), .int x1].toArray below meth c s.heap [] 0 0 (MQ below (vp_Si post) [.ref (a0 0), .int x1].toArray s 0 0 (fun _ => False)) (F0 m 61 ls [])) (n : Nat) (z1 : Int32) (z2 : Int32) (z3 : Int32) (z4 : Int32) (z5 : Int32) (ls : Array Slot), wp_X0_unlikeEntries_L18 s0 post e61 n z1 z2 z3 z4 z5 → lv_has ls 7 [(1, .int z1), (2, .int z2), (3, .int z3), (4, .int z4), (5, .int z5), (0, .ref (a0 0))] → W p l e ({ frames := 1, cells := 0, slots := 0, locals := 25 } : Room) s m [.ref (a0 0), .int x1].toArray below meth c s.heap [] 0 0 (MQ below (vp_Si post) [.ref (a0 0), .int x1].toArray s 0 0 (fun _ => False)) (F0 m 18 ls []) := by
    intro e61 k61 n
    induction n with
    | zero =>
      intro z1 z2 z3 z4 z5 ls h
      exact h.elim
    | succ n ih =>
      intro z1 z2 z3 z4 z5 ls h hl
      unfold wp_X0_unlikeEntries_L18 at h
      refine lv_iload hx hb dX0_unlikeEntries_18 (lv_at hl 4 rfl) ?_
      refine lv_iload_n hx hb dX0_unlikeEntries_20 rfl (lv_at hl 2 rfl) ?_
      refine lv_icmp_ge (tgt := 61) hx hb dX0_unlikeEntries_21 (by decide) (fun c_5 => ?_) (fun c_5 => ?_)
      · replace h := h.1 c_5
        exact k61 _ _ _ _ _ ls h (lv_sub hl [0, 1, 2, 3, 4, 5] rfl)
      · replace h := h.2 c_5
        refine lv_iconst (v := 0) hx hb dX0_unlikeEntries_24 (by decide) ?_
        refine lv_istore (lv' := [(6, .int 0), (1, .int z1), (2, .int z2), (3, .int z3), (4, .int z4), (5, .int z5), (0, .ref (a0 0))]) hx hb dX0_unlikeEntries_25 hl (by decide) rfl (fun ls hl => ?_)
        have lp27 : ∀ (e55 : Int32 → Int32 → Int32 → Int32 → Int32 → Int32 → Prop) (k55 : ∀ (z1 : Int32) (z2 : Int32) (z3 : Int32) (z4 : Int32) (z5 : Int32) (z6 : Int32) (ls : Array Slot), e55 z1 z2 z3 z4 z5 z6 → lv_has ls 7 [(1, .int z1), (2, .int z2), (3, .int z3), (4, .int z4), (5, .int z5), (6, .int z6), (0, .ref (a0 0))] → W p l e ({ frames := 1, cells := 0, slots := 0, locals := 25 } : Room) s m [.ref (a0 0), .int x1].toArray below meth c s.heap [] 0 0 (MQ below (vp_Si post) [.ref (a0 0), .int x1].toArray s 0 0 (fun _ => False)) (F0 m 55 ls [])) (n : Nat) (z1 : Int32) (z2 : Int32) (z3 : Int32) (z4 : Int32) (z5 : Int32) (z6 : Int32) (ls : Array Slot), wp_X0_unlikeEntries_L27 s0 post e55 n z1 z2 z3 z4 z5 z6 → lv_has ls 7 [(1, .int z1), (2, .int z2), (3, .int z3), (4, .int z4), (5, .int z5), (6, .int z6), (0, .ref (a0 0))] → W p l e ({ frames := 1, cells := 0, slots := 0, locals := 25 } : Room) s m [.ref (a0 0), .int x1].toArray below meth c s.heap [] 0 0 (MQ below (vp_Si post) [.ref (a0 0), .int x1].toArray s 0 0 (fun _ => False)) (F0 m 27 ls []) := by
          intro e55 k55 n
          induction n with
          | zero =>
            intro z1 z2 z3 z4 z5 z6 ls h
            exact h.elim
          | succ n ih =>
            intro z1 z2 z3 z4 z5 z6 ls h hl
            unfold wp_X0_unlikeEntries_L27 at h
            refine lv_iload hx hb dX0_unlikeEntries_27 (lv_at hl 5 rfl) ?_
            refine lv_iload_n hx hb dX0_unlikeEntries_29 rfl (lv_at hl 2 rfl) ?_
            refine lv_icmp_ge (tgt := 55) hx hb dX0_unlikeEntries_30 (by decide) (fun c_6 => ?_) (fun c_6 => ?_)
            · replace h := h.1 c_6
              exact k55 _ _ _ _ _ _ ls h (lv_sub hl [0, 1, 2, 3, 4, 5, 6] rfl)
            · replace h := h.2 c_6
              refine lv_aload_n hx hb dX0_unlikeEntries_33 rfl (lv_at hl 6 rfl) ?_
              refine lv_iload_n hx hb dX0_unlikeEntries_34 rfl (lv_at hl 1 rfl) ?_
              refine lv_iload_n hx hb dX0_unlikeEntries_35 rfl (lv_at hl 2 rfl) ?_
              refine lv_iload hx hb dX0_unlikeEntries_36 (lv_at hl 4 rfl) ?_
              refine lv_iload hx hb dX0_unlikeEntries_38 (lv_at hl 5 rfl) ?_
              refine vp_callSi (rd_wV (wc := bd_w a0 q s0) (As := [.int z2, .int z3, .int z5, .int z6]) (rest := []) hx hb hml hown ht (c2_X0_entryAt h) wd_X0_entryAt mw_1040 hQ hV va_S.rf (hP.sub [0, 1, 2, 3, 4, 5, 6, 7, 8, 9, 10, 11, 12] rfl) rfl rfl rfl hl.1 rfl (Nat.le_of_ble_eq_true rfl) dX0_unlikeEntries_40 ⟨Nat.le_of_ble_eq_true rfl, Nat.le_of_ble_eq_true rfl, rfl, rfl⟩ ⟨Nat.le_of_ble_eq_true rfl, Nat.le_of_ble_eq_true rfl⟩) (fun r_7 h => ?_)
              try dsimp only at h
              refine lv_if_le (tgt := 49) hx hb dX0_unlikeEntries_43 (by decide) (fun c_9 => ?_) (fun c_9 => ?_)
              · replace h := h.1 c_9
                refine lv_iinc (v := (z6 + 1)) (lv' := [(6, .int (z6 + 1)), (1, .int z1), (2, .int z2), (3, .int z3), (4, .int z4), (5, .int z5), (0, .ref (a0 0))]) hx hb dX0_unlikeEntries_49 hl (k := 5) rfl rfl (by decide) rfl (fun ls hl => ?_)
                refine lv_goto (tgt := 27) hx hb dX0_unlikeEntries_52 (by decide) ?_
                exact ih _ _ _ _ _ _ ls h (lv_sub hl [1, 2, 3, 4, 5, 0, 6] rfl)
              · replace h := h.2 c_9
                refine lv_iinc (v := (z4 + 1)) (lv' := [(4, .int (z4 + 1)), (1, .int z1), (2, .int z2), (3, .int z3), (5, .int z5), (6, .int z6), (0, .ref (a0 0))]) hx hb dX0_unlikeEntries_46 hl (k := 3) rfl rfl (by decide) rfl (fun ls hl => ?_)
                refine lv_iinc (v := (z6 + 1)) (lv' := [(6, .int (z6 + 1)), (4, .int (z4 + 1)), (1, .int z1), (2, .int z2), (3, .int z3), (5, .int z5), (0, .ref (a0 0))]) hx hb dX0_unlikeEntries_49 hl (k := 5) rfl rfl (by decide) rfl (fun ls hl => ?_)
                refine lv_goto (tgt := 27) hx hb dX0_unlikeEntries_52 (by decide) ?_
                exact ih _ _ _ _ _ _ ls h (lv_sub hl [2, 3, 4, 1, 5, 0, 6] rfl)
        obtain ⟨n27, h⟩ := h
        refine lp27 _ ?_ n27 _ _ _ _ _ _ ls h (lv_sub hl [1, 2, 3, 4, 5, 0, 6] rfl)
        · intro z1 z2 z3 z4 z5 z6 ls h hl
          try dsimp only at h
          refine lv_iinc (v := (z5 + 1)) (lv' := [(5, .int (z5 + 1)), (1, .int z1), (2, .int z2), (3, .int z3), (4, .int z4), (6, .int z6), (0, .ref (a0 0))]) hx hb dX0_unlikeEntries_55 hl (k := 4) rfl rfl (by decide) rfl (fun ls hl => ?_)
          refine lv_goto (tgt := 18) hx hb dX0_unlikeEntries_58 (by decide) ?_
          exact ih _ _ _ _ _ ls h (lv_sub hl [1, 2, 3, 4, 0, 6] rfl)
  obtain ⟨n18, h⟩ := h
  refine lp18 _ ?_ n18 _ _ _ _ _ ls h (lv_sub hl [5, 3, 2, 1, 0, 4] rfl)
  · intro z1 z2 z3 z4 z5 ls h hl
    try dsimp only at h
    refine lv_iload hx hb dX0_unlikeEntries_61 (lv_at hl 3 rfl) ?_
    exact rd_iret hx hb hr hk h dX0_unlikeEntries_63

def wp_X0_journeyChange_L60 (s0 : Bd) (post : Int32 → Prop) (e185 : Int32 → Int32 → Int32 → Int32 → Int32 → Int32 → Int32 → Int32 → Prop) : Nat → Int32 → Int32 → Int32 → Int32 → Int32 → Int32 → Int32 → Int32 → Prop
  | 0, _, _, _, _, _, _, _, _ => False
  | n60 + 1, z1, z2, z3, z4, z5, z6, z7, z8 => ((z5 ≤ z8 → e185 z1 z2 z3 z4 z5 z6 z7 z8) ∧ (¬ z5 ≤ z8 → ((z8 = z2 → wp_X0_journeyChange_L60 s0 post e185 n60 z1 z2 z3 z4 z5 z6 z7 (z8 + 1)) ∧ (¬ z8 = z2 → ((z8 = z3 → wp_X0_journeyChange_L60 s0 post e185 n60 z1 z2 z3 z4 z5 z6 z7 (z8 + 1)) ∧ (¬ z8 = z3 → wp_X0_entryAt (fun r_16 => wp_X0_entryAt (fun r_18 => wp_X0_entryAt (fun r_20 => wp_X0_entryAt (fun r_22 => wp_X6_onFrom (fun r_24 => wp_X6_onFrom (fun r_26 => wp_X6_onFrom (fun r_28 => wp_X6_onFrom (fun r_30 => wp_X0_journeyChange_L60 s0 post e185 n60 z1 z2 z3 z4 z5 z6 ((z7 + ((r_16 - r_18) * (r_24 - r_26))) + ((r_20 - r_22) * (r_28 - r_30))) (z8 + 1)) z8 z2 z5) z8 z3 z5) z2 z8 z5) z3 z8 z5) s0 z4 z5 z8 z3) s0 z4 z5 z8 z2) s0 z4 z5 z3 z8) s0 z4 z5 z2 z8))))))
def wp_X0_journeyChange (post : Int32 → Prop) (s0 : Bd) (x1 : Int32) (x2 : Int32) (x3 : Int32) : Prop := wp_X0_entryStart (fun r_1 => wp_X0_flapsOn (fun r_3 => wp_X0_entryAt (fun r_5 => wp_X0_entryAt (fun r_7 => wp_X6_onFrom (fun r_9 => wp_X6_onFrom (fun r_11 => (∃ n60, wp_X0_journeyChange_L60 s0 post (fun z1 z2 z3 z4 z5 z6 z7 z8 => post z7) n60 x1 x2 x3 r_1 r_3 (r_5 - r_7) ((r_5 - r_7) * (r_9 - r_11)) 0)) x2 x3 r_3) x3 x2 r_3) s0 r_1 r_3 x3 x2) s0 r_1 r_3 x2 x3) s0 x1) s0 x1
set_option maxHeartbeats 4000000 in
set_option maxRecDepth 100000 in
theorem c2_X0_journeyChange {l : Launch} {D : va_G} {q : Nat → ClassId} {a0 : Nat → Nat} {s0 : Bd} {x1 : Int32} {x2 : Int32} {x3 : Int32} {post : Int32 → Prop} (h : wp_X0_journeyChange post s0 x1 x2 x3) : Met l yX0_journeyChange (Cond.code yX0_journeyChange cX0_journeyChange 11 (some .int) :: w_all) ({ frames := 1, cells := 0, slots := 0, locals := 25 } : Room) (rd_P D q [.ref (a0 0), .int x1, .int x2, .int x3] (bd_w a0 q s0)) (vp_Si post) 0 0 (fun _ => False) := by
  refine rd_start (by decide) (Nat.le_of_ble_eq_true rfl) ?_
  intro p e s m below meth c ls hx hb hr hml hown ht hk hP hQ hV hl
  have hK := hQ.1
  have hown : s.vm.findClass RX0 = some m.cls := hown
  have hl : lv_has ls 11 [(0, .ref (a0 0)), (1, .int x1), (2, .int x2), (3, .int x3)] := hl
  have hP : va_P D vwCl [((a0 0), .inr (0, [.int (s0.1 0), .int (s0.1 1), .int (s0.1 2), .int (s0.1 3), .int (s0.1 4), .int (s0.1 5), .ref (a0 1), .ref (a0 2), .ref (a0 3), .ref (a0 4), .ref (a0 5), .ref (a0 6), .ref (a0 7), .ref (a0 8), .ref (a0 9), .ref (a0 10), .ref (a0 11), .ref (a0 12)])), ((a0 1), .inl (q 0, 4, .inl (s0.2.1 0))), ((a0 2), .inl (q 0, 4, .inl (s0.2.1 1))), ((a0 3), .inl (q 0, 160, .inl (s0.2.1 2))), ((a0 4), .inl (q 0, 40, .inl (s0.2.1 3))), ((a0 5), .inl (q 0, 40, .inl (s0.2.1 4))), ((a0 6), .inl (q 0, 40, .inl (s0.2.1 5))), ((a0 7), .inl (q 0, 40, .inl (s0.2.1 6))), ((a0 8), .inl (q 0, 40, .inl (s0.2.1 7))), ((a0 9), .inl (q 0, 40, .inl (s0.2.1 8))), ((a0 10), .inl (q 0, 40, .inl (s0.2.1 9))), ((a0 11), .inl (q 1, 40, .inr (.inl s0.2.2.1))), ((a0 12), .inl (q 0, s0.2.2.2.1, .inl s0.2.2.2.2))] s.heap := hP
  unfold wp_X0_journeyChange at h
  refine lv_aload_n hx hb dX0_journeyChange_0 rfl (lv_at hl 0 rfl) ?_
  refine lv_iload_n hx hb dX0_journeyChange_1 rfl (lv_at hl 1 rfl) ?_
  refine vp_callSi (rd_wV (wc := bd_w a0 q s0) (As := [.int x1]) (rest := []) hx hb hml hown ht (c2_X0_entryStart h) wd_X0_entryStart mw_605 hQ hV va_S.rf (hP.sub [0, 1, 2, 3, 4, 5, 6, 7, 8, 9, 10, 11, 12] rfl) rfl rfl rfl hl.1 rfl (Nat.le_of_ble_eq_true rfl) dX0_journeyChange_2 ⟨Nat.le_of_ble_eq_true rfl, Nat.le_of_ble_eq_true rfl, rfl, rfl⟩ ⟨Nat.le_of_ble_eq_true rfl, Nat.le_of_ble_eq_true rfl⟩) (fun r_1 h => ?_)
  try dsimp only at h
  refine lv_istore (lv' := [(4, .int r_1), (0, .ref (a0 0)), (1, .int x1), (2, .int x2), (3, .int x3)]) hx hb dX0_journeyChange_5 hl (by decide) rfl (fun ls hl => ?_)
  refine lv_aload_n hx hb dX0_journeyChange_7 rfl (lv_at hl 1 rfl) ?_
  refine lv_iload_n hx hb dX0_journeyChange_8 rfl (lv_at hl 2 rfl) ?_
  refine vp_callSi (rd_wV (wc := bd_w a0 q s0) (As := [.int x1]) (rest := []) hx hb hml hown ht (c2_X0_flapsOn h) wd_X0_flapsOn mw_772 hQ hV va_S.rf (hP.sub [0, 1, 2, 3, 4, 5, 6, 7, 8, 9, 10, 11, 12] rfl) rfl rfl rfl hl.1 rfl (Nat.le_of_ble_eq_true rfl) dX0_journeyChange_9 ⟨Nat.le_of_ble_eq_true rfl, Nat.le_of_ble_eq_true rfl, rfl, rfl⟩ ⟨Nat.le_of_ble_eq_true rfl, Nat.le_of_ble_eq_true rfl⟩) (fun r_3 h => ?_)
  try dsimp only at h
  refine lv_istore (lv' := [(5, .int r_3), (4, .int r_1), (0, .ref (a0 0)), (1, .int x1), (2, .int x2), (3, .int x3)]) hx hb dX0_journeyChange_12 hl (by decide) rfl (fun ls hl => ?_)
  refine lv_aload_n hx hb dX0_journeyChange_14 rfl (lv_at hl 2 rfl) ?_
  refine lv_iload hx hb dX0_journeyChange_15 (lv_at hl 1 rfl) ?_
  refine lv_iload hx hb dX0_journeyChange_17 (lv_at hl 0 rfl) ?_
  refine lv_iload_n hx hb dX0_journeyChange_19 rfl (lv_at hl 4 rfl) ?_
  refine lv_iload_n hx hb dX0_journeyChange_20 rfl (lv_at hl 5 rfl) ?_
  refine vp_callSi (rd_wV (wc := bd_w a0 q s0) (As := [.int r_1, .int r_3, .int x2, .int x3]) (rest := []) hx hb hml hown ht (c2_X0_entryAt h) wd_X0_entryAt mw_1040 hQ hV va_S.rf (hP.sub [0, 1, 2, 3, 4, 5, 6, 7, 8, 9, 10, 11, 12] rfl) rfl rfl rfl hl.1 rfl (Nat.le_of_ble_eq_true rfl) dX0_journeyChange_21 ⟨Nat.le_of_ble_eq_true rfl, Nat.le_of_ble_eq_true rfl, rfl, rfl⟩ ⟨Nat.le_of_ble_eq_true rfl, Nat.le_of_ble_eq_true rfl⟩) (fun r_5 h => ?_)
  try dsimp only at h
  refine lv_aload_n hx hb dX0_journeyChange_24 rfl (lv_at hl 2 rfl) ?_
  refine lv_iload hx hb dX0_journeyChange_25 (lv_at hl 1 rfl) ?_
  refine lv_iload hx hb dX0_journeyChange_27 (lv_at hl 0 rfl) ?_
  refine lv_iload_n hx hb dX0_journeyChange_29 rfl (lv_at hl 5 rfl) ?_
  refine lv_iload_n hx hb dX0_journeyChange_30 rfl (lv_at hl 4 rfl) ?_
  refine vp_callSi (rd_wV (wc := bd_w a0 q s0) (As := [.int r_1, .int r_3, .int x3, .int x2]) (rest := [.int r_5]) hx hb hml hown ht (c2_X0_entryAt h) wd_X0_entryAt mw_1040 hQ hV va_S.rf (hP.sub [0, 1, 2, 3, 4, 5, 6, 7, 8, 9, 10, 11, 12] rfl) rfl rfl rfl hl.1 rfl (Nat.le_of_ble_eq_true rfl) dX0_journeyChange_31 ⟨Nat.le_of_ble_eq_true rfl, Nat.le_of_ble_eq_true rfl, rfl, rfl⟩ ⟨Nat.le_of_ble_eq_true rfl, Nat.le_of_ble_eq_true rfl⟩) (fun r_7 h => ?_)
  try dsimp only at h
  refine lv_isub hx hb dX0_journeyChange_34 ?_
  refine lv_istore (lv' := [(6, .int (r_5 - r_7)), (5, .int r_3), (4, .int r_1), (0, .ref (a0 0)), (1, .int x1), (2, .int x2), (3, .int x3)]) hx hb dX0_journeyChange_35 hl (by decide) rfl (fun ls hl => ?_)
  refine lv_iload hx hb dX0_journeyChange_37 (lv_at hl 0 rfl) ?_
  refine lv_iload_n hx hb dX0_journeyChange_39 rfl (lv_at hl 6 rfl) ?_
  refine lv_iload_n hx hb dX0_journeyChange_40 rfl (lv_at hl 5 rfl) ?_
  refine lv_iload hx hb dX0_journeyChange_41 (lv_at hl 1 rfl) ?_
  refine vp_callSi (rd_wSN (wc := ([] : va_W)) (As := [.int x3, .int x2, .int r_3]) (rest := [.int (r_5 - r_7)]) hx hb hml hown ht (c2_X6_onFrom h) wd_X6_onFrom (hQ.2.2.2.2.2) hQ hV va_S.rf (hP.sub [] rfl) rfl hl.1 rfl (Nat.le_of_ble_eq_true rfl) dX0_journeyChange_43 ⟨Nat.le_of_ble_eq_true rfl, Nat.le_of_ble_eq_true rfl, rfl, rfl⟩ ⟨Nat.le_of_ble_eq_true rfl, Nat.le_of_ble_eq_true rfl⟩) (fun r_9 h => ?_)
  try dsimp only at h
  refine lv_iload_n hx hb dX0_journeyChange_46 rfl (lv_at hl 5 rfl) ?_
  refine lv_iload_n hx hb dX0_journeyChange_47 rfl (lv_at hl 6 rfl) ?_
  refine lv_iload hx hb dX0_journeyChange_48 (lv_at hl 1 rfl) ?_
  refine vp_callSi (rd_wSN (wc := ([] : va_W)) (As := [.int x2, .int x3, .int r_3]) (rest := [.int r_9, .int (r_5 - r_7)]) hx hb hml hown ht (c2_X6_onFrom h) wd_X6_onFrom (hQ.2.2.2.2.2) hQ hV va_S.rf (hP.sub [] rfl) rfl hl.1 rfl (Nat.le_of_ble_eq_true rfl) dX0_journeyChange_50 ⟨Nat.le_of_ble_eq_true rfl, Nat.le_of_ble_eq_true rfl, rfl, rfl⟩ ⟨Nat.le_of_ble_eq_true rfl, Nat.le_of_ble_eq_true rfl⟩) (fun r_11 h => ?_)
  try dsimp only at h
  refine lv_isub hx hb dX0_journeyChange_53 ?_
  refine lv_imul hx hb dX0_journeyChange_54 ?_
  refine lv_istore (lv' := [(7, .int ((r_5 - r_7) * (r_9 - r_11))), (6, .int (r_5 - r_7)), (5, .int r_3), (4, .int r_1), (0, .ref (a0 0)), (1, .int x1), (2, .int x2), (3, .int x3)]) hx hb dX0_journeyChange_55 hl (by decide) rfl (fun ls hl => ?_)
  refine lv_iconst (v := 0) hx hb dX0_journeyChange_57 (by decide) ?_
  refine lv_istore (lv' := [(8, .int 0), (7, .int ((r_5 - r_7) * (r_9 - r_11))), (6, .int (r_5 - r_7)), (5, .int r_3), (4, .int r_1), (0, .ref (a0 0)), (1, .int x1), (2, .int x2), (3, .int x3)]) hx hb dX0_journeyChange_58 hl (by decide) rfl (fun ls hl => ?_)
  have lp60 : ∀ (e185 : Int32 → Int32 → Int32 → Int32 → Int32 → Int32 → Int32 → Int32 → Prop) (k185 : ∀ (z1 : Int32) (z2 : Int32) (z3 : Int32) (z4 : Int32) (z5 : Int32) (z6 : Int32) (z7 : Int32) (z8 : Int32) (ls : Array Slot), e185 z1 z2 z3 z4 z5 z6 z7 z8 → lv_has ls 11 [(1, .int z1), (2, .int z2), (3, .int z3), (4, .int z4), (5, .int z5), (6, .int z6), (7, .int z7), (8, .int z8), (0, .ref (a0 0))] → W p l e ({ frames := 1, cells := 0, slots := 0, locals := 25 } : Room) s m [.ref (a0 0), .int x1, .int x2, .int x3].toArray below meth c s.heap [] 0 0 (MQ below (vp_Si post) [.ref (a0 0), .int x1, .int x2, .int x3].toArray s 0 0 (fun _ => False)) (F0 m 185 ls [])) (n : Nat) (z1 : Int32) (z2 : Int32) (z3 : Int32) (z4 : Int32) (z5 : Int32) (z6 : Int32) (z7 : Int32) (z8 : Int32) (ls : Array Slot), wp_X0_journeyChange_L60 s0 post e185 n z1 z2 z3 z4 z5 z6 z7 z8 → lv_has ls 11 [(1, .int z1), (2, .int z2), (3, .int z3), (4, .int z4), (5, .int z5), (6, .int z6), (7, .int z7), (8, .int z8), (0, .ref (a0 0))] → W p l e ({ frames := 1, cells := 0, slots := 0, locals := 25 } : Room) s m [.ref (a0 0), .int x1, .int x2, .int x3].toArray below meth c s.heap [] 0 0 (MQ below (vp_Si post) [.ref (a0 0), .int x1, .int x2, .int x3].toArray s 0 0 (fun _ => False)) (F0 m 60 ls []) := by
    intro e185 k185 n
    induction n with
    | zero =>
      intro z1 z2 z3 z4 z5 z6 z7 z8 ls h
      exact h.elim
    | succ n ih =>
      intro z1 z2 z3 z4 z5 z6 z7 z8 ls h hl
      unfold wp_X0_journeyChange_L60 at h
      refine lv_iload hx hb dX0_journeyChange_60 (lv_at hl 7 rfl) ?_
      refine lv_iload hx hb dX0_journeyChange_62 (lv_at hl 4 rfl) ?_
      refine lv_icmp_ge (tgt := 185) hx hb dX0_journeyChange_64 (by decide) (fun c_13 => ?_) (fun c_13 => ?_)
      · replace h := h.1 c_13
        exact k185 _ _ _ _ _ _ _ _ ls h (lv_sub hl [0, 1, 2, 3, 4, 5, 6, 7, 8] rfl)
      · replace h := h.2 c_13
        refine lv_iload hx hb dX0_journeyChange_67 (lv_at hl 7 rfl) ?_
        refine lv_iload_n hx hb dX0_journeyChange_69 rfl (lv_at hl 1 rfl) ?_
        refine lv_icmp_eq (tgt := 179) hx hb dX0_journeyChange_70 (by decide) (fun c_14 => ?_) (fun c_14 => ?_)
        · replace h := h.1 c_14
          refine lv_iinc (v := (z8 + 1)) (lv' := [(8, .int (z8 + 1)), (1, .int z1), (2, .int z2), (3, .int z3), (4, .int z4), (5, .int z5), (6, .int z6), (7, .int z7), (0, .ref (a0 0))]) hx hb dX0_journeyChange_179 hl (k := 7) rfl rfl (by decide) rfl (fun ls hl => ?_)
          refine lv_goto (tgt := 60) hx hb dX0_journeyChange_182 (by decide) ?_
          exact ih _ _ _ _ _ _ _ _ ls h (lv_sub hl [1, 2, 3, 4, 5, 6, 7, 0, 8] rfl)
        · replace h := h.2 c_14
          refine lv_iload hx hb dX0_journeyChange_73 (lv_at hl 7 rfl) ?_
          refine lv_iload_n hx hb dX0_journeyChange_75 rfl (lv_at hl 2 rfl) ?_
          refine lv_icmp_eq (tgt := 179) hx hb dX0_journeyChange_76 (by decide) (fun c_15 => ?_) (fun c_15 => ?_)
          · replace h := h.1 c_15
            refine lv_iinc (v := (z8 + 1)) (lv' := [(8, .int (z8 + 1)), (1, .int z1), (2, .int z2), (3, .int z3), (4, .int z4), (5, .int z5), (6, .int z6), (7, .int z7), (0, .ref (a0 0))]) hx hb dX0_journeyChange_179 hl (k := 7) rfl rfl (by decide) rfl (fun ls hl => ?_)
            refine lv_goto (tgt := 60) hx hb dX0_journeyChange_182 (by decide) ?_
            exact ih _ _ _ _ _ _ _ _ ls h (lv_sub hl [1, 2, 3, 4, 5, 6, 7, 0, 8] rfl)
          · replace h := h.2 c_15
            refine lv_aload_n hx hb dX0_journeyChange_79 rfl (lv_at hl 8 rfl) ?_
            refine lv_iload hx hb dX0_journeyChange_80 (lv_at hl 3 rfl) ?_
            refine lv_iload hx hb dX0_journeyChange_82 (lv_at hl 4 rfl) ?_
            refine lv_iload_n hx hb dX0_journeyChange_84 rfl (lv_at hl 1 rfl) ?_
            refine lv_iload hx hb dX0_journeyChange_85 (lv_at hl 7 rfl) ?_
            refine vp_callSi (rd_wV (wc := bd_w a0 q s0) (As := [.int z4, .int z5, .int z2, .int z8]) (rest := []) hx hb hml hown ht (c2_X0_entryAt h) wd_X0_entryAt mw_1040 hQ hV va_S.rf (hP.sub [0, 1, 2, 3, 4, 5, 6, 7, 8, 9, 10, 11, 12] rfl) rfl rfl rfl hl.1 rfl (Nat.le_of_ble_eq_true rfl) dX0_journeyChange_87 ⟨Nat.le_of_ble_eq_true rfl, Nat.le_of_ble_eq_true rfl, rfl, rfl⟩ ⟨Nat.le_of_ble_eq_true rfl, Nat.le_of_ble_eq_true rfl⟩) (fun r_16 h => ?_)
            try dsimp only at h
            refine lv_aload_n hx hb dX0_journeyChange_90 rfl (lv_at hl 8 rfl) ?_
            refine lv_iload hx hb dX0_journeyChange_91 (lv_at hl 3 rfl) ?_
            refine lv_iload hx hb dX0_journeyChange_93 (lv_at hl 4 rfl) ?_
            refine lv_iload_n hx hb dX0_journeyChange_95 rfl (lv_at hl 2 rfl) ?_
            refine lv_iload hx hb dX0_journeyChange_96 (lv_at hl 7 rfl) ?_
            refine vp_callSi (rd_wV (wc := bd_w a0 q s0) (As := [.int z4, .int z5, .int z3, .int z8]) (rest := [.int r_16]) hx hb hml hown ht (c2_X0_entryAt h) wd_X0_entryAt mw_1040 hQ hV va_S.rf (hP.sub [0, 1, 2, 3, 4, 5, 6, 7, 8, 9, 10, 11, 12] rfl) rfl rfl rfl hl.1 rfl (Nat.le_of_ble_eq_true rfl) dX0_journeyChange_98 ⟨Nat.le_of_ble_eq_true rfl, Nat.le_of_ble_eq_true rfl, rfl, rfl⟩ ⟨Nat.le_of_ble_eq_true rfl, Nat.le_of_ble_eq_true rfl⟩) (fun r_18 h => ?_)
            try dsimp only at h
            refine lv_isub hx hb dX0_journeyChange_101 ?_
            refine lv_istore (lv' := [(9, .int (r_16 - r_18)), (1, .int z1), (2, .int z2), (3, .int z3), (4, .int z4), (5, .int z5), (6, .int z6), (7, .int z7), (8, .int z8), (0, .ref (a0 0))]) hx hb dX0_journeyChange_102 hl (by decide) rfl (fun ls hl => ?_)
            refine lv_aload_n hx hb dX0_journeyChange_104 rfl (lv_at hl 9 rfl) ?_
            refine lv_iload hx hb dX0_journeyChange_105 (lv_at hl 4 rfl) ?_
            refine lv_iload hx hb dX0_journeyChange_107 (lv_at hl 5 rfl) ?_
            refine lv_iload hx hb dX0_journeyChange_109 (lv_at hl 8 rfl) ?_
            refine lv_iload_n hx hb dX0_journeyChange_111 rfl (lv_at hl 2 rfl) ?_
            refine vp_callSi (rd_wV (wc := bd_w a0 q s0) (As := [.int z4, .int z5, .int z8, .int z2]) (rest := []) hx hb hml hown ht (c2_X0_entryAt h) wd_X0_entryAt mw_1040 hQ hV va_S.rf (hP.sub [0, 1, 2, 3, 4, 5, 6, 7, 8, 9, 10, 11, 12] rfl) rfl rfl rfl hl.1 rfl (Nat.le_of_ble_eq_true rfl) dX0_journeyChange_112 ⟨Nat.le_of_ble_eq_true rfl, Nat.le_of_ble_eq_true rfl, rfl, rfl⟩ ⟨Nat.le_of_ble_eq_true rfl, Nat.le_of_ble_eq_true rfl⟩) (fun r_20 h => ?_)
            try dsimp only at h
            refine lv_aload_n hx hb dX0_journeyChange_115 rfl (lv_at hl 9 rfl) ?_
            refine lv_iload hx hb dX0_journeyChange_116 (lv_at hl 4 rfl) ?_
            refine lv_iload hx hb dX0_journeyChange_118 (lv_at hl 5 rfl) ?_
            refine lv_iload hx hb dX0_journeyChange_120 (lv_at hl 8 rfl) ?_
            refine lv_iload_n hx hb dX0_journeyChange_122 rfl (lv_at hl 3 rfl) ?_
            refine vp_callSi (rd_wV (wc := bd_w a0 q s0) (As := [.int z4, .int z5, .int z8, .int z3]) (rest := [.int r_20]) hx hb hml hown ht (c2_X0_entryAt h) wd_X0_entryAt mw_1040 hQ hV va_S.rf (hP.sub [0, 1, 2, 3, 4, 5, 6, 7, 8, 9, 10, 11, 12] rfl) rfl rfl rfl hl.1 rfl (Nat.le_of_ble_eq_true rfl) dX0_journeyChange_123 ⟨Nat.le_of_ble_eq_true rfl, Nat.le_of_ble_eq_true rfl, rfl, rfl⟩ ⟨Nat.le_of_ble_eq_true rfl, Nat.le_of_ble_eq_true rfl⟩) (fun r_22 h => ?_)
            try dsimp only at h
            refine lv_isub hx hb dX0_journeyChange_126 ?_
            refine lv_istore (lv' := [(10, .int (r_20 - r_22)), (9, .int (r_16 - r_18)), (1, .int z1), (2, .int z2), (3, .int z3), (4, .int z4), (5, .int z5), (6, .int z6), (7, .int z7), (8, .int z8), (0, .ref (a0 0))]) hx hb dX0_journeyChange_127 hl (by decide) rfl (fun ls hl => ?_)
            refine lv_iload hx hb dX0_journeyChange_129 (lv_at hl 8 rfl) ?_
            refine lv_iload hx hb dX0_journeyChange_131 (lv_at hl 1 rfl) ?_
            refine lv_iload_n hx hb dX0_journeyChange_133 rfl (lv_at hl 4 rfl) ?_
            refine lv_iload hx hb dX0_journeyChange_134 (lv_at hl 9 rfl) ?_
            refine lv_iload hx hb dX0_journeyChange_136 (lv_at hl 6 rfl) ?_
            refine vp_callSi (rd_wSN (wc := ([] : va_W)) (As := [.int z3, .int z8, .int z5]) (rest := [.int (r_16 - r_18), .int z7]) hx hb hml hown ht (c2_X6_onFrom h) wd_X6_onFrom (hQ.2.2.2.2.2) hQ hV va_S.rf (hP.sub [] rfl) rfl hl.1 rfl (Nat.le_of_ble_eq_true rfl) dX0_journeyChange_138 ⟨Nat.le_of_ble_eq_true rfl, Nat.le_of_ble_eq_true rfl, rfl, rfl⟩ ⟨Nat.le_of_ble_eq_true rfl, Nat.le_of_ble_eq_true rfl⟩) (fun r_24 h => ?_)
            try dsimp only at h
            refine lv_iload_n hx hb dX0_journeyChange_141 rfl (lv_at hl 3 rfl) ?_
            refine lv_iload hx hb dX0_journeyChange_142 (lv_at hl 9 rfl) ?_
            refine lv_iload hx hb dX0_journeyChange_144 (lv_at hl 6 rfl) ?_
            refine vp_callSi (rd_wSN (wc := ([] : va_W)) (As := [.int z2, .int z8, .int z5]) (rest := [.int r_24, .int (r_16 - r_18), .int z7]) hx hb hml hown ht (c2_X6_onFrom h) wd_X6_onFrom (hQ.2.2.2.2.2) hQ hV va_S.rf (hP.sub [] rfl) rfl hl.1 rfl (Nat.le_of_ble_eq_true rfl) dX0_journeyChange_146 ⟨Nat.le_of_ble_eq_true rfl, Nat.le_of_ble_eq_true rfl, rfl, rfl⟩ ⟨Nat.le_of_ble_eq_true rfl, Nat.le_of_ble_eq_true rfl⟩) (fun r_26 h => ?_)
            try dsimp only at h
            refine lv_isub hx hb dX0_journeyChange_149 ?_
            refine lv_imul hx hb dX0_journeyChange_150 ?_
            refine lv_iadd hx hb dX0_journeyChange_151 ?_
            refine lv_istore (lv' := [(7, .int (z7 + ((r_16 - r_18) * (r_24 - r_26)))), (10, .int (r_20 - r_22)), (9, .int (r_16 - r_18)), (1, .int z1), (2, .int z2), (3, .int z3), (4, .int z4), (5, .int z5), (6, .int z6), (8, .int z8), (0, .ref (a0 0))]) hx hb dX0_journeyChange_152 hl (by decide) rfl (fun ls hl => ?_)
            refine lv_iload hx hb dX0_journeyChange_154 (lv_at hl 0 rfl) ?_
            refine lv_iload hx hb dX0_journeyChange_156 (lv_at hl 1 rfl) ?_
            refine lv_iload hx hb dX0_journeyChange_158 (lv_at hl 9 rfl) ?_
            refine lv_iload_n hx hb dX0_journeyChange_160 rfl (lv_at hl 5 rfl) ?_
            refine lv_iload hx hb dX0_journeyChange_161 (lv_at hl 7 rfl) ?_
            refine vp_callSi (rd_wSN (wc := ([] : va_W)) (As := [.int z8, .int z3, .int z5]) (rest := [.int (r_20 - r_22), .int (z7 + ((r_16 - r_18) * (r_24 - r_26)))]) hx hb hml hown ht (c2_X6_onFrom h) wd_X6_onFrom (hQ.2.2.2.2.2) hQ hV va_S.rf (hP.sub [] rfl) rfl hl.1 rfl (Nat.le_of_ble_eq_true rfl) dX0_journeyChange_163 ⟨Nat.le_of_ble_eq_true rfl, Nat.le_of_ble_eq_true rfl, rfl, rfl⟩ ⟨Nat.le_of_ble_eq_true rfl, Nat.le_of_ble_eq_true rfl⟩) (fun r_28 h => ?_)
            try dsimp only at h
            refine lv_iload hx hb dX0_journeyChange_166 (lv_at hl 9 rfl) ?_
            refine lv_iload_n hx hb dX0_journeyChange_168 rfl (lv_at hl 4 rfl) ?_
            refine lv_iload hx hb dX0_journeyChange_169 (lv_at hl 7 rfl) ?_
            refine vp_callSi (rd_wSN (wc := ([] : va_W)) (As := [.int z8, .int z2, .int z5]) (rest := [.int r_28, .int (r_20 - r_22), .int (z7 + ((r_16 - r_18) * (r_24 - r_26)))]) hx hb hml hown ht (c2_X6_onFrom h) wd_X6_onFrom (hQ.2.2.2.2.2) hQ hV va_S.rf (hP.sub [] rfl) rfl hl.1 rfl (Nat.le_of_ble_eq_true rfl) dX0_journeyChange_171 ⟨Nat.le_of_ble_eq_true rfl, Nat.le_of_ble_eq_true rfl, rfl, rfl⟩ ⟨Nat.le_of_ble_eq_true rfl, Nat.le_of_ble_eq_true rfl⟩) (fun r_30 h => ?_)
            try dsimp only at h
            refine lv_isub hx hb dX0_journeyChange_174 ?_
            refine lv_imul hx hb dX0_journeyChange_175 ?_
            refine lv_iadd hx hb dX0_journeyChange_176 ?_
            refine lv_istore (lv' := [(7, .int ((z7 + ((r_16 - r_18) * (r_24 - r_26))) + ((r_20 - r_22) * (r_28 - r_30)))), (10, .int (r_20 - r_22)), (9, .int (r_16 - r_18)), (1, .int z1), (2, .int z2), (3, .int z3), (4, .int z4), (5, .int z5), (6, .int z6), (8, .int z8), (0, .ref (a0 0))]) hx hb dX0_journeyChange_177 hl (by decide) rfl (fun ls hl => ?_)
            refine lv_iinc (v := (z8 + 1)) (lv' := [(8, .int (z8 + 1)), (7, .int ((z7 + ((r_16 - r_18) * (r_24 - r_26))) + ((r_20 - r_22) * (r_28 - r_30)))), (10, .int (r_20 - r_22)), (9, .int (r_16 - r_18)), (1, .int z1), (2, .int z2), (3, .int z3), (4, .int z4), (5, .int z5), (6, .int z6), (0, .ref (a0 0))]) hx hb dX0_journeyChange_179 hl (k := 9) rfl rfl (by decide) rfl (fun ls hl => ?_)
            refine lv_goto (tgt := 60) hx hb dX0_journeyChange_182 (by decide) ?_
            exact ih _ _ _ _ _ _ _ _ ls h (lv_sub hl [4, 5, 6, 7, 8, 9, 1, 0, 10] rfl)
  obtain ⟨n60, h⟩ := h
  refine lp60 _ ?_ n60 _ _ _ _ _ _ _ _ ls h (lv_sub hl [6, 7, 8, 4, 3, 2, 1, 0, 5] rfl)
  · intro z1 z2 z3 z4 z5 z6 z7 z8 ls h hl
    try dsimp only at h
    refine lv_iload hx hb dX0_journeyChange_185 (lv_at hl 6 rfl) ?_
    exact rd_iret hx hb hr hk h dX0_journeyChange_187

def wp_X5_startReading (post : Tp → Prop) (s0 : Tp) : Prop := post ((va_up (va_up (va_up (va_up (va_up s0.1 1 0) 2 0) 3 0) 4 0) 5 0), s0.2)
set_option maxHeartbeats 4000000 in
set_option maxRecDepth 100000 in
theorem c2_X5_startReading {l : Launch} {D : va_G} {q : Nat → ClassId} {sz : Nat} {a0 : Nat → Nat} {s0 : Tp} {post : Tp → Prop} (h : wp_X5_startReading post s0) : Met l yX5_startReading (Cond.code yX5_startReading cX5_startReading 1 none :: w_all) ({ frames := 0, cells := 0, slots := 0, locals := 0 } : Room) (mt_P D q [.ref (a0 0)] (tp_w a0 q s0) sz) (va_Qv (fun u : Tp => post u) (mt_B D (tp_w a0 q s0) sz (fun u : Tp => tp_w a0 q u)) (va_A (tp_w a0 q s0) sz)) 0 0 (va_A (tp_w a0 q s0) sz) := by
  refine mt_start (by decide) (Nat.le_of_ble_eq_true rfl) ?_
  intro p e s m below meth c ls hx hb hr hml hown ht hk hin hP hQ hD hA hS hV hl
  have hK := hQ.1
  have hown : s.vm.findClass RX5 = some m.cls := hown
  have hl : lv_has ls 1 [(0, .ref (a0 0))] := hl
  have hP : va_P D vwCl [((a0 0), .inr (4, [.ref (a0 1), .int (s0.1 0), .int (s0.1 1), .int (s0.1 2), .int (s0.1 3), .int (s0.1 4), .int (s0.1 5)])), ((a0 1), .inl (q 0, 400, .inl s0.2))] s.heap := hP
  have hD : va_D _ [((a0 0), .inr (4, [.ref (a0 1), .int (s0.1 0), .int (s0.1 1), .int (s0.1 2), .int (s0.1 3), .int (s0.1 4), .int (s0.1 5)])), ((a0 1), .inl (q 0, 400, .inl s0.2))] := hD
  unfold wp_X5_startReading at h
  refine lv_aload_n hx hb dX5_startReading_0 rfl (lv_at hl 0 rfl) ?_
  refine lv_iconst (v := 0) hx hb dX5_startReading_1 (by decide) ?_
  refine fl_put (C := RX5) (T := TX5) (N := 7) (ci := 4) (v := .int 0) (ws2 := [((a0 0), .inr (4, [.ref (a0 1), .int (s0.1 0), .int 0, .int (s0.1 2), .int (s0.1 3), .int (s0.1 4), .int (s0.1 5)])), ((a0 1), .inl (q 0, 400, .inl s0.2))]) hx hb ht in_X5 tyX5_ok nmX5 hown hK hP hD hS 0 rfl rfl 2 (by decide) mw_132 rfl rfl rfl (Nat.le_of_ble_eq_true rfl) dX5_startReading_2 rfl (fun H locs hP hD hS => ?_)
  refine lv_aload_n hx hb dX5_startReading_5 rfl (lv_at hl 0 rfl) ?_
  refine lv_iconst (v := 0) hx hb dX5_startReading_6 (by decide) ?_
  refine fl_put (C := RX5) (T := TX5) (N := 7) (ci := 4) (v := .int 0) (ws2 := [((a0 0), .inr (4, [.ref (a0 1), .int (s0.1 0), .int 0, .int 0, .int (s0.1 3), .int (s0.1 4), .int (s0.1 5)])), ((a0 1), .inl (q 0, 400, .inl s0.2))]) hx hb ht in_X5 tyX5_ok nmX5 hown hK hP hD hS 0 rfl rfl 3 (by decide) mw_135 rfl rfl rfl (Nat.le_of_ble_eq_true rfl) dX5_startReading_7 rfl (fun H locs hP hD hS => ?_)
  refine lv_aload_n hx hb dX5_startReading_10 rfl (lv_at hl 0 rfl) ?_
  refine lv_iconst (v := 0) hx hb dX5_startReading_11 (by decide) ?_
  refine fl_put (C := RX5) (T := TX5) (N := 7) (ci := 4) (v := .int 0) (ws2 := [((a0 0), .inr (4, [.ref (a0 1), .int (s0.1 0), .int 0, .int 0, .int 0, .int (s0.1 4), .int (s0.1 5)])), ((a0 1), .inl (q 0, 400, .inl s0.2))]) hx hb ht in_X5 tyX5_ok nmX5 hown hK hP hD hS 0 rfl rfl 4 (by decide) mw_137 rfl rfl rfl (Nat.le_of_ble_eq_true rfl) dX5_startReading_12 rfl (fun H locs hP hD hS => ?_)
  refine lv_aload_n hx hb dX5_startReading_15 rfl (lv_at hl 0 rfl) ?_
  refine lv_iconst (v := 0) hx hb dX5_startReading_16 (by decide) ?_
  refine fl_put (C := RX5) (T := TX5) (N := 7) (ci := 4) (v := .int 0) (ws2 := [((a0 0), .inr (4, [.ref (a0 1), .int (s0.1 0), .int 0, .int 0, .int 0, .int 0, .int (s0.1 5)])), ((a0 1), .inl (q 0, 400, .inl s0.2))]) hx hb ht in_X5 tyX5_ok nmX5 hown hK hP hD hS 0 rfl rfl 5 (by decide) mw_140 rfl rfl rfl (Nat.le_of_ble_eq_true rfl) dX5_startReading_17 rfl (fun H locs hP hD hS => ?_)
  refine lv_aload_n hx hb dX5_startReading_20 rfl (lv_at hl 0 rfl) ?_
  refine lv_iconst (v := 0) hx hb dX5_startReading_21 (by decide) ?_
  refine fl_put (C := RX5) (T := TX5) (N := 7) (ci := 4) (v := .int 0) (ws2 := [((a0 0), .inr (4, [.ref (a0 1), .int (s0.1 0), .int 0, .int 0, .int 0, .int 0, .int 0])), ((a0 1), .inl (q 0, 400, .inl s0.2))]) hx hb ht in_X5 tyX5_ok nmX5 hown hK hP hD hS 0 rfl rfl 6 (by decide) mw_143 rfl rfl rfl (Nat.le_of_ble_eq_true rfl) dX5_startReading_22 rfl (fun H locs hP hD hS => ?_)
  exact mt_vret ((va_up (va_up (va_up (va_up (va_up s0.1 1 0) 2 0) 3 0) 4 0) 5 0), s0.2) hx hb hr hk h (hP.sub (ws' := tp_w a0 q ((va_up (va_up (va_up (va_up (va_up s0.1 1 0) 2 0) 3 0) 4 0) 5 0), s0.2)) [0, 1] rfl) (hD.sub (ws' := tp_w a0 q ((va_up (va_up (va_up (va_up (va_up s0.1 1 0) 2 0) 3 0) 4 0) 5 0), s0.2)) [0, 1] (by decide) rfl) hS dX5_startReading_25

def wp_X5_peek_L0 (post : Int32 → Tp → Prop) (e38 : Tp → Prop) : Nat → Tp → Prop
  | 0, _ => False
  | n0 + 1, t0 => (((t0.1 0) ≤ (t0.1 1) → e38 t0) ∧ (¬ (t0.1 0) ≤ (t0.1 1) → vp_in (t0.1 1) 400 ∧ ((¬ (t0.2 (Int32.toNatClampNeg (t0.1 1))) = 32 → e38 t0) ∧ ((t0.2 (Int32.toNatClampNeg (t0.1 1))) = 32 → wp_X5_peek_L0 post e38 n0 ((va_up t0.1 1 ((t0.1 1) + 1)), t0.2)))))
def wp_X5_peek (post : Int32 → Tp → Prop) (s0 : Tp) : Prop := (∃ n0, wp_X5_peek_L0 post (fun t0 => (((t0.1 0) ≤ (t0.1 1) → post (-1) t0) ∧ (¬ (t0.1 0) ≤ (t0.1 1) → vp_in (t0.1 1) 400 ∧ post (t0.2 (Int32.toNatClampNeg (t0.1 1))) t0))) n0 s0)
set_option maxHeartbeats 4000000 in
set_option maxRecDepth 100000 in
theorem c2_X5_peek {l : Launch} {D : va_G} {q : Nat → ClassId} {sz : Nat} {a0 : Nat → Nat} {s0 : Tp} {post : Int32 → Tp → Prop} (h : wp_X5_peek post s0) : Met l yX5_peek (Cond.code yX5_peek cX5_peek 1 (some .int) :: w_all) ({ frames := 0, cells := 0, slots := 0, locals := 0 } : Room) (mt_P D q [.ref (a0 0)] (tp_w a0 q s0) sz) (va_Qi (fun r (u : Tp) => post r u) (mt_B D (tp_w a0 q s0) sz (fun u : Tp => tp_w a0 q u)) (va_A (tp_w a0 q s0) sz)) 0 0 (va_A (tp_w a0 q s0) sz) := by
  refine mt_start (by decide) (Nat.le_of_ble_eq_true rfl) ?_
  intro p e s m below meth c ls hx hb hr hml hown ht hk hin hP hQ hD hA hS hV hl
  have hK := hQ.1
  have hown : s.vm.findClass RX5 = some m.cls := hown
  have hl : lv_has ls 1 [(0, .ref (a0 0))] := hl
  have hP : va_P D vwCl [((a0 0), .inr (4, [.ref (a0 1), .int (s0.1 0), .int (s0.1 1), .int (s0.1 2), .int (s0.1 3), .int (s0.1 4), .int (s0.1 5)])), ((a0 1), .inl (q 0, 400, .inl s0.2))] s.heap := hP
  have hD : va_D _ [((a0 0), .inr (4, [.ref (a0 1), .int (s0.1 0), .int (s0.1 1), .int (s0.1 2), .int (s0.1 3), .int (s0.1 4), .int (s0.1 5)])), ((a0 1), .inl (q 0, 400, .inl s0.2))] := hD
  unfold wp_X5_peek at h
  have lp0 : ∀ (e38 : Tp → Prop) (k38 : ∀ (t0 : Tp) (H : Heap) (locs : List Loc) (ls : Array Slot), e38 t0 → va_P D vwCl (tp_w a0 q t0) H → va_D (va_A (tp_w a0 q s0) sz) (tp_w a0 q t0) → va_S (va_A (tp_w a0 q s0) sz) s.heap H locs → lv_has ls 1 [(0, .ref (a0 0))] → W p l e ({ frames := 0, cells := 0, slots := 0, locals := 0 } : Room) s m [.ref (a0 0)].toArray below meth c H locs 0 0 (MQ below (va_Qi (fun r (u : Tp) => post r u) (mt_B D (tp_w a0 q s0) sz (fun u : Tp => tp_w a0 q u)) (va_A (tp_w a0 q s0) sz)) [.ref (a0 0)].toArray s 0 0 (va_A (tp_w a0 q s0) sz)) (F0 m 38 ls [])) (n : Nat) (t0 : Tp) (H : Heap) (locs : List Loc) (ls : Array Slot), wp_X5_peek_L0 post e38 n t0 → va_P D vwCl (tp_w a0 q t0) H → va_D (va_A (tp_w a0 q s0) sz) (tp_w a0 q t0) → va_S (va_A (tp_w a0 q s0) sz) s.heap H locs → lv_has ls 1 [(0, .ref (a0 0))] → W p l e ({ frames := 0, cells := 0, slots := 0, locals := 0 } : Room) s m [.ref (a0 0)].toArray below meth c H locs 0 0 (MQ below (va_Qi (fun r (u : Tp) => post r u) (mt_B D (tp_w a0 q s0) sz (fun u : Tp => tp_w a0 q u)) (va_A (tp_w a0 q s0) sz)) [.ref (a0 0)].toArray s 0 0 (va_A (tp_w a0 q s0) sz)) (F0 m 0 ls []) := by
    intro e38 k38 n
    induction n with
    | zero =>
      intro t0 H locs ls h
      exact h.elim
    | succ n ih =>
      intro t0 H locs ls h hP hD hS hl
      have hP : va_P D vwCl [((a0 0), .inr (4, [.ref (a0 1), .int (t0.1 0), .int (t0.1 1), .int (t0.1 2), .int (t0.1 3), .int (t0.1 4), .int (t0.1 5)])), ((a0 1), .inl (q 0, 400, .inl t0.2))] H := hP
      have hD : va_D _ [((a0 0), .inr (4, [.ref (a0 1), .int (t0.1 0), .int (t0.1 1), .int (t0.1 2), .int (t0.1 3), .int (t0.1 4), .int (t0.1 5)])), ((a0 1), .inl (q 0, 400, .inl t0.2))] := hD
      unfold wp_X5_peek_L0 at h
      refine lv_aload_n hx hb dX5_peek_0 rfl (lv_at hl 0 rfl) ?_
      refine fl_get (C := RX5) (T := TX5) (N := 7) (ci := 4) (v := .int (t0.1 1)) hx hb ht in_X5 hown hK hP 0 rfl rfl 2 (by decide) mw_132 rfl dX5_peek_1 ?_
      refine lv_aload_n hx hb dX5_peek_4 rfl (lv_at hl 0 rfl) ?_
      refine fl_get (C := RX5) (T := TX5) (N := 7) (ci := 4) (v := .int (t0.1 0)) hx hb ht in_X5 hown hK hP 0 rfl rfl 1 (by decide) mw_130 rfl dX5_peek_5 ?_
      refine lv_icmp_ge (tgt := 38) hx hb dX5_peek_8 (by decide) (fun c_1 => ?_) (fun c_1 => ?_)
      · replace h := h.1 c_1
        exact k38 _ _ _ ls h (hP.sub (ws' := tp_w a0 q t0) [0, 1] rfl) (hD.sub (ws' := tp_w a0 q t0) [0, 1] (by decide) rfl) hS (lv_sub hl [0] rfl)
      · replace h := h.2 c_1
        refine lv_aload_n hx hb dX5_peek_11 rfl (lv_at hl 0 rfl) ?_
        refine fl_get (C := RX5) (T := TX5) (N := 7) (ci := 4) (v := .ref (a0 1)) hx hb ht in_X5 hown hK hP 0 rfl rfl 0 (by decide) mw_128 rfl dX5_peek_12 ?_
        refine lv_aload_n hx hb dX5_peek_15 rfl (lv_at hl 0 rfl) ?_
        refine fl_get (C := RX5) (T := TX5) (N := 7) (ci := 4) (v := .int (t0.1 1)) hx hb ht in_X5 hown hK hP 0 rfl rfl 2 (by decide) mw_132 rfl dX5_peek_16 ?_
        obtain ⟨g_2, h⟩ := h
        refine va_iald hx hb hK hP 1 0 rfl rfl g_2 dX5_peek_19 ?_
        refine lv_bipush (v := 32) hx hb dX5_peek_20 (by decide) ?_
        refine lv_icmp_ne (tgt := 38) hx hb dX5_peek_22 (by decide) (fun c_3 => ?_) (fun c_3 => ?_)
        · replace h := h.1 c_3
          exact k38 _ _ _ ls h (hP.sub (ws' := tp_w a0 q t0) [0, 1] rfl) (hD.sub (ws' := tp_w a0 q t0) [0, 1] (by decide) rfl) hS (lv_sub hl [0] rfl)
        · replace h := h.2 c_3
          refine lv_aload_n hx hb dX5_peek_25 rfl (lv_at hl 0 rfl) ?_
          refine lv_dup hx hb dX5_peek_26 rfl ?_
          refine fl_get (C := RX5) (T := TX5) (N := 7) (ci := 4) (v := .int (t0.1 1)) hx hb ht in_X5 hown hK hP 0 rfl rfl 2 (by decide) mw_132 rfl dX5_peek_27 ?_
          refine lv_iconst (v := 1) hx hb dX5_peek_30 (by decide) ?_
          refine lv_iadd hx hb dX5_peek_31 ?_
          refine fl_put (C := RX5) (T := TX5) (N := 7) (ci := 4) (v := .int ((t0.1 1) + 1)) (ws2 := [((a0 0), .inr (4, [.ref (a0 1), .int (t0.1 0), .int ((t0.1 1) + 1), .int (t0.1 2), .int (t0.1 3), .int (t0.1 4), .int (t0.1 5)])), ((a0 1), .inl (q 0, 400, .inl t0.2))]) hx hb ht in_X5 tyX5_ok nmX5 hown hK hP hD hS 0 rfl rfl 2 (by decide) mw_132 rfl rfl rfl (Nat.le_of_ble_eq_true rfl) dX5_peek_32 rfl (fun H locs hP hD hS => ?_)
          refine lv_goto (tgt := 0) hx hb dX5_peek_35 (by decide) ?_
          exact ih _ _ _ ls h (hP.sub (ws' := tp_w a0 q ((va_up t0.1 1 ((t0.1 1) + 1)), t0.2)) [0, 1] rfl) (hD.sub (ws' := tp_w a0 q ((va_up t0.1 1 ((t0.1 1) + 1)), t0.2)) [0, 1] (by decide) rfl) hS (lv_sub hl [0] rfl)
  obtain ⟨n0, h⟩ := h
  refine lp0 _ ?_ n0 _ _ _ ls h (hP.sub (ws' := tp_w a0 q s0) [0, 1] rfl) (hD.sub (ws' := tp_w a0 q s0) [0, 1] (by decide) rfl) hS (lv_sub hl [0] rfl)
  · intro t0 H locs ls h hP hD hS hl
    try dsimp only at h
    have hP : va_P D vwCl [((a0 0), .inr (4, [.ref (a0 1), .int (t0.1 0), .int (t0.1 1), .int (t0.1 2), .int (t0.1 3), .int (t0.1 4), .int (t0.1 5)])), ((a0 1), .inl (q 0, 400, .inl t0.2))] H := hP
    have hD : va_D _ [((a0 0), .inr (4, [.ref (a0 1), .int (t0.1 0), .int (t0.1 1), .int (t0.1 2), .int (t0.1 3), .int (t0.1 4), .int (t0.1 5)])), ((a0 1), .inl (q 0, 400, .inl t0.2))] := hD
    refine lv_aload_n hx hb dX5_peek_38 rfl (lv_at hl 0 rfl) ?_
    refine fl_get (C := RX5) (T := TX5) (N := 7) (ci := 4) (v := .int (t0.1 1)) hx hb ht in_X5 hown hK hP 0 rfl rfl 2 (by decide) mw_132 rfl dX5_peek_39 ?_
    refine lv_aload_n hx hb dX5_peek_42 rfl (lv_at hl 0 rfl) ?_
    refine fl_get (C := RX5) (T := TX5) (N := 7) (ci := 4) (v := .int (t0.1 0)) hx hb ht in_X5 hown hK hP 0 rfl rfl 1 (by decide) mw_130 rfl dX5_peek_43 ?_
    refine lv_icmp_ge (tgt := 61) hx hb dX5_peek_46 (by decide) (fun c_4 => ?_) (fun c_4 => ?_)
    · replace h := h.1 c_4
      refine lv_iconst (v := (-1)) hx hb dX5_peek_61 (by decide) ?_
      exact mt_iret t0 hx hb hr hk h (hP.sub (ws' := tp_w a0 q t0) [0, 1] rfl) (hD.sub (ws' := tp_w a0 q t0) [0, 1] (by decide) rfl) hS dX5_peek_62
    · replace h := h.2 c_4
      refine lv_aload_n hx hb dX5_peek_49 rfl (lv_at hl 0 rfl) ?_
      refine fl_get (C := RX5) (T := TX5) (N := 7) (ci := 4) (v := .ref (a0 1)) hx hb ht in_X5 hown hK hP 0 rfl rfl 0 (by decide) mw_128 rfl dX5_peek_50 ?_
      refine lv_aload_n hx hb dX5_peek_53 rfl (lv_at hl 0 rfl) ?_
      refine fl_get (C := RX5) (T := TX5) (N := 7) (ci := 4) (v := .int (t0.1 1)) hx hb ht in_X5 hown hK hP 0 rfl rfl 2 (by decide) mw_132 rfl dX5_peek_54 ?_
      obtain ⟨g_5, h⟩ := h
      refine va_iald hx hb hK hP 1 0 rfl rfl g_5 dX5_peek_57 ?_
      refine lv_goto (tgt := 62) hx hb dX5_peek_58 (by decide) ?_
      exact mt_iret t0 hx hb hr hk h (hP.sub (ws' := tp_w a0 q t0) [0, 1] rfl) (hD.sub (ws' := tp_w a0 q t0) [0, 1] (by decide) rfl) hS dX5_peek_62

def wp_X5_isRead_L20 (s0 : Tp) (i1 : Nat) (post : Int32 → Prop) (e55 : Int32 → Prop) : Nat → Int32 → Prop
  | 0, _ => False
  | n20 + 1, z2 => wp_J0_length_8abf5 (fun r_4 => ((r_4 ≤ z2 → e55 z2) ∧ (¬ r_4 ≤ z2 → wp_J0_charAt_5068e (fun r_7 => vp_in ((s0.1 2) + z2) 400 ∧ ((r_7 = (s0.2 (Int32.toNatClampNeg ((s0.1 2) + z2))) → wp_X5_isRead_L20 s0 i1 post e55 n20 (z2 + 1)) ∧ (¬ r_7 = (s0.2 (Int32.toNatClampNeg ((s0.1 2) + z2))) → post 0))) i1 z2))) i1
def wp_X5_isRead (post : Int32 → Prop) (s0 : Tp) (i1 : Nat) : Prop := wp_J0_length_8abf5 (fun r_1 => ((r_1 = ((s0.1 1) - (s0.1 2)) → (∃ n20, wp_X5_isRead_L20 s0 i1 post (fun z2 => post 1) n20 0)) ∧ (¬ r_1 = ((s0.1 1) - (s0.1 2)) → post 0))) i1
set_option maxHeartbeats 4000000 in
set_option maxRecDepth 100000 in
theorem c2_X5_isRead {l : Launch} {D : va_G} {q : Nat → ClassId} {a0 : Nat → Nat} {s0 : Tp} {i1 : Nat} {post : Int32 → Prop} (hs : i1 < 12) (h : wp_X5_isRead post s0 i1) : Met l yX5_isRead (Cond.code yX5_isRead cX5_isRead 3 (some .boolean) :: w_all) ({ frames := 4, cells := 0, slots := 0, locals := 85 } : Room) (rd_P D q [.ref (a0 0), .ref (q (100 + i1))] (tp_w a0 q s0)) (vp_Si post) 0 0 (fun _ => False) := by
  refine rd_start (by decide) (Nat.le_of_ble_eq_true rfl) ?_
  intro p e s m below meth c ls hx hb hr hml hown ht hk hP hQ hV hl
  have hK := hQ.1
  have hown : s.vm.findClass RX5 = some m.cls := hown
  have hl : lv_has ls 3 [(0, .ref (a0 0)), (1, .ref (q (100 + i1)))] := hl
  have hP : va_P D vwCl [((a0 0), .inr (4, [.ref (a0 1), .int (s0.1 0), .int (s0.1 1), .int (s0.1 2), .int (s0.1 3), .int (s0.1 4), .int (s0.1 5)])), ((a0 1), .inl (q 0, 400, .inl s0.2))] s.heap := hP
  unfold wp_X5_isRead at h
  refine lv_aload_n hx hb dX5_isRead_0 rfl (lv_at hl 1 rfl) ?_
  refine vp_callSi (rd_wVs (i := i1) (wc := ([] : va_W)) (As := []) (rest := []) hx hb hml hown ht (c2_J0_length_8abf5 hs h) wd_J0_length_8abf5 mw_436 hQ hV va_S.rf (hP.sub [] rfl) hs rfl rfl hl.1 rfl (Nat.le_of_ble_eq_true rfl) dX5_isRead_1 ⟨Nat.le_of_ble_eq_true rfl, Nat.le_of_ble_eq_true rfl, rfl, rfl⟩ ⟨Nat.le_of_ble_eq_true rfl, Nat.le_of_ble_eq_true rfl⟩) (fun r_1 h => ?_)
  try dsimp only at h
  refine lv_aload_n hx hb dX5_isRead_4 rfl (lv_at hl 0 rfl) ?_
  refine fl_get (C := RX5) (T := TX5) (N := 7) (ci := 4) (v := .int (s0.1 1)) hx hb ht in_X5 hown hK hP 0 rfl rfl 2 (by decide) mw_132 rfl dX5_isRead_5 ?_
  refine lv_aload_n hx hb dX5_isRead_8 rfl (lv_at hl 0 rfl) ?_
  refine fl_get (C := RX5) (T := TX5) (N := 7) (ci := 4) (v := .int (s0.1 2)) hx hb ht in_X5 hown hK hP 0 rfl rfl 3 (by decide) mw_135 rfl dX5_isRead_9 ?_
  refine lv_isub hx hb dX5_isRead_12 ?_
  refine lv_icmp_eq (tgt := 18) hx hb dX5_isRead_13 (by decide) (fun c_3 => ?_) (fun c_3 => ?_)
  · replace h := h.1 c_3
    refine lv_iconst (v := 0) hx hb dX5_isRead_18 (by decide) ?_
    refine lv_istore_n (lv' := [(2, .int 0), (0, .ref (a0 0)), (1, .ref (q (100 + i1)))]) hx hb dX5_isRead_19 rfl hl (by decide) rfl (fun ls hl => ?_)
    have lp20 : ∀ (e55 : Int32 → Prop) (k55 : ∀ (z2 : Int32) (ls : Array Slot), e55 z2 → lv_has ls 3 [(2, .int z2), (0, .ref (a0 0)), (1, .ref (q (100 + i1)))] → W p l e ({ frames := 4, cells := 0, slots := 0, locals := 85 } : Room) s m [.ref (a0 0), .ref (q (100 + i1))].toArray below meth c s.heap [] 0 0 (MQ below (vp_Si post) [.ref (a0 0), .ref (q (100 + i1))].toArray s 0 0 (fun _ => False)) (F0 m 55 ls [])) (n : Nat) (z2 : Int32) (ls : Array Slot), wp_X5_isRead_L20 s0 i1 post e55 n z2 → lv_has ls 3 [(2, .int z2), (0, .ref (a0 0)), (1, .ref (q (100 + i1)))] → W p l e ({ frames := 4, cells := 0, slots := 0, locals := 85 } : Room) s m [.ref (a0 0), .ref (q (100 + i1))].toArray below meth c s.heap [] 0 0 (MQ below (vp_Si post) [.ref (a0 0), .ref (q (100 + i1))].toArray s 0 0 (fun _ => False)) (F0 m 20 ls []) := by
      intro e55 k55 n
      induction n with
      | zero =>
        intro z2 ls h
        exact h.elim
      | succ n ih =>
        intro z2 ls h hl
        unfold wp_X5_isRead_L20 at h
        refine lv_iload_n hx hb dX5_isRead_20 rfl (lv_at hl 0 rfl) ?_
        refine lv_aload_n hx hb dX5_isRead_21 rfl (lv_at hl 2 rfl) ?_
        refine vp_callSi (rd_wVs (i := i1) (wc := ([] : va_W)) (As := []) (rest := [.int z2]) hx hb hml hown ht (c2_J0_length_8abf5 hs h) wd_J0_length_8abf5 mw_436 hQ hV va_S.rf (hP.sub [] rfl) hs rfl rfl hl.1 rfl (Nat.le_of_ble_eq_true rfl) dX5_isRead_22 ⟨Nat.le_of_ble_eq_true rfl, Nat.le_of_ble_eq_true rfl, rfl, rfl⟩ ⟨Nat.le_of_ble_eq_true rfl, Nat.le_of_ble_eq_true rfl⟩) (fun r_4 h => ?_)
        try dsimp only at h
        refine lv_icmp_ge (tgt := 55) hx hb dX5_isRead_25 (by decide) (fun c_6 => ?_) (fun c_6 => ?_)
        · replace h := h.1 c_6
          exact k55 _ ls h (lv_sub hl [0, 1, 2] rfl)
        · replace h := h.2 c_6
          refine lv_aload_n hx hb dX5_isRead_28 rfl (lv_at hl 2 rfl) ?_
          refine lv_iload_n hx hb dX5_isRead_29 rfl (lv_at hl 0 rfl) ?_
          refine vp_callSi (rd_wVs (i := i1) (wc := ([] : va_W)) (As := [.int z2]) (rest := []) hx hb hml hown ht (c2_J0_charAt_5068e hs h) wd_J0_charAt_5068e mw_446 hQ hV va_S.rf (hP.sub [] rfl) hs rfl rfl hl.1 rfl (Nat.le_of_ble_eq_true rfl) dX5_isRead_30 ⟨Nat.le_of_ble_eq_true rfl, Nat.le_of_ble_eq_true rfl, rfl, rfl⟩ ⟨Nat.le_of_ble_eq_true rfl, Nat.le_of_ble_eq_true rfl⟩) (fun r_7 h => ?_)
          try dsimp only at h
          refine lv_aload_n hx hb dX5_isRead_33 rfl (lv_at hl 1 rfl) ?_
          refine fl_get (C := RX5) (T := TX5) (N := 7) (ci := 4) (v := .ref (a0 1)) hx hb ht in_X5 hown hK hP 0 rfl rfl 0 (by decide) mw_128 rfl dX5_isRead_34 ?_
          refine lv_aload_n hx hb dX5_isRead_37 rfl (lv_at hl 1 rfl) ?_
          refine fl_get (C := RX5) (T := TX5) (N := 7) (ci := 4) (v := .int (s0.1 2)) hx hb ht in_X5 hown hK hP 0 rfl rfl 3 (by decide) mw_135 rfl dX5_isRead_38 ?_
          refine lv_iload_n hx hb dX5_isRead_41 rfl (lv_at hl 0 rfl) ?_
          refine lv_iadd hx hb dX5_isRead_42 ?_
          obtain ⟨g_9, h⟩ := h
          refine va_iald hx hb hK hP 1 0 rfl rfl g_9 dX5_isRead_43 ?_
          refine lv_icmp_eq (tgt := 49) hx hb dX5_isRead_44 (by decide) (fun c_10 => ?_) (fun c_10 => ?_)
          · replace h := h.1 c_10
            refine lv_iinc (v := (z2 + 1)) (lv' := [(2, .int (z2 + 1)), (0, .ref (a0 0)), (1, .ref (q (100 + i1)))]) hx hb dX5_isRead_49 hl (k := 0) rfl rfl (by decide) rfl (fun ls hl => ?_)
            refine lv_goto (tgt := 20) hx hb dX5_isRead_52 (by decide) ?_
            exact ih _ ls h (lv_sub hl [0, 1, 2] rfl)
          · replace h := h.2 c_10
            refine lv_iconst (v := 0) hx hb dX5_isRead_47 (by decide) ?_
            exact rd_zret hx hb hr hk rfl h dX5_isRead_48
    obtain ⟨n20, h⟩ := h
    refine lp20 _ ?_ n20 _ ls h (lv_sub hl [0, 1, 2] rfl)
    · intro z2 ls h hl
      try dsimp only at h
      refine lv_iconst (v := 1) hx hb dX5_isRead_55 (by decide) ?_
      exact rd_zret hx hb hr hk rfl h dX5_isRead_56
  · replace h := h.2 c_3
    refine lv_iconst (v := 0) hx hb dX5_isRead_16 (by decide) ?_
    exact rd_zret hx hb hr hk rfl h dX5_isRead_17

def wp_X5_wordRead (post : Int32 → Prop) (s0 : Tp) : Prop := wp_X5_isRead (fun r_1 => ((r_1 = 0 → wp_X5_isRead (fun r_4 => ((r_4 = 0 → wp_X5_isRead (fun r_7 => ((r_7 = 0 → wp_X5_isRead (fun r_10 => ((r_10 = 0 → wp_X5_isRead (fun r_13 => ((r_13 = 0 → wp_X5_isRead (fun r_16 => ((r_16 = 0 → wp_X5_isRead (fun r_19 => ((r_19 = 0 → wp_X5_isRead (fun r_22 => ((r_22 = 0 → wp_X5_isRead (fun r_25 => ((r_25 = 0 → wp_X5_isRead (fun r_28 => ((r_28 = 0 → wp_X5_isRead (fun r_31 => ((r_31 = 0 → wp_X5_isRead (fun r_34 => ((r_34 = 0 → post 0) ∧ (¬ r_34 = 0 → post 12))) s0 11) ∧ (¬ r_31 = 0 → post 11))) s0 10) ∧ (¬ r_28 = 0 → post 10))) s0 9) ∧ (¬ r_25 = 0 → post 9))) s0 8) ∧ (¬ r_22 = 0 → post 8))) s0 7) ∧ (¬ r_19 = 0 → post 7))) s0 6) ∧ (¬ r_16 = 0 → post 6))) s0 5) ∧ (¬ r_13 = 0 → post 5))) s0 4) ∧ (¬ r_10 = 0 → post 4))) s0 3) ∧ (¬ r_7 = 0 → post 3))) s0 2) ∧ (¬ r_4 = 0 → post 2))) s0 1) ∧ (¬ r_1 = 0 → post 1))) s0 0
set_option maxHeartbeats 4000000 in
set_option maxRecDepth 100000 in
theorem c2_X5_wordRead {l : Launch} {D : va_G} {q : Nat → ClassId} {a0 : Nat → Nat} {s0 : Tp} {post : Int32 → Prop} (h : wp_X5_wordRead post s0) : Met l yX5_wordRead (Cond.code yX5_wordRead cX5_wordRead 1 (some .int) :: w_all) ({ frames := 5, cells := 0, slots := 0, locals := 107 } : Room) (rd_P D q [.ref (a0 0)] (tp_w a0 q s0)) (vp_Si post) 0 0 (fun _ => False) := by
  refine rd_start (by decide) (Nat.le_of_ble_eq_true rfl) ?_
  intro p e s m below meth c ls hx hb hr hml hown ht hk hP hQ hV hl
  have hK := hQ.1
  have hown : s.vm.findClass RX5 = some m.cls := hown
  have hl : lv_has ls 1 [(0, .ref (a0 0))] := hl
  have hP : va_P D vwCl [((a0 0), .inr (4, [.ref (a0 1), .int (s0.1 0), .int (s0.1 1), .int (s0.1 2), .int (s0.1 3), .int (s0.1 4), .int (s0.1 5)])), ((a0 1), .inl (q 0, 400, .inl s0.2))] s.heap := hP
  unfold wp_X5_wordRead at h
  refine lv_aload_n hx hb dX5_wordRead_0 rfl (lv_at hl 0 rfl) ?_
  refine va_ldcS (q := (q (100 + 0))) (tx := "board") hx hb hown (hQ.2.2.1 ("FlapBoard$Tape", 52, "board", 0) (List.mem_of_getElem? (i := 0) rfl)) dX5_wordRead_1 ?_
  refine vp_callSi (rd_wV (wc := tp_w a0 q s0) (As := [.ref (q (100 + 0))]) (rest := []) hx hb hml hown ht (c2_X5_isRead (by decide) h) wd_X5_isRead mw_432 hQ hV va_S.rf (hP.sub [0, 1] rfl) rfl rfl rfl hl.1 rfl (Nat.le_of_ble_eq_true rfl) dX5_wordRead_3 ⟨Nat.le_of_ble_eq_true rfl, Nat.le_of_ble_eq_true rfl, rfl, rfl⟩ ⟨Nat.le_of_ble_eq_true rfl, Nat.le_of_ble_eq_true rfl⟩) (fun r_1 h => ?_)
  try dsimp only at h
  refine lv_if_eq (tgt := 11) hx hb dX5_wordRead_6 (by decide) (fun c_3 => ?_) (fun c_3 => ?_)
  · replace h := h.1 c_3
    refine lv_aload_n hx hb dX5_wordRead_11 rfl (lv_at hl 0 rfl) ?_
    refine va_ldcS (q := (q (100 + 1))) (tx := "limit") hx hb hown (hQ.2.2.1 ("FlapBoard$Tape", 58, "limit", 1) (List.mem_of_getElem? (i := 1) rfl)) dX5_wordRead_12 ?_
    refine vp_callSi (rd_wV (wc := tp_w a0 q s0) (As := [.ref (q (100 + 1))]) (rest := []) hx hb hml hown ht (c2_X5_isRead (by decide) h) wd_X5_isRead mw_432 hQ hV va_S.rf (hP.sub [0, 1] rfl) rfl rfl rfl hl.1 rfl (Nat.le_of_ble_eq_true rfl) dX5_wordRead_14 ⟨Nat.le_of_ble_eq_true rfl, Nat.le_of_ble_eq_true rfl, rfl, rfl⟩ ⟨Nat.le_of_ble_eq_true rfl, Nat.le_of_ble_eq_true rfl⟩) (fun r_4 h => ?_)
    try dsimp only at h
    refine lv_if_eq (tgt := 22) hx hb dX5_wordRead_17 (by decide) (fun c_6 => ?_) (fun c_6 => ?_)
    · replace h := h.1 c_6
      refine lv_aload_n hx hb dX5_wordRead_22 rfl (lv_at hl 0 rfl) ?_
      refine va_ldcS (q := (q (100 + 2))) (tx := "drum") hx hb hown (hQ.2.2.1 ("FlapBoard$Tape", 60, "drum", 2) (List.mem_of_getElem? (i := 2) rfl)) dX5_wordRead_23 ?_
      refine vp_callSi (rd_wV (wc := tp_w a0 q s0) (As := [.ref (q (100 + 2))]) (rest := []) hx hb hml hown ht (c2_X5_isRead (by decide) h) wd_X5_isRead mw_432 hQ hV va_S.rf (hP.sub [0, 1] rfl) rfl rfl rfl hl.1 rfl (Nat.le_of_ble_eq_true rfl) dX5_wordRead_25 ⟨Nat.le_of_ble_eq_true rfl, Nat.le_of_ble_eq_true rfl, rfl, rfl⟩ ⟨Nat.le_of_ble_eq_true rfl, Nat.le_of_ble_eq_true rfl⟩) (fun r_7 h => ?_)
      try dsimp only at h
      refine lv_if_eq (tgt := 33) hx hb dX5_wordRead_28 (by decide) (fun c_9 => ?_) (fun c_9 => ?_)
      · replace h := h.1 c_9
        refine lv_aload_n hx hb dX5_wordRead_33 rfl (lv_at hl 0 rfl) ?_
        refine va_ldcS (q := (q (100 + 3))) (tx := "cells") hx hb hown (hQ.2.2.1 ("FlapBoard$Tape", 62, "cells", 3) (List.mem_of_getElem? (i := 3) rfl)) dX5_wordRead_34 ?_
        refine vp_callSi (rd_wV (wc := tp_w a0 q s0) (As := [.ref (q (100 + 3))]) (rest := []) hx hb hml hown ht (c2_X5_isRead (by decide) h) wd_X5_isRead mw_432 hQ hV va_S.rf (hP.sub [0, 1] rfl) rfl rfl rfl hl.1 rfl (Nat.le_of_ble_eq_true rfl) dX5_wordRead_36 ⟨Nat.le_of_ble_eq_true rfl, Nat.le_of_ble_eq_true rfl, rfl, rfl⟩ ⟨Nat.le_of_ble_eq_true rfl, Nat.le_of_ble_eq_true rfl⟩) (fun r_10 h => ?_)
        try dsimp only at h
        refine lv_if_eq (tgt := 44) hx hb dX5_wordRead_39 (by decide) (fun c_12 => ?_) (fun c_12 => ?_)
        · replace h := h.1 c_12
          refine lv_aload_n hx hb dX5_wordRead_44 rfl (lv_at hl 0 rfl) ?_
          refine va_ldcS (q := (q (100 + 4))) (tx := "worn") hx hb hown (hQ.2.2.1 ("FlapBoard$Tape", 64, "worn", 4) (List.mem_of_getElem? (i := 4) rfl)) dX5_wordRead_45 ?_
          refine vp_callSi (rd_wV (wc := tp_w a0 q s0) (As := [.ref (q (100 + 4))]) (rest := []) hx hb hml hown ht (c2_X5_isRead (by decide) h) wd_X5_isRead mw_432 hQ hV va_S.rf (hP.sub [0, 1] rfl) rfl rfl rfl hl.1 rfl (Nat.le_of_ble_eq_true rfl) dX5_wordRead_47 ⟨Nat.le_of_ble_eq_true rfl, Nat.le_of_ble_eq_true rfl, rfl, rfl⟩ ⟨Nat.le_of_ble_eq_true rfl, Nat.le_of_ble_eq_true rfl⟩) (fun r_13 h => ?_)
          try dsimp only at h
          refine lv_if_eq (tgt := 55) hx hb dX5_wordRead_50 (by decide) (fun c_15 => ?_) (fun c_15 => ?_)
          · replace h := h.1 c_15
            refine lv_aload_n hx hb dX5_wordRead_55 rfl (lv_at hl 0 rfl) ?_
            refine va_ldcS (q := (q (100 + 5))) (tx := "row") hx hb hown (hQ.2.2.1 ("FlapBoard$Tape", 66, "row", 5) (List.mem_of_getElem? (i := 5) rfl)) dX5_wordRead_56 ?_
            refine vp_callSi (rd_wV (wc := tp_w a0 q s0) (As := [.ref (q (100 + 5))]) (rest := []) hx hb hml hown ht (c2_X5_isRead (by decide) h) wd_X5_isRead mw_432 hQ hV va_S.rf (hP.sub [0, 1] rfl) rfl rfl rfl hl.1 rfl (Nat.le_of_ble_eq_true rfl) dX5_wordRead_58 ⟨Nat.le_of_ble_eq_true rfl, Nat.le_of_ble_eq_true rfl, rfl, rfl⟩ ⟨Nat.le_of_ble_eq_true rfl, Nat.le_of_ble_eq_true rfl⟩) (fun r_16 h => ?_)
            try dsimp only at h
            refine lv_if_eq (tgt := 67) hx hb dX5_wordRead_61 (by decide) (fun c_18 => ?_) (fun c_18 => ?_)
            · replace h := h.1 c_18
              refine lv_aload_n hx hb dX5_wordRead_67 rfl (lv_at hl 0 rfl) ?_
              refine va_ldcS (q := (q (100 + 6))) (tx := "lose") hx hb hown (hQ.2.2.1 ("FlapBoard$Tape", 68, "lose", 6) (List.mem_of_getElem? (i := 6) rfl)) dX5_wordRead_68 ?_
              refine vp_callSi (rd_wV (wc := tp_w a0 q s0) (As := [.ref (q (100 + 6))]) (rest := []) hx hb hml hown ht (c2_X5_isRead (by decide) h) wd_X5_isRead mw_432 hQ hV va_S.rf (hP.sub [0, 1] rfl) rfl rfl rfl hl.1 rfl (Nat.le_of_ble_eq_true rfl) dX5_wordRead_70 ⟨Nat.le_of_ble_eq_true rfl, Nat.le_of_ble_eq_true rfl, rfl, rfl⟩ ⟨Nat.le_of_ble_eq_true rfl, Nat.le_of_ble_eq_true rfl⟩) (fun r_19 h => ?_)
              try dsimp only at h
              refine lv_if_eq (tgt := 79) hx hb dX5_wordRead_73 (by decide) (fun c_21 => ?_) (fun c_21 => ?_)
              · replace h := h.1 c_21
                refine lv_aload_n hx hb dX5_wordRead_79 rfl (lv_at hl 0 rfl) ?_
                refine va_ldcS (q := (q (100 + 7))) (tx := "scroll") hx hb hown (hQ.2.2.1 ("FlapBoard$Tape", 70, "scroll", 7) (List.mem_of_getElem? (i := 7) rfl)) dX5_wordRead_80 ?_
                refine vp_callSi (rd_wV (wc := tp_w a0 q s0) (As := [.ref (q (100 + 7))]) (rest := []) hx hb hml hown ht (c2_X5_isRead (by decide) h) wd_X5_isRead mw_432 hQ hV va_S.rf (hP.sub [0, 1] rfl) rfl rfl rfl hl.1 rfl (Nat.le_of_ble_eq_true rfl) dX5_wordRead_82 ⟨Nat.le_of_ble_eq_true rfl, Nat.le_of_ble_eq_true rfl, rfl, rfl⟩ ⟨Nat.le_of_ble_eq_true rfl, Nat.le_of_ble_eq_true rfl⟩) (fun r_22 h => ?_)
                try dsimp only at h
                refine lv_if_eq (tgt := 91) hx hb dX5_wordRead_85 (by decide) (fun c_24 => ?_) (fun c_24 => ?_)
                · replace h := h.1 c_24
                  refine lv_aload_n hx hb dX5_wordRead_91 rfl (lv_at hl 0 rfl) ?_
                  refine va_ldcS (q := (q (100 + 8))) (tx := "home") hx hb hown (hQ.2.2.1 ("FlapBoard$Tape", 72, "home", 8) (List.mem_of_getElem? (i := 8) rfl)) dX5_wordRead_92 ?_
                  refine vp_callSi (rd_wV (wc := tp_w a0 q s0) (As := [.ref (q (100 + 8))]) (rest := []) hx hb hml hown ht (c2_X5_isRead (by decide) h) wd_X5_isRead mw_432 hQ hV va_S.rf (hP.sub [0, 1] rfl) rfl rfl rfl hl.1 rfl (Nat.le_of_ble_eq_true rfl) dX5_wordRead_94 ⟨Nat.le_of_ble_eq_true rfl, Nat.le_of_ble_eq_true rfl, rfl, rfl⟩ ⟨Nat.le_of_ble_eq_true rfl, Nat.le_of_ble_eq_true rfl⟩) (fun r_25 h => ?_)
                  try dsimp only at h
                  refine lv_if_eq (tgt := 103) hx hb dX5_wordRead_97 (by decide) (fun c_27 => ?_) (fun c_27 => ?_)
                  · replace h := h.1 c_27
                    refine lv_aload_n hx hb dX5_wordRead_103 rfl (lv_at hl 0 rfl) ?_
                    refine va_ldcS (q := (q (100 + 9))) (tx := "wait") hx hb hown (hQ.2.2.1 ("FlapBoard$Tape", 74, "wait", 9) (List.mem_of_getElem? (i := 9) rfl)) dX5_wordRead_104 ?_
                    refine vp_callSi (rd_wV (wc := tp_w a0 q s0) (As := [.ref (q (100 + 9))]) (rest := []) hx hb hml hown ht (c2_X5_isRead (by decide) h) wd_X5_isRead mw_432 hQ hV va_S.rf (hP.sub [0, 1] rfl) rfl rfl rfl hl.1 rfl (Nat.le_of_ble_eq_true rfl) dX5_wordRead_106 ⟨Nat.le_of_ble_eq_true rfl, Nat.le_of_ble_eq_true rfl, rfl, rfl⟩ ⟨Nat.le_of_ble_eq_true rfl, Nat.le_of_ble_eq_true rfl⟩) (fun r_28 h => ?_)
                    try dsimp only at h
                    refine lv_if_eq (tgt := 115) hx hb dX5_wordRead_109 (by decide) (fun c_30 => ?_) (fun c_30 => ?_)
                    · replace h := h.1 c_30
                      refine lv_aload_n hx hb dX5_wordRead_115 rfl (lv_at hl 0 rfl) ?_
                      refine va_ldcS (q := (q (100 + 10))) (tx := "settle") hx hb hown (hQ.2.2.1 ("FlapBoard$Tape", 76, "settle", 10) (List.mem_of_getElem? (i := 10) rfl)) dX5_wordRead_116 ?_
                      refine vp_callSi (rd_wV (wc := tp_w a0 q s0) (As := [.ref (q (100 + 10))]) (rest := []) hx hb hml hown ht (c2_X5_isRead (by decide) h) wd_X5_isRead mw_432 hQ hV va_S.rf (hP.sub [0, 1] rfl) rfl rfl rfl hl.1 rfl (Nat.le_of_ble_eq_true rfl) dX5_wordRead_118 ⟨Nat.le_of_ble_eq_true rfl, Nat.le_of_ble_eq_true rfl, rfl, rfl⟩ ⟨Nat.le_of_ble_eq_true rfl, Nat.le_of_ble_eq_true rfl⟩) (fun r_31 h => ?_)
                      try dsimp only at h
                      refine lv_if_eq (tgt := 127) hx hb dX5_wordRead_121 (by decide) (fun c_33 => ?_) (fun c_33 => ?_)
                      · replace h := h.1 c_33
                        refine lv_aload_n hx hb dX5_wordRead_127 rfl (lv_at hl 0 rfl) ?_
                        refine va_ldcS (q := (q (100 + 11))) (tx := "times") hx hb hown (hQ.2.2.1 ("FlapBoard$Tape", 78, "times", 11) (List.mem_of_getElem? (i := 11) rfl)) dX5_wordRead_128 ?_
                        refine vp_callSi (rd_wV (wc := tp_w a0 q s0) (As := [.ref (q (100 + 11))]) (rest := []) hx hb hml hown ht (c2_X5_isRead (by decide) h) wd_X5_isRead mw_432 hQ hV va_S.rf (hP.sub [0, 1] rfl) rfl rfl rfl hl.1 rfl (Nat.le_of_ble_eq_true rfl) dX5_wordRead_130 ⟨Nat.le_of_ble_eq_true rfl, Nat.le_of_ble_eq_true rfl, rfl, rfl⟩ ⟨Nat.le_of_ble_eq_true rfl, Nat.le_of_ble_eq_true rfl⟩) (fun r_34 h => ?_)
                        try dsimp only at h
                        refine lv_if_eq (tgt := 139) hx hb dX5_wordRead_133 (by decide) (fun c_36 => ?_) (fun c_36 => ?_)
                        · replace h := h.1 c_36
                          refine lv_iconst (v := 0) hx hb dX5_wordRead_139 (by decide) ?_
                          exact rd_iret hx hb hr hk h dX5_wordRead_140
                        · replace h := h.2 c_36
                          refine lv_bipush (v := 12) hx hb dX5_wordRead_136 (by decide) ?_
                          exact rd_iret hx hb hr hk h dX5_wordRead_138
                      · replace h := h.2 c_33
                        refine lv_bipush (v := 11) hx hb dX5_wordRead_124 (by decide) ?_
                        exact rd_iret hx hb hr hk h dX5_wordRead_126
                    · replace h := h.2 c_30
                      refine lv_bipush (v := 10) hx hb dX5_wordRead_112 (by decide) ?_
                      exact rd_iret hx hb hr hk h dX5_wordRead_114
                  · replace h := h.2 c_27
                    refine lv_bipush (v := 9) hx hb dX5_wordRead_100 (by decide) ?_
                    exact rd_iret hx hb hr hk h dX5_wordRead_102
                · replace h := h.2 c_24
                  refine lv_bipush (v := 8) hx hb dX5_wordRead_88 (by decide) ?_
                  exact rd_iret hx hb hr hk h dX5_wordRead_90
              · replace h := h.2 c_21
                refine lv_bipush (v := 7) hx hb dX5_wordRead_76 (by decide) ?_
                exact rd_iret hx hb hr hk h dX5_wordRead_78
            · replace h := h.2 c_18
              refine lv_bipush (v := 6) hx hb dX5_wordRead_64 (by decide) ?_
              exact rd_iret hx hb hr hk h dX5_wordRead_66
          · replace h := h.2 c_15
            refine lv_iconst (v := 5) hx hb dX5_wordRead_53 (by decide) ?_
            exact rd_iret hx hb hr hk h dX5_wordRead_54
        · replace h := h.2 c_12
          refine lv_iconst (v := 4) hx hb dX5_wordRead_42 (by decide) ?_
          exact rd_iret hx hb hr hk h dX5_wordRead_43
      · replace h := h.2 c_9
        refine lv_iconst (v := 3) hx hb dX5_wordRead_31 (by decide) ?_
        exact rd_iret hx hb hr hk h dX5_wordRead_32
    · replace h := h.2 c_6
      refine lv_iconst (v := 2) hx hb dX5_wordRead_20 (by decide) ?_
      exact rd_iret hx hb hr hk h dX5_wordRead_21
  · replace h := h.2 c_3
    refine lv_iconst (v := 1) hx hb dX5_wordRead_9 (by decide) ?_
    exact rd_iret hx hb hr hk h dX5_wordRead_10
