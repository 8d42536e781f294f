def wp_X0_entryCount (post : Int32 → Prop) (s0 : Bd) : Prop := wp_X0_entryStart (fun r_1 => post r_1) s0 (s0.1 3)
set_option maxHeartbeats 4000000 in
set_option maxRecDepth 100000 in
theorem c2_X0_entryCount {l : Launch} {D : va_G} {q : Nat → ClassId} {a0 : Nat → Nat} {s0 : Bd} {post : Int32 → Prop} (h : wp_X0_entryCount post s0) : Met l yX0_entryCount (Cond.code yX0_entryCount cX0_entryCount 1 (some .int) :: w_all) ({ frames := 1, cells := 0, slots := 0, locals := 23 } : Room) (rd_P D q [.ref (a0 0)] (bd_w a0 q s0)) (vp_Si post) 0 0 (fun _ => False) := by
  refine rd_start (by decide) (Nat.le_of_ble_eq_true rfl) ?_
  intro p e s m below meth c ls hx hb hr hml hown ht hk hP hQ hV hl
  have hK := hQ.1
  have hown : s.vm.findClass RX0 = some m.cls := hown
  have hl : lv_has ls 1 [(0, .ref (a0 0))] := hl
  have hP : va_P D vwCl [((a0 0), .inr (0, [.int (s0.1 0), .int (s0.1 1), .int (s0.1 2), .int (s0.1 3), .int (s0.1 4), .int (s0.1 5), .ref (a0 1), .ref (a0 2), .ref (a0 3), .ref (a0 4), .ref (a0 5), .ref (a0 6), .ref (a0 7), .ref (a0 8), .ref (a0 9), .ref (a0 10), .ref (a0 11), .ref (a0 12)])), ((a0 1), .inl (q 0, 4, .inl (s0.2.1 0))), ((a0 2), .inl (q 0, 4, .inl (s0.2.1 1))), ((a0 3), .inl (q 0, 160, .inl (s0.2.1 2))), ((a0 4), .inl (q 0, 40, .inl (s0.2.1 3))), ((a0 5), .inl (q 0, 40, .inl (s0.2.1 4))), ((a0 6), .inl (q 0, 40, .inl (s0.2.1 5))), ((a0 7), .inl (q 0, 40, .inl (s0.2.1 6))), ((a0 8), .inl (q 0, 40, .inl (s0.2.1 7))), ((a0 9), .inl (q 0, 40, .inl (s0.2.1 8))), ((a0 10), .inl (q 0, 40, .inl (s0.2.1 9))), ((a0 11), .inl (q 1, 40, .inr (.inl s0.2.2.1))), ((a0 12), .inl (q 0, s0.2.2.2.1, .inl s0.2.2.2.2))] s.heap := hP
  unfold wp_X0_entryCount at h
  refine lv_aload_n hx hb dX0_entryCount_0 rfl (lv_at hl 0 rfl) ?_
  refine lv_aload_n hx hb dX0_entryCount_1 rfl (lv_at hl 0 rfl) ?_
  refine fl_get (C := RX0) (T := TX0) (N := 18) (ci := 0) (v := .int (s0.1 3)) hx hb ht in_X0 hown hK hP 0 rfl rfl 3 (by decide) mw_179 rfl dX0_entryCount_2 ?_
  refine vp_callSi (rd_wV (wc := bd_w a0 q s0) (As := [.int (s0.1 3)]) (rest := []) hx hb hml hown ht (c2_X0_entryStart h) wd_X0_entryStart mw_605 hQ hV va_S.rf (hP.sub [0, 1, 2, 3, 4, 5, 6, 7, 8, 9, 10, 11, 12] rfl) rfl rfl rfl hl.1 rfl (Nat.le_of_ble_eq_true rfl) dX0_entryCount_5 ⟨Nat.le_of_ble_eq_true rfl, Nat.le_of_ble_eq_true rfl, rfl, rfl⟩ ⟨Nat.le_of_ble_eq_true rfl, Nat.le_of_ble_eq_true rfl⟩) (fun r_1 h => ?_)
  try dsimp only at h
  exact rd_iret hx hb hr hk h dX0_entryCount_8

def wp_X0_isThere (post : Int32 → Prop) (s0 : Bd) : Prop := (((s0.1 0) ≤ 0 → post 0) ∧ (¬ (s0.1 0) ≤ 0 → post 1))
set_option maxHeartbeats 4000000 in
set_option maxRecDepth 100000 in
theorem c2_X0_isThere {l : Launch} {D : va_G} {q : Nat → ClassId} {a0 : Nat → Nat} {s0 : Bd} {post : Int32 → Prop} (h : wp_X0_isThere post s0) : Met l yX0_isThere (Cond.code yX0_isThere cX0_isThere 1 (some .boolean) :: w_all) ({ frames := 0, cells := 0, slots := 0, locals := 0 } : Room) (rd_P D q [.ref (a0 0)] (bd_w a0 q s0)) (vp_Si post) 0 0 (fun _ => False) := by
  refine rd_start (by decide) (Nat.le_of_ble_eq_true rfl) ?_
  intro p e s m below meth c ls hx hb hr hml hown ht hk hP hQ hV hl
  have hK := hQ.1
  have hown : s.vm.findClass RX0 = some m.cls := hown
  have hl : lv_has ls 1 [(0, .ref (a0 0))] := hl
  have hP : va_P D vwCl [((a0 0), .inr (0, [.int (s0.1 0), .int (s0.1 1), .int (s0.1 2), .int (s0.1 3), .int (s0.1 4), .int (s0.1 5), .ref (a0 1), .ref (a0 2), .ref (a0 3), .ref (a0 4), .ref (a0 5), .ref (a0 6), .ref (a0 7), .ref (a0 8), .ref (a0 9), .ref (a0 10), .ref (a0 11), .ref (a0 12)])), ((a0 1), .inl (q 0, 4, .inl (s0.2.1 0))), ((a0 2), .inl (q 0, 4, .inl (s0.2.1 1))), ((a0 3), .inl (q 0, 160, .inl (s0.2.1 2))), ((a0 4), .inl (q 0, 40, .inl (s0.2.1 3))), ((a0 5), .inl (q 0, 40, .inl (s0.2.1 4))), ((a0 6), .inl (q 0, 40, .inl (s0.2.1 5))), ((a0 7), .inl (q 0, 40, .inl (s0.2.1 6))), ((a0 8), .inl (q 0, 40, .inl (s0.2.1 7))), ((a0 9), .inl (q 0, 40, .inl (s0.2.1 8))), ((a0 10), .inl (q 0, 40, .inl (s0.2.1 9))), ((a0 11), .inl (q 1, 40, .inr (.inl s0.2.2.1))), ((a0 12), .inl (q 0, s0.2.2.2.1, .inl s0.2.2.2.2))] s.heap := hP
  unfold wp_X0_isThere at h
  refine lv_aload_n hx hb dX0_isThere_0 rfl (lv_at hl 0 rfl) ?_
  refine fl_get (C := RX0) (T := TX0) (N := 18) (ci := 0) (v := .int (s0.1 0)) hx hb ht in_X0 hown hK hP 0 rfl rfl 0 (by decide) mw_167 rfl dX0_isThere_1 ?_
  refine lv_if_le (tgt := 11) hx hb dX0_isThere_4 (by decide) (fun c_1 => ?_) (fun c_1 => ?_)
  · replace h := h.1 c_1
    refine lv_iconst (v := 0) hx hb dX0_isThere_11 (by decide) ?_
    exact rd_zret hx hb hr hk rfl h dX0_isThere_12
  · replace h := h.2 c_1
    refine lv_iconst (v := 1) hx hb dX0_isThere_7 (by decide) ?_
    refine lv_goto (tgt := 12) hx hb dX0_isThere_8 (by decide) ?_
    exact rd_zret hx hb hr hk rfl h dX0_isThere_12

def wp_X0_hasRow (post : Int32 → Prop) (s0 : Bd) (x1 : Int32) : Prop := ((x1 < 0 → post 0) ∧ (¬ x1 < 0 → (((s0.1 0) ≤ x1 → post 0) ∧ (¬ (s0.1 0) ≤ x1 → post 1))))
set_option maxHeartbeats 4000000 in
set_option maxRecDepth 100000 in
theorem c2_X0_hasRow {l : Launch} {D : va_G} {q : Nat → ClassId} {a0 : Nat → Nat} {s0 : Bd} {x1 : Int32} {post : Int32 → Prop} (h : wp_X0_hasRow post s0 x1) : Met l yX0_hasRow (Cond.code yX0_hasRow cX0_hasRow 2 (some .boolean) :: w_all) ({ frames := 0, cells := 0, slots := 0, locals := 0 } : Room) (rd_P D q [.ref (a0 0), .int x1] (bd_w a0 q s0)) (vp_Si post) 0 0 (fun _ => False) := by
  refine rd_start (by decide) (Nat.le_of_ble_eq_true rfl) ?_
  intro p e s m below meth c ls hx hb hr hml hown ht hk hP hQ hV hl
  have hK := hQ.1
  have hown : s.vm.findClass RX0 = some m.cls := hown
  have hl : lv_has ls 2 [(0, .ref (a0 0)), (1, .int x1)] := hl
  have hP : va_P D vwCl [((a0 0), .inr (0, [.int (s0.1 0), .int (s0.1 1), .int (s0.1 2), .int (s0.1 3), .int (s0.1 4), .int (s0.1 5), .ref (a0 1), .ref (a0 2), .ref (a0 3), .ref (a0 4), .ref (a0 5), .ref (a0 6), .ref (a0 7), .ref (a0 8), .ref (a0 9), .ref (a0 10), .ref (a0 11), .ref (a0 12)])), ((a0 1), .inl (q 0, 4, .inl (s0.2.1 0))), ((a0 2), .inl (q 0, 4, .inl (s0.2.1 1))), ((a0 3), .inl (q 0, 160, .inl (s0.2.1 2))), ((a0 4), .inl (q 0, 40, .inl (s0.2.1 3))), ((a0 5), .inl (q 0, 40, .inl (s0.2.1 4))), ((a0 6), .inl (q 0, 40, .inl (s0.2.1 5))), ((a0 7), .inl (q 0, 40, .inl (s0.2.1 6))), ((a0 8), .inl (q 0, 40, .inl (s0.2.1 7))), ((a0 9), .inl (q 0, 40, .inl (s0.2.1 8))), ((a0 10), .inl (q 0, 40, .inl (s0.2.1 9))), ((a0 11), .inl (q 1, 40, .inr (.inl s0.2.2.1))), ((a0 12), .inl (q 0, s0.2.2.2.1, .inl s0.2.2.2.2))] s.heap := hP
  unfold wp_X0_hasRow at h
  refine lv_iload_n hx hb dX0_hasRow_0 rfl (lv_at hl 1 rfl) ?_
  refine lv_if_lt (tgt := 16) hx hb dX0_hasRow_1 (by decide) (fun c_1 => ?_) (fun c_1 => ?_)
  · replace h := h.1 c_1
    refine lv_iconst (v := 0) hx hb dX0_hasRow_16 (by decide) ?_
    exact rd_zret hx hb hr hk rfl h dX0_hasRow_17
  · replace h := h.2 c_1
    refine lv_iload_n hx hb dX0_hasRow_4 rfl (lv_at hl 1 rfl) ?_
    refine lv_aload_n hx hb dX0_hasRow_5 rfl (lv_at hl 0 rfl) ?_
    refine fl_get (C := RX0) (T := TX0) (N := 18) (ci := 0) (v := .int (s0.1 0)) hx hb ht in_X0 hown hK hP 0 rfl rfl 0 (by decide) mw_167 rfl dX0_hasRow_6 ?_
    refine lv_icmp_ge (tgt := 16) hx hb dX0_hasRow_9 (by decide) (fun c_2 => ?_) (fun c_2 => ?_)
    · replace h := h.1 c_2
      refine lv_iconst (v := 0) hx hb dX0_hasRow_16 (by decide) ?_
      exact rd_zret hx hb hr hk rfl h dX0_hasRow_17
    · replace h := h.2 c_2
      refine lv_iconst (v := 1) hx hb dX0_hasRow_12 (by decide) ?_
      refine lv_goto (tgt := 17) hx hb dX0_hasRow_13 (by decide) ?_
      exact rd_zret hx hb hr hk rfl h dX0_hasRow_17

def wp_X0_hasDrum (post : Int32 → Prop) (s0 : Bd) (x1 : Int32) : Prop := ((x1 < 0 → post 0) ∧ (¬ x1 < 0 → (((s0.1 3) ≤ x1 → post 0) ∧ (¬ (s0.1 3) ≤ x1 → post 1))))
set_option maxHeartbeats 4000000 in
set_option maxRecDepth 100000 in
theorem c2_X0_hasDrum {l : Launch} {D : va_G} {q : Nat → ClassId} {a0 : Nat → Nat} {s0 : Bd} {x1 : Int32} {post : Int32 → Prop} (h : wp_X0_hasDrum post s0 x1) : Met l yX0_hasDrum (Cond.code yX0_hasDrum cX0_hasDrum 2 (some .boolean) :: w_all) ({ frames := 0, cells := 0, slots := 0, locals := 0 } : Room) (rd_P D q [.ref (a0 0), .int x1] (bd_w a0 q s0)) (vp_Si post) 0 0 (fun _ => False) := by
  refine rd_start (by decide) (Nat.le_of_ble_eq_true rfl) ?_
  intro p e s m below meth c ls hx hb hr hml hown ht hk hP hQ hV hl
  have hK := hQ.1
  have hown : s.vm.findClass RX0 = some m.cls := hown
  have hl : lv_has ls 2 [(0, .ref (a0 0)), (1, .int x1)] := hl
  have hP : va_P D vwCl [((a0 0), .inr (0, [.int (s0.1 0), .int (s0.1 1), .int (s0.1 2), .int (s0.1 3), .int (s0.1 4), .int (s0.1 5), .ref (a0 1), .ref (a0 2), .ref (a0 3), .ref (a0 4), .ref (a0 5), .ref (a0 6), .ref (a0 7), .ref (a0 8), .ref (a0 9), .ref (a0 10), .ref (a0 11), .ref (a0 12)])), ((a0 1), .inl (q 0, 4, .inl (s0.2.1 0))), ((a0 2), .inl (q 0, 4, .inl (s0.2.1 1))), ((a0 3), .inl (q 0, 160, .inl (s0.2.1 2))), ((a0 4), .inl (q 0, 40, .inl (s0.2.1 3))), ((a0 5), .inl (q 0, 40, .inl (s0.2.1 4))), ((a0 6), .inl (q 0, 40, .inl (s0.2.1 5))), ((a0 7), .inl (q 0, 40, .inl (s0.2.1 6))), ((a0 8), .inl (q 0, 40, .inl (s0.2.1 7))), ((a0 9), .inl (q 0, 40, .inl (s0.2.1 8))), ((a0 10), .inl (q 0, 40, .inl (s0.2.1 9))), ((a0 11), .inl (q 1, 40, .inr (.inl s0.2.2.1))), ((a0 12), .inl (q 0, s0.2.2.2.1, .inl s0.2.2.2.2))] s.heap := hP
  unfold wp_X0_hasDrum at h
  refine lv_iload_n hx hb dX0_hasDrum_0 rfl (lv_at hl 1 rfl) ?_
  refine lv_if_lt (tgt := 16) hx hb dX0_hasDrum_1 (by decide) (fun c_1 => ?_) (fun c_1 => ?_)
  · replace h := h.1 c_1
    refine lv_iconst (v := 0) hx hb dX0_hasDrum_16 (by decide) ?_
    exact rd_zret hx hb hr hk rfl h dX0_hasDrum_17
  · replace h := h.2 c_1
    refine lv_iload_n hx hb dX0_hasDrum_4 rfl (lv_at hl 1 rfl) ?_
    refine lv_aload_n hx hb dX0_hasDrum_5 rfl (lv_at hl 0 rfl) ?_
    refine fl_get (C := RX0) (T := TX0) (N := 18) (ci := 0) (v := .int (s0.1 3)) hx hb ht in_X0 hown hK hP 0 rfl rfl 3 (by decide) mw_179 rfl dX0_hasDrum_6 ?_
    refine lv_icmp_ge (tgt := 16) hx hb dX0_hasDrum_9 (by decide) (fun c_2 => ?_) (fun c_2 => ?_)
    · replace h := h.1 c_2
      refine lv_iconst (v := 0) hx hb dX0_hasDrum_16 (by decide) ?_
      exact rd_zret hx hb hr hk rfl h dX0_hasDrum_17
    · replace h := h.2 c_2
      refine lv_iconst (v := 1) hx hb dX0_hasDrum_12 (by decide) ?_
      refine lv_goto (tgt := 17) hx hb dX0_hasDrum_13 (by decide) ?_
      exact rd_zret hx hb hr hk rfl h dX0_hasDrum_17

def wp_X0_flapsOf (post : Int32 → Prop) (s0 : Bd) (x1 : Int32) : Prop := vp_in x1 40 ∧ ((((s0.2.1 3) (Int32.toNatClampNeg x1)) < 0 → post 0) ∧ (¬ ((s0.2.1 3) (Int32.toNatClampNeg x1)) < 0 → (((s0.1 3) ≤ ((s0.2.1 3) (Int32.toNatClampNeg x1)) → post 0) ∧ (¬ (s0.1 3) ≤ ((s0.2.1 3) (Int32.toNatClampNeg x1)) → vp_in ((s0.2.1 3) (Int32.toNatClampNeg x1)) 4 ∧ post ((s0.2.1 1) (Int32.toNatClampNeg ((s0.2.1 3) (Int32.toNatClampNeg x1))))))))
set_option maxHeartbeats 4000000 in
set_option maxRecDepth 100000 in
theorem c2_X0_flapsOf {l : Launch} {D : va_G} {q : Nat → ClassId} {a0 : Nat → Nat} {s0 : Bd} {x1 : Int32} {post : Int32 → Prop} (h : wp_X0_flapsOf post s0 x1) : Met l yX0_flapsOf (Cond.code yX0_flapsOf cX0_flapsOf 3 (some .int) :: w_all) ({ frames := 0, cells := 0, slots := 0, locals := 0 } : Room) (rd_P D q [.ref (a0 0), .int x1] (bd_w a0 q s0)) (vp_Si post) 0 0 (fun _ => False) := by
  refine rd_start (by decide) (Nat.le_of_ble_eq_true rfl) ?_
  intro p e s m below meth c ls hx hb hr hml hown ht hk hP hQ hV hl
  have hK := hQ.1
  have hown : s.vm.findClass RX0 = some m.cls := hown
  have hl : lv_has ls 3 [(0, .ref (a0 0)), (1, .int x1)] := hl
  have hP : va_P D vwCl [((a0 0), .inr (0, [.int (s0.1 0), .int (s0.1 1), .int (s0.1 2), .int (s0.1 3), .int (s0.1 4), .int (s0.1 5), .ref (a0 1), .ref (a0 2), .ref (a0 3), .ref (a0 4), .ref (a0 5), .ref (a0 6), .ref (a0 7), .ref (a0 8), .ref (a0 9), .ref (a0 10), .ref (a0 11), .ref (a0 12)])), ((a0 1), .inl (q 0, 4, .inl (s0.2.1 0))), ((a0 2), .inl (q 0, 4, .inl (s0.2.1 1))), ((a0 3), .inl (q 0, 160, .inl (s0.2.1 2))), ((a0 4), .inl (q 0, 40, .inl (s0.2.1 3))), ((a0 5), .inl (q 0, 40, .inl (s0.2.1 4))), ((a0 6), .inl (q 0, 40, .inl (s0.2.1 5))), ((a0 7), .inl (q 0, 40, .inl (s0.2.1 6))), ((a0 8), .inl (q 0, 40, .inl (s0.2.1 7))), ((a0 9), .inl (q 0, 40, .inl (s0.2.1 8))), ((a0 10), .inl (q 0, 40, .inl (s0.2.1 9))), ((a0 11), .inl (q 1, 40, .inr (.inl s0.2.2.1))), ((a0 12), .inl (q 0, s0.2.2.2.1, .inl s0.2.2.2.2))] s.heap := hP
  unfold wp_X0_flapsOf at h
  refine lv_aload_n hx hb dX0_flapsOf_0 rfl (lv_at hl 0 rfl) ?_
  refine fl_get (C := RX0) (T := TX0) (N := 18) (ci := 0) (v := .ref (a0 4)) hx hb ht in_X0 hown hK hP 0 rfl rfl 9 (by decide) mw_192 rfl dX0_flapsOf_1 ?_
  refine lv_iload_n hx hb dX0_flapsOf_4 rfl (lv_at hl 1 rfl) ?_
  obtain ⟨g_1, h⟩ := h
  refine va_iald hx hb hK hP 4 0 rfl rfl g_1 dX0_flapsOf_5 ?_
  refine lv_istore_n (lv' := [(2, .int ((s0.2.1 3) (Int32.toNatClampNeg x1))), (0, .ref (a0 0)), (1, .int x1)]) hx hb dX0_flapsOf_6 rfl hl (by decide) rfl (fun ls hl => ?_)
  refine lv_iload_n hx hb dX0_flapsOf_7 rfl (lv_at hl 0 rfl) ?_
  refine lv_if_lt (tgt := 28) hx hb dX0_flapsOf_8 (by decide) (fun c_2 => ?_) (fun c_2 => ?_)
  · replace h := h.1 c_2
    refine lv_iconst (v := 0) hx hb dX0_flapsOf_28 (by decide) ?_
    exact rd_iret hx hb hr hk h dX0_flapsOf_29
  · replace h := h.2 c_2
    refine lv_iload_n hx hb dX0_flapsOf_11 rfl (lv_at hl 0 rfl) ?_
    refine lv_aload_n hx hb dX0_flapsOf_12 rfl (lv_at hl 1 rfl) ?_
    refine fl_get (C := RX0) (T := TX0) (N := 18) (ci := 0) (v := .int (s0.1 3)) hx hb ht in_X0 hown hK hP 0 rfl rfl 3 (by decide) mw_179 rfl dX0_flapsOf_13 ?_
    refine lv_icmp_ge (tgt := 28) hx hb dX0_flapsOf_16 (by decide) (fun c_3 => ?_) (fun c_3 => ?_)
    · replace h := h.1 c_3
      refine lv_iconst (v := 0) hx hb dX0_flapsOf_28 (by decide) ?_
      exact rd_iret hx hb hr hk h dX0_flapsOf_29
    · replace h := h.2 c_3
      refine lv_aload_n hx hb dX0_flapsOf_19 rfl (lv_at hl 1 rfl) ?_
      refine fl_get (C := RX0) (T := TX0) (N := 18) (ci := 0) (v := .ref (a0 2)) hx hb ht in_X0 hown hK hP 0 rfl rfl 7 (by decide) mw_190 rfl dX0_flapsOf_20 ?_
      refine lv_iload_n hx hb dX0_flapsOf_23 rfl (lv_at hl 0 rfl) ?_
      obtain ⟨g_4, h⟩ := h
      refine va_iald hx hb hK hP 2 0 rfl rfl g_4 dX0_flapsOf_24 ?_
      refine lv_goto (tgt := 29) hx hb dX0_flapsOf_25 (by decide) ?_
      exact rd_iret hx hb hr hk h dX0_flapsOf_29

def wp_X0_hasFlap (post : Int32 → Prop) (s0 : Bd) (x1 : Int32) (x2 : Int32) : Prop := wp_X0_hasCell (fun r_1 => ((r_1 = 0 → post 0) ∧ (¬ r_1 = 0 → ((x2 < 0 → post 0) ∧ (¬ x2 < 0 → wp_X0_flapsOf (fun r_5 => ((r_5 ≤ x2 → post 0) ∧ (¬ r_5 ≤ x2 → post 1))) s0 x1))))) s0 x1
set_option maxHeartbeats 4000000 in
set_option maxRecDepth 100000 in
theorem c2_X0_hasFlap {l : Launch} {D : va_G} {q : Nat → ClassId} {a0 : Nat → Nat} {s0 : Bd} {x1 : Int32} {x2 : Int32} {post : Int32 → Prop} (h : wp_X0_hasFlap post s0 x1 x2) : Met l yX0_hasFlap (Cond.code yX0_hasFlap cX0_hasFlap 3 (some .boolean) :: w_all) ({ frames := 2, cells := 0, slots := 0, locals := 41 } : Room) (rd_P D q [.ref (a0 0), .int x1, .int x2] (bd_w a0 q s0)) (vp_Si post) 0 0 (fun _ => False) := by
  refine rd_start (by decide) (Nat.le_of_ble_eq_true rfl) ?_
  intro p e s m below meth c ls hx hb hr hml hown ht hk hP hQ hV hl
  have hK := hQ.1
  have hown : s.vm.findClass RX0 = some m.cls := hown
  have hl : lv_has ls 3 [(0, .ref (a0 0)), (1, .int x1), (2, .int x2)] := hl
  have hP : va_P D vwCl [((a0 0), .inr (0, [.int (s0.1 0), .int (s0.1 1), .int (s0.1 2), .int (s0.1 3), .int (s0.1 4), .int (s0.1 5), .ref (a0 1), .ref (a0 2), .ref (a0 3), .ref (a0 4), .ref (a0 5), .ref (a0 6), .ref (a0 7), .ref (a0 8), .ref (a0 9), .ref (a0 10), .ref (a0 11), .ref (a0 12)])), ((a0 1), .inl (q 0, 4, .inl (s0.2.1 0))), ((a0 2), .inl (q 0, 4, .inl (s0.2.1 1))), ((a0 3), .inl (q 0, 160, .inl (s0.2.1 2))), ((a0 4), .inl (q 0, 40, .inl (s0.2.1 3))), ((a0 5), .inl (q 0, 40, .inl (s0.2.1 4))), ((a0 6), .inl (q 0, 40, .inl (s0.2.1 5))), ((a0 7), .inl (q 0, 40, .inl (s0.2.1 6))), ((a0 8), .inl (q 0, 40, .inl (s0.2.1 7))), ((a0 9), .inl (q 0, 40, .inl (s0.2.1 8))), ((a0 10), .inl (q 0, 40, .inl (s0.2.1 9))), ((a0 11), .inl (q 1, 40, .inr (.inl s0.2.2.1))), ((a0 12), .inl (q 0, s0.2.2.2.1, .inl s0.2.2.2.2))] s.heap := hP
  unfold wp_X0_hasFlap at h
  refine lv_aload_n hx hb dX0_hasFlap_0 rfl (lv_at hl 0 rfl) ?_
  refine lv_iload_n hx hb dX0_hasFlap_1 rfl (lv_at hl 1 rfl) ?_
  refine vp_callSi (rd_wV (wc := bd_w a0 q s0) (As := [.int x1]) (rest := []) hx hb hml hown ht (c2_X0_hasCell h) wd_X0_hasCell mw_584 hQ hV va_S.rf (hP.sub [0, 1, 2, 3, 4, 5, 6, 7, 8, 9, 10, 11, 12] rfl) rfl rfl rfl hl.1 rfl (Nat.le_of_ble_eq_true rfl) dX0_hasFlap_2 ⟨Nat.le_of_ble_eq_true rfl, Nat.le_of_ble_eq_true rfl, rfl, rfl⟩ ⟨Nat.le_of_ble_eq_true rfl, Nat.le_of_ble_eq_true rfl⟩) (fun r_1 h => ?_)
  try dsimp only at h
  refine lv_if_eq (tgt := 25) hx hb dX0_hasFlap_5 (by decide) (fun c_3 => ?_) (fun c_3 => ?_)
  · replace h := h.1 c_3
    refine lv_iconst (v := 0) hx hb dX0_hasFlap_25 (by decide) ?_
    exact rd_zret hx hb hr hk rfl h dX0_hasFlap_26
  · replace h := h.2 c_3
    refine lv_iload_n hx hb dX0_hasFlap_8 rfl (lv_at hl 2 rfl) ?_
    refine lv_if_lt (tgt := 25) hx hb dX0_hasFlap_9 (by decide) (fun c_4 => ?_) (fun c_4 => ?_)
    · replace h := h.1 c_4
      refine lv_iconst (v := 0) hx hb dX0_hasFlap_25 (by decide) ?_
      exact rd_zret hx hb hr hk rfl h dX0_hasFlap_26
    · replace h := h.2 c_4
      refine lv_iload_n hx hb dX0_hasFlap_12 rfl (lv_at hl 2 rfl) ?_
      refine lv_aload_n hx hb dX0_hasFlap_13 rfl (lv_at hl 0 rfl) ?_
      refine lv_iload_n hx hb dX0_hasFlap_14 rfl (lv_at hl 1 rfl) ?_
      refine vp_callSi (rd_wV (wc := bd_w a0 q s0) (As := [.int x1]) (rest := [.int x2]) hx hb hml hown ht (c2_X0_flapsOf h) wd_X0_flapsOf mw_651 hQ hV va_S.rf (hP.sub [0, 1, 2, 3, 4, 5, 6, 7, 8, 9, 10, 11, 12] rfl) rfl rfl rfl hl.1 rfl (Nat.le_of_ble_eq_true rfl) dX0_hasFlap_15 ⟨Nat.le_of_ble_eq_true rfl, Nat.le_of_ble_eq_true rfl, rfl, rfl⟩ ⟨Nat.le_of_ble_eq_true rfl, Nat.le_of_ble_eq_true rfl⟩) (fun r_5 h => ?_)
      try dsimp only at h
      refine lv_icmp_ge (tgt := 25) hx hb dX0_hasFlap_18 (by decide) (fun c_7 => ?_) (fun c_7 => ?_)
      · replace h := h.1 c_7
        refine lv_iconst (v := 0) hx hb dX0_hasFlap_25 (by decide) ?_
        exact rd_zret hx hb hr hk rfl h dX0_hasFlap_26
      · replace h := h.2 c_7
        refine lv_iconst (v := 1) hx hb dX0_hasFlap_21 (by decide) ?_
        refine lv_goto (tgt := 26) hx hb dX0_hasFlap_22 (by decide) ?_
        exact rd_zret hx hb hr hk rfl h dX0_hasFlap_26

def wp_X0_flapsOn (post : Int32 → Prop) (s0 : Bd) (x1 : Int32) : Prop := ((x1 < 0 → post 0) ∧ (¬ x1 < 0 → (((s0.1 3) ≤ x1 → post 0) ∧ (¬ (s0.1 3) ≤ x1 → vp_in x1 4 ∧ post ((s0.2.1 1) (Int32.toNatClampNeg x1))))))
set_option maxHeartbeats 4000000 in
set_option maxRecDepth 100000 in
theorem c2_X0_flapsOn {l : Launch} {D : va_G} {q : Nat → ClassId} {a0 : Nat → Nat} {s0 : Bd} {x1 : Int32} {post : Int32 → Prop} (h : wp_X0_flapsOn post s0 x1) : Met l yX0_flapsOn (Cond.code yX0_flapsOn cX0_flapsOn 2 (some .int) :: w_all) ({ frames := 0, cells := 0, slots := 0, locals := 0 } : Room) (rd_P D q [.ref (a0 0), .int x1] (bd_w a0 q s0)) (vp_Si post) 0 0 (fun _ => False) := by
  refine rd_start (by decide) (Nat.le_of_ble_eq_true rfl) ?_
  intro p e s m below meth c ls hx hb hr hml hown ht hk hP hQ hV hl
  have hK := hQ.1
  have hown : s.vm.findClass RX0 = some m.cls := hown
  have hl : lv_has ls 2 [(0, .ref (a0 0)), (1, .int x1)] := hl
  have hP : va_P D vwCl [((a0 0), .inr (0, [.int (s0.1 0), .int (s0.1 1), .int (s0.1 2), .int (s0.1 3), .int (s0.1 4), .int (s0.1 5), .ref (a0 1), .ref (a0 2), .ref (a0 3), .ref (a0 4), .ref (a0 5), .ref (a0 6), .ref (a0 7), .ref (a0 8), .ref (a0 9), .ref (a0 10), .ref (a0 11), .ref (a0 12)])), ((a0 1), .inl (q 0, 4, .inl (s0.2.1 0))), ((a0 2), .inl (q 0, 4, .inl (s0.2.1 1))), ((a0 3), .inl (q 0, 160, .inl (s0.2.1 2))), ((a0 4), .inl (q 0, 40, .inl (s0.2.1 3))), ((a0 5), .inl (q 0, 40, .inl (s0.2.1 4))), ((a0 6), .inl (q 0, 40, .inl (s0.2.1 5))), ((a0 7), .inl (q 0, 40, .inl (s0.2.1 6))), ((a0 8), .inl (q 0, 40, .inl (s0.2.1 7))), ((a0 9), .inl (q 0, 40, .inl (s0.2.1 8))), ((a0 10), .inl (q 0, 40, .inl (s0.2.1 9))), ((a0 11), .inl (q 1, 40, .inr (.inl s0.2.2.1))), ((a0 12), .inl (q 0, s0.2.2.2.1, .inl s0.2.2.2.2))] s.heap := hP
  unfold wp_X0_flapsOn at h
  refine lv_iload_n hx hb dX0_flapsOn_0 rfl (lv_at hl 1 rfl) ?_
  refine lv_if_lt (tgt := 21) hx hb dX0_flapsOn_1 (by decide) (fun c_1 => ?_) (fun c_1 => ?_)
  · replace h := h.1 c_1
    refine lv_iconst (v := 0) hx hb dX0_flapsOn_21 (by decide) ?_
    exact rd_iret hx hb hr hk h dX0_flapsOn_22
  · replace h := h.2 c_1
    refine lv_iload_n hx hb dX0_flapsOn_4 rfl (lv_at hl 1 rfl) ?_
    refine lv_aload_n hx hb dX0_flapsOn_5 rfl (lv_at hl 0 rfl) ?_
    refine fl_get (C := RX0) (T := TX0) (N := 18) (ci := 0) (v := .int (s0.1 3)) hx hb ht in_X0 hown hK hP 0 rfl rfl 3 (by decide) mw_179 rfl dX0_flapsOn_6 ?_
    refine lv_icmp_ge (tgt := 21) hx hb dX0_flapsOn_9 (by decide) (fun c_2 => ?_) (fun c_2 => ?_)
    · replace h := h.1 c_2
      refine lv_iconst (v := 0) hx hb dX0_flapsOn_21 (by decide) ?_
      exact rd_iret hx hb hr hk h dX0_flapsOn_22
    · replace h := h.2 c_2
      refine lv_aload_n hx hb dX0_flapsOn_12 rfl (lv_at hl 0 rfl) ?_
      refine fl_get (C := RX0) (T := TX0) (N := 18) (ci := 0) (v := .ref (a0 2)) hx hb ht in_X0 hown hK hP 0 rfl rfl 7 (by decide) mw_190 rfl dX0_flapsOn_13 ?_
      refine lv_iload_n hx hb dX0_flapsOn_16 rfl (lv_at hl 1 rfl) ?_
      obtain ⟨g_3, h⟩ := h
      refine va_iald hx hb hK hP 2 0 rfl rfl g_3 dX0_flapsOn_17 ?_
      refine lv_goto (tgt := 22) hx hb dX0_flapsOn_18 (by decide) ?_
      exact rd_iret hx hb hr hk h dX0_flapsOn_22

def wp_X0_isMovable (post : Int32 → Prop) (s0 : Bd) (x1 : Int32) (x2 : Int32) : Prop := ((x2 ≤ 0 → post 0) ∧ (¬ x2 ≤ 0 → wp_X0_flapsOn (fun r_2 => ((r_2 ≤ x2 → post 0) ∧ (¬ r_2 ≤ x2 → post 1))) s0 x1))
set_option maxHeartbeats 4000000 in
set_option maxRecDepth 100000 in
theorem c2_X0_isMovable {l : Launch} {D : va_G} {q : Nat → ClassId} {a0 : Nat → Nat} {s0 : Bd} {x1 : Int32} {x2 : Int32} {post : Int32 → Prop} (h : wp_X0_isMovable post s0 x1 x2) : Met l yX0_isMovable (Cond.code yX0_isMovable cX0_isMovable 3 (some .boolean) :: w_all) ({ frames := 1, cells := 0, slots := 0, locals := 21 } : Room) (rd_P D q [.ref (a0 0), .int x1, .int x2] (bd_w a0 q s0)) (vp_Si post) 0 0 (fun _ => False) := by
  refine rd_start (by decide) (Nat.le_of_ble_eq_true rfl) ?_
  intro p e s m below meth c ls hx hb hr hml hown ht hk hP hQ hV hl
  have hK := hQ.1
  have hown : s.vm.findClass RX0 = some m.cls := hown
  have hl : lv_has ls 3 [(0, .ref (a0 0)), (1, .int x1), (2, .int x2)] := hl
  have hP : va_P D vwCl [((a0 0), .inr (0, [.int (s0.1 0), .int (s0.1 1), .int (s0.1 2), .int (s0.1 3), .int (s0.1 4), .int (s0.1 5), .ref (a0 1), .ref (a0 2), .ref (a0 3), .ref (a0 4), .ref (a0 5), .ref (a0 6), .ref (a0 7), .ref (a0 8), .ref (a0 9), .ref (a0 10), .ref (a0 11), .ref (a0 12)])), ((a0 1), .inl (q 0, 4, .inl (s0.2.1 0))), ((a0 2), .inl (q 0, 4, .inl (s0.2.1 1))), ((a0 3), .inl (q 0, 160, .inl (s0.2.1 2))), ((a0 4), .inl (q 0, 40, .inl (s0.2.1 3))), ((a0 5), .inl (q 0, 40, .inl (s0.2.1 4))), ((a0 6), .inl (q 0, 40, .inl (s0.2.1 5))), ((a0 7), .inl (q 0, 40, .inl (s0.2.1 6))), ((a0 8), .inl (q 0, 40, .inl (s0.2.1 7))), ((a0 9), .inl (q 0, 40, .inl (s0.2.1 8))), ((a0 10), .inl (q 0, 40, .inl (s0.2.1 9))), ((a0 11), .inl (q 1, 40, .inr (.inl s0.2.2.1))), ((a0 12), .inl (q 0, s0.2.2.2.1, .inl s0.2.2.2.2))] s.heap := hP
  unfold wp_X0_isMovable at h
  refine lv_iload_n hx hb dX0_isMovable_0 rfl (lv_at hl 2 rfl) ?_
  refine lv_if_le (tgt := 17) hx hb dX0_isMovable_1 (by decide) (fun c_1 => ?_) (fun c_1 => ?_)
  · replace h := h.1 c_1
    refine lv_iconst (v := 0) hx hb dX0_isMovable_17 (by decide) ?_
    exact rd_zret hx hb hr hk rfl h dX0_isMovable_18
  · replace h := h.2 c_1
    refine lv_iload_n hx hb dX0_isMovable_4 rfl (lv_at hl 2 rfl) ?_
    refine lv_aload_n hx hb dX0_isMovable_5 rfl (lv_at hl 0 rfl) ?_
    refine lv_iload_n hx hb dX0_isMovable_6 rfl (lv_at hl 1 rfl) ?_
    refine vp_callSi (rd_wV (wc := bd_w a0 q s0) (As := [.int x1]) (rest := [.int x2]) hx hb hml hown ht (c2_X0_flapsOn h) wd_X0_flapsOn mw_772 hQ hV va_S.rf (hP.sub [0, 1, 2, 3, 4, 5, 6, 7, 8, 9, 10, 11, 12] rfl) rfl rfl rfl hl.1 rfl (Nat.le_of_ble_eq_true rfl) dX0_isMovable_7 ⟨Nat.le_of_ble_eq_true rfl, Nat.le_of_ble_eq_true rfl, rfl, rfl⟩ ⟨Nat.le_of_ble_eq_true rfl, Nat.le_of_ble_eq_true rfl⟩) (fun r_2 h => ?_)
    try dsimp only at h
    refine lv_icmp_ge (tgt := 17) hx hb dX0_isMovable_10 (by decide) (fun c_4 => ?_) (fun c_4 => ?_)
    · replace h := h.1 c_4
      refine lv_iconst (v := 0) hx hb dX0_isMovable_17 (by decide) ?_
      exact rd_zret hx hb hr hk rfl h dX0_isMovable_18
    · replace h := h.2 c_4
      refine lv_iconst (v := 1) hx hb dX0_isMovable_13 (by decide) ?_
      refine lv_goto (tgt := 18) hx hb dX0_isMovable_14 (by decide) ?_
      exact rd_zret hx hb hr hk rfl h dX0_isMovable_18

def wp_X0_currentOf (post : Int32 → Prop) (s0 : Bd) (x1 : Int32) : Prop := vp_in x1 40 ∧ ((((s0.2.1 3) (Int32.toNatClampNeg x1)) < 0 → post 0) ∧ (¬ ((s0.2.1 3) (Int32.toNatClampNeg x1)) < 0 → (((s0.1 3) ≤ ((s0.2.1 3) (Int32.toNatClampNeg x1)) → post 0) ∧ (¬ (s0.1 3) ≤ ((s0.2.1 3) (Int32.toNatClampNeg x1)) → vp_in ((s0.2.1 3) (Int32.toNatClampNeg x1)) 4 ∧ post ((s0.2.1 0) (Int32.toNatClampNeg ((s0.2.1 3) (Int32.toNatClampNeg x1))))))))
set_option maxHeartbeats 4000000 in
set_option maxRecDepth 100000 in
theorem c2_X0_currentOf {l : Launch} {D : va_G} {q : Nat → ClassId} {a0 : Nat → Nat} {s0 : Bd} {x1 : Int32} {post : Int32 → Prop} (h : wp_X0_currentOf post s0 x1) : Met l yX0_currentOf (Cond.code yX0_currentOf cX0_currentOf 3 (some .int) :: w_all) ({ frames := 0, cells := 0, slots := 0, locals := 0 } : Room) (rd_P D q [.ref (a0 0), .int x1] (bd_w a0 q s0)) (vp_Si post) 0 0 (fun _ => False) := by
  refine rd_start (by decide) (Nat.le_of_ble_eq_true rfl) ?_
  intro p e s m below meth c ls hx hb hr hml hown ht hk hP hQ hV hl
  have hK := hQ.1
  have hown : s.vm.findClass RX0 = some m.cls := hown
  have hl : lv_has ls 3 [(0, .ref (a0 0)), (1, .int x1)] := hl
  have hP : va_P D vwCl [((a0 0), .inr (0, [.int (s0.1 0), .int (s0.1 1), .int (s0.1 2), .int (s0.1 3), .int (s0.1 4), .int (s0.1 5), .ref (a0 1), .ref (a0 2), .ref (a0 3), .ref (a0 4), .ref (a0 5), .ref (a0 6), .ref (a0 7), .ref (a0 8), .ref (a0 9), .ref (a0 10), .ref (a0 11), .ref (a0 12)])), ((a0 1), .inl (q 0, 4, .inl (s0.2.1 0))), ((a0 2), .inl (q 0, 4, .inl (s0.2.1 1))), ((a0 3), .inl (q 0, 160, .inl (s0.2.1 2))), ((a0 4), .inl (q 0, 40, .inl (s0.2.1 3))), ((a0 5), .inl (q 0, 40, .inl (s0.2.1 4))), ((a0 6), .inl (q 0, 40, .inl (s0.2.1 5))), ((a0 7), .inl (q 0, 40, .inl (s0.2.1 6))), ((a0 8), .inl (q 0, 40, .inl (s0.2.1 7))), ((a0 9), .inl (q 0, 40, .inl (s0.2.1 8))), ((a0 10), .inl (q 0, 40, .inl (s0.2.1 9))), ((a0 11), .inl (q 1, 40, .inr (.inl s0.2.2.1))), ((a0 12), .inl (q 0, s0.2.2.2.1, .inl s0.2.2.2.2))] s.heap := hP
  unfold wp_X0_currentOf at h
  refine lv_aload_n hx hb dX0_currentOf_0 rfl (lv_at hl 0 rfl) ?_
  refine fl_get (C := RX0) (T := TX0) (N := 18) (ci := 0) (v := .ref (a0 4)) hx hb ht in_X0 hown hK hP 0 rfl rfl 9 (by decide) mw_192 rfl dX0_currentOf_1 ?_
  refine lv_iload_n hx hb dX0_currentOf_4 rfl (lv_at hl 1 rfl) ?_
  obtain ⟨g_1, h⟩ := h
  refine va_iald hx hb hK hP 4 0 rfl rfl g_1 dX0_currentOf_5 ?_
  refine lv_istore_n (lv' := [(2, .int ((s0.2.1 3) (Int32.toNatClampNeg x1))), (0, .ref (a0 0)), (1, .int x1)]) hx hb dX0_currentOf_6 rfl hl (by decide) rfl (fun ls hl => ?_)
  refine lv_iload_n hx hb dX0_currentOf_7 rfl (lv_at hl 0 rfl) ?_
  refine lv_if_lt (tgt := 28) hx hb dX0_currentOf_8 (by decide) (fun c_2 => ?_) (fun c_2 => ?_)
  · replace h := h.1 c_2
    refine lv_iconst (v := 0) hx hb dX0_currentOf_28 (by decide) ?_
    exact rd_iret hx hb hr hk h dX0_currentOf_29
  · replace h := h.2 c_2
    refine lv_iload_n hx hb dX0_currentOf_11 rfl (lv_at hl 0 rfl) ?_
    refine lv_aload_n hx hb dX0_currentOf_12 rfl (lv_at hl 1 rfl) ?_
    refine fl_get (C := RX0) (T := TX0) (N := 18) (ci := 0) (v := .int (s0.1 3)) hx hb ht in_X0 hown hK hP 0 rfl rfl 3 (by decide) mw_179 rfl dX0_currentOf_13 ?_
    refine lv_icmp_ge (tgt := 28) hx hb dX0_currentOf_16 (by decide) (fun c_3 => ?_) (fun c_3 => ?_)
    · replace h := h.1 c_3
      refine lv_iconst (v := 0) hx hb dX0_currentOf_28 (by decide) ?_
      exact rd_iret hx hb hr hk h dX0_currentOf_29
    · replace h := h.2 c_3
      refine lv_aload_n hx hb dX0_currentOf_19 rfl (lv_at hl 1 rfl) ?_
      refine fl_get (C := RX0) (T := TX0) (N := 18) (ci := 0) (v := .ref (a0 1)) hx hb ht in_X0 hown hK hP 0 rfl rfl 6 (by decide) mw_188 rfl dX0_currentOf_20 ?_
      refine lv_iload_n hx hb dX0_currentOf_23 rfl (lv_at hl 0 rfl) ?_
      obtain ⟨g_4, h⟩ := h
      refine va_iald hx hb hK hP 1 0 rfl rfl g_4 dX0_currentOf_24 ?_
      refine lv_goto (tgt := 29) hx hb dX0_currentOf_25 (by decide) ?_
      exact rd_iret hx hb hr hk h dX0_currentOf_29

def wp_X0_signOf (post : Int32 → Prop) (s0 : Bd) (x1 : Int32) (x2 : Int32) : Prop := ((x1 < 0 → post (-1)) ∧ (¬ x1 < 0 → (((s0.1 3) ≤ x1 → post (-1)) ∧ (¬ (s0.1 3) ≤ x1 → ((x2 < 0 → post (-1)) ∧ (¬ x2 < 0 → vp_in x1 4 ∧ ((x2 < ((s0.2.1 1) (Int32.toNatClampNeg x1)) → vp_in ((x1 * 40) + x2) 160 ∧ post ((s0.2.1 2) (Int32.toNatClampNeg ((x1 * 40) + x2)))) ∧ (¬ x2 < ((s0.2.1 1) (Int32.toNatClampNeg x1)) → post (-1)))))))))
set_option maxHeartbeats 4000000 in
set_option maxRecDepth 100000 in
theorem c2_X0_signOf {l : Launch} {D : va_G} {q : Nat → ClassId} {a0 : Nat → Nat} {s0 : Bd} {x1 : Int32} {x2 : Int32} {post : Int32 → Prop} (h : wp_X0_signOf post s0 x1 x2) : Met l yX0_signOf (Cond.code yX0_signOf cX0_signOf 3 (some .int) :: w_all) ({ frames := 0, cells := 0, slots := 0, locals := 0 } : Room) (rd_P D q [.ref (a0 0), .int x1, .int x2] (bd_w a0 q s0)) (vp_Si post) 0 0 (fun _ => False) := by
  refine rd_start (by decide) (Nat.le_of_ble_eq_true rfl) ?_
  intro p e s m below meth c ls hx hb hr hml hown ht hk hP hQ hV hl
  have hK := hQ.1
  have hown : s.vm.findClass RX0 = some m.cls := hown
  have hl : lv_has ls 3 [(0, .ref (a0 0)), (1, .int x1), (2, .int x2)] := hl
  have hP : va_P D vwCl [((a0 0), .inr (0, [.int (s0.1 0), .int (s0.1 1), .int (s0.1 2), .int (s0.1 3), .int (s0.1 4), .int (s0.1 5), .ref (a0 1), .ref (a0 2), .ref (a0 3), .ref (a0 4), .ref (a0 5), .ref (a0 6), .ref (a0 7), .ref (a0 8), .ref (a0 9), .ref (a0 10), .ref (a0 11), .ref (a0 12)])), ((a0 1), .inl (q 0, 4, .inl (s0.2.1 0))), ((a0 2), .inl (q 0, 4, .inl (s0.2.1 1))), ((a0 3), .inl (q 0, 160, .inl (s0.2.1 2))), ((a0 4), .inl (q 0, 40, .inl (s0.2.1 3))), ((a0 5), .inl (q 0, 40, .inl (s0.2.1 4))), ((a0 6), .inl (q 0, 40, .inl (s0.2.1 5))), ((a0 7), .inl (q 0, 40, .inl (s0.2.1 6))), ((a0 8), .inl (q 0, 40, .inl (s0.2.1 7))), ((a0 9), .inl (q 0, 40, .inl (s0.2.1 8))), ((a0 10), .inl (q 0, 40, .inl (s0.2.1 9))), ((a0 11), .inl (q 1, 40, .inr (.inl s0.2.2.1))), ((a0 12), .inl (q 0, s0.2.2.2.1, .inl s0.2.2.2.2))] s.heap := hP
  unfold wp_X0_signOf at h
  refine lv_iload_n hx hb dX0_signOf_0 rfl (lv_at hl 1 rfl) ?_
  refine lv_if_lt (tgt := 26) hx hb dX0_signOf_1 (by decide) (fun c_1 => ?_) (fun c_1 => ?_)
  · replace h := h.1 c_1
    refine lv_iconst (v := (-1)) hx hb dX0_signOf_26 (by decide) ?_
    exact rd_iret hx hb hr hk h dX0_signOf_27
  · replace h := h.2 c_1
    refine lv_iload_n hx hb dX0_signOf_4 rfl (lv_at hl 1 rfl) ?_
    refine lv_aload_n hx hb dX0_signOf_5 rfl (lv_at hl 0 rfl) ?_
    refine fl_get (C := RX0) (T := TX0) (N := 18) (ci := 0) (v := .int (s0.1 3)) hx hb ht in_X0 hown hK hP 0 rfl rfl 3 (by decide) mw_179 rfl dX0_signOf_6 ?_
    refine lv_icmp_ge (tgt := 26) hx hb dX0_signOf_9 (by decide) (fun c_2 => ?_) (fun c_2 => ?_)
    · replace h := h.1 c_2
      refine lv_iconst (v := (-1)) hx hb dX0_signOf_26 (by decide) ?_
      exact rd_iret hx hb hr hk h dX0_signOf_27
    · replace h := h.2 c_2
      refine lv_iload_n hx hb dX0_signOf_12 rfl (lv_at hl 2 rfl) ?_
      refine lv_if_lt (tgt := 26) hx hb dX0_signOf_13 (by decide) (fun c_3 => ?_) (fun c_3 => ?_)
      · replace h := h.1 c_3
        refine lv_iconst (v := (-1)) hx hb dX0_signOf_26 (by decide) ?_
        exact rd_iret hx hb hr hk h dX0_signOf_27
      · replace h := h.2 c_3
        refine lv_iload_n hx hb dX0_signOf_16 rfl (lv_at hl 2 rfl) ?_
        refine lv_aload_n hx hb dX0_signOf_17 rfl (lv_at hl 0 rfl) ?_
        refine fl_get (C := RX0) (T := TX0) (N := 18) (ci := 0) (v := .ref (a0 2)) hx hb ht in_X0 hown hK hP 0 rfl rfl 7 (by decide) mw_190 rfl dX0_signOf_18 ?_
        refine lv_iload_n hx hb dX0_signOf_21 rfl (lv_at hl 1 rfl) ?_
        obtain ⟨g_4, h⟩ := h
        refine va_iald hx hb hK hP 2 0 rfl rfl g_4 dX0_signOf_22 ?_
        refine lv_icmp_lt (tgt := 28) hx hb dX0_signOf_23 (by decide) (fun c_5 => ?_) (fun c_5 => ?_)
        · replace h := h.1 c_5
          refine lv_aload_n hx hb dX0_signOf_28 rfl (lv_at hl 0 rfl) ?_
          refine fl_get (C := RX0) (T := TX0) (N := 18) (ci := 0) (v := .ref (a0 3)) hx hb ht in_X0 hown hK hP 0 rfl rfl 8 (by decide) mw_191 rfl dX0_signOf_29 ?_
          refine lv_iload_n hx hb dX0_signOf_32 rfl (lv_at hl 1 rfl) ?_
          refine lv_bipush (v := 40) hx hb dX0_signOf_33 (by decide) ?_
          refine lv_imul hx hb dX0_signOf_35 ?_
          refine lv_iload_n hx hb dX0_signOf_36 rfl (lv_at hl 2 rfl) ?_
          refine lv_iadd hx hb dX0_signOf_37 ?_
          obtain ⟨g_6, h⟩ := h
          refine va_iald hx hb hK hP 3 0 rfl rfl g_6 dX0_signOf_38 ?_
          exact rd_iret hx hb hr hk h dX0_signOf_39
        · replace h := h.2 c_5
          refine lv_iconst (v := (-1)) hx hb dX0_signOf_26 (by decide) ?_
          exact rd_iret hx hb hr hk h dX0_signOf_27

def wp_X0_signOn (post : Int32 → Prop) (s0 : Bd) (x1 : Int32) (x2 : Int32) : Prop := vp_in x1 40 ∧ wp_X0_signOf (fun r_2 => post r_2) s0 ((s0.2.1 3) (Int32.toNatClampNeg x1)) x2
set_option maxHeartbeats 4000000 in
set_option maxRecDepth 100000 in
theorem c2_X0_signOn {l : Launch} {D : va_G} {q : Nat → ClassId} {a0 : Nat → Nat} {s0 : Bd} {x1 : Int32} {x2 : Int32} {post : Int32 → Prop} (h : wp_X0_signOn post s0 x1 x2) : Met l yX0_signOn (Cond.code yX0_signOn cX0_signOn 3 (some .int) :: w_all) ({ frames := 1, cells := 0, slots := 0, locals := 22 } : Room) (rd_P D q [.ref (a0 0), .int x1, .int x2] (bd_w a0 q s0)) (vp_Si post) 0 0 (fun _ => False) := by
  refine rd_start (by decide) (Nat.le_of_ble_eq_true rfl) ?_
  intro p e s m below meth c ls hx hb hr hml hown ht hk hP hQ hV hl
  have hK := hQ.1
  have hown : s.vm.findClass RX0 = some m.cls := hown
  have hl : lv_has ls 3 [(0, .ref (a0 0)), (1, .int x1), (2, .int x2)] := hl
  have hP : va_P D vwCl [((a0 0), .inr (0, [.int (s0.1 0), .int (s0.1 1), .int (s0.1 2), .int (s0.1 3), .int (s0.1 4), .int (s0.1 5), .ref (a0 1), .ref (a0 2), .ref (a0 3), .ref (a0 4), .ref (a0 5), .ref (a0 6), .ref (a0 7), .ref (a0 8), .ref (a0 9), .ref (a0 10), .ref (a0 11), .ref (a0 12)])), ((a0 1), .inl (q 0, 4, .inl (s0.2.1 0))), ((a0 2), .inl (q 0, 4, .inl (s0.2.1 1))), ((a0 3), .inl (q 0, 160, .inl (s0.2.1 2))), ((a0 4), .inl (q 0, 40, .inl (s0.2.1 3))), ((a0 5), .inl (q 0, 40, .inl (s0.2.1 4))), ((a0 6), .inl (q 0, 40, .inl (s0.2.1 5))), ((a0 7), .inl (q 0, 40, .inl (s0.2.1 6))), ((a0 8), .inl (q 0, 40, .inl (s0.2.1 7))), ((a0 9), .inl (q 0, 40, .inl (s0.2.1 8))), ((a0 10), .inl (q 0, 40, .inl (s0.2.1 9))), ((a0 11), .inl (q 1, 40, .inr (.inl s0.2.2.1))), ((a0 12), .inl (q 0, s0.2.2.2.1, .inl s0.2.2.2.2))] s.heap := hP
  unfold wp_X0_signOn at h
  refine lv_aload_n hx hb dX0_signOn_0 rfl (lv_at hl 0 rfl) ?_
  refine lv_aload_n hx hb dX0_signOn_1 rfl (lv_at hl 0 rfl) ?_
  refine fl_get (C := RX0) (T := TX0) (N := 18) (ci := 0) (v := .ref (a0 4)) hx hb ht in_X0 hown hK hP 0 rfl rfl 9 (by decide) mw_192 rfl dX0_signOn_2 ?_
  refine lv_iload_n hx hb dX0_signOn_5 rfl (lv_at hl 1 rfl) ?_
  obtain ⟨g_1, h⟩ := h
  refine va_iald hx hb hK hP 4 0 rfl rfl g_1 dX0_signOn_6 ?_
  refine lv_iload_n hx hb dX0_signOn_7 rfl (lv_at hl 2 rfl) ?_
  refine vp_callSi (rd_wV (wc := bd_w a0 q s0) (As := [.int ((s0.2.1 3) (Int32.toNatClampNeg x1)), .int x2]) (rest := []) hx hb hml hown ht (c2_X0_signOf h) wd_X0_signOf mw_668 hQ hV va_S.rf (hP.sub [0, 1, 2, 3, 4, 5, 6, 7, 8, 9, 10, 11, 12] rfl) rfl rfl rfl hl.1 rfl (Nat.le_of_ble_eq_true rfl) dX0_signOn_8 ⟨Nat.le_of_ble_eq_true rfl, Nat.le_of_ble_eq_true rfl, rfl, rfl⟩ ⟨Nat.le_of_ble_eq_true rfl, Nat.le_of_ble_eq_true rfl⟩) (fun r_2 h => ?_)
  try dsimp only at h
  exact rd_iret hx hb hr hk h dX0_signOn_11

def wp_X0_wantedSign (post : Int32 → Prop) (s0 : Bd) (x1 : Int32) : Prop := vp_in x1 40 ∧ wp_X0_signOn (fun r_2 => post r_2) s0 x1 ((s0.2.1 6) (Int32.toNatClampNeg x1))
set_option maxHeartbeats 4000000 in
set_option maxRecDepth 100000 in
theorem c2_X0_wantedSign {l : Launch} {D : va_G} {q : Nat → ClassId} {a0 : Nat → Nat} {s0 : Bd} {x1 : Int32} {post : Int32 → Prop} (h : wp_X0_wantedSign post s0 x1) : Met l yX0_wantedSign (Cond.code yX0_wantedSign cX0_wantedSign 2 (some .int) :: w_all) ({ frames := 2, cells := 0, slots := 0, locals := 44 } : Room) (rd_P D q [.ref (a0 0), .int x1] (bd_w a0 q s0)) (vp_Si post) 0 0 (fun _ => False) := by
  refine rd_start (by decide) (Nat.le_of_ble_eq_true rfl) ?_
  intro p e s m below meth c ls hx hb hr hml hown ht hk hP hQ hV hl
  have hK := hQ.1
  have hown : s.vm.findClass RX0 = some m.cls := hown
  have hl : lv_has ls 2 [(0, .ref (a0 0)), (1, .int x1)] := hl
  have hP : va_P D vwCl [((a0 0), .inr (0, [.int (s0.1 0), .int (s0.1 1), .int (s0.1 2), .int (s0.1 3), .int (s0.1 4), .int (s0.1 5), .ref (a0 1), .ref (a0 2), .ref (a0 3), .ref (a0 4), .ref (a0 5), .ref (a0 6), .ref (a0 7), .ref (a0 8), .ref (a0 9), .ref (a0 10), .ref (a0 11), .ref (a0 12)])), ((a0 1), .inl (q 0, 4, .inl (s0.2.1 0))), ((a0 2), .inl (q 0, 4, .inl (s0.2.1 1))), ((a0 3), .inl (q 0, 160, .inl (s0.2.1 2))), ((a0 4), .inl (q 0, 40, .inl (s0.2.1 3))), ((a0 5), .inl (q 0, 40, .inl (s0.2.1 4))), ((a0 6), .inl (q 0, 40, .inl (s0.2.1 5))), ((a0 7), .inl (q 0, 40, .inl (s0.2.1 6))), ((a0 8), .inl (q 0, 40, .inl (s0.2.1 7))), ((a0 9), .inl (q 0, 40, .inl (s0.2.1 8))), ((a0 10), .inl (q 0, 40, .inl (s0.2.1 9))), ((a0 11), .inl (q 1, 40, .inr (.inl s0.2.2.1))), ((a0 12), .inl (q 0, s0.2.2.2.1, .inl s0.2.2.2.2))] s.heap := hP
  unfold wp_X0_wantedSign at h
  refine lv_aload_n hx hb dX0_wantedSign_0 rfl (lv_at hl 0 rfl) ?_
  refine lv_iload_n hx hb dX0_wantedSign_1 rfl (lv_at hl 1 rfl) ?_
  refine lv_aload_n hx hb dX0_wantedSign_2 rfl (lv_at hl 0 rfl) ?_
  refine fl_get (C := RX0) (T := TX0) (N := 18) (ci := 0) (v := .ref (a0 7)) hx hb ht in_X0 hown hK hP 0 rfl rfl 12 (by decide) mw_198 rfl dX0_wantedSign_3 ?_
  refine lv_iload_n hx hb dX0_wantedSign_6 rfl (lv_at hl 1 rfl) ?_
  obtain ⟨g_1, h⟩ := h
  refine va_iald hx hb hK hP 7 0 rfl rfl g_1 dX0_wantedSign_7 ?_
  refine vp_callSi (rd_wV (wc := bd_w a0 q s0) (As := [.int x1, .int ((s0.2.1 6) (Int32.toNatClampNeg x1))]) (rest := []) hx hb hml hown ht (c2_X0_signOn h) wd_X0_signOn mw_664 hQ hV va_S.rf (hP.sub [0, 1, 2, 3, 4, 5, 6, 7, 8, 9, 10, 11, 12] rfl) rfl rfl rfl hl.1 rfl (Nat.le_of_ble_eq_true rfl) dX0_wantedSign_8 ⟨Nat.le_of_ble_eq_true rfl, Nat.le_of_ble_eq_true rfl, rfl, rfl⟩ ⟨Nat.le_of_ble_eq_true rfl, Nat.le_of_ble_eq_true rfl⟩) (fun r_2 h => ?_)
  try dsimp only at h
  exact rd_iret hx hb hr hk h dX0_wantedSign_11

def wp_X0_showsWrong (post : Int32 → Prop) (s0 : Bd) (x1 : Int32) : Prop := vp_in x1 40 ∧ wp_X0_signOn (fun r_2 => wp_X0_wantedSign (fun r_4 => ((r_2 = r_4 → post 0) ∧ (¬ r_2 = r_4 → post 1))) s0 x1) s0 x1 ((s0.2.1 4) (Int32.toNatClampNeg x1))
set_option maxHeartbeats 4000000 in
set_option maxRecDepth 100000 in
theorem c2_X0_showsWrong {l : Launch} {D : va_G} {q : Nat → ClassId} {a0 : Nat → Nat} {s0 : Bd} {x1 : Int32} {post : Int32 → Prop} (h : wp_X0_showsWrong post s0 x1) : Met l yX0_showsWrong (Cond.code yX0_showsWrong cX0_showsWrong 2 (some .boolean) :: w_all) ({ frames := 3, cells := 0, slots := 0, locals := 65 } : Room) (rd_P D q [.ref (a0 0), .int x1] (bd_w a0 q s0)) (vp_Si post) 0 0 (fun _ => False) := by
  refine rd_start (by decide) (Nat.le_of_ble_eq_true rfl) ?_
  intro p e s m below meth c ls hx hb hr hml hown ht hk hP hQ hV hl
  have hK := hQ.1
  have hown : s.vm.findClass RX0 = some m.cls := hown
  have hl : lv_has ls 2 [(0, .ref (a0 0)), (1, .int x1)] := hl
  have hP : va_P D vwCl [((a0 0), .inr (0, [.int (s0.1 0), .int (s0.1 1), .int (s0.1 2), .int (s0.1 3), .int (s0.1 4), .int (s0.1 5), .ref (a0 1), .ref (a0 2), .ref (a0 3), .ref (a0 4), .ref (a0 5), .ref (a0 6), .ref (a0 7), .ref (a0 8), .ref (a0 9), .ref (a0 10), .ref (a0 11), .ref (a0 12)])), ((a0 1), .inl (q 0, 4, .inl (s0.2.1 0))), ((a0 2), .inl (q 0, 4, .inl (s0.2.1 1))), ((a0 3), .inl (q 0, 160, .inl (s0.2.1 2))), ((a0 4), .inl (q 0, 40, .inl (s0.2.1 3))), ((a0 5), .inl (q 0, 40, .inl (s0.2.1 4))), ((a0 6), .inl (q 0, 40, .inl (s0.2.1 5))), ((a0 7), .inl (q 0, 40, .inl (s0.2.1 6))), ((a0 8), .inl (q 0, 40, .inl (s0.2.1 7))), ((a0 9), .inl (q 0, 40, .inl (s0.2.1 8))), ((a0 10), .inl (q 0, 40, .inl (s0.2.1 9))), ((a0 11), .inl (q 1, 40, .inr (.inl s0.2.2.1))), ((a0 12), .inl (q 0, s0.2.2.2.1, .inl s0.2.2.2.2))] s.heap := hP
  unfold wp_X0_showsWrong at h
  refine lv_aload_n hx hb dX0_showsWrong_0 rfl (lv_at hl 0 rfl) ?_
  refine lv_iload_n hx hb dX0_showsWrong_1 rfl (lv_at hl 1 rfl) ?_
  refine lv_aload_n hx hb dX0_showsWrong_2 rfl (lv_at hl 0 rfl) ?_
  refine fl_get (C := RX0) (T := TX0) (N := 18) (ci := 0) (v := .ref (a0 5)) hx hb ht in_X0 hown hK hP 0 rfl rfl 10 (by decide) mw_194 rfl dX0_showsWrong_3 ?_
  refine lv_iload_n hx hb dX0_showsWrong_6 rfl (lv_at hl 1 rfl) ?_
  obtain ⟨g_1, h⟩ := h
  refine va_iald hx hb hK hP 5 0 rfl rfl g_1 dX0_showsWrong_7 ?_
  refine vp_callSi (rd_wV (wc := bd_w a0 q s0) (As := [.int x1, .int ((s0.2.1 4) (Int32.toNatClampNeg x1))]) (rest := []) hx hb hml hown ht (c2_X0_signOn h) wd_X0_signOn mw_664 hQ hV va_S.rf (hP.sub [0, 1, 2, 3, 4, 5, 6, 7, 8, 9, 10, 11, 12] rfl) rfl rfl rfl hl.1 rfl (Nat.le_of_ble_eq_true rfl) dX0_showsWrong_8 ⟨Nat.le_of_ble_eq_true rfl, Nat.le_of_ble_eq_true rfl, rfl, rfl⟩ ⟨Nat.le_of_ble_eq_true rfl, Nat.le_of_ble_eq_true rfl⟩) (fun r_2 h => ?_)
  try dsimp only at h
  refine lv_aload_n hx hb dX0_showsWrong_11 rfl (lv_at hl 0 rfl) ?_
  refine lv_iload_n hx hb dX0_showsWrong_12 rfl (lv_at hl 1 rfl) ?_
  refine vp_callSi (rd_wV (wc := bd_w a0 q s0) (As := [.int x1]) (rest := [.int r_2]) hx hb hml hown ht (c2_X0_wantedSign h) wd_X0_wantedSign mw_660 hQ hV va_S.rf (hP.sub [0, 1, 2, 3, 4, 5, 6, 7, 8, 9, 10, 11, 12] rfl) rfl rfl rfl hl.1 rfl (Nat.le_of_ble_eq_true rfl) dX0_showsWrong_13 ⟨Nat.le_of_ble_eq_true rfl, Nat.le_of_ble_eq_true rfl, rfl, rfl⟩ ⟨Nat.le_of_ble_eq_true rfl, Nat.le_of_ble_eq_true rfl⟩) (fun r_4 h => ?_)
  try dsimp only at h
  refine lv_icmp_eq (tgt := 23) hx hb dX0_showsWrong_16 (by decide) (fun c_6 => ?_) (fun c_6 => ?_)
  · replace h := h.1 c_6
    refine lv_iconst (v := 0) hx hb dX0_showsWrong_23 (by decide) ?_
    exact rd_zret hx hb hr hk rfl h dX0_showsWrong_24
  · replace h := h.2 c_6
    refine lv_iconst (v := 1) hx hb dX0_showsWrong_19 (by decide) ?_
    refine lv_goto (tgt := 24) hx hb dX0_showsWrong_20 (by decide) ?_
    exact rd_zret hx hb hr hk rfl h dX0_showsWrong_24

def wp_X0_wrongCount_L4 (s0 : Bd) (post : Int32 → Prop) (e29 : Int32 → Int32 → Prop) : Nat → Int32 → Int32 → Prop
  | 0, _, _ => False
  | n4 + 1, z1, z2 => wp_X0_cells (fun r_1 => ((r_1 ≤ z2 → e29 z1 z2) ∧ (¬ r_1 ≤ z2 → wp_X0_showsWrong (fun r_4 => ((r_4 = 0 → wp_X0_wrongCount_L4 s0 post e29 n4 z1 (z2 + 1)) ∧ (¬ r_4 = 0 → wp_X0_wrongCount_L4 s0 post e29 n4 (z1 + 1) (z2 + 1)))) s0 z2))) s0
def wp_X0_wrongCount (post : Int32 → Prop) (s0 : Bd) : Prop := (∃ n4, wp_X0_wrongCount_L4 s0 post (fun z1 z2 => post z1) n4 0 0)
set_option maxHeartbeats 4000000 in
set_option maxRecDepth 100000 in
theorem c2_X0_wrongCount {l : Launch} {D : va_G} {q : Nat → ClassId} {a0 : Nat → Nat} {s0 : Bd} {post : Int32 → Prop} (h : wp_X0_wrongCount post s0) : Met l yX0_wrongCount (Cond.code yX0_wrongCount cX0_wrongCount 3 (some .int) :: w_all) ({ frames := 4, cells := 0, slots := 0, locals := 86 } : Room) (rd_P D q [.ref (a0 0)] (bd_w a0 q s0)) (vp_Si post) 0 0 (fun _ => False) := by
  refine rd_start (by decide) (Nat.le_of_ble_eq_true rfl) ?_
  intro p e s m below meth c ls hx hb hr hml hown ht hk hP hQ hV hl
  have hK := hQ.1
  have hown : s.vm.findClass RX0 = some m.cls := hown
  have hl : lv_has ls 3 [(0, .ref (a0 0))] := hl
  have hP : va_P D vwCl [((a0 0), .inr (0, [.int (s0.1 0), .int (s0.1 1), .int (s0.1 2), .int (s0.1 3), .int (s0.1 4), .int (s0.1 5), .ref (a0 1), .ref (a0 2), .ref (a0 3), .ref (a0 4), .ref (a0 5), .ref (a0 6), .ref (a0 7), .ref (a0 8), .ref (a0 9), .ref (a0 10), .ref (a0 11), .ref (a0 12)])), ((a0 1), .inl (q 0, 4, .inl (s0.2.1 0))), ((a0 2), .inl (q 0, 4, .inl (s0.2.1 1))), ((a0 3), .inl (q 0, 160, .inl (s0.2.1 2))), ((a0 4), .inl (q 0, 40, .inl (s0.2.1 3))), ((a0 5), .inl (q 0, 40, .inl (s0.2.1 4))), ((a0 6), .inl (q 0, 40, .inl (s0.2.1 5))), ((a0 7), .inl (q 0, 40, .inl (s0.2.1 6))), ((a0 8), .inl (q 0, 40, .inl (s0.2.1 7))), ((a0 9), .inl (q 0, 40, .inl (s0.2.1 8))), ((a0 10), .inl (q 0, 40, .inl (s0.2.1 9))), ((a0 11), .inl (q 1, 40, .inr (.inl s0.2.2.1))), ((a0 12), .inl (q 0, s0.2.2.2.1, .inl s0.2.2.2.2))] s.heap := hP
  unfold wp_X0_wrongCount at h
  refine lv_iconst (v := 0) hx hb dX0_wrongCount_0 (by decide) ?_
  refine lv_istore_n (lv' := [(1, .int 0), (0, .ref (a0 0))]) hx hb dX0_wrongCount_1 rfl hl (by decide) rfl (fun ls hl => ?_)
  refine lv_iconst (v := 0) hx hb dX0_wrongCount_2 (by decide) ?_
  refine lv_istore_n (lv' := [(2, .int 0), (1, .int 0), (0, .ref (a0 0))]) hx hb dX0_wrongCount_3 rfl hl (by decide) rfl (fun ls hl => ?_)
  have lp4 : ∀ (e29 : Int32 → Int32 → Prop) (k29 : ∀ (z1 : Int32) (z2 : Int32) (ls : Array Slot), e29 z1 z2 → lv_has ls 3 [(1, .int z1), (2, .int z2), (0, .ref (a0 0))] → W p l e ({ frames := 4, cells := 0, slots := 0, locals := 86 } : Room) s m [.ref (a0 0)].toArray below meth c s.heap [] 0 0 (MQ below (vp_Si post) [.ref (a0 0)].toArray s 0 0 (fun _ => False)) (F0 m 29 ls [])) (n : Nat) (z1 : Int32) (z2 : Int32) (ls : Array Slot), wp_X0_wrongCount_L4 s0 post e29 n z1 z2 → lv_has ls 3 [(1, .int z1), (2, .int z2), (0, .ref (a0 0))] → W p l e ({ frames := 4, cells := 0, slots := 0, locals := 86 } : Room) s m [.ref (a0 0)].toArray below meth c s.heap [] 0 0 (MQ below (vp_Si post) [.ref (a0 0)].toArray s 0 0 (fun _ => False)) (F0 m 4 ls []) := by
    intro e29 k29 n
    induction n with
    | zero =>
      intro z1 z2 ls h
      exact h.elim
    | succ n ih =>
      intro z1 z2 ls h hl
      unfold wp_X0_wrongCount_L4 at h
      refine lv_iload_n hx hb dX0_wrongCount_4 rfl (lv_at hl 1 rfl) ?_
      refine lv_aload_n hx hb dX0_wrongCount_5 rfl (lv_at hl 2 rfl) ?_
      refine vp_callSi (rd_wV (wc := bd_w a0 q s0) (As := []) (rest := [.int z2]) hx hb hml hown ht (c2_X0_cells h) wd_X0_cells mw_588 hQ hV va_S.rf (hP.sub [0, 1, 2, 3, 4, 5, 6, 7, 8, 9, 10, 11, 12] rfl) rfl rfl rfl hl.1 rfl (Nat.le_of_ble_eq_true rfl) dX0_wrongCount_6 ⟨Nat.le_of_ble_eq_true rfl, Nat.le_of_ble_eq_true rfl, rfl, rfl⟩ ⟨Nat.le_of_ble_eq_true rfl, Nat.le_of_ble_eq_true rfl⟩) (fun r_1 h => ?_)
      try dsimp only at h
      refine lv_icmp_ge (tgt := 29) hx hb dX0_wrongCount_9 (by decide) (fun c_3 => ?_) (fun c_3 => ?_)
      · replace h := h.1 c_3
        exact k29 _ _ ls h (lv_sub hl [0, 1, 2] rfl)
      · replace h := h.2 c_3
        refine lv_aload_n hx hb dX0_wrongCount_12 rfl (lv_at hl 2 rfl) ?_
        refine lv_iload_n hx hb dX0_wrongCount_13 rfl (lv_at hl 1 rfl) ?_
        refine vp_callSi (rd_wV (wc := bd_w a0 q s0) (As := [.int z2]) (rest := []) hx hb hml hown ht (c2_X0_showsWrong h) wd_X0_showsWrong mw_988 hQ hV va_S.rf (hP.sub [0, 1, 2, 3, 4, 5, 6, 7, 8, 9, 10, 11, 12] rfl) rfl rfl rfl hl.1 rfl (Nat.le_of_ble_eq_true rfl) dX0_wrongCount_14 ⟨Nat.le_of_ble_eq_true rfl, Nat.le_of_ble_eq_true rfl, rfl, rfl⟩ ⟨Nat.le_of_ble_eq_true rfl, Nat.le_of_ble_eq_true rfl⟩) (fun r_4 h => ?_)
        try dsimp only at h
        refine lv_if_eq (tgt := 23) hx hb dX0_wrongCount_17 (by decide) (fun c_6 => ?_) (fun c_6 => ?_)
        · replace h := h.1 c_6
          refine lv_iinc (v := (z2 + 1)) (lv' := [(2, .int (z2 + 1)), (1, .int z1), (0, .ref (a0 0))]) hx hb dX0_wrongCount_23 hl (k := 1) rfl rfl (by decide) rfl (fun ls hl => ?_)
          refine lv_goto (tgt := 4) hx hb dX0_wrongCount_26 (by decide) ?_
          exact ih _ _ ls h (lv_sub hl [1, 0, 2] rfl)
        · replace h := h.2 c_6
          refine lv_iinc (v := (z1 + 1)) (lv' := [(1, .int (z1 + 1)), (2, .int z2), (0, .ref (a0 0))]) hx hb dX0_wrongCount_20 hl (k := 0) rfl rfl (by decide) rfl (fun ls hl => ?_)
          refine lv_iinc (v := (z2 + 1)) (lv' := [(2, .int (z2 + 1)), (1, .int (z1 + 1)), (0, .ref (a0 0))]) hx hb dX0_wrongCount_23 hl (k := 1) rfl rfl (by decide) rfl (fun ls hl => ?_)
          refine lv_goto (tgt := 4) hx hb dX0_wrongCount_26 (by decide) ?_
          exact ih _ _ ls h (lv_sub hl [1, 0, 2] rfl)
  obtain ⟨n4, h⟩ := h
  refine lp4 _ ?_ n4 _ _ ls h (lv_sub hl [1, 0, 2] rfl)
  · intro z1 z2 ls h hl
    try dsimp only at h
    refine lv_iload_n hx hb dX0_wrongCount_29 rfl (lv_at hl 0 rfl) ?_
    exact rd_iret hx hb hr hk h dX0_wrongCount_30

def wp_X0_sumOf_8_L4 (s0 : Bd) (post : Int32 → Prop) (e30 : Int32 → Int32 → Prop) : Nat → Int32 → Int32 → Prop
  | 0, _, _ => False
  | n4 + 1, z2, z3 => wp_X0_cells (fun r_1 => ((r_1 ≤ z3 → e30 z2 z3) ∧ (¬ r_1 ≤ z3 → ((40 ≤ z3 → e30 z2 z3) ∧ (¬ 40 ≤ z3 → vp_in z3 40 ∧ wp_X0_sumOf_8_L4 s0 post e30 n4 (z2 + ((s0.2.1 8) (Int32.toNatClampNeg z3))) (z3 + 1)))))) s0
def wp_X0_sumOf_8 (post : Int32 → Prop) (s0 : Bd) : Prop := (∃ n4, wp_X0_sumOf_8_L4 s0 post (fun z2 z3 => post z2) n4 0 0)
set_option maxHeartbeats 4000000 in
set_option maxRecDepth 100000 in
theorem c2_X0_sumOf_8 {l : Launch} {D : va_G} {q : Nat → ClassId} {a0 : Nat → Nat} {s0 : Bd} {post : Int32 → Prop} (h : wp_X0_sumOf_8 post s0) : Met l yX0_sumOf (Cond.code yX0_sumOf cX0_sumOf 4 (some .int) :: w_all) ({ frames := 1, cells := 0, slots := 0, locals := 20 } : Room) (rd_P D q [.ref (a0 0), .ref (a0 9)] (bd_w a0 q s0)) (vp_Si post) 0 0 (fun _ => False) := by
  refine rd_start (by decide) (Nat.le_of_ble_eq_true rfl) ?_
  intro p e s m below meth c ls hx hb hr hml hown ht hk hP hQ hV hl
  have hK := hQ.1
  have hown : s.vm.findClass RX0 = some m.cls := hown
  have hl : lv_has ls 4 [(0, .ref (a0 0)), (1, .ref (a0 9))] := hl
  have hP : va_P D vwCl [((a0 0), .inr (0, [.int (s0.1 0), .int (s0.1 1), .int (s0.1 2), .int (s0.1 3), .int (s0.1 4), .int (s0.1 5), .ref (a0 1), .ref (a0 2), .ref (a0 3), .ref (a0 4), .ref (a0 5), .ref (a0 6), .ref (a0 7), .ref (a0 8), .ref (a0 9), .ref (a0 10), .ref (a0 11), .ref (a0 12)])), ((a0 1), .inl (q 0, 4, .inl (s0.2.1 0))), ((a0 2), .inl (q 0, 4, .inl (s0.2.1 1))), ((a0 3), .inl (q 0, 160, .inl (s0.2.1 2))), ((a0 4), .inl (q 0, 40, .inl (s0.2.1 3))), ((a0 5), .inl (q 0, 40, .inl (s0.2.1 4))), ((a0 6), .inl (q 0, 40, .inl (s0.2.1 5))), ((a0 7), .inl (q 0, 40, .inl (s0.2.1 6))), ((a0 8), .inl (q 0, 40, .inl (s0.2.1 7))), ((a0 9), .inl (q 0, 40, .inl (s0.2.1 8))), ((a0 10), .inl (q 0, 40, .inl (s0.2.1 9))), ((a0 11), .inl (q 1, 40, .inr (.inl s0.2.2.1))), ((a0 12), .inl (q 0, s0.2.2.2.1, .inl s0.2.2.2.2))] s.heap := hP
  unfold wp_X0_sumOf_8 at h
  refine lv_iconst (v := 0) hx hb dX0_sumOf_0 (by decide) ?_
  refine lv_istore_n (lv' := [(2, .int 0), (0, .ref (a0 0)), (1, .ref (a0 9))]) hx hb dX0_sumOf_1 rfl hl (by decide) rfl (fun ls hl => ?_)
  refine lv_iconst (v := 0) hx hb dX0_sumOf_2 (by decide) ?_
  refine lv_istore_n (lv' := [(3, .int 0), (2, .int 0), (0, .ref (a0 0)), (1, .ref (a0 9))]) hx hb dX0_sumOf_3 rfl hl (by decide) rfl (fun ls hl => ?_)
  have lp4 : ∀ (e30 : Int32 → Int32 → Prop) (k30 : ∀ (z2 : Int32) (z3 : Int32) (ls : Array Slot), e30 z2 z3 → lv_has ls 4 [(2, .int z2), (3, .int z3), (0, .ref (a0 0)), (1, .ref (a0 9))] → W p l e ({ frames := 1, cells := 0, slots := 0, locals := 20 } : Room) s m [.ref (a0 0), .ref (a0 9)].toArray below meth c s.heap [] 0 0 (MQ below (vp_Si post) [.ref (a0 0), .ref (a0 9)].toArray s 0 0 (fun _ => False)) (F0 m 30 ls [])) (n : Nat) (z2 : Int32) (z3 : Int32) (ls : Array Slot), wp_X0_sumOf_8_L4 s0 post e30 n z2 z3 → lv_has ls 4 [(2, .int z2), (3, .int z3), (0, .ref (a0 0)), (1, .ref (a0 9))] → W p l e ({ frames := 1, cells := 0, slots := 0, locals := 20 } : Room) s m [.ref (a0 0), .ref (a0 9)].toArray below meth c s.heap [] 0 0 (MQ below (vp_Si post) [.ref (a0 0), .ref (a0 9)].toArray s 0 0 (fun _ => False)) (F0 m 4 ls []) := by
    intro e30 k30 n
    induction n with
    | zero =>
      intro z2 z3 ls h
      exact h.elim
    | succ n ih =>
      intro z2 z3 ls h hl
      unfold wp_X0_sumOf_8_L4 at h
      refine lv_iload_n hx hb dX0_sumOf_4 rfl (lv_at hl 1 rfl) ?_
      refine lv_aload_n hx hb dX0_sumOf_5 rfl (lv_at hl 2 rfl) ?_
      refine vp_callSi (rd_wV (wc := bd_w a0 q s0) (As := []) (rest := [.int z3]) hx hb hml hown ht (c2_X0_cells h) wd_X0_cells mw_588 hQ hV va_S.rf (hP.sub [0, 1, 2, 3, 4, 5, 6, 7, 8, 9, 10, 11, 12] rfl) rfl rfl rfl hl.1 rfl (Nat.le_of_ble_eq_true rfl) dX0_sumOf_6 ⟨Nat.le_of_ble_eq_true rfl, Nat.le_of_ble_eq_true rfl, rfl, rfl⟩ ⟨Nat.le_of_ble_eq_true rfl, Nat.le_of_ble_eq_true rfl⟩) (fun r_1 h => ?_)
      try dsimp only at h
      refine lv_icmp_ge (tgt := 30) hx hb dX0_sumOf_9 (by decide) (fun c_3 => ?_) (fun c_3 => ?_)
      · replace h := h.1 c_3
        exact k30 _ _ ls h (lv_sub hl [0, 1, 2, 3] rfl)
      · replace h := h.2 c_3
        refine lv_iload_n hx hb dX0_sumOf_12 rfl (lv_at hl 1 rfl) ?_
        refine lv_aload_n hx hb dX0_sumOf_13 rfl (lv_at hl 3 rfl) ?_
        refine va_alen (v := 40) hx hb hK hP 9 0 rfl rfl rfl dX0_sumOf_14 ?_
        refine lv_icmp_ge (tgt := 30) hx hb dX0_sumOf_15 (by decide) (fun c_4 => ?_) (fun c_4 => ?_)
        · replace h := h.1 c_4
          exact k30 _ _ ls h (lv_sub hl [0, 1, 2, 3] rfl)
        · replace h := h.2 c_4
          refine lv_iload_n hx hb dX0_sumOf_18 rfl (lv_at hl 0 rfl) ?_
          refine lv_aload_n hx hb dX0_sumOf_19 rfl (lv_at hl 3 rfl) ?_
          refine lv_iload_n hx hb dX0_sumOf_20 rfl (lv_at hl 1 rfl) ?_
          obtain ⟨g_5, h⟩ := h
          refine va_iald hx hb hK hP 9 0 rfl rfl g_5 dX0_sumOf_21 ?_
          refine lv_iadd hx hb dX0_sumOf_22 ?_
          refine lv_istore_n (lv' := [(2, .int (z2 + ((s0.2.1 8) (Int32.toNatClampNeg z3)))), (3, .int z3), (0, .ref (a0 0)), (1, .ref (a0 9))]) hx hb dX0_sumOf_23 rfl hl (by decide) rfl (fun ls hl => ?_)
          refine lv_iinc (v := (z3 + 1)) (lv' := [(3, .int (z3 + 1)), (2, .int (z2 + ((s0.2.1 8) (Int32.toNatClampNeg z3)))), (0, .ref (a0 0)), (1, .ref (a0 9))]) hx hb dX0_sumOf_24 hl (k := 1) rfl rfl (by decide) rfl (fun ls hl => ?_)
          refine lv_goto (tgt := 4) hx hb dX0_sumOf_27 (by decide) ?_
          exact ih _ _ ls h (lv_sub hl [1, 0, 2, 3] rfl)
  obtain ⟨n4, h⟩ := h
  refine lp4 _ ?_ n4 _ _ ls h (lv_sub hl [1, 0, 2, 3] rfl)
  · intro z2 z3 ls h hl
    try dsimp only at h
    refine lv_iload_n hx hb dX0_sumOf_30 rfl (lv_at hl 0 rfl) ?_
    exact rd_iret hx hb hr hk h dX0_sumOf_31

def wp_X0_sumOf_9_L4 (s0 : Bd) (post : Int32 → Prop) (e30 : Int32 → Int32 → Prop) : Nat → Int32 → Int32 → Prop
  | 0, _, _ => False
  | n4 + 1, z2, z3 => wp_X0_cells (fun r_1 => ((r_1 ≤ z3 → e30 z2 z3) ∧ (¬ r_1 ≤ z3 → ((40 ≤ z3 → e30 z2 z3) ∧ (¬ 40 ≤ z3 → vp_in z3 40 ∧ wp_X0_sumOf_9_L4 s0 post e30 n4 (z2 + ((s0.2.1 9) (Int32.toNatClampNeg z3))) (z3 + 1)))))) s0
def wp_X0_sumOf_9 (post : Int32 → Prop) (s0 : Bd) : Prop := (∃ n4, wp_X0_sumOf_9_L4 s0 post (fun z2 z3 => post z2) n4 0 0)
set_option maxHeartbeats 4000000 in
set_option maxRecDepth 100000 in
theorem c2_X0_sumOf_9 {l : Launch} {D : va_G} {q : Nat → ClassId} {a0 : Nat → Nat} {s0 : Bd} {post : Int32 → Prop} (h : wp_X0_sumOf_9 post s0) : Met l yX0_sumOf (Cond.code yX0_sumOf cX0_sumOf 4 (some .int) :: w_all) ({ frames := 1, cells := 0, slots := 0, locals := 20 } : Room) (rd_P D q [.ref (a0 0), .ref (a0 10)] (bd_w a0 q s0)) (vp_Si post) 0 0 (fun _ => False) := by
  refine rd_start (by decide) (Nat.le_of_ble_eq_true rfl) ?_
  intro p e s m below meth c ls hx hb hr hml hown ht hk hP hQ hV hl
  have hK := hQ.1
  have hown : s.vm.findClass RX0 = some m.cls := hown
  have hl : lv_has ls 4 [(0, .ref (a0 0)), (1, .ref (a0 10))] := hl
  have hP : va_P D vwCl [((a0 0), .inr (0, [.int (s0.1 0), .int (s0.1 1), .int (s0.1 2), .int (s0.1 3), .int (s0.1 4), .int (s0.1 5), .ref (a0 1), .ref (a0 2), .ref (a0 3), .ref (a0 4), .ref (a0 5), .ref (a0 6), .ref (a0 7), .ref (a0 8), .ref (a0 9), .ref (a0 10), .ref (a0 11), .ref (a0 12)])), ((a0 1), .inl (q 0, 4, .inl (s0.2.1 0))), ((a0 2), .inl (q 0, 4, .inl (s0.2.1 1))), ((a0 3), .inl (q 0, 160, .inl (s0.2.1 2))), ((a0 4), .inl (q 0, 40, .inl (s0.2.1 3))), ((a0 5), .inl (q 0, 40, .inl (s0.2.1 4))), ((a0 6), .inl (q 0, 40, .inl (s0.2.1 5))), ((a0 7), .inl (q 0, 40, .inl (s0.2.1 6))), ((a0 8), .inl (q 0, 40, .inl (s0.2.1 7))), ((a0 9), .inl (q 0, 40, .inl (s0.2.1 8))), ((a0 10), .inl (q 0, 40, .inl (s0.2.1 9))), ((a0 11), .inl (q 1, 40, .inr (.inl s0.2.2.1))), ((a0 12), .inl (q 0, s0.2.2.2.1, .inl s0.2.2.2.2))] s.heap := hP
  unfold wp_X0_sumOf_9 at h
  refine lv_iconst (v := 0) hx hb dX0_sumOf_0 (by decide) ?_
  refine lv_istore_n (lv' := [(2, .int 0), (0, .ref (a0 0)), (1, .ref (a0 10))]) hx hb dX0_sumOf_1 rfl hl (by decide) rfl (fun ls hl => ?_)
  refine lv_iconst (v := 0) hx hb dX0_sumOf_2 (by decide) ?_
  refine lv_istore_n (lv' := [(3, .int 0), (2, .int 0), (0, .ref (a0 0)), (1, .ref (a0 10))]) hx hb dX0_sumOf_3 rfl hl (by decide) rfl (fun ls hl => ?_)
  have lp4 : ∀ (e30 : Int32 → Int32 → Prop) (k30 : ∀ (z2 : Int32) (z3 : Int32) (ls : Array Slot), e30 z2 z3 → lv_has ls 4 [(2, .int z2), (3, .int z3), (0, .ref (a0 0)), (1, .ref (a0 10))] → W p l e ({ frames := 1, cells := 0, slots := 0, locals := 20 } : Room) s m [.ref (a0 0), .ref (a0 10)].toArray below meth c s.heap [] 0 0 (MQ below (vp_Si post) [.ref (a0 0), .ref (a0 10)].toArray s 0 0 (fun _ => False)) (F0 m 30 ls [])) (n : Nat) (z2 : Int32) (z3 : Int32) (ls : Array Slot), wp_X0_sumOf_9_L4 s0 post e30 n z2 z3 → lv_has ls 4 [(2, .int z2), (3, .int z3), (0, .ref (a0 0)), (1, .ref (a0 10))] → W p l e ({ frames := 1, cells := 0, slots := 0, locals := 20 } : Room) s m [.ref (a0 0), .ref (a0 10)].toArray below meth c s.heap [] 0 0 (MQ below (vp_Si post) [.ref (a0 0), .ref (a0 10)].toArray s 0 0 (fun _ => False)) (F0 m 4 ls []) := by
    intro e30 k30 n
    induction n with
    | zero =>
      intro z2 z3 ls h
      exact h.elim
    | succ n ih =>
      intro z2 z3 ls h hl
      unfold wp_X0_sumOf_9_L4 at h
      refine lv_iload_n hx hb dX0_sumOf_4 rfl (lv_at hl 1 rfl) ?_
      refine lv_aload_n hx hb dX0_sumOf_5 rfl (lv_at hl 2 rfl) ?_
      refine vp_callSi (rd_wV (wc := bd_w a0 q s0) (As := []) (rest := [.int z3]) hx hb hml hown ht (c2_X0_cells h) wd_X0_cells mw_588 hQ hV va_S.rf (hP.sub [0, 1, 2, 3, 4, 5, 6, 7, 8, 9, 10, 11, 12] rfl) rfl rfl rfl hl.1 rfl (Nat.le_of_ble_eq_true rfl) dX0_sumOf_6 ⟨Nat.le_of_ble_eq_true rfl, Nat.le_of_ble_eq_true rfl, rfl, rfl⟩ ⟨Nat.le_of_ble_eq_true rfl, Nat.le_of_ble_eq_true rfl⟩) (fun r_1 h => ?_)
      try dsimp only at h
      refine lv_icmp_ge (tgt := 30) hx hb dX0_sumOf_9 (by decide) (fun c_3 => ?_) (fun c_3 => ?_)
      · replace h := h.1 c_3
        exact k30 _ _ ls h (lv_sub hl [0, 1, 2, 3] rfl)
      · replace h := h.2 c_3
        refine lv_iload_n hx hb dX0_sumOf_12 rfl (lv_at hl 1 rfl) ?_
        refine lv_aload_n hx hb dX0_sumOf_13 rfl (lv_at hl 3 rfl) ?_
        refine va_alen (v := 40) hx hb hK hP 10 0 rfl rfl rfl dX0_sumOf_14 ?_
        refine lv_icmp_ge (tgt := 30) hx hb dX0_sumOf_15 (by decide) (fun c_4 => ?_) (fun c_4 => ?_)
        · replace h := h.1 c_4
          exact k30 _ _ ls h (lv_sub hl [0, 1, 2, 3] rfl)
        · replace h := h.2 c_4
          refine lv_iload_n hx hb dX0_sumOf_18 rfl (lv_at hl 0 rfl) ?_
          refine lv_aload_n hx hb dX0_sumOf_19 rfl (lv_at hl 3 rfl) ?_
          refine lv_iload_n hx hb dX0_sumOf_20 rfl (lv_at hl 1 rfl) ?_
          obtain ⟨g_5, h⟩ := h
          refine va_iald hx hb hK hP 10 0 rfl rfl g_5 dX0_sumOf_21 ?_
          refine lv_iadd hx hb dX0_sumOf_22 ?_
          refine lv_istore_n (lv' := [(2, .int (z2 + ((s0.2.1 9) (Int32.toNatClampNeg z3)))), (3, .int z3), (0, .ref (a0 0)), (1, .ref (a0 10))]) hx hb dX0_sumOf_23 rfl hl (by decide) rfl (fun ls hl => ?_)
          refine lv_iinc (v := (z3 + 1)) (lv' := [(3, .int (z3 + 1)), (2, .int (z2 + ((s0.2.1 9) (Int32.toNatClampNeg z3)))), (0, .ref (a0 0)), (1, .ref (a0 10))]) hx hb dX0_sumOf_24 hl (k := 1) rfl rfl (by decide) rfl (fun ls hl => ?_)
          refine lv_goto (tgt := 4) hx hb dX0_sumOf_27 (by decide) ?_
          exact ih _ _ ls h (lv_sub hl [1, 0, 2, 3] rfl)
  obtain ⟨n4, h⟩ := h
  refine lp4 _ ?_ n4 _ _ ls h (lv_sub hl [1, 0, 2, 3] rfl)
  · intro z2 z3 ls h hl
    try dsimp only at h
    refine lv_iload_n hx hb dX0_sumOf_30 rfl (lv_at hl 0 rfl) ?_
    exact rd_iret hx hb hr hk h dX0_sumOf_31

def wp_X0_swapSigns (post : Bd → Prop) (s0 : Bd) (x1 : Int32) (x2 : Int32) (x3 : Int32) : Prop := wp_X0_isMovable (fun r_1 => ((r_1 = 0 → post s0) ∧ (¬ r_1 = 0 → wp_X0_isMovable (fun r_4 => ((¬ r_4 = 0 → vp_in ((x1 * 40) + x2) 160 ∧ vp_in ((x1 * 40) + x3) 160 ∧ vp_in ((x1 * 40) + x2) 160 ∧ vp_in ((x1 * 40) + x3) 160 ∧ post (s0.1, (va_up s0.2.1 2 (upd (upd (s0.2.1 2) (Int32.toNatClampNeg ((x1 * 40) + x2)) ((s0.2.1 2) (Int32.toNatClampNeg ((x1 * 40) + x3)))) (Int32.toNatClampNeg ((x1 * 40) + x3)) ((s0.2.1 2) (Int32.toNatClampNeg ((x1 * 40) + x2))))), s0.2.2.1, s0.2.2.2.1, s0.2.2.2.2)) ∧ (r_4 = 0 → post s0))) s0 x1 x3))) s0 x1 x2
set_option maxHeartbeats 4000000 in
set_option maxRecDepth 100000 in
theorem c2_X0_swapSigns {l : Launch} {D : va_G} {q : Nat → ClassId} {sz : Nat} {a0 : Nat → Nat} {s0 : Bd} {x1 : Int32} {x2 : Int32} {x3 : Int32} {post : Bd → Prop} (h : wp_X0_swapSigns post s0 x1 x2 x3) : Met l yX0_swapSigns (Cond.code yX0_swapSigns cX0_swapSigns 6 none :: w_all) ({ frames := 2, cells := 0, slots := 0, locals := 43 } : Room) (mt_P D q [.ref (a0 0), .int x1, .int x2, .int x3] (bd_w a0 q s0) sz) (va_Qv (fun u : Bd => post u) (mt_B D (bd_w a0 q s0) sz (fun u : Bd => bd_w a0 q u)) (va_A (bd_w a0 q s0) sz)) 0 0 (va_A (bd_w a0 q s0) sz) := by
  refine mt_start (by decide) (Nat.le_of_ble_eq_true rfl) ?_
  intro p e s m below meth c ls hx hb hr hml hown ht hk hin hP hQ hD hA hS hV hl
  have hK := hQ.1
  have hown : s.vm.findClass RX0 = some m.cls := hown
  have hl : lv_has ls 6 [(0, .ref (a0 0)), (1, .int x1), (2, .int x2), (3, .int x3)] := hl
  have hP : va_P D vwCl [((a0 0), .inr (0, [.int (s0.1 0), .int (s0.1 1), .int (s0.1 2), .int (s0.1 3), .int (s0.1 4), .int (s0.1 5), .ref (a0 1), .ref (a0 2), .ref (a0 3), .ref (a0 4), .ref (a0 5), .ref (a0 6), .ref (a0 7), .ref (a0 8), .ref (a0 9), .ref (a0 10), .ref (a0 11), .ref (a0 12)])), ((a0 1), .inl (q 0, 4, .inl (s0.2.1 0))), ((a0 2), .inl (q 0, 4, .inl (s0.2.1 1))), ((a0 3), .inl (q 0, 160, .inl (s0.2.1 2))), ((a0 4), .inl (q 0, 40, .inl (s0.2.1 3))), ((a0 5), .inl (q 0, 40, .inl (s0.2.1 4))), ((a0 6), .inl (q 0, 40, .inl (s0.2.1 5))), ((a0 7), .inl (q 0, 40, .inl (s0.2.1 6))), ((a0 8), .inl (q 0, 40, .inl (s0.2.1 7))), ((a0 9), .inl (q 0, 40, .inl (s0.2.1 8))), ((a0 10), .inl (q 0, 40, .inl (s0.2.1 9))), ((a0 11), .inl (q 1, 40, .inr (.inl s0.2.2.1))), ((a0 12), .inl (q 0, s0.2.2.2.1, .inl s0.2.2.2.2))] s.heap := hP
  have hD : va_D _ [((a0 0), .inr (0, [.int (s0.1 0), .int (s0.1 1), .int (s0.1 2), .int (s0.1 3), .int (s0.1 4), .int (s0.1 5), .ref (a0 1), .ref (a0 2), .ref (a0 3), .ref (a0 4), .ref (a0 5), .ref (a0 6), .ref (a0 7), .ref (a0 8), .ref (a0 9), .ref (a0 10), .ref (a0 11), .ref (a0 12)])), ((a0 1), .inl (q 0, 4, .inl (s0.2.1 0))), ((a0 2), .inl (q 0, 4, .inl (s0.2.1 1))), ((a0 3), .inl (q 0, 160, .inl (s0.2.1 2))), ((a0 4), .inl (q 0, 40, .inl (s0.2.1 3))), ((a0 5), .inl (q 0, 40, .inl (s0.2.1 4))), ((a0 6), .inl (q 0, 40, .inl (s0.2.1 5))), ((a0 7), .inl (q 0, 40, .inl (s0.2.1 6))), ((a0 8), .inl (q 0, 40, .inl (s0.2.1 7))), ((a0 9), .inl (q 0, 40, .inl (s0.2.1 8))), ((a0 10), .inl (q 0, 40, .inl (s0.2.1 9))), ((a0 11), .inl (q 1, 40, .inr (.inl s0.2.2.1))), ((a0 12), .inl (q 0, s0.2.2.2.1, .inl s0.2.2.2.2))] := hD
  unfold wp_X0_swapSigns at h
  refine lv_aload_n hx hb dX0_swapSigns_0 rfl (lv_at hl 0 rfl) ?_
  refine lv_iload_n hx hb dX0_swapSigns_1 rfl (lv_at hl 1 rfl) ?_
  refine lv_iload_n hx hb dX0_swapSigns_2 rfl (lv_at hl 2 rfl) ?_
  refine vp_callSi (rd_wV (wc := bd_w a0 q s0) (As := [.int x1, .int x2]) (rest := []) hx hb hml hown ht (c2_X0_isMovable h) wd_X0_isMovable mw_780 hQ hV hS (hP.sub [0, 1, 2, 3, 4, 5, 6, 7, 8, 9, 10, 11, 12] rfl) rfl rfl rfl hl.1 rfl (Nat.le_of_ble_eq_true rfl) dX0_swapSigns_3 ⟨Nat.le_of_ble_eq_true rfl, Nat.le_of_ble_eq_true rfl, rfl, rfl⟩ ⟨Nat.le_of_ble_eq_true rfl, Nat.le_of_ble_eq_true rfl⟩) (fun r_1 h => ?_)
  try dsimp only at h
  refine lv_if_eq (tgt := 18) hx hb dX0_swapSigns_6 (by decide) (fun c_3 => ?_) (fun c_3 => ?_)
  · replace h := h.1 c_3
    exact mt_vret s0 hx hb hr hk h (hP.sub (ws' := bd_w a0 q s0) [0, 1, 2, 3, 4, 5, 6, 7, 8, 9, 10, 11, 12] rfl) (hD.sub (ws' := bd_w a0 q s0) [0, 1, 2, 3, 4, 5, 6, 7, 8, 9, 10, 11, 12] (by decide) rfl) hS dX0_swapSigns_18
  · replace h := h.2 c_3
    refine lv_aload_n hx hb dX0_swapSigns_9 rfl (lv_at hl 0 rfl) ?_
    refine lv_iload_n hx hb dX0_swapSigns_10 rfl (lv_at hl 1 rfl) ?_
    refine lv_iload_n hx hb dX0_swapSigns_11 rfl (lv_at hl 3 rfl) ?_
    refine vp_callSi (rd_wV (wc := bd_w a0 q s0) (As := [.int x1, .int x3]) (rest := []) hx hb hml hown ht (c2_X0_isMovable h) wd_X0_isMovable mw_780 hQ hV hS (hP.sub [0, 1, 2, 3, 4, 5, 6, 7, 8, 9, 10, 11, 12] rfl) rfl rfl rfl hl.1 rfl (Nat.le_of_ble_eq_true rfl) dX0_swapSigns_12 ⟨Nat.le_of_ble_eq_true rfl, Nat.le_of_ble_eq_true rfl, rfl, rfl⟩ ⟨Nat.le_of_ble_eq_true rfl, Nat.le_of_ble_eq_true rfl⟩) (fun r_4 h => ?_)
    try dsimp only at h
    refine lv_if_ne (tgt := 19) hx hb dX0_swapSigns_15 (by decide) (fun c_6 => ?_) (fun c_6 => ?_)
    · replace h := h.1 c_6
      refine lv_iload_n hx hb dX0_swapSigns_19 rfl (lv_at hl 1 rfl) ?_
      refine lv_bipush (v := 40) hx hb dX0_swapSigns_20 (by decide) ?_
      refine lv_imul hx hb dX0_swapSigns_22 ?_
      refine lv_istore (lv' := [(4, .int (x1 * 40)), (0, .ref (a0 0)), (1, .int x1), (2, .int x2), (3, .int x3)]) hx hb dX0_swapSigns_23 hl (by decide) rfl (fun ls hl => ?_)
      refine lv_aload_n hx hb dX0_swapSigns_25 rfl (lv_at hl 1 rfl) ?_
      refine fl_get (C := RX0) (T := TX0) (N := 18) (ci := 0) (v := .ref (a0 3)) hx hb ht in_X0 hown hK hP 0 rfl rfl 8 (by decide) mw_191 rfl dX0_swapSigns_26 ?_
      refine lv_iload hx hb dX0_swapSigns_29 (lv_at hl 0 rfl) ?_
      refine lv_iload_n hx hb dX0_swapSigns_31 rfl (lv_at hl 3 rfl) ?_
      refine lv_iadd hx hb dX0_swapSigns_32 ?_
      obtain ⟨g_7, h⟩ := h
      refine va_iald hx hb hK hP 3 0 rfl rfl g_7 dX0_swapSigns_33 ?_
      refine lv_istore (lv' := [(5, .int ((s0.2.1 2) (Int32.toNatClampNeg ((x1 * 40) + x2)))), (4, .int (x1 * 40)), (0, .ref (a0 0)), (1, .int x1), (2, .int x2), (3, .int x3)]) hx hb dX0_swapSigns_34 hl (by decide) rfl (fun ls hl => ?_)
      refine lv_aload_n hx hb dX0_swapSigns_36 rfl (lv_at hl 2 rfl) ?_
      refine fl_get (C := RX0) (T := TX0) (N := 18) (ci := 0) (v := .ref (a0 3)) hx hb ht in_X0 hown hK hP 0 rfl rfl 8 (by decide) mw_191 rfl dX0_swapSigns_37 ?_
      refine lv_iload hx hb dX0_swapSigns_40 (lv_at hl 1 rfl) ?_
      refine lv_iload_n hx hb dX0_swapSigns_42 rfl (lv_at hl 4 rfl) ?_
      refine lv_iadd hx hb dX0_swapSigns_43 ?_
      refine lv_aload_n hx hb dX0_swapSigns_44 rfl (lv_at hl 2 rfl) ?_
      refine fl_get (C := RX0) (T := TX0) (N := 18) (ci := 0) (v := .ref (a0 3)) hx hb ht in_X0 hown hK hP 0 rfl rfl 8 (by decide) mw_191 rfl dX0_swapSigns_45 ?_
      refine lv_iload hx hb dX0_swapSigns_48 (lv_at hl 1 rfl) ?_
      refine lv_iload_n hx hb dX0_swapSigns_50 rfl (lv_at hl 5 rfl) ?_
      refine lv_iadd hx hb dX0_swapSigns_51 ?_
      obtain ⟨g_8, h⟩ := h
      refine va_iald hx hb hK hP 3 0 rfl rfl g_8 dX0_swapSigns_52 ?_
      obtain ⟨g_9, h⟩ := h
      refine va_iast hx hb hK hP hD hS 3 0 rfl rfl g_9 dX0_swapSigns_53 (fun H locs hP hD hS => ?_)
      have hP : va_P D vwCl [((a0 0), .inr (0, [.int (s0.1 0), .int (s0.1 1), .int (s0.1 2), .int (s0.1 3), .int (s0.1 4), .int (s0.1 5), .ref (a0 1), .ref (a0 2), .ref (a0 3), .ref (a0 4), .ref (a0 5), .ref (a0 6), .ref (a0 7), .ref (a0 8), .ref (a0 9), .ref (a0 10), .ref (a0 11), .ref (a0 12)])), ((a0 1), .inl (q 0, 4, .inl (s0.2.1 0))), ((a0 2), .inl (q 0, 4, .inl (s0.2.1 1))), ((a0 3), .inl (q 0, 160, .inl (upd (s0.2.1 2) (Int32.toNatClampNeg ((x1 * 40) + x2)) ((s0.2.1 2) (Int32.toNatClampNeg ((x1 * 40) + x3)))))), ((a0 4), .inl (q 0, 40, .inl (s0.2.1 3))), ((a0 5), .inl (q 0, 40, .inl (s0.2.1 4))), ((a0 6), .inl (q 0, 40, .inl (s0.2.1 5))), ((a0 7), .inl (q 0, 40, .inl (s0.2.1 6))), ((a0 8), .inl (q 0, 40, .inl (s0.2.1 7))), ((a0 9), .inl (q 0, 40, .inl (s0.2.1 8))), ((a0 10), .inl (q 0, 40, .inl (s0.2.1 9))), ((a0 11), .inl (q 1, 40, .inr (.inl s0.2.2.1))), ((a0 12), .inl (q 0, s0.2.2.2.1, .inl s0.2.2.2.2))] H := hP
      have hD : va_D _ [((a0 0), .inr (0, [.int (s0.1 0), .int (s0.1 1), .int (s0.1 2), .int (s0.1 3), .int (s0.1 4), .int (s0.1 5), .ref (a0 1), .ref (a0 2), .ref (a0 3), .ref (a0 4), .ref (a0 5), .ref (a0 6), .ref (a0 7), .ref (a0 8), .ref (a0 9), .ref (a0 10), .ref (a0 11), .ref (a0 12)])), ((a0 1), .inl (q 0, 4, .inl (s0.2.1 0))), ((a0 2), .inl (q 0, 4, .inl (s0.2.1 1))), ((a0 3), .inl (q 0, 160, .inl (upd (s0.2.1 2) (Int32.toNatClampNeg ((x1 * 40) + x2)) ((s0.2.1 2) (Int32.toNatClampNeg ((x1 * 40) + x3)))))), ((a0 4), .inl (q 0, 40, .inl (s0.2.1 3))), ((a0 5), .inl (q 0, 40, .inl (s0.2.1 4))), ((a0 6), .inl (q 0, 40, .inl (s0.2.1 5))), ((a0 7), .inl (q 0, 40, .inl (s0.2.1 6))), ((a0 8), .inl (q 0, 40, .inl (s0.2.1 7))), ((a0 9), .inl (q 0, 40, .inl (s0.2.1 8))), ((a0 10), .inl (q 0, 40, .inl (s0.2.1 9))), ((a0 11), .inl (q 1, 40, .inr (.inl s0.2.2.1))), ((a0 12), .inl (q 0, s0.2.2.2.1, .inl s0.2.2.2.2))] := hD
      refine lv_aload_n hx hb dX0_swapSigns_54 rfl (lv_at hl 2 rfl) ?_
      refine fl_get (C := RX0) (T := TX0) (N := 18) (ci := 0) (v := .ref (a0 3)) hx hb ht in_X0 hown hK hP 0 rfl rfl 8 (by decide) mw_191 rfl dX0_swapSigns_55 ?_
      refine lv_iload hx hb dX0_swapSigns_58 (lv_at hl 1 rfl) ?_
      refine lv_iload_n hx hb dX0_swapSigns_60 rfl (lv_at hl 5 rfl) ?_
      refine lv_iadd hx hb dX0_swapSigns_61 ?_
      refine lv_iload hx hb dX0_swapSigns_62 (lv_at hl 0 rfl) ?_
      obtain ⟨g_10, h⟩ := h
      refine va_iast hx hb hK hP hD hS 3 0 rfl rfl g_10 dX0_swapSigns_64 (fun H locs hP hD hS => ?_)
      have hP : va_P D vwCl [((a0 0), .inr (0, [.int (s0.1 0), .int (s0.1 1), .int (s0.1 2), .int (s0.1 3), .int (s0.1 4), .int (s0.1 5), .ref (a0 1), .ref (a0 2), .ref (a0 3), .ref (a0 4), .ref (a0 5), .ref (a0 6), .ref (a0 7), .ref (a0 8), .ref (a0 9), .ref (a0 10), .ref (a0 11), .ref (a0 12)])), ((a0 1), .inl (q 0, 4, .inl (s0.2.1 0))), ((a0 2), .inl (q 0, 4, .inl (s0.2.1 1))), ((a0 3), .inl (q 0, 160, .inl (upd (upd (s0.2.1 2) (Int32.toNatClampNeg ((x1 * 40) + x2)) ((s0.2.1 2) (Int32.toNatClampNeg ((x1 * 40) + x3)))) (Int32.toNatClampNeg ((x1 * 40) + x3)) ((s0.2.1 2) (Int32.toNatClampNeg ((x1 * 40) + x2)))))), ((a0 4), .inl (q 0, 40, .inl (s0.2.1 3))), ((a0 5), .inl (q 0, 40, .inl (s0.2.1 4))), ((a0 6), .inl (q 0, 40, .inl (s0.2.1 5))), ((a0 7), .inl (q 0, 40, .inl (s0.2.1 6))), ((a0 8), .inl (q 0, 40, .inl (s0.2.1 7))), ((a0 9), .inl (q 0, 40, .inl (s0.2.1 8))), ((a0 10), .inl (q 0, 40, .inl (s0.2.1 9))), ((a0 11), .inl (q 1, 40, .inr (.inl s0.2.2.1))), ((a0 12), .inl (q 0, s0.2.2.2.1, .inl s0.2.2.2.2))] H := hP
      have hD : va_D _ [((a0 0), .inr (0, [.int (s0.1 0), .int (s0.1 1), .int (s0.1 2), .int (s0.1 3), .int (s0.1 4), .int (s0.1 5), .ref (a0 1), .ref (a0 2), .ref (a0 3), .ref (a0 4), .ref (a0 5), .ref (a0 6), .ref (a0 7), .ref (a0 8), .ref (a0 9), .ref (a0 10), .ref (a0 11), .ref (a0 12)])), ((a0 1), .inl (q 0, 4, .inl (s0.2.1 0))), ((a0 2), .inl (q 0, 4, .inl (s0.2.1 1))), ((a0 3), .inl (q 0, 160, .inl (upd (upd (s0.2.1 2) (Int32.toNatClampNeg ((x1 * 40) + x2)) ((s0.2.1 2) (Int32.toNatClampNeg ((x1 * 40) + x3)))) (Int32.toNatClampNeg ((x1 * 40) + x3)) ((s0.2.1 2) (Int32.toNatClampNeg ((x1 * 40) + x2)))))), ((a0 4), .inl (q 0, 40, .inl (s0.2.1 3))), ((a0 5), .inl (q 0, 40, .inl (s0.2.1 4))), ((a0 6), .inl (q 0, 40, .inl (s0.2.1 5))), ((a0 7), .inl (q 0, 40, .inl (s0.2.1 6))), ((a0 8), .inl (q 0, 40, .inl (s0.2.1 7))), ((a0 9), .inl (q 0, 40, .inl (s0.2.1 8))), ((a0 10), .inl (q 0, 40, .inl (s0.2.1 9))), ((a0 11), .inl (q 1, 40, .inr (.inl s0.2.2.1))), ((a0 12), .inl (q 0, s0.2.2.2.1, .inl s0.2.2.2.2))] := hD
      exact mt_vret (s0.1, (va_up s0.2.1 2 (upd (upd (s0.2.1 2) (Int32.toNatClampNeg ((x1 * 40) + x2)) ((s0.2.1 2) (Int32.toNatClampNeg ((x1 * 40) + x3)))) (Int32.toNatClampNeg ((x1 * 40) + x3)) ((s0.2.1 2) (Int32.toNatClampNeg ((x1 * 40) + x2))))), s0.2.2.1, s0.2.2.2.1, s0.2.2.2.2) hx hb hr hk h (hP.sub (ws' := bd_w a0 q (s0.1, (va_up s0.2.1 2 (upd (upd (s0.2.1 2) (Int32.toNatClampNeg ((x1 * 40) + x2)) ((s0.2.1 2) (Int32.toNatClampNeg ((x1 * 40) + x3)))) (Int32.toNatClampNeg ((x1 * 40) + x3)) ((s0.2.1 2) (Int32.toNatClampNeg ((x1 * 40) + x2))))), s0.2.2.1, s0.2.2.2.1, s0.2.2.2.2)) [0, 1, 2, 3, 4, 5, 6, 7, 8, 9, 10, 11, 12] rfl) (hD.sub (ws' := bd_w a0 q (s0.1, (va_up s0.2.1 2 (upd (upd (s0.2.1 2) (Int32.toNatClampNeg ((x1 * 40) + x2)) ((s0.2.1 2) (Int32.toNatClampNeg ((x1 * 40) + x3)))) (Int32.toNatClampNeg ((x1 * 40) + x3)) ((s0.2.1 2) (Int32.toNatClampNeg ((x1 * 40) + x2))))), s0.2.2.1, s0.2.2.2.1, s0.2.2.2.2)) [0, 1, 2, 3, 4, 5, 6, 7, 8, 9, 10, 11, 12] (by decide) rfl) hS dX0_swapSigns_65
    · replace h := h.2 c_6
      exact mt_vret s0 hx hb hr hk h (hP.sub (ws' := bd_w a0 q s0) [0, 1, 2, 3, 4, 5, 6, 7, 8, 9, 10, 11, 12] rfl) (hD.sub (ws' := bd_w a0 q s0) [0, 1, 2, 3, 4, 5, 6, 7, 8, 9, 10, 11, 12] (by decide) rfl) hS dX0_swapSigns_18

def wp_X0_cellsWith_L4 (s0 : Bd) (post : Int32 → Prop) (e31 : Int32 → Int32 → Int32 → Prop) : Nat → Int32 → Int32 → Int32 → Prop
  | 0, _, _, _ => False
  | n4 + 1, z1, z2, z3 => wp_X0_cells (fun r_1 => ((r_1 ≤ z3 → e31 z1 z2 z3) ∧ (¬ r_1 ≤ z3 → vp_in z3 40 ∧ ((¬ ((s0.2.1 3) (Int32.toNatClampNeg z3)) = z1 → wp_X0_cellsWith_L4 s0 post e31 n4 z1 z2 (z3 + 1)) ∧ (((s0.2.1 3) (Int32.toNatClampNeg z3)) = z1 → wp_X0_cellsWith_L4 s0 post e31 n4 z1 (z2 + 1) (z3 + 1)))))) s0
def wp_X0_cellsWith (post : Int32 → Prop) (s0 : Bd) (x1 : Int32) : Prop := (∃ n4, wp_X0_cellsWith_L4 s0 post (fun z1 z2 z3 => post z2) n4 x1 0 0)
set_option maxHeartbeats 4000000 in
set_option maxRecDepth 100000 in
theorem c2_X0_cellsWith {l : Launch} {D : va_G} {q : Nat → ClassId} {a0 : Nat → Nat} {s0 : Bd} {x1 : Int32} {post : Int32 → Prop} (h : wp_X0_cellsWith post s0 x1) : Met l yX0_cellsWith (Cond.code yX0_cellsWith cX0_cellsWith 4 (some .int) :: w_all) ({ frames := 1, cells := 0, slots := 0, locals := 20 } : Room) (rd_P D q [.ref (a0 0), .int x1] (bd_w a0 q s0)) (vp_Si post) 0 0 (fun _ => False) := by
  refine rd_start (by decide) (Nat.le_of_ble_eq_true rfl) ?_
  intro p e s m below meth c ls hx hb hr hml hown ht hk hP hQ hV hl
  have hK := hQ.1
  have hown : s.vm.findClass RX0 = some m.cls := hown
  have hl : lv_has ls 4 [(0, .ref (a0 0)), (1, .int x1)] := hl
  have hP : va_P D vwCl [((a0 0), .inr (0, [.int (s0.1 0), .int (s0.1 1), .int (s0.1 2), .int (s0.1 3), .int (s0.1 4), .int (s0.1 5), .ref (a0 1), .ref (a0 2), .ref (a0 3), .ref (a0 4), .ref (a0 5), .ref (a0 6), .ref (a0 7), .ref (a0 8), .ref (a0 9), .ref (a0 10), .ref (a0 11), .ref (a0 12)])), ((a0 1), .inl (q 0, 4, .inl (s0.2.1 0))), ((a0 2), .inl (q 0, 4, .inl (s0.2.1 1))), ((a0 3), .inl (q 0, 160, .inl (s0.2.1 2))), ((a0 4), .inl (q 0, 40, .inl (s0.2.1 3))), ((a0 5), .inl (q 0, 40, .inl (s0.2.1 4))), ((a0 6), .inl (q 0, 40, .inl (s0.2.1 5))), ((a0 7), .inl (q 0, 40, .inl (s0.2.1 6))), ((a0 8), .inl (q 0, 40, .inl (s0.2.1 7))), ((a0 9), .inl (q 0, 40, .inl (s0.2.1 8))), ((a0 10), .inl (q 0, 40, .inl (s0.2.1 9))), ((a0 11), .inl (q 1, 40, .inr (.inl s0.2.2.1))), ((a0 12), .inl (q 0, s0.2.2.2.1, .inl s0.2.2.2.2))] s.heap := hP
  unfold wp_X0_cellsWith at h
  refine lv_iconst (v := 0) hx hb dX0_cellsWith_0 (by decide) ?_
  refine lv_istore_n (lv' := [(2, .int 0), (0, .ref (a0 0)), (1, .int x1)]) hx hb dX0_cellsWith_1 rfl hl (by decide) rfl (fun ls hl => ?_)
  refine lv_iconst (v := 0) hx hb dX0_cellsWith_2 (by decide) ?_
  refine lv_istore_n (lv' := [(3, .int 0), (2, .int 0), (0, .ref (a0 0)), (1, .int x1)]) hx hb dX0_cellsWith_3 rfl hl (by decide) rfl (fun ls hl => ?_)
  have lp4 : ∀ (e31 : Int32 → Int32 → Int32 → Prop) (k31 : ∀ (z1 : Int32) (z2 : Int32) (z3 : Int32) (ls : Array Slot), e31 z1 z2 z3 → lv_has ls 4 [(1, .int z1), (2, .int z2), (3, .int z3), (0, .ref (a0 0))] → W p l e ({ frames := 1, cells := 0, slots := 0, locals := 20 } : Room) s m [.ref (a0 0), .int x1].toArray below meth c s.heap [] 0 0 (MQ below (vp_Si post) [.ref (a0 0), .int x1].toArray s 0 0 (fun _ => False)) (F0 m 31 ls [])) (n : Nat) (z1 : Int32) (z2 : Int32) (z3 : Int32) (ls : Array Slot), wp_X0_cellsWith_L4 s0 post e31 n z1 z2 z3 → lv_has ls 4 [(1, .int z1), (2, .int z2), (3, .int z3), (0, .ref (a0 0))] → W p l e ({ frames := 1, cells := 0, slots := 0, locals := 20 } : Room) s m [.ref (a0 0), .int x1].toArray below meth c s.heap [] 0 0 (MQ below (vp_Si post) [.ref (a0 0), .int x1].toArray s 0 0 (fun _ => False)) (F0 m 4 ls []) := by
    intro e31 k31 n
    induction n with
    | zero =>
      intro z1 z2 z3 ls h
      exact h.elim
    | succ n ih =>
      intro z1 z2 z3 ls h hl
      unfold wp_X0_cellsWith_L4 at h
      refine lv_iload_n hx hb dX0_cellsWith_4 rfl (lv_at hl 2 rfl) ?_
      refine lv_aload_n hx hb dX0_cellsWith_5 rfl (lv_at hl 3 rfl) ?_
      refine vp_callSi (rd_wV (wc := bd_w a0 q s0) (As := []) (rest := [.int z3]) hx hb hml hown ht (c2_X0_cells h) wd_X0_cells mw_588 hQ hV va_S.rf (hP.sub [0, 1, 2, 3, 4, 5, 6, 7, 8, 9, 10, 11, 12] rfl) rfl rfl rfl hl.1 rfl (Nat.le_of_ble_eq_true rfl) dX0_cellsWith_6 ⟨Nat.le_of_ble_eq_true rfl, Nat.le_of_ble_eq_true rfl, rfl, rfl⟩ ⟨Nat.le_of_ble_eq_true rfl, Nat.le_of_ble_eq_true rfl⟩) (fun r_1 h => ?_)
      try dsimp only at h
      refine lv_icmp_ge (tgt := 31) hx hb dX0_cellsWith_9 (by decide) (fun c_3 => ?_) (fun c_3 => ?_)
      · replace h := h.1 c_3
        exact k31 _ _ _ ls h (lv_sub hl [0, 1, 2, 3] rfl)
      · replace h := h.2 c_3
        refine lv_aload_n hx hb dX0_cellsWith_12 rfl (lv_at hl 3 rfl) ?_
        refine fl_get (C := RX0) (T := TX0) (N := 18) (ci := 0) (v := .ref (a0 4)) hx hb ht in_X0 hown hK hP 0 rfl rfl 9 (by decide) mw_192 rfl dX0_cellsWith_13 ?_
        refine lv_iload_n hx hb dX0_cellsWith_16 rfl (lv_at hl 2 rfl) ?_
        obtain ⟨g_4, h⟩ := h
        refine va_iald hx hb hK hP 4 0 rfl rfl g_4 dX0_cellsWith_17 ?_
        refine lv_iload_n hx hb dX0_cellsWith_18 rfl (lv_at hl 0 rfl) ?_
        refine lv_icmp_ne (tgt := 25) hx hb dX0_cellsWith_19 (by decide) (fun c_5 => ?_) (fun c_5 => ?_)
        · replace h := h.1 c_5
          refine lv_iinc (v := (z3 + 1)) (lv' := [(3, .int (z3 + 1)), (1, .int z1), (2, .int z2), (0, .ref (a0 0))]) hx hb dX0_cellsWith_25 hl (k := 2) rfl rfl (by decide) rfl (fun ls hl => ?_)
          refine lv_goto (tgt := 4) hx hb dX0_cellsWith_28 (by decide) ?_
          exact ih _ _ _ ls h (lv_sub hl [1, 2, 0, 3] rfl)
        · replace h := h.2 c_5
          refine lv_iinc (v := (z2 + 1)) (lv' := [(2, .int (z2 + 1)), (1, .int z1), (3, .int z3), (0, .ref (a0 0))]) hx hb dX0_cellsWith_22 hl (k := 1) rfl rfl (by decide) rfl (fun ls hl => ?_)
          refine lv_iinc (v := (z3 + 1)) (lv' := [(3, .int (z3 + 1)), (2, .int (z2 + 1)), (1, .int z1), (0, .ref (a0 0))]) hx hb dX0_cellsWith_25 hl (k := 2) rfl rfl (by decide) rfl (fun ls hl => ?_)
          refine lv_goto (tgt := 4) hx hb dX0_cellsWith_28 (by decide) ?_
          exact ih _ _ _ ls h (lv_sub hl [2, 1, 0, 3] rfl)
  obtain ⟨n4, h⟩ := h
  refine lp4 _ ?_ n4 _ _ _ ls h (lv_sub hl [3, 1, 0, 2] rfl)
  · intro z1 z2 z3 ls h hl
    try dsimp only at h
    refine lv_iload_n hx hb dX0_cellsWith_31 rfl (lv_at hl 1 rfl) ?_
    exact rd_iret hx hb hr hk h dX0_cellsWith_32

def wp_X0_flapsWith_L19 (s0 : Bd) (post : Int32 → Prop) (e49 : Int32 → Int32 → Int32 → Int32 → Int32 → Int32 → Int32 → Prop) : Nat → Int32 → Int32 → Int32 → Int32 → Int32 → Int32 → Int32 → Prop
  | 0, _, _, _, _, _, _, _ => False
  | n19 + 1, z1, z2, z3, z4, z5, z6, z7 => ((z5 ≤ z7 → e49 z1 z2 z3 z4 z5 z6 z7) ∧ (¬ z5 ≤ z7 → vp_in (z4 + z7) 160 ∧ ((¬ ((s0.2.1 2) (Int32.toNatClampNeg (z4 + z7))) = z2 → wp_X0_flapsWith_L19 s0 post e49 n19 z1 z2 z3 z4 z5 z6 (z7 + 1)) ∧ (((s0.2.1 2) (Int32.toNatClampNeg (z4 + z7))) = z2 → wp_X0_flapsWith_L19 s0 post e49 n19 z1 z2 z3 z4 z5 (z6 + 1) (z7 + 1)))))
def wp_X0_flapsWith (post : Int32 → Prop) (s0 : Bd) (x1 : Int32) (x2 : Int32) (x3 : Int32) : Prop := wp_X0_flapsOn (fun r_1 => (∃ n19, wp_X0_flapsWith_L19 s0 post (fun z1 z2 z3 z4 z5 z6 z7 => post z6) n19 x1 x2 x3 (x1 * 40) r_1 0 x3)) s0 x1
set_option maxHeartbeats 4000000 in
set_option maxRecDepth 100000 in
theorem c2_X0_flapsWith {l : Launch} {D : va_G} {q : Nat → ClassId} {a0 : Nat → Nat} {s0 : Bd} {x1 : Int32} {x2 : Int32} {x3 : Int32} {post : Int32 → Prop} (h : wp_X0_flapsWith post s0 x1 x2 x3) : Met l yX0_flapsWith (Cond.code yX0_flapsWith cX0_flapsWith 8 (some .int) :: w_all) ({ frames := 1, cells := 0, slots := 0, locals := 21 } : Room) (rd_P D q [.ref (a0 0), .int x1, .int x2, .int x3] (bd_w a0 q s0)) (vp_Si post) 0 0 (fun _ => False) := by
  refine rd_start (by decide) (Nat.le_of_ble_eq_true rfl) ?_
  intro p e s m below meth c ls hx hb hr hml hown ht hk hP hQ hV hl
  have hK := hQ.1
  have hown : s.vm.findClass RX0 = some m.cls := hown
  have hl : lv_has ls 8 [(0, .ref (a0 0)), (1, .int x1), (2, .int x2), (3, .int x3)] := hl
  have hP : va_P D vwCl [((a0 0), .inr (0, [.int (s0.1 0), .int (s0.1 1), .int (s0.1 2), .int (s0.1 3), .int (s0.1 4), .int (s0.1 5), .ref (a0 1), .ref (a0 2), .ref (a0 3), .ref (a0 4), .ref (a0 5), .ref (a0 6), .ref (a0 7), .ref (a0 8), .ref (a0 9), .ref (a0 10), .ref (a0 11), .ref (a0 12)])), ((a0 1), .inl (q 0, 4, .inl (s0.2.1 0))), ((a0 2), .inl (q 0, 4, .inl (s0.2.1 1))), ((a0 3), .inl (q 0, 160, .inl (s0.2.1 2))), ((a0 4), .inl (q 0, 40, .inl (s0.2.1 3))), ((a0 5), .inl (q 0, 40, .inl (s0.2.1 4))), ((a0 6), .inl (q 0, 40, .inl (s0.2.1 5))), ((a0 7), .inl (q 0, 40, .inl (s0.2.1 6))), ((a0 8), .inl (q 0, 40, .inl (s0.2.1 7))), ((a0 9), .inl (q 0, 40, .inl (s0.2.1 8))), ((a0 10), .inl (q 0, 40, .inl (s0.2.1 9))), ((a0 11), .inl (q 1, 40, .inr (.inl s0.2.2.1))), ((a0 12), .inl (q 0, s0.2.2.2.1, .inl s0.2.2.2.2))] s.heap := hP
  unfold wp_X0_flapsWith at h
  refine lv_iload_n hx hb dX0_flapsWith_0 rfl (lv_at hl 1 rfl) ?_
  refine lv_bipush (v := 40) hx hb dX0_flapsWith_1 (by decide) ?_
  refine lv_imul hx hb dX0_flapsWith_3 ?_
  refine lv_istore (lv' := [(4, .int (x1 * 40)), (0, .ref (a0 0)), (1, .int x1), (2, .int x2), (3, .int x3)]) hx hb dX0_flapsWith_4 hl (by decide) rfl (fun ls hl => ?_)
  refine lv_aload_n hx hb dX0_flapsWith_6 rfl (lv_at hl 1 rfl) ?_
  refine lv_iload_n hx hb dX0_flapsWith_7 rfl (lv_at hl 2 rfl) ?_
  refine vp_callSi (rd_wV (wc := bd_w a0 q s0) (As := [.int x1]) (rest := []) hx hb hml hown ht (c2_X0_flapsOn h) wd_X0_flapsOn mw_772 hQ hV va_S.rf (hP.sub [0, 1, 2, 3, 4, 5, 6, 7, 8, 9, 10, 11, 12] rfl) rfl rfl rfl hl.1 rfl (Nat.le_of_ble_eq_true rfl) dX0_flapsWith_8 ⟨Nat.le_of_ble_eq_true rfl, Nat.le_of_ble_eq_true rfl, rfl, rfl⟩ ⟨Nat.le_of_ble_eq_true rfl, Nat.le_of_ble_eq_true rfl⟩) (fun r_1 h => ?_)
  try dsimp only at h
  refine lv_istore (lv' := [(5, .int r_1), (4, .int (x1 * 40)), (0, .ref (a0 0)), (1, .int x1), (2, .int x2), (3, .int x3)]) hx hb dX0_flapsWith_11 hl (by decide) rfl (fun ls hl => ?_)
  refine lv_iconst (v := 0) hx hb dX0_flapsWith_13 (by decide) ?_
  refine lv_istore (lv' := [(6, .int 0), (5, .int r_1), (4, .int (x1 * 40)), (0, .ref (a0 0)), (1, .int x1), (2, .int x2), (3, .int x3)]) hx hb dX0_flapsWith_14 hl (by decide) rfl (fun ls hl => ?_)
  refine lv_iload_n hx hb dX0_flapsWith_16 rfl (lv_at hl 6 rfl) ?_
  refine lv_istore (lv' := [(7, .int x3), (6, .int 0), (5, .int r_1), (4, .int (x1 * 40)), (0, .ref (a0 0)), (1, .int x1), (2, .int x2), (3, .int x3)]) hx hb dX0_flapsWith_17 hl (by decide) rfl (fun ls hl => ?_)
  have lp19 : ∀ (e49 : Int32 → Int32 → Int32 → Int32 → Int32 → Int32 → Int32 → Prop) (k49 : ∀ (z1 : Int32) (z2 : Int32) (z3 : Int32) (z4 : Int32) (z5 : Int32) (z6 : Int32) (z7 : Int32) (ls : Array Slot), e49 z1 z2 z3 z4 z5 z6 z7 → lv_has ls 8 [(1, .int z1), (2, .int z2), (3, .int z3), (4, .int z4), (5, .int z5), (6, .int z6), (7, .int z7), (0, .ref (a0 0))] → W p l e ({ frames := 1, cells := 0, slots := 0, locals := 21 } : Room) s m [.ref (a0 0), .int x1, .int x2, .int x3].toArray below meth c s.heap [] 0 0 (MQ below (vp_Si post) [.ref (a0 0), .int x1, .int x2, .int x3].toArray s 0 0 (fun _ => False)) (F0 m 49 ls [])) (n : Nat) (z1 : Int32) (z2 : Int32) (z3 : Int32) (z4 : Int32) (z5 : Int32) (z6 : Int32) (z7 : Int32) (ls : Array Slot), wp_X0_flapsWith_L19 s0 post e49 n z1 z2 z3 z4 z5 z6 z7 → lv_has ls 8 [(1, .int z1), (2, .int z2), (3, .int z3), (4, .int z4), (5, .int z5), (6, .int z6), (7, .int z7), (0, .ref (a0 0))] → W p l e ({ frames := 1, cells := 0, slots := 0, locals := 21 } : Room) s m [.ref (a0 0), .int x1, .int x2, .int x3].toArray below meth c s.heap [] 0 0 (MQ below (vp_Si post) [.ref (a0 0), .int x1, .int x2, .int x3].toArray s 0 0 (fun _ => False)) (F0 m 19 ls []) := by
    intro e49 k49 n
    induction n with
    | zero =>
      intro z1 z2 z3 z4 z5 z6 z7 ls h
      exact h.elim
    | succ n ih =>
      intro z1 z2 z3 z4 z5 z6 z7 ls h hl
      unfold wp_X0_flapsWith_L19 at h
      refine lv_iload hx hb dX0_flapsWith_19 (lv_at hl 6 rfl) ?_
      refine lv_iload hx hb dX0_flapsWith_21 (lv_at hl 4 rfl) ?_
      refine lv_icmp_ge (tgt := 49) hx hb dX0_flapsWith_23 (by decide) (fun c_3 => ?_) (fun c_3 => ?_)
      · replace h := h.1 c_3
        exact k49 _ _ _ _ _ _ _ ls h (lv_sub hl [0, 1, 2, 3, 4, 5, 6, 7] rfl)
      · replace h := h.2 c_3
        refine lv_aload_n hx hb dX0_flapsWith_26 rfl (lv_at hl 7 rfl) ?_
        refine fl_get (C := RX0) (T := TX0) (N := 18) (ci := 0) (v := .ref (a0 3)) hx hb ht in_X0 hown hK hP 0 rfl rfl 8 (by decide) mw_191 rfl dX0_flapsWith_27 ?_
        refine lv_iload hx hb dX0_flapsWith_30 (lv_at hl 3 rfl) ?_
        refine lv_iload hx hb dX0_flapsWith_32 (lv_at hl 6 rfl) ?_
        refine lv_iadd hx hb dX0_flapsWith_34 ?_
        obtain ⟨g_4, h⟩ := h
        refine va_iald hx hb hK hP 3 0 rfl rfl g_4 dX0_flapsWith_35 ?_
        refine lv_iload_n hx hb dX0_flapsWith_36 rfl (lv_at hl 1 rfl) ?_
        refine lv_icmp_ne (tgt := 43) hx hb dX0_flapsWith_37 (by decide) (fun c_5 => ?_) (fun c_5 => ?_)
        · replace h := h.1 c_5
          refine lv_iinc (v := (z7 + 1)) (lv' := [(7, .int (z7 + 1)), (1, .int z1), (2, .int z2), (3, .int z3), (4, .int z4), (5, .int z5), (6, .int z6), (0, .ref (a0 0))]) hx hb dX0_flapsWith_43 hl (k := 6) rfl rfl (by decide) rfl (fun ls hl => ?_)
          refine lv_goto (tgt := 19) hx hb dX0_flapsWith_46 (by decide) ?_
          exact ih _ _ _ _ _ _ _ ls h (lv_sub hl [1, 2, 3, 4, 5, 6, 0, 7] rfl)
        · replace h := h.2 c_5
          refine lv_iinc (v := (z6 + 1)) (lv' := [(6, .int (z6 + 1)), (1, .int z1), (2, .int z2), (3, .int z3), (4, .int z4), (5, .int z5), (7, .int z7), (0, .ref (a0 0))]) hx hb dX0_flapsWith_40 hl (k := 5) rfl rfl (by decide) rfl (fun ls hl => ?_)
          refine lv_iinc (v := (z7 + 1)) (lv' := [(7, .int (z7 + 1)), (6, .int (z6 + 1)), (1, .int z1), (2, .int z2), (3, .int z3), (4, .int z4), (5, .int z5), (0, .ref (a0 0))]) hx hb dX0_flapsWith_43 hl (k := 6) rfl rfl (by decide) rfl (fun ls hl => ?_)
          refine lv_goto (tgt := 19) hx hb dX0_flapsWith_46 (by decide) ?_
          exact ih _ _ _ _ _ _ _ ls h (lv_sub hl [2, 3, 4, 5, 6, 1, 0, 7] rfl)
  obtain ⟨n19, h⟩ := h
  refine lp19 _ ?_ n19 _ _ _ _ _ _ _ ls h (lv_sub hl [5, 6, 7, 3, 2, 1, 0, 4] rfl)
  · intro z1 z2 z3 z4 z5 z6 z7 ls h hl
    try dsimp only at h
    refine lv_iload hx hb dX0_flapsWith_49 (lv_at hl 5 rfl) ?_
    exact rd_iret hx hb hr hk h dX0_flapsWith_51

def wp_X0_drumHas (post : Int32 → Prop) (s0 : Bd) (x1 : Int32) (x2 : Int32) : Prop := wp_X0_flapsWith (fun r_1 => ((r_1 ≤ 0 → post 0) ∧ (¬ r_1 ≤ 0 → post 1))) s0 x1 x2 (0 : Int32)
set_option maxHeartbeats 4000000 in
set_option maxRecDepth 100000 in
theorem c2_X0_drumHas {l : Launch} {D : va_G} {q : Nat → ClassId} {a0 : Nat → Nat} {s0 : Bd} {x1 : Int32} {x2 : Int32} {post : Int32 → Prop} (h : wp_X0_drumHas post s0 x1 x2) : Met l yX0_drumHas (Cond.code yX0_drumHas cX0_drumHas 3 (some .boolean) :: w_all) ({ frames := 2, cells := 0, slots := 0, locals := 48 } : Room) (rd_P D q [.ref (a0 0), .int x1, .int x2] (bd_w a0 q s0)) (vp_Si post) 0 0 (fun _ => False) := by
  refine rd_start (by decide) (Nat.le_of_ble_eq_true rfl) ?_
  intro p e s m below meth c ls hx hb hr hml hown ht hk hP hQ hV hl
  have hK := hQ.1
  have hown : s.vm.findClass RX0 = some m.cls := hown
  have hl : lv_has ls 3 [(0, .ref (a0 0)), (1, .int x1), (2, .int x2)] := hl
  have hP : va_P D vwCl [((a0 0), .inr (0, [.int (s0.1 0), .int (s0.1 1), .int (s0.1 2), .int (s0.1 3), .int (s0.1 4), .int (s0.1 5), .ref (a0 1), .ref (a0 2), .ref (a0 3), .ref (a0 4), .ref (a0 5), .ref (a0 6), .ref (a0 7), .ref (a0 8), .ref (a0 9), .ref (a0 10), .ref (a0 11), .ref (a0 12)])), ((a0 1), .inl (q 0, 4, .inl (s0.2.1 0))), ((a0 2), .inl (q 0, 4, .inl (s0.2.1 1))), ((a0 3), .inl (q 0, 160, .inl (s0.2.1 2))), ((a0 4), .inl (q 0, 40, .inl (s0.2.1 3))), ((a0 5), .inl (q 0, 40, .inl (s0.2.1 4))), ((a0 6), .inl (q 0, 40, .inl (s0.2.1 5))), ((a0 7), .inl (q 0, 40, .inl (s0.2.1 6))), ((a0 8), .inl (q 0, 40, .inl (s0.2.1 7))), ((a0 9), .inl (q 0, 40, .inl (s0.2.1 8))), ((a0 10), .inl (q 0, 40, .inl (s0.2.1 9))), ((a0 11), .inl (q 1, 40, .inr (.inl s0.2.2.1))), ((a0 12), .inl (q 0, s0.2.2.2.1, .inl s0.2.2.2.2))] s.heap := hP
  unfold wp_X0_drumHas at h
  refine lv_aload_n hx hb dX0_drumHas_0 rfl (lv_at hl 0 rfl) ?_
  refine lv_iload_n hx hb dX0_drumHas_1 rfl (lv_at hl 1 rfl) ?_
  refine lv_iload_n hx hb dX0_drumHas_2 rfl (lv_at hl 2 rfl) ?_
  refine lv_iconst (v := 0) hx hb dX0_drumHas_3 (by decide) ?_
  refine vp_callSi (rd_wV (wc := bd_w a0 q s0) (As := [.int x1, .int x2, .int 0]) (rest := []) hx hb hml hown ht (c2_X0_flapsWith h) wd_X0_flapsWith mw_921 hQ hV va_S.rf (hP.sub [0, 1, 2, 3, 4, 5, 6, 7, 8, 9, 10, 11, 12] rfl) rfl rfl rfl hl.1 rfl (Nat.le_of_ble_eq_true rfl) dX0_drumHas_4 ⟨Nat.le_of_ble_eq_true rfl, Nat.le_of_ble_eq_true rfl, rfl, rfl⟩ ⟨Nat.le_of_ble_eq_true rfl, Nat.le_of_ble_eq_true rfl⟩) (fun r_1 h => ?_)
  try dsimp only at h
  refine lv_if_le (tgt := 14) hx hb dX0_drumHas_7 (by decide) (fun c_3 => ?_) (fun c_3 => ?_)
  · replace h := h.1 c_3
    refine lv_iconst (v := 0) hx hb dX0_drumHas_14 (by decide) ?_
    exact rd_zret hx hb hr hk rfl h dX0_drumHas_15
  · replace h := h.2 c_3
    refine lv_iconst (v := 1) hx hb dX0_drumHas_10 (by decide) ?_
    refine lv_goto (tgt := 15) hx hb dX0_drumHas_11 (by decide) ?_
    exact rd_zret hx hb hr hk rfl h dX0_drumHas_15
