def wp_X0_someDrumHas_L2 (s0 : Bd) (post : Int32 → Prop) (e27 : Int32 → Int32 → Prop) : Nat → Int32 → Int32 → Prop
  | 0, _, _ => False
  | n2 + 1, z1, z2 => (((s0.1 3) ≤ z2 → e27 z1 z2) ∧ (¬ (s0.1 3) ≤ z2 → wp_X0_drumHas (fun r_2 => ((r_2 = 0 → wp_X0_someDrumHas_L2 s0 post e27 n2 z1 (z2 + 1)) ∧ (¬ r_2 = 0 → post 1))) s0 z2 z1))
def wp_X0_someDrumHas (post : Int32 → Prop) (s0 : Bd) (x1 : Int32) : Prop := (∃ n2, wp_X0_someDrumHas_L2 s0 post (fun z1 z2 => post 0) n2 x1 0)
set_option maxHeartbeats 4000000 in
set_option maxRecDepth 100000 in
theorem c2_X0_someDrumHas {l : Launch} {D : va_G} {q : Nat → ClassId} {a0 : Nat → Nat} {s0 : Bd} {x1 : Int32} {post : Int32 → Prop} (h : wp_X0_someDrumHas post s0 x1) : Met l yX0_someDrumHas (Cond.code yX0_someDrumHas cX0_someDrumHas 3 (some .boolean) :: w_all) ({ frames := 3, cells := 0, slots := 0, locals := 70 } : Room) (rd_P D q [.ref (a0 0), .int x1] (bd_w a0 q s0)) (vp_Si post) 0 0 (fun _ => False) := by
  refine rd_start (by decide) (Nat.le_of_ble_eq_true rfl) ?_
  intro p e s m below meth c ls hx hb hr hml hown ht hk hP hQ hV hl
  have hK := hQ.1
  have hown : s.vm.findClass RX0 = some m.cls := hown
  have hl : lv_has ls 3 [(0, .ref (a0 0)), (1, .int x1)] := hl
  have hP : va_P D vwCl [((a0 0), .inr (0, [.int (s0.1 0), .int (s0.1 1), .int (s0.1 2), .int (s0.1 3), .int (s0.1 4), .int (s0.1 5), .ref (a0 1), .ref (a0 2), .ref (a0 3), .ref (a0 4), .ref (a0 5), .ref (a0 6), .ref (a0 7), .ref (a0 8), .ref (a0 9), .ref (a0 10), .ref (a0 11), .ref (a0 12)])), ((a0 1), .inl (q 0, 4, .inl (s0.2.1 0))), ((a0 2), .inl (q 0, 4, .inl (s0.2.1 1))), ((a0 3), .inl (q 0, 160, .inl (s0.2.1 2))), ((a0 4), .inl (q 0, 40, .inl (s0.2.1 3))), ((a0 5), .inl (q 0, 40, .inl (s0.2.1 4))), ((a0 6), .inl (q 0, 40, .inl (s0.2.1 5))), ((a0 7), .inl (q 0, 40, .inl (s0.2.1 6))), ((a0 8), .inl (q 0, 40, .inl (s0.2.1 7))), ((a0 9), .inl (q 0, 40, .inl (s0.2.1 8))), ((a0 10), .inl (q 0, 40, .inl (s0.2.1 9))), ((a0 11), .inl (q 1, 40, .inr (.inl s0.2.2.1))), ((a0 12), .inl (q 0, s0.2.2.2.1, .inl s0.2.2.2.2))] s.heap := hP
  unfold wp_X0_someDrumHas at h
  refine lv_iconst (v := 0) hx hb dX0_someDrumHas_0 (by decide) ?_
  refine lv_istore_n (lv' := [(2, .int 0), (0, .ref (a0 0)), (1, .int x1)]) hx hb dX0_someDrumHas_1 rfl hl (by decide) rfl (fun ls hl => ?_)
  have lp2 : ∀ (e27 : Int32 → Int32 → Prop) (k27 : ∀ (z1 : Int32) (z2 : Int32) (ls : Array Slot), e27 z1 z2 → lv_has ls 3 [(1, .int z1), (2, .int z2), (0, .ref (a0 0))] → W p l e ({ frames := 3, cells := 0, slots := 0, locals := 70 } : Room) s m [.ref (a0 0), .int x1].toArray below meth c s.heap [] 0 0 (MQ below (vp_Si post) [.ref (a0 0), .int x1].toArray s 0 0 (fun _ => False)) (F0 m 27 ls [])) (n : Nat) (z1 : Int32) (z2 : Int32) (ls : Array Slot), wp_X0_someDrumHas_L2 s0 post e27 n z1 z2 → lv_has ls 3 [(1, .int z1), (2, .int z2), (0, .ref (a0 0))] → W p l e ({ frames := 3, cells := 0, slots := 0, locals := 70 } : Room) s m [.ref (a0 0), .int x1].toArray below meth c s.heap [] 0 0 (MQ below (vp_Si post) [.ref (a0 0), .int x1].toArray s 0 0 (fun _ => False)) (F0 m 2 ls []) := by
    intro e27 k27 n
    induction n with
    | zero =>
      intro z1 z2 ls h
      exact h.elim
    | succ n ih =>
      intro z1 z2 ls h hl
      unfold wp_X0_someDrumHas_L2 at h
      refine lv_iload_n hx hb dX0_someDrumHas_2 rfl (lv_at hl 1 rfl) ?_
      refine lv_aload_n hx hb dX0_someDrumHas_3 rfl (lv_at hl 2 rfl) ?_
      refine fl_get (C := RX0) (T := TX0) (N := 18) (ci := 0) (v := .int (s0.1 3)) hx hb ht in_X0 hown hK hP 0 rfl rfl 3 (by decide) mw_179 rfl dX0_someDrumHas_4 ?_
      refine lv_icmp_ge (tgt := 27) hx hb dX0_someDrumHas_7 (by decide) (fun c_1 => ?_) (fun c_1 => ?_)
      · replace h := h.1 c_1
        exact k27 _ _ ls h (lv_sub hl [0, 1, 2] rfl)
      · replace h := h.2 c_1
        refine lv_aload_n hx hb dX0_someDrumHas_10 rfl (lv_at hl 2 rfl) ?_
        refine lv_iload_n hx hb dX0_someDrumHas_11 rfl (lv_at hl 1 rfl) ?_
        refine lv_iload_n hx hb dX0_someDrumHas_12 rfl (lv_at hl 0 rfl) ?_
        refine vp_callSi (rd_wV (wc := bd_w a0 q s0) (As := [.int z2, .int z1]) (rest := []) hx hb hml hown ht (c2_X0_drumHas h) wd_X0_drumHas mw_1096 hQ hV va_S.rf (hP.sub [0, 1, 2, 3, 4, 5, 6, 7, 8, 9, 10, 11, 12] rfl) rfl rfl rfl hl.1 rfl (Nat.le_of_ble_eq_true rfl) dX0_someDrumHas_13 ⟨Nat.le_of_ble_eq_true rfl, Nat.le_of_ble_eq_true rfl, rfl, rfl⟩ ⟨Nat.le_of_ble_eq_true rfl, Nat.le_of_ble_eq_true rfl⟩) (fun r_2 h => ?_)
        try dsimp only at h
        refine lv_if_eq (tgt := 21) hx hb dX0_someDrumHas_16 (by decide) (fun c_4 => ?_) (fun c_4 => ?_)
        · replace h := h.1 c_4
          refine lv_iinc (v := (z2 + 1)) (lv' := [(2, .int (z2 + 1)), (1, .int z1), (0, .ref (a0 0))]) hx hb dX0_someDrumHas_21 hl (k := 1) rfl rfl (by decide) rfl (fun ls hl => ?_)
          refine lv_goto (tgt := 2) hx hb dX0_someDrumHas_24 (by decide) ?_
          exact ih _ _ ls h (lv_sub hl [1, 0, 2] rfl)
        · replace h := h.2 c_4
          refine lv_iconst (v := 1) hx hb dX0_someDrumHas_19 (by decide) ?_
          exact rd_zret hx hb hr hk rfl h dX0_someDrumHas_20
  obtain ⟨n2, h⟩ := h
  refine lp2 _ ?_ n2 _ _ ls h (lv_sub hl [2, 0, 1] rfl)
  · intro z1 z2 ls h hl
    try dsimp only at h
    refine lv_iconst (v := 0) hx hb dX0_someDrumHas_27 (by decide) ?_
    exact rd_zret hx hb hr hk rfl h dX0_someDrumHas_28

def wp_X0_isLastOfSign (post : Int32 → Prop) (s0 : Bd) (x1 : Int32) (x2 : Int32) : Prop := wp_X0_signOf (fun r_1 => wp_X0_flapsWith (fun r_3 => ((¬ r_3 = 0 → post 0) ∧ (r_3 = 0 → post 1))) s0 x1 r_1 (x2 + 1)) s0 x1 x2
set_option maxHeartbeats 4000000 in
set_option maxRecDepth 100000 in
theorem c2_X0_isLastOfSign {l : Launch} {D : va_G} {q : Nat → ClassId} {a0 : Nat → Nat} {s0 : Bd} {x1 : Int32} {x2 : Int32} {post : Int32 → Prop} (h : wp_X0_isLastOfSign post s0 x1 x2) : Met l yX0_isLastOfSign (Cond.code yX0_isLastOfSign cX0_isLastOfSign 3 (some .boolean) :: w_all) ({ frames := 2, cells := 0, slots := 0, locals := 48 } : Room) (rd_P D q [.ref (a0 0), .int x1, .int x2] (bd_w a0 q s0)) (vp_Si post) 0 0 (fun _ => False) := by
  refine rd_start (by decide) (Nat.le_of_ble_eq_true rfl) ?_
  intro p e s m below meth c ls hx hb hr hml hown ht hk hP hQ hV hl
  have hK := hQ.1
  have hown : s.vm.findClass RX0 = some m.cls := hown
  have hl : lv_has ls 3 [(0, .ref (a0 0)), (1, .int x1), (2, .int x2)] := hl
  have hP : va_P D vwCl [((a0 0), .inr (0, [.int (s0.1 0), .int (s0.1 1), .int (s0.1 2), .int (s0.1 3), .int (s0.1 4), .int (s0.1 5), .ref (a0 1), .ref (a0 2), .ref (a0 3), .ref (a0 4), .ref (a0 5), .ref (a0 6), .ref (a0 7), .ref (a0 8), .ref (a0 9), .ref (a0 10), .ref (a0 11), .ref (a0 12)])), ((a0 1), .inl (q 0, 4, .inl (s0.2.1 0))), ((a0 2), .inl (q 0, 4, .inl (s0.2.1 1))), ((a0 3), .inl (q 0, 160, .inl (s0.2.1 2))), ((a0 4), .inl (q 0, 40, .inl (s0.2.1 3))), ((a0 5), .inl (q 0, 40, .inl (s0.2.1 4))), ((a0 6), .inl (q 0, 40, .inl (s0.2.1 5))), ((a0 7), .inl (q 0, 40, .inl (s0.2.1 6))), ((a0 8), .inl (q 0, 40, .inl (s0.2.1 7))), ((a0 9), .inl (q 0, 40, .inl (s0.2.1 8))), ((a0 10), .inl (q 0, 40, .inl (s0.2.1 9))), ((a0 11), .inl (q 1, 40, .inr (.inl s0.2.2.1))), ((a0 12), .inl (q 0, s0.2.2.2.1, .inl s0.2.2.2.2))] s.heap := hP
  unfold wp_X0_isLastOfSign at h
  refine lv_aload_n hx hb dX0_isLastOfSign_0 rfl (lv_at hl 0 rfl) ?_
  refine lv_iload_n hx hb dX0_isLastOfSign_1 rfl (lv_at hl 1 rfl) ?_
  refine lv_aload_n hx hb dX0_isLastOfSign_2 rfl (lv_at hl 0 rfl) ?_
  refine lv_iload_n hx hb dX0_isLastOfSign_3 rfl (lv_at hl 1 rfl) ?_
  refine lv_iload_n hx hb dX0_isLastOfSign_4 rfl (lv_at hl 2 rfl) ?_
  refine vp_callSi (rd_wV (wc := bd_w a0 q s0) (As := [.int x1, .int x2]) (rest := [.int x1, .ref (a0 0)]) hx hb hml hown ht (c2_X0_signOf h) wd_X0_signOf mw_668 hQ hV va_S.rf (hP.sub [0, 1, 2, 3, 4, 5, 6, 7, 8, 9, 10, 11, 12] rfl) rfl rfl rfl hl.1 rfl (Nat.le_of_ble_eq_true rfl) dX0_isLastOfSign_5 ⟨Nat.le_of_ble_eq_true rfl, Nat.le_of_ble_eq_true rfl, rfl, rfl⟩ ⟨Nat.le_of_ble_eq_true rfl, Nat.le_of_ble_eq_true rfl⟩) (fun r_1 h => ?_)
  try dsimp only at h
  refine lv_iload_n hx hb dX0_isLastOfSign_8 rfl (lv_at hl 2 rfl) ?_
  refine lv_iconst (v := 1) hx hb dX0_isLastOfSign_9 (by decide) ?_
  refine lv_iadd hx hb dX0_isLastOfSign_10 ?_
  refine vp_callSi (rd_wV (wc := bd_w a0 q s0) (As := [.int x1, .int r_1, .int (x2 + 1)]) (rest := []) hx hb hml hown ht (c2_X0_flapsWith h) wd_X0_flapsWith mw_921 hQ hV va_S.rf (hP.sub [0, 1, 2, 3, 4, 5, 6, 7, 8, 9, 10, 11, 12] rfl) rfl rfl rfl hl.1 rfl (Nat.le_of_ble_eq_true rfl) dX0_isLastOfSign_11 ⟨Nat.le_of_ble_eq_true rfl, Nat.le_of_ble_eq_true rfl, rfl, rfl⟩ ⟨Nat.le_of_ble_eq_true rfl, Nat.le_of_ble_eq_true rfl⟩) (fun r_3 h => ?_)
  try dsimp only at h
  refine lv_if_ne (tgt := 21) hx hb dX0_isLastOfSign_14 (by decide) (fun c_5 => ?_) (fun c_5 => ?_)
  · replace h := h.1 c_5
    refine lv_iconst (v := 0) hx hb dX0_isLastOfSign_21 (by decide) ?_
    exact rd_zret hx hb hr hk rfl h dX0_isLastOfSign_22
  · replace h := h.2 c_5
    refine lv_iconst (v := 1) hx hb dX0_isLastOfSign_17 (by decide) ?_
    refine lv_goto (tgt := 22) hx hb dX0_isLastOfSign_18 (by decide) ?_
    exact rd_zret hx hb hr hk rfl h dX0_isLastOfSign_22

def wp_X0_nearest_L60 (s0 : Bd) (post : Int32 → Prop) (e121 : Int32 → Int32 → Int32 → Int32 → Int32 → Int64 → Int32 → Int32 → Prop) : Nat → Int32 → Int32 → Int32 → Int32 → Int32 → Int64 → Int32 → Int32 → Prop
  | 0, _, _, _, _, _, _, _, _ => False
  | n60 + 1, z1, z2, z3, z4, z5, w6, z8, z9 => ((z4 ≤ z9 → e121 z1 z2 z3 z4 z5 w6 z8 z9) ∧ (¬ z4 ≤ z9 → vp_in (z5 + z8) 160 ∧ ((¬ ((s0.2.1 2) (Int32.toNatClampNeg (z5 + z8))) = z2 → ((z4 ≤ (z8 + 1) → wp_X0_nearest_L60 s0 post e121 n60 z1 z2 z3 z4 z5 w6 0 (z9 + 1)) ∧ (¬ z4 ≤ (z8 + 1) → wp_X0_nearest_L60 s0 post e121 n60 z1 z2 z3 z4 z5 w6 (z8 + 1) (z9 + 1)))) ∧ (((s0.2.1 2) (Int32.toNatClampNeg (z5 + z8))) = z2 → (((lg_cmp ((w6 >>> (Int32.toInt64 z8 &&& 63)) &&& 1) 0) = 0 → ((z4 ≤ (z8 + 1) → wp_X0_nearest_L60 s0 post e121 n60 z1 z2 z3 z4 z5 w6 0 (z9 + 1)) ∧ (¬ z4 ≤ (z8 + 1) → wp_X0_nearest_L60 s0 post e121 n60 z1 z2 z3 z4 z5 w6 (z8 + 1) (z9 + 1)))) ∧ (¬ (lg_cmp ((w6 >>> (Int32.toInt64 z8 &&& 63)) &&& 1) 0) = 0 → post z8))))))
def wp_X0_nearest (post : Int32 → Prop) (s0 : Bd) (x1 : Int32) (x2 : Int32) : Prop := vp_in x1 40 ∧ ((((s0.2.1 3) (Int32.toNatClampNeg x1)) < 0 → vp_in x1 40 ∧ vp_in x1 40 ∧ (∃ n60, wp_X0_nearest_L60 s0 post (fun z1 z2 z3 z4 z5 w6 z8 z9 => post (-1)) n60 x1 x2 ((s0.2.1 3) (Int32.toNatClampNeg x1)) 0 (((s0.2.1 3) (Int32.toNatClampNeg x1)) * 40) ((s0.2.2.1 (Int32.toNatClampNeg x1)) ^^^ (-1)) ((s0.2.1 5) (Int32.toNatClampNeg x1)) 0)) ∧ (¬ ((s0.2.1 3) (Int32.toNatClampNeg x1)) < 0 → (((s0.1 3) ≤ ((s0.2.1 3) (Int32.toNatClampNeg x1)) → vp_in x1 40 ∧ vp_in x1 40 ∧ (∃ n60, wp_X0_nearest_L60 s0 post (fun z1 z2 z3 z4 z5 w6 z8 z9 => post (-1)) n60 x1 x2 ((s0.2.1 3) (Int32.toNatClampNeg x1)) 0 (((s0.2.1 3) (Int32.toNatClampNeg x1)) * 40) ((s0.2.2.1 (Int32.toNatClampNeg x1)) ^^^ (-1)) ((s0.2.1 5) (Int32.toNatClampNeg x1)) 0)) ∧ (¬ (s0.1 3) ≤ ((s0.2.1 3) (Int32.toNatClampNeg x1)) → vp_in ((s0.2.1 3) (Int32.toNatClampNeg x1)) 4 ∧ vp_in x1 40 ∧ vp_in x1 40 ∧ (∃ n60, wp_X0_nearest_L60 s0 post (fun z1 z2 z3 z4 z5 w6 z8 z9 => post (-1)) n60 x1 x2 ((s0.2.1 3) (Int32.toNatClampNeg x1)) ((s0.2.1 1) (Int32.toNatClampNeg ((s0.2.1 3) (Int32.toNatClampNeg x1)))) (((s0.2.1 3) (Int32.toNatClampNeg x1)) * 40) ((s0.2.2.1 (Int32.toNatClampNeg x1)) ^^^ (-1)) ((s0.2.1 5) (Int32.toNatClampNeg x1)) 0)))))
set_option maxHeartbeats 4000000 in
set_option maxRecDepth 100000 in
theorem c2_X0_nearest {l : Launch} {D : va_G} {q : Nat → ClassId} {a0 : Nat → Nat} {s0 : Bd} {x1 : Int32} {x2 : Int32} {post : Int32 → Prop} (h : wp_X0_nearest post s0 x1 x2) : Met l yX0_nearest (Cond.code yX0_nearest cX0_nearest 10 (some .int) :: w_all) ({ frames := 0, cells := 0, slots := 0, locals := 0 } : Room) (rd_P D q [.ref (a0 0), .int x1, .int x2] (bd_w a0 q s0)) (vp_Si post) 0 0 (fun _ => False) := by
  refine rd_start (by decide) (Nat.le_of_ble_eq_true rfl) ?_
  intro p e s m below meth c ls hx hb hr hml hown ht hk hP hQ hV hl
  have hK := hQ.1
  have hown : s.vm.findClass RX0 = some m.cls := hown
  have hl : lv_has ls 10 [(0, .ref (a0 0)), (1, .int x1), (2, .int x2)] := hl
  have hP : va_P D vwCl [((a0 0), .inr (0, [.int (s0.1 0), .int (s0.1 1), .int (s0.1 2), .int (s0.1 3), .int (s0.1 4), .int (s0.1 5), .ref (a0 1), .ref (a0 2), .ref (a0 3), .ref (a0 4), .ref (a0 5), .ref (a0 6), .ref (a0 7), .ref (a0 8), .ref (a0 9), .ref (a0 10), .ref (a0 11), .ref (a0 12)])), ((a0 1), .inl (q 0, 4, .inl (s0.2.1 0))), ((a0 2), .inl (q 0, 4, .inl (s0.2.1 1))), ((a0 3), .inl (q 0, 160, .inl (s0.2.1 2))), ((a0 4), .inl (q 0, 40, .inl (s0.2.1 3))), ((a0 5), .inl (q 0, 40, .inl (s0.2.1 4))), ((a0 6), .inl (q 0, 40, .inl (s0.2.1 5))), ((a0 7), .inl (q 0, 40, .inl (s0.2.1 6))), ((a0 8), .inl (q 0, 40, .inl (s0.2.1 7))), ((a0 9), .inl (q 0, 40, .inl (s0.2.1 8))), ((a0 10), .inl (q 0, 40, .inl (s0.2.1 9))), ((a0 11), .inl (q 1, 40, .inr (.inl s0.2.2.1))), ((a0 12), .inl (q 0, s0.2.2.2.1, .inl s0.2.2.2.2))] s.heap := hP
  unfold wp_X0_nearest at h
  refine lv_aload_n hx hb dX0_nearest_0 rfl (lv_at hl 0 rfl) ?_
  refine fl_get (C := RX0) (T := TX0) (N := 18) (ci := 0) (v := .ref (a0 4)) hx hb ht in_X0 hown hK hP 0 rfl rfl 9 (by decide) mw_192 rfl dX0_nearest_1 ?_
  refine lv_iload_n hx hb dX0_nearest_4 rfl (lv_at hl 1 rfl) ?_
  obtain ⟨g_1, h⟩ := h
  refine va_iald hx hb hK hP 4 0 rfl rfl g_1 dX0_nearest_5 ?_
  refine lv_istore_n (lv' := [(3, .int ((s0.2.1 3) (Int32.toNatClampNeg x1))), (0, .ref (a0 0)), (1, .int x1), (2, .int x2)]) hx hb dX0_nearest_6 rfl hl (by decide) rfl (fun ls hl => ?_)
  refine lv_iload_n hx hb dX0_nearest_7 rfl (lv_at hl 0 rfl) ?_
  refine lv_if_lt (tgt := 28) hx hb dX0_nearest_8 (by decide) (fun c_2 => ?_) (fun c_2 => ?_)
  · replace h := h.1 c_2
    refine lv_iconst (v := 0) hx hb dX0_nearest_28 (by decide) ?_
    refine lv_istore (lv' := [(4, .int 0), (3, .int ((s0.2.1 3) (Int32.toNatClampNeg x1))), (0, .ref (a0 0)), (1, .int x1), (2, .int x2)]) hx hb dX0_nearest_29 hl (by decide) rfl (fun ls hl => ?_)
    refine lv_iload_n hx hb dX0_nearest_31 rfl (lv_at hl 1 rfl) ?_
    refine lv_bipush (v := 40) hx hb dX0_nearest_32 (by decide) ?_
    refine lv_imul hx hb dX0_nearest_34 ?_
    refine lv_istore (lv' := [(5, .int (((s0.2.1 3) (Int32.toNatClampNeg x1)) * 40)), (4, .int 0), (3, .int ((s0.2.1 3) (Int32.toNatClampNeg x1))), (0, .ref (a0 0)), (1, .int x1), (2, .int x2)]) hx hb dX0_nearest_35 hl (by decide) rfl (fun ls hl => ?_)
    refine lv_aload_n hx hb dX0_nearest_37 rfl (lv_at hl 3 rfl) ?_
    refine fl_get (C := RX0) (T := TX0) (N := 18) (ci := 0) (v := .ref (a0 11)) hx hb ht in_X0 hown hK hP 0 rfl rfl 16 (by decide) mw_206 rfl dX0_nearest_38 ?_
    refine lv_iload_n hx hb dX0_nearest_41 rfl (lv_at hl 4 rfl) ?_
    obtain ⟨g_3, h⟩ := h
    refine va_lald hx hb hK hP 11 1 rfl rfl g_3 dX0_nearest_42 ?_
    refine lv_ldc2 (v := (-1)) hx hb hown (ht _ mw_576) dX0_nearest_43 ?_
    refine lv_lxor hx hb dX0_nearest_46 ?_
    refine lv_lstore (lv' := [(6, .long ((s0.2.2.1 (Int32.toNatClampNeg x1)) ^^^ (-1))), (5, .int (((s0.2.1 3) (Int32.toNatClampNeg x1)) * 40)), (4, .int 0), (3, .int ((s0.2.1 3) (Int32.toNatClampNeg x1))), (0, .ref (a0 0)), (1, .int x1), (2, .int x2)]) hx hb dX0_nearest_47 hl (by decide) rfl (fun ls hl => ?_)
    refine lv_aload_n hx hb dX0_nearest_49 rfl (lv_at hl 4 rfl) ?_
    refine fl_get (C := RX0) (T := TX0) (N := 18) (ci := 0) (v := .ref (a0 6)) hx hb ht in_X0 hown hK hP 0 rfl rfl 11 (by decide) mw_196 rfl dX0_nearest_50 ?_
    refine lv_iload_n hx hb dX0_nearest_53 rfl (lv_at hl 5 rfl) ?_
    obtain ⟨g_4, h⟩ := h
    refine va_iald hx hb hK hP 6 0 rfl rfl g_4 dX0_nearest_54 ?_
    refine lv_istore (lv' := [(8, .int ((s0.2.1 5) (Int32.toNatClampNeg x1))), (6, .long ((s0.2.2.1 (Int32.toNatClampNeg x1)) ^^^ (-1))), (5, .int (((s0.2.1 3) (Int32.toNatClampNeg x1)) * 40)), (4, .int 0), (3, .int ((s0.2.1 3) (Int32.toNatClampNeg x1))), (0, .ref (a0 0)), (1, .int x1), (2, .int x2)]) hx hb dX0_nearest_55 hl (by decide) rfl (fun ls hl => ?_)
    refine lv_iconst (v := 0) hx hb dX0_nearest_57 (by decide) ?_
    refine lv_istore (lv' := [(9, .int 0), (8, .int ((s0.2.1 5) (Int32.toNatClampNeg x1))), (6, .long ((s0.2.2.1 (Int32.toNatClampNeg x1)) ^^^ (-1))), (5, .int (((s0.2.1 3) (Int32.toNatClampNeg x1)) * 40)), (4, .int 0), (3, .int ((s0.2.1 3) (Int32.toNatClampNeg x1))), (0, .ref (a0 0)), (1, .int x1), (2, .int x2)]) hx hb dX0_nearest_58 hl (by decide) rfl (fun ls hl => ?_)
    have lp60 : ∀ (e121 : Int32 → Int32 → Int32 → Int32 → Int32 → Int64 → Int32 → Int32 → Prop) (k121 : ∀ (z1 : Int32) (z2 : Int32) (z3 : Int32) (z4 : Int32) (z5 : Int32) (w6 : Int64) (z8 : Int32) (z9 : Int32) (ls : Array Slot), e121 z1 z2 z3 z4 z5 w6 z8 z9 → lv_has ls 10 [(1, .int z1), (2, .int z2), (3, .int z3), (4, .int z4), (5, .int z5), (6, .long w6), (8, .int z8), (9, .int z9), (0, .ref (a0 0))] → W p l e ({ frames := 0, cells := 0, slots := 0, locals := 0 } : Room) s m [.ref (a0 0), .int x1, .int x2].toArray below meth c s.heap [] 0 0 (MQ below (vp_Si post) [.ref (a0 0), .int x1, .int x2].toArray s 0 0 (fun _ => False)) (F0 m 121 ls [])) (n : Nat) (z1 : Int32) (z2 : Int32) (z3 : Int32) (z4 : Int32) (z5 : Int32) (w6 : Int64) (z8 : Int32) (z9 : Int32) (ls : Array Slot), wp_X0_nearest_L60 s0 post e121 n z1 z2 z3 z4 z5 w6 z8 z9 → lv_has ls 10 [(1, .int z1), (2, .int z2), (3, .int z3), (4, .int z4), (5, .int z5), (6, .long w6), (8, .int z8), (9, .int z9), (0, .ref (a0 0))] → W p l e ({ frames := 0, cells := 0, slots := 0, locals := 0 } : Room) s m [.ref (a0 0), .int x1, .int x2].toArray below meth c s.heap [] 0 0 (MQ below (vp_Si post) [.ref (a0 0), .int x1, .int x2].toArray s 0 0 (fun _ => False)) (F0 m 60 ls []) := by
      intro e121 k121 n
      induction n with
      | zero =>
        intro z1 z2 z3 z4 z5 w6 z8 z9 ls h
        exact h.elim
      | succ n ih =>
        intro z1 z2 z3 z4 z5 w6 z8 z9 ls h hl
        unfold wp_X0_nearest_L60 at h
        refine lv_iload hx hb dX0_nearest_60 (lv_at hl 7 rfl) ?_
        refine lv_iload hx hb dX0_nearest_62 (lv_at hl 3 rfl) ?_
        refine lv_icmp_ge (tgt := 121) hx hb dX0_nearest_64 (by decide) (fun c_5 => ?_) (fun c_5 => ?_)
        · replace h := h.1 c_5
          exact k121 _ _ _ _ _ _ _ _ ls h (lv_sub hl [0, 1, 2, 3, 4, 5, 6, 7, 8] rfl)
        · replace h := h.2 c_5
          refine lv_aload_n hx hb dX0_nearest_67 rfl (lv_at hl 8 rfl) ?_
          refine fl_get (C := RX0) (T := TX0) (N := 18) (ci := 0) (v := .ref (a0 3)) hx hb ht in_X0 hown hK hP 0 rfl rfl 8 (by decide) mw_191 rfl dX0_nearest_68 ?_
          refine lv_iload hx hb dX0_nearest_71 (lv_at hl 4 rfl) ?_
          refine lv_iload hx hb dX0_nearest_73 (lv_at hl 6 rfl) ?_
          refine lv_iadd hx hb dX0_nearest_75 ?_
          obtain ⟨g_6, h⟩ := h
          refine va_iald hx hb hK hP 3 0 rfl rfl g_6 dX0_nearest_76 ?_
          refine lv_iload_n hx hb dX0_nearest_77 rfl (lv_at hl 1 rfl) ?_
          refine lv_icmp_ne (tgt := 96) hx hb dX0_nearest_78 (by decide) (fun c_7 => ?_) (fun c_7 => ?_)
          · replace h := h.1 c_7
            refine lv_iload hx hb dX0_nearest_96 (lv_at hl 6 rfl) ?_
            refine lv_iconst (v := 1) hx hb dX0_nearest_98 (by decide) ?_
            refine lv_iadd hx hb dX0_nearest_99 ?_
            refine lv_iload hx hb dX0_nearest_100 (lv_at hl 3 rfl) ?_
            refine lv_icmp_ge (tgt := 112) hx hb dX0_nearest_102 (by decide) (fun c_8 => ?_) (fun c_8 => ?_)
            · replace h := h.1 c_8
              refine lv_iconst (v := 0) hx hb dX0_nearest_112 (by decide) ?_
              refine lv_istore (lv' := [(8, .int 0), (1, .int z1), (2, .int z2), (3, .int z3), (4, .int z4), (5, .int z5), (6, .long w6), (9, .int z9), (0, .ref (a0 0))]) hx hb dX0_nearest_113 hl (by decide) rfl (fun ls hl => ?_)
              refine lv_iinc (v := (z9 + 1)) (lv' := [(9, .int (z9 + 1)), (8, .int 0), (1, .int z1), (2, .int z2), (3, .int z3), (4, .int z4), (5, .int z5), (6, .long w6), (0, .ref (a0 0))]) hx hb dX0_nearest_115 hl (k := 7) rfl rfl (by decide) rfl (fun ls hl => ?_)
              refine lv_goto (tgt := 60) hx hb dX0_nearest_118 (by decide) ?_
              exact ih _ _ _ _ _ _ _ _ ls h (lv_sub hl [2, 3, 4, 5, 6, 7, 1, 0, 8] rfl)
            · replace h := h.2 c_8
              refine lv_iload hx hb dX0_nearest_105 (lv_at hl 6 rfl) ?_
              refine lv_iconst (v := 1) hx hb dX0_nearest_107 (by decide) ?_
              refine lv_iadd hx hb dX0_nearest_108 ?_
              refine lv_goto (tgt := 113) hx hb dX0_nearest_109 (by decide) ?_
              refine lv_istore (lv' := [(8, .int (z8 + 1)), (1, .int z1), (2, .int z2), (3, .int z3), (4, .int z4), (5, .int z5), (6, .long w6), (9, .int z9), (0, .ref (a0 0))]) hx hb dX0_nearest_113 hl (by decide) rfl (fun ls hl => ?_)
              refine lv_iinc (v := (z9 + 1)) (lv' := [(9, .int (z9 + 1)), (8, .int (z8 + 1)), (1, .int z1), (2, .int z2), (3, .int z3), (4, .int z4), (5, .int z5), (6, .long w6), (0, .ref (a0 0))]) hx hb dX0_nearest_115 hl (k := 7) rfl rfl (by decide) rfl (fun ls hl => ?_)
              refine lv_goto (tgt := 60) hx hb dX0_nearest_118 (by decide) ?_
              exact ih _ _ _ _ _ _ _ _ ls h (lv_sub hl [2, 3, 4, 5, 6, 7, 1, 0, 8] rfl)
          · replace h := h.2 c_7
            refine lv_lload hx hb dX0_nearest_81 (lv_at hl 5 rfl) ?_
            refine lv_iload hx hb dX0_nearest_83 (lv_at hl 6 rfl) ?_
            refine lv_lshr (v := (w6 >>> (Int32.toInt64 z8 &&& 63))) hx hb dX0_nearest_85 rfl ?_
            refine lv_lconst (v := 1) hx hb dX0_nearest_86 (by decide) ?_
            refine lv_land hx hb dX0_nearest_87 ?_
            refine lv_lconst (v := 0) hx hb dX0_nearest_88 (by decide) ?_
            refine W.lcmp hx hb dX0_nearest_89 ?_
            refine lv_if_eq (tgt := 96) hx hb dX0_nearest_90 (by decide) (fun c_9 => ?_) (fun c_9 => ?_)
            · replace h := h.1 c_9
              refine lv_iload hx hb dX0_nearest_96 (lv_at hl 6 rfl) ?_
              refine lv_iconst (v := 1) hx hb dX0_nearest_98 (by decide) ?_
              refine lv_iadd hx hb dX0_nearest_99 ?_
              refine lv_iload hx hb dX0_nearest_100 (lv_at hl 3 rfl) ?_
              refine lv_icmp_ge (tgt := 112) hx hb dX0_nearest_102 (by decide) (fun c_10 => ?_) (fun c_10 => ?_)
              · replace h := h.1 c_10
                refine lv_iconst (v := 0) hx hb dX0_nearest_112 (by decide) ?_
                refine lv_istore (lv' := [(8, .int 0), (1, .int z1), (2, .int z2), (3, .int z3), (4, .int z4), (5, .int z5), (6, .long w6), (9, .int z9), (0, .ref (a0 0))]) hx hb dX0_nearest_113 hl (by decide) rfl (fun ls hl => ?_)
                refine lv_iinc (v := (z9 + 1)) (lv' := [(9, .int (z9 + 1)), (8, .int 0), (1, .int z1), (2, .int z2), (3, .int z3), (4, .int z4), (5, .int z5), (6, .long w6), (0, .ref (a0 0))]) hx hb dX0_nearest_115 hl (k := 7) rfl rfl (by decide) rfl (fun ls hl => ?_)
                refine lv_goto (tgt := 60) hx hb dX0_nearest_118 (by decide) ?_
                exact ih _ _ _ _ _ _ _ _ ls h (lv_sub hl [2, 3, 4, 5, 6, 7, 1, 0, 8] rfl)
              · replace h := h.2 c_10
                refine lv_iload hx hb dX0_nearest_105 (lv_at hl 6 rfl) ?_
                refine lv_iconst (v := 1) hx hb dX0_nearest_107 (by decide) ?_
                refine lv_iadd hx hb dX0_nearest_108 ?_
                refine lv_goto (tgt := 113) hx hb dX0_nearest_109 (by decide) ?_
                refine lv_istore (lv' := [(8, .int (z8 + 1)), (1, .int z1), (2, .int z2), (3, .int z3), (4, .int z4), (5, .int z5), (6, .long w6), (9, .int z9), (0, .ref (a0 0))]) hx hb dX0_nearest_113 hl (by decide) rfl (fun ls hl => ?_)
                refine lv_iinc (v := (z9 + 1)) (lv' := [(9, .int (z9 + 1)), (8, .int (z8 + 1)), (1, .int z1), (2, .int z2), (3, .int z3), (4, .int z4), (5, .int z5), (6, .long w6), (0, .ref (a0 0))]) hx hb dX0_nearest_115 hl (k := 7) rfl rfl (by decide) rfl (fun ls hl => ?_)
                refine lv_goto (tgt := 60) hx hb dX0_nearest_118 (by decide) ?_
                exact ih _ _ _ _ _ _ _ _ ls h (lv_sub hl [2, 3, 4, 5, 6, 7, 1, 0, 8] rfl)
            · replace h := h.2 c_9
              refine lv_iload hx hb dX0_nearest_93 (lv_at hl 6 rfl) ?_
              exact rd_iret hx hb hr hk h dX0_nearest_95
    obtain ⟨n60, h⟩ := h
    refine lp60 _ ?_ n60 _ _ _ _ _ _ _ _ ls h (lv_sub hl [7, 8, 5, 4, 3, 2, 1, 0, 6] rfl)
    · intro z1 z2 z3 z4 z5 w6 z8 z9 ls h hl
      try dsimp only at h
      refine lv_iconst (v := (-1)) hx hb dX0_nearest_121 (by decide) ?_
      exact rd_iret hx hb hr hk h dX0_nearest_122
  · replace h := h.2 c_2
    refine lv_iload_n hx hb dX0_nearest_11 rfl (lv_at hl 0 rfl) ?_
    refine lv_aload_n hx hb dX0_nearest_12 rfl (lv_at hl 1 rfl) ?_
    refine fl_get (C := RX0) (T := TX0) (N := 18) (ci := 0) (v := .int (s0.1 3)) hx hb ht in_X0 hown hK hP 0 rfl rfl 3 (by decide) mw_179 rfl dX0_nearest_13 ?_
    refine lv_icmp_ge (tgt := 28) hx hb dX0_nearest_16 (by decide) (fun c_11 => ?_) (fun c_11 => ?_)
    · replace h := h.1 c_11
      refine lv_iconst (v := 0) hx hb dX0_nearest_28 (by decide) ?_
      refine lv_istore (lv' := [(4, .int 0), (3, .int ((s0.2.1 3) (Int32.toNatClampNeg x1))), (0, .ref (a0 0)), (1, .int x1), (2, .int x2)]) hx hb dX0_nearest_29 hl (by decide) rfl (fun ls hl => ?_)
      refine lv_iload_n hx hb dX0_nearest_31 rfl (lv_at hl 1 rfl) ?_
      refine lv_bipush (v := 40) hx hb dX0_nearest_32 (by decide) ?_
      refine lv_imul hx hb dX0_nearest_34 ?_
      refine lv_istore (lv' := [(5, .int (((s0.2.1 3) (Int32.toNatClampNeg x1)) * 40)), (4, .int 0), (3, .int ((s0.2.1 3) (Int32.toNatClampNeg x1))), (0, .ref (a0 0)), (1, .int x1), (2, .int x2)]) hx hb dX0_nearest_35 hl (by decide) rfl (fun ls hl => ?_)
      refine lv_aload_n hx hb dX0_nearest_37 rfl (lv_at hl 3 rfl) ?_
      refine fl_get (C := RX0) (T := TX0) (N := 18) (ci := 0) (v := .ref (a0 11)) hx hb ht in_X0 hown hK hP 0 rfl rfl 16 (by decide) mw_206 rfl dX0_nearest_38 ?_
      refine lv_iload_n hx hb dX0_nearest_41 rfl (lv_at hl 4 rfl) ?_
      obtain ⟨g_12, h⟩ := h
      refine va_lald hx hb hK hP 11 1 rfl rfl g_12 dX0_nearest_42 ?_
      refine lv_ldc2 (v := (-1)) hx hb hown (ht _ mw_576) dX0_nearest_43 ?_
      refine lv_lxor hx hb dX0_nearest_46 ?_
      refine lv_lstore (lv' := [(6, .long ((s0.2.2.1 (Int32.toNatClampNeg x1)) ^^^ (-1))), (5, .int (((s0.2.1 3) (Int32.toNatClampNeg x1)) * 40)), (4, .int 0), (3, .int ((s0.2.1 3) (Int32.toNatClampNeg x1))), (0, .ref (a0 0)), (1, .int x1), (2, .int x2)]) hx hb dX0_nearest_47 hl (by decide) rfl (fun ls hl => ?_)
      refine lv_aload_n hx hb dX0_nearest_49 rfl (lv_at hl 4 rfl) ?_
      refine fl_get (C := RX0) (T := TX0) (N := 18) (ci := 0) (v := .ref (a0 6)) hx hb ht in_X0 hown hK hP 0 rfl rfl 11 (by decide) mw_196 rfl dX0_nearest_50 ?_
      refine lv_iload_n hx hb dX0_nearest_53 rfl (lv_at hl 5 rfl) ?_
      obtain ⟨g_13, h⟩ := h
      refine va_iald hx hb hK hP 6 0 rfl rfl g_13 dX0_nearest_54 ?_
      refine lv_istore (lv' := [(8, .int ((s0.2.1 5) (Int32.toNatClampNeg x1))), (6, .long ((s0.2.2.1 (Int32.toNatClampNeg x1)) ^^^ (-1))), (5, .int (((s0.2.1 3) (Int32.toNatClampNeg x1)) * 40)), (4, .int 0), (3, .int ((s0.2.1 3) (Int32.toNatClampNeg x1))), (0, .ref (a0 0)), (1, .int x1), (2, .int x2)]) hx hb dX0_nearest_55 hl (by decide) rfl (fun ls hl => ?_)
      refine lv_iconst (v := 0) hx hb dX0_nearest_57 (by decide) ?_
      refine lv_istore (lv' := [(9, .int 0), (8, .int ((s0.2.1 5) (Int32.toNatClampNeg x1))), (6, .long ((s0.2.2.1 (Int32.toNatClampNeg x1)) ^^^ (-1))), (5, .int (((s0.2.1 3) (Int32.toNatClampNeg x1)) * 40)), (4, .int 0), (3, .int ((s0.2.1 3) (Int32.toNatClampNeg x1))), (0, .ref (a0 0)), (1, .int x1), (2, .int x2)]) hx hb dX0_nearest_58 hl (by decide) rfl (fun ls hl => ?_)
      have lp60 : ∀ (e121 : Int32 → Int32 → Int32 → Int32 → Int32 → Int64 → Int32 → Int32 → Prop) (k121 : ∀ (z1 : Int32) (z2 : Int32) (z3 : Int32) (z4 : Int32) (z5 : Int32) (w6 : Int64) (z8 : Int32) (z9 : Int32) (ls : Array Slot), e121 z1 z2 z3 z4 z5 w6 z8 z9 → lv_has ls 10 [(1, .int z1), (2, .int z2), (3, .int z3), (4, .int z4), (5, .int z5), (6, .long w6), (8, .int z8), (9, .int z9), (0, .ref (a0 0))] → W p l e ({ frames := 0, cells := 0, slots := 0, locals := 0 } : Room) s m [.ref (a0 0), .int x1, .int x2].toArray below meth c s.heap [] 0 0 (MQ below (vp_Si post) [.ref (a0 0), .int x1, .int x2].toArray s 0 0 (fun _ => False)) (F0 m 121 ls [])) (n : Nat) (z1 : Int32) (z2 : Int32) (z3 : Int32) (z4 : Int32) (z5 : Int32) (w6 : Int64) (z8 : Int32) (z9 : Int32) (ls : Array Slot), wp_X0_nearest_L60 s0 post e121 n z1 z2 z3 z4 z5 w6 z8 z9 → lv_has ls 10 [(1, .int z1), (2, .int z2), (3, .int z3), (4, .int z4), (5, .int z5), (6, .long w6), (8, .int z8), (9, .int z9), (0, .ref (a0 0))] → W p l e ({ frames := 0, cells := 0, slots := 0, locals := 0 } : Room) s m [.ref (a0 0), .int x1, .int x2].toArray below meth c s.heap [] 0 0 (MQ below (vp_Si post) [.ref (a0 0), .int x1, .int x2].toArray s 0 0 (fun _ => False)) (F0 m 60 ls []) := by
        intro e121 k121 n
        induction n with
        | zero =>
          intro z1 z2 z3 z4 z5 w6 z8 z9 ls h
          exact h.elim
        | succ n ih =>
          intro z1 z2 z3 z4 z5 w6 z8 z9 ls h hl
          unfold wp_X0_nearest_L60 at h
          refine lv_iload hx hb dX0_nearest_60 (lv_at hl 7 rfl) ?_
          refine lv_iload hx hb dX0_nearest_62 (lv_at hl 3 rfl) ?_
          refine lv_icmp_ge (tgt := 121) hx hb dX0_nearest_64 (by decide) (fun c_14 => ?_) (fun c_14 => ?_)
          · replace h := h.1 c_14
            exact k121 _ _ _ _ _ _ _ _ ls h (lv_sub hl [0, 1, 2, 3, 4, 5, 6, 7, 8] rfl)
          · replace h := h.2 c_14
            refine lv_aload_n hx hb dX0_nearest_67 rfl (lv_at hl 8 rfl) ?_
            refine fl_get (C := RX0) (T := TX0) (N := 18) (ci := 0) (v := .ref (a0 3)) hx hb ht in_X0 hown hK hP 0 rfl rfl 8 (by decide) mw_191 rfl dX0_nearest_68 ?_
            refine lv_iload hx hb dX0_nearest_71 (lv_at hl 4 rfl) ?_
            refine lv_iload hx hb dX0_nearest_73 (lv_at hl 6 rfl) ?_
            refine lv_iadd hx hb dX0_nearest_75 ?_
            obtain ⟨g_15, h⟩ := h
            refine va_iald hx hb hK hP 3 0 rfl rfl g_15 dX0_nearest_76 ?_
            refine lv_iload_n hx hb dX0_nearest_77 rfl (lv_at hl 1 rfl) ?_
            refine lv_icmp_ne (tgt := 96) hx hb dX0_nearest_78 (by decide) (fun c_16 => ?_) (fun c_16 => ?_)
            · replace h := h.1 c_16
              refine lv_iload hx hb dX0_nearest_96 (lv_at hl 6 rfl) ?_
              refine lv_iconst (v := 1) hx hb dX0_nearest_98 (by decide) ?_
              refine lv_iadd hx hb dX0_nearest_99 ?_
              refine lv_iload hx hb dX0_nearest_100 (lv_at hl 3 rfl) ?_
              refine lv_icmp_ge (tgt := 112) hx hb dX0_nearest_102 (by decide) (fun c_17 => ?_) (fun c_17 => ?_)
              · replace h := h.1 c_17
                refine lv_iconst (v := 0) hx hb dX0_nearest_112 (by decide) ?_
                refine lv_istore (lv' := [(8, .int 0), (1, .int z1), (2, .int z2), (3, .int z3), (4, .int z4), (5, .int z5), (6, .long w6), (9, .int z9), (0, .ref (a0 0))]) hx hb dX0_nearest_113 hl (by decide) rfl (fun ls hl => ?_)
                refine lv_iinc (v := (z9 + 1)) (lv' := [(9, .int (z9 + 1)), (8, .int 0), (1, .int z1), (2, .int z2), (3, .int z3), (4, .int z4), (5, .int z5), (6, .long w6), (0, .ref (a0 0))]) hx hb dX0_nearest_115 hl (k := 7) rfl rfl (by decide) rfl (fun ls hl => ?_)
                refine lv_goto (tgt := 60) hx hb dX0_nearest_118 (by decide) ?_
                exact ih _ _ _ _ _ _ _ _ ls h (lv_sub hl [2, 3, 4, 5, 6, 7, 1, 0, 8] rfl)
              · replace h := h.2 c_17
                refine lv_iload hx hb dX0_nearest_105 (lv_at hl 6 rfl) ?_
                refine lv_iconst (v := 1) hx hb dX0_nearest_107 (by decide) ?_
                refine lv_iadd hx hb dX0_nearest_108 ?_
                refine lv_goto (tgt := 113) hx hb dX0_nearest_109 (by decide) ?_
                refine lv_istore (lv' := [(8, .int (z8 + 1)), (1, .int z1), (2, .int z2), (3, .int z3), (4, .int z4), (5, .int z5), (6, .long w6), (9, .int z9), (0, .ref (a0 0))]) hx hb dX0_nearest_113 hl (by decide) rfl (fun ls hl => ?_)
                refine lv_iinc (v := (z9 + 1)) (lv' := [(9, .int (z9 + 1)), (8, .int (z8 + 1)), (1, .int z1), (2, .int z2), (3, .int z3), (4, .int z4), (5, .int z5), (6, .long w6), (0, .ref (a0 0))]) hx hb dX0_nearest_115 hl (k := 7) rfl rfl (by decide) rfl (fun ls hl => ?_)
                refine lv_goto (tgt := 60) hx hb dX0_nearest_118 (by decide) ?_
                exact ih _ _ _ _ _ _ _ _ ls h (lv_sub hl [2, 3, 4, 5, 6, 7, 1, 0, 8] rfl)
            · replace h := h.2 c_16
              refine lv_lload hx hb dX0_nearest_81 (lv_at hl 5 rfl) ?_
              refine lv_iload hx hb dX0_nearest_83 (lv_at hl 6 rfl) ?_
              refine lv_lshr (v := (w6 >>> (Int32.toInt64 z8 &&& 63))) hx hb dX0_nearest_85 rfl ?_
              refine lv_lconst (v := 1) hx hb dX0_nearest_86 (by decide) ?_
              refine lv_land hx hb dX0_nearest_87 ?_
              refine lv_lconst (v := 0) hx hb dX0_nearest_88 (by decide) ?_
              refine W.lcmp hx hb dX0_nearest_89 ?_
              refine lv_if_eq (tgt := 96) hx hb dX0_nearest_90 (by decide) (fun c_18 => ?_) (fun c_18 => ?_)
              · replace h := h.1 c_18
                refine lv_iload hx hb dX0_nearest_96 (lv_at hl 6 rfl) ?_
                refine lv_iconst (v := 1) hx hb dX0_nearest_98 (by decide) ?_
                refine lv_iadd hx hb dX0_nearest_99 ?_
                refine lv_iload hx hb dX0_nearest_100 (lv_at hl 3 rfl) ?_
                refine lv_icmp_ge (tgt := 112) hx hb dX0_nearest_102 (by decide) (fun c_19 => ?_) (fun c_19 => ?_)
                · replace h := h.1 c_19
                  refine lv_iconst (v := 0) hx hb dX0_nearest_112 (by decide) ?_
                  refine lv_istore (lv' := [(8, .int 0), (1, .int z1), (2, .int z2), (3, .int z3), (4, .int z4), (5, .int z5), (6, .long w6), (9, .int z9), (0, .ref (a0 0))]) hx hb dX0_nearest_113 hl (by decide) rfl (fun ls hl => ?_)
                  refine lv_iinc (v := (z9 + 1)) (lv' := [(9, .int (z9 + 1)), (8, .int 0), (1, .int z1), (2, .int z2), (3, .int z3), (4, .int z4), (5, .int z5), (6, .long w6), (0, .ref (a0 0))]) hx hb dX0_nearest_115 hl (k := 7) rfl rfl (by decide) rfl (fun ls hl => ?_)
                  refine lv_goto (tgt := 60) hx hb dX0_nearest_118 (by decide) ?_
                  exact ih _ _ _ _ _ _ _ _ ls h (lv_sub hl [2, 3, 4, 5, 6, 7, 1, 0, 8] rfl)
                · replace h := h.2 c_19
                  refine lv_iload hx hb dX0_nearest_105 (lv_at hl 6 rfl) ?_
                  refine lv_iconst (v := 1) hx hb dX0_nearest_107 (by decide) ?_
                  refine lv_iadd hx hb dX0_nearest_108 ?_
                  refine lv_goto (tgt := 113) hx hb dX0_nearest_109 (by decide) ?_
                  refine lv_istore (lv' := [(8, .int (z8 + 1)), (1, .int z1), (2, .int z2), (3, .int z3), (4, .int z4), (5, .int z5), (6, .long w6), (9, .int z9), (0, .ref (a0 0))]) hx hb dX0_nearest_113 hl (by decide) rfl (fun ls hl => ?_)
                  refine lv_iinc (v := (z9 + 1)) (lv' := [(9, .int (z9 + 1)), (8, .int (z8 + 1)), (1, .int z1), (2, .int z2), (3, .int z3), (4, .int z4), (5, .int z5), (6, .long w6), (0, .ref (a0 0))]) hx hb dX0_nearest_115 hl (k := 7) rfl rfl (by decide) rfl (fun ls hl => ?_)
                  refine lv_goto (tgt := 60) hx hb dX0_nearest_118 (by decide) ?_
                  exact ih _ _ _ _ _ _ _ _ ls h (lv_sub hl [2, 3, 4, 5, 6, 7, 1, 0, 8] rfl)
              · replace h := h.2 c_18
                refine lv_iload hx hb dX0_nearest_93 (lv_at hl 6 rfl) ?_
                exact rd_iret hx hb hr hk h dX0_nearest_95
      obtain ⟨n60, h⟩ := h
      refine lp60 _ ?_ n60 _ _ _ _ _ _ _ _ ls h (lv_sub hl [7, 8, 5, 4, 3, 2, 1, 0, 6] rfl)
      · intro z1 z2 z3 z4 z5 w6 z8 z9 ls h hl
        try dsimp only at h
        refine lv_iconst (v := (-1)) hx hb dX0_nearest_121 (by decide) ?_
        exact rd_iret hx hb hr hk h dX0_nearest_122
    · replace h := h.2 c_11
      refine lv_aload_n hx hb dX0_nearest_19 rfl (lv_at hl 1 rfl) ?_
      refine fl_get (C := RX0) (T := TX0) (N := 18) (ci := 0) (v := .ref (a0 2)) hx hb ht in_X0 hown hK hP 0 rfl rfl 7 (by decide) mw_190 rfl dX0_nearest_20 ?_
      refine lv_iload_n hx hb dX0_nearest_23 rfl (lv_at hl 0 rfl) ?_
      obtain ⟨g_20, h⟩ := h
      refine va_iald hx hb hK hP 2 0 rfl rfl g_20 dX0_nearest_24 ?_
      refine lv_goto (tgt := 29) hx hb dX0_nearest_25 (by decide) ?_
      refine lv_istore (lv' := [(4, .int ((s0.2.1 1) (Int32.toNatClampNeg ((s0.2.1 3) (Int32.toNatClampNeg x1))))), (3, .int ((s0.2.1 3) (Int32.toNatClampNeg x1))), (0, .ref (a0 0)), (1, .int x1), (2, .int x2)]) hx hb dX0_nearest_29 hl (by decide) rfl (fun ls hl => ?_)
      refine lv_iload_n hx hb dX0_nearest_31 rfl (lv_at hl 1 rfl) ?_
      refine lv_bipush (v := 40) hx hb dX0_nearest_32 (by decide) ?_
      refine lv_imul hx hb dX0_nearest_34 ?_
      refine lv_istore (lv' := [(5, .int (((s0.2.1 3) (Int32.toNatClampNeg x1)) * 40)), (4, .int ((s0.2.1 1) (Int32.toNatClampNeg ((s0.2.1 3) (Int32.toNatClampNeg x1))))), (3, .int ((s0.2.1 3) (Int32.toNatClampNeg x1))), (0, .ref (a0 0)), (1, .int x1), (2, .int x2)]) hx hb dX0_nearest_35 hl (by decide) rfl (fun ls hl => ?_)
      refine lv_aload_n hx hb dX0_nearest_37 rfl (lv_at hl 3 rfl) ?_
      refine fl_get (C := RX0) (T := TX0) (N := 18) (ci := 0) (v := .ref (a0 11)) hx hb ht in_X0 hown hK hP 0 rfl rfl 16 (by decide) mw_206 rfl dX0_nearest_38 ?_
      refine lv_iload_n hx hb dX0_nearest_41 rfl (lv_at hl 4 rfl) ?_
      obtain ⟨g_21, h⟩ := h
      refine va_lald hx hb hK hP 11 1 rfl rfl g_21 dX0_nearest_42 ?_
      refine lv_ldc2 (v := (-1)) hx hb hown (ht _ mw_576) dX0_nearest_43 ?_
      refine lv_lxor hx hb dX0_nearest_46 ?_
      refine lv_lstore (lv' := [(6, .long ((s0.2.2.1 (Int32.toNatClampNeg x1)) ^^^ (-1))), (5, .int (((s0.2.1 3) (Int32.toNatClampNeg x1)) * 40)), (4, .int ((s0.2.1 1) (Int32.toNatClampNeg ((s0.2.1 3) (Int32.toNatClampNeg x1))))), (3, .int ((s0.2.1 3) (Int32.toNatClampNeg x1))), (0, .ref (a0 0)), (1, .int x1), (2, .int x2)]) hx hb dX0_nearest_47 hl (by decide) rfl (fun ls hl => ?_)
      refine lv_aload_n hx hb dX0_nearest_49 rfl (lv_at hl 4 rfl) ?_
      refine fl_get (C := RX0) (T := TX0) (N := 18) (ci := 0) (v := .ref (a0 6)) hx hb ht in_X0 hown hK hP 0 rfl rfl 11 (by decide) mw_196 rfl dX0_nearest_50 ?_
      refine lv_iload_n hx hb dX0_nearest_53 rfl (lv_at hl 5 rfl) ?_
      obtain ⟨g_22, h⟩ := h
      refine va_iald hx hb hK hP 6 0 rfl rfl g_22 dX0_nearest_54 ?_
      refine lv_istore (lv' := [(8, .int ((s0.2.1 5) (Int32.toNatClampNeg x1))), (6, .long ((s0.2.2.1 (Int32.toNatClampNeg x1)) ^^^ (-1))), (5, .int (((s0.2.1 3) (Int32.toNatClampNeg x1)) * 40)), (4, .int ((s0.2.1 1) (Int32.toNatClampNeg ((s0.2.1 3) (Int32.toNatClampNeg x1))))), (3, .int ((s0.2.1 3) (Int32.toNatClampNeg x1))), (0, .ref (a0 0)), (1, .int x1), (2, .int x2)]) hx hb dX0_nearest_55 hl (by decide) rfl (fun ls hl => ?_)
      refine lv_iconst (v := 0) hx hb dX0_nearest_57 (by decide) ?_
      refine lv_istore (lv' := [(9, .int 0), (8, .int ((s0.2.1 5) (Int32.toNatClampNeg x1))), (6, .long ((s0.2.2.1 (Int32.toNatClampNeg x1)) ^^^ (-1))), (5, .int (((s0.2.1 3) (Int32.toNatClampNeg x1)) * 40)), (4, .int ((s0.2.1 1) (Int32.toNatClampNeg ((s0.2.1 3) (Int32.toNatClampNeg x1))))), (3, .int ((s0.2.1 3) (Int32.toNatClampNeg x1))), (0, .ref (a0 0)), (1, .int x1), (2, .int x2)]) hx hb dX0_nearest_58 hl (by decide) rfl (fun ls hl => ?_)
      have lp60 : ∀ (e121 : Int32 → Int32 → Int32 → Int32 → Int32 → Int64 → Int32 → Int32 → Prop) (k121 : ∀ (z1 : Int32) (z2 : Int32) (z3 : Int32) (z4 : Int32) (z5 : Int32) (w6 : Int64) (z8 : Int32) (z9 : Int32) (ls : Array Slot), e121 z1 z2 z3 z4 z5 w6 z8 z9 → lv_has ls 10 [(1, .int z1), (2, .int z2), (3, .int z3), (4, .int z4), (5, .int z5), (6, .long w6), (8, .int z8), (9, .int z9), (0, .ref (a0 0))] → W p l e ({ frames := 0, cells := 0, slots := 0, locals := 0 } : Room) s m [.ref (a0 0), .int x1, .int x2].toArray below meth c s.heap [] 0 0 (MQ below (vp_Si post) [.ref (a0 0), .int x1, .int x2].toArray s 0 0 (fun _ => False)) (F0 m 121 ls [])) (n : Nat) (z1 : Int32) (z2 : Int32) (z3 : Int32) (z4 : Int32) (z5 : Int32) (w6 : Int64) (z8 : Int32) (z9 : Int32) (ls : Array Slot), wp_X0_nearest_L60 s0 post e121 n z1 z2 z3 z4 z5 w6 z8 z9 → lv_has ls 10 [(1, .int z1), (2, .int z2), (3, .int z3), (4, .int z4), (5, .int z5), (6, .long w6), (8, .int z8), (9, .int z9), (0, .ref (a0 0))] → W p l e ({ frames := 0, cells := 0, slots := 0, locals := 0 } : Room) s m [.ref (a0 0), .int x1, .int x2].toArray below meth c s.heap [] 0 0 (MQ below (vp_Si post) [.ref (a0 0), .int x1, .int x2].toArray s 0 0 (fun _ => False)) (F0 m 60 ls []) := by
        intro e121 k121 n
        induction n with
        | zero =>
          intro z1 z2 z3 z4 z5 w6 z8 z9 ls h
          exact h.elim
        | succ n ih =>
          intro z1 z2 z3 z4 z5 w6 z8 z9 ls h hl
          unfold wp_X0_nearest_L60 at h
          refine lv_iload hx hb dX0_nearest_60 (lv_at hl 7 rfl) ?_
          refine lv_iload hx hb dX0_nearest_62 (lv_at hl 3 rfl) ?_
          refine lv_icmp_ge (tgt := 121) hx hb dX0_nearest_64 (by decide) (fun c_23 => ?_) (fun c_23 => ?_)
          · replace h := h.1 c_23
            exact k121 _ _ _ _ _ _ _ _ ls h (lv_sub hl [0, 1, 2, 3, 4, 5, 6, 7, 8] rfl)
          · replace h := h.2 c_23
            refine lv_aload_n hx hb dX0_nearest_67 rfl (lv_at hl 8 rfl) ?_
            refine fl_get (C := RX0) (T := TX0) (N := 18) (ci := 0) (v := .ref (a0 3)) hx hb ht in_X0 hown hK hP 0 rfl rfl 8 (by decide) mw_191 rfl dX0_nearest_68 ?_
            refine lv_iload hx hb dX0_nearest_71 (lv_at hl 4 rfl) ?_
            refine lv_iload hx hb dX0_nearest_73 (lv_at hl 6 rfl) ?_
            refine lv_iadd hx hb dX0_nearest_75 ?_
            obtain ⟨g_24, h⟩ := h
            refine va_iald hx hb hK hP 3 0 rfl rfl g_24 dX0_nearest_76 ?_
            refine lv_iload_n hx hb dX0_nearest_77 rfl (lv_at hl 1 rfl) ?_
            refine lv_icmp_ne (tgt := 96) hx hb dX0_nearest_78 (by decide) (fun c_25 => ?_) (fun c_25 => ?_)
            · replace h := h.1 c_25
              refine lv_iload hx hb dX0_nearest_96 (lv_at hl 6 rfl) ?_
              refine lv_iconst (v := 1) hx hb dX0_nearest_98 (by decide) ?_
              refine lv_iadd hx hb dX0_nearest_99 ?_
              refine lv_iload hx hb dX0_nearest_100 (lv_at hl 3 rfl) ?_
              refine lv_icmp_ge (tgt := 112) hx hb dX0_nearest_102 (by decide) (fun c_26 => ?_) (fun c_26 => ?_)
              · replace h := h.1 c_26
                refine lv_iconst (v := 0) hx hb dX0_nearest_112 (by decide) ?_
                refine lv_istore (lv' := [(8, .int 0), (1, .int z1), (2, .int z2), (3, .int z3), (4, .int z4), (5, .int z5), (6, .long w6), (9, .int z9), (0, .ref (a0 0))]) hx hb dX0_nearest_113 hl (by decide) rfl (fun ls hl => ?_)
                refine lv_iinc (v := (z9 + 1)) (lv' := [(9, .int (z9 + 1)), (8, .int 0), (1, .int z1), (2, .int z2), (3, .int z3), (4, .int z4), (5, .int z5), (6, .long w6), (0, .ref (a0 0))]) hx hb dX0_nearest_115 hl (k := 7) rfl rfl (by decide) rfl (fun ls hl => ?_)
                refine lv_goto (tgt := 60) hx hb dX0_nearest_118 (by decide) ?_
                exact ih _ _ _ _ _ _ _ _ ls h (lv_sub hl [2, 3, 4, 5, 6, 7, 1, 0, 8] rfl)
              · replace h := h.2 c_26
                refine lv_iload hx hb dX0_nearest_105 (lv_at hl 6 rfl) ?_
                refine lv_iconst (v := 1) hx hb dX0_nearest_107 (by decide) ?_
                refine lv_iadd hx hb dX0_nearest_108 ?_
                refine lv_goto (tgt := 113) hx hb dX0_nearest_109 (by decide) ?_
                refine lv_istore (lv' := [(8, .int (z8 + 1)), (1, .int z1), (2, .int z2), (3, .int z3), (4, .int z4), (5, .int z5), (6, .long w6), (9, .int z9), (0, .ref (a0 0))]) hx hb dX0_nearest_113 hl (by decide) rfl (fun ls hl => ?_)
                refine lv_iinc (v := (z9 + 1)) (lv' := [(9, .int (z9 + 1)), (8, .int (z8 + 1)), (1, .int z1), (2, .int z2), (3, .int z3), (4, .int z4), (5, .int z5), (6, .long w6), (0, .ref (a0 0))]) hx hb dX0_nearest_115 hl (k := 7) rfl rfl (by decide) rfl (fun ls hl => ?_)
                refine lv_goto (tgt := 60) hx hb dX0_nearest_118 (by decide) ?_
                exact ih _ _ _ _ _ _ _ _ ls h (lv_sub hl [2, 3, 4, 5, 6, 7, 1, 0, 8] rfl)
            · replace h := h.2 c_25
              refine lv_lload hx hb dX0_nearest_81 (lv_at hl 5 rfl) ?_
              refine lv_iload hx hb dX0_nearest_83 (lv_at hl 6 rfl) ?_
              refine lv_lshr (v := (w6 >>> (Int32.toInt64 z8 &&& 63))) hx hb dX0_nearest_85 rfl ?_
              refine lv_lconst (v := 1) hx hb dX0_nearest_86 (by decide) ?_
              refine lv_land hx hb dX0_nearest_87 ?_
              refine lv_lconst (v := 0) hx hb dX0_nearest_88 (by decide) ?_
              refine W.lcmp hx hb dX0_nearest_89 ?_
              refine lv_if_eq (tgt := 96) hx hb dX0_nearest_90 (by decide) (fun c_27 => ?_) (fun c_27 => ?_)
              · replace h := h.1 c_27
                refine lv_iload hx hb dX0_nearest_96 (lv_at hl 6 rfl) ?_
                refine lv_iconst (v := 1) hx hb dX0_nearest_98 (by decide) ?_
                refine lv_iadd hx hb dX0_nearest_99 ?_
                refine lv_iload hx hb dX0_nearest_100 (lv_at hl 3 rfl) ?_
                refine lv_icmp_ge (tgt := 112) hx hb dX0_nearest_102 (by decide) (fun c_28 => ?_) (fun c_28 => ?_)
                · replace h := h.1 c_28
                  refine lv_iconst (v := 0) hx hb dX0_nearest_112 (by decide) ?_
                  refine lv_istore (lv' := [(8, .int 0), (1, .int z1), (2, .int z2), (3, .int z3), (4, .int z4), (5, .int z5), (6, .long w6), (9, .int z9), (0, .ref (a0 0))]) hx hb dX0_nearest_113 hl (by decide) rfl (fun ls hl => ?_)
                  refine lv_iinc (v := (z9 + 1)) (lv' := [(9, .int (z9 + 1)), (8, .int 0), (1, .int z1), (2, .int z2), (3, .int z3), (4, .int z4), (5, .int z5), (6, .long w6), (0, .ref (a0 0))]) hx hb dX0_nearest_115 hl (k := 7) rfl rfl (by decide) rfl (fun ls hl => ?_)
                  refine lv_goto (tgt := 60) hx hb dX0_nearest_118 (by decide) ?_
                  exact ih _ _ _ _ _ _ _ _ ls h (lv_sub hl [2, 3, 4, 5, 6, 7, 1, 0, 8] rfl)
                · replace h := h.2 c_28
                  refine lv_iload hx hb dX0_nearest_105 (lv_at hl 6 rfl) ?_
                  refine lv_iconst (v := 1) hx hb dX0_nearest_107 (by decide) ?_
                  refine lv_iadd hx hb dX0_nearest_108 ?_
                  refine lv_goto (tgt := 113) hx hb dX0_nearest_109 (by decide) ?_
                  refine lv_istore (lv' := [(8, .int (z8 + 1)), (1, .int z1), (2, .int z2), (3, .int z3), (4, .int z4), (5, .int z5), (6, .long w6), (9, .int z9), (0, .ref (a0 0))]) hx hb dX0_nearest_113 hl (by decide) rfl (fun ls hl => ?_)
                  refine lv_iinc (v := (z9 + 1)) (lv' := [(9, .int (z9 + 1)), (8, .int (z8 + 1)), (1, .int z1), (2, .int z2), (3, .int z3), (4, .int z4), (5, .int z5), (6, .long w6), (0, .ref (a0 0))]) hx hb dX0_nearest_115 hl (k := 7) rfl rfl (by decide) rfl (fun ls hl => ?_)
                  refine lv_goto (tgt := 60) hx hb dX0_nearest_118 (by decide) ?_
                  exact ih _ _ _ _ _ _ _ _ ls h (lv_sub hl [2, 3, 4, 5, 6, 7, 1, 0, 8] rfl)
              · replace h := h.2 c_27
                refine lv_iload hx hb dX0_nearest_93 (lv_at hl 6 rfl) ?_
                exact rd_iret hx hb hr hk h dX0_nearest_95
      obtain ⟨n60, h⟩ := h
      refine lp60 _ ?_ n60 _ _ _ _ _ _ _ _ ls h (lv_sub hl [7, 8, 5, 4, 3, 2, 1, 0, 6] rfl)
      · intro z1 z2 z3 z4 z5 w6 z8 z9 ls h hl
        try dsimp only at h
        refine lv_iconst (v := (-1)) hx hb dX0_nearest_121 (by decide) ?_
        exact rd_iret hx hb hr hk h dX0_nearest_122

def wp_X0_missedOfOwn_L12 (s0 : Bd) (post : Int32 → Prop) (e57 : Int32 → Int32 → Int32 → Int32 → Prop) : Nat → Int32 → Int32 → Int32 → Int32 → Prop
  | 0, _, _, _, _ => False
  | n12 + 1, z1, z2, z3, z4 => wp_X0_flapsOn (fun r_2 => ((r_2 ≤ z4 → e57 z1 z2 z3 z4) ∧ (¬ r_2 ≤ z4 → wp_X0_isLastOfSign (fun r_5 => ((r_5 = 0 → wp_X0_missedOfOwn_L12 s0 post e57 n12 z1 z2 z3 (z4 + 1)) ∧ (¬ r_5 = 0 → wp_X0_signOf (fun r_8 => wp_X0_nearest (fun r_10 => ((¬ r_10 = (-1) → wp_X0_missedOfOwn_L12 s0 post e57 n12 z1 z2 z3 (z4 + 1)) ∧ (r_10 = (-1) → wp_X0_missedOfOwn_L12 s0 post e57 n12 z1 z2 (z3 + 1) (z4 + 1)))) s0 z1 r_8) s0 z2 z4))) s0 z2 z4))) s0 z2
def wp_X0_missedOfOwn (post : Int32 → Prop) (s0 : Bd) (x1 : Int32) : Prop := vp_in x1 40 ∧ (∃ n12, wp_X0_missedOfOwn_L12 s0 post (fun z1 z2 z3 z4 => post z3) n12 x1 ((s0.2.1 3) (Int32.toNatClampNeg x1)) 0 0)
set_option maxHeartbeats 4000000 in
set_option maxRecDepth 100000 in
theorem c2_X0_missedOfOwn {l : Launch} {D : va_G} {q : Nat → ClassId} {a0 : Nat → Nat} {s0 : Bd} {x1 : Int32} {post : Int32 → Prop} (h : wp_X0_missedOfOwn post s0 x1) : Met l yX0_missedOfOwn (Cond.code yX0_missedOfOwn cX0_missedOfOwn 5 (some .int) :: w_all) ({ frames := 3, cells := 0, slots := 0, locals := 70 } : Room) (rd_P D q [.ref (a0 0), .int x1] (bd_w a0 q s0)) (vp_Si post) 0 0 (fun _ => False) := by
  refine rd_start (by decide) (Nat.le_of_ble_eq_true rfl) ?_
  intro p e s m below meth c ls hx hb hr hml hown ht hk hP hQ hV hl
  have hK := hQ.1
  have hown : s.vm.findClass RX0 = some m.cls := hown
  have hl : lv_has ls 5 [(0, .ref (a0 0)), (1, .int x1)] := hl
  have hP : va_P D vwCl [((a0 0), .inr (0, [.int (s0.1 0), .int (s0.1 1), .int (s0.1 2), .int (s0.1 3), .int (s0.1 4), .int (s0.1 5), .ref (a0 1), .ref (a0 2), .ref (a0 3), .ref (a0 4), .ref (a0 5), .ref (a0 6), .ref (a0 7), .ref (a0 8), .ref (a0 9), .ref (a0 10), .ref (a0 11), .ref (a0 12)])), ((a0 1), .inl (q 0, 4, .inl (s0.2.1 0))), ((a0 2), .inl (q 0, 4, .inl (s0.2.1 1))), ((a0 3), .inl (q 0, 160, .inl (s0.2.1 2))), ((a0 4), .inl (q 0, 40, .inl (s0.2.1 3))), ((a0 5), .inl (q 0, 40, .inl (s0.2.1 4))), ((a0 6), .inl (q 0, 40, .inl (s0.2.1 5))), ((a0 7), .inl (q 0, 40, .inl (s0.2.1 6))), ((a0 8), .inl (q 0, 40, .inl (s0.2.1 7))), ((a0 9), .inl (q 0, 40, .inl (s0.2.1 8))), ((a0 10), .inl (q 0, 40, .inl (s0.2.1 9))), ((a0 11), .inl (q 1, 40, .inr (.inl s0.2.2.1))), ((a0 12), .inl (q 0, s0.2.2.2.1, .inl s0.2.2.2.2))] s.heap := hP
  unfold wp_X0_missedOfOwn at h
  refine lv_aload_n hx hb dX0_missedOfOwn_0 rfl (lv_at hl 0 rfl) ?_
  refine fl_get (C := RX0) (T := TX0) (N := 18) (ci := 0) (v := .ref (a0 4)) hx hb ht in_X0 hown hK hP 0 rfl rfl 9 (by decide) mw_192 rfl dX0_missedOfOwn_1 ?_
  refine lv_iload_n hx hb dX0_missedOfOwn_4 rfl (lv_at hl 1 rfl) ?_
  obtain ⟨g_1, h⟩ := h
  refine va_iald hx hb hK hP 4 0 rfl rfl g_1 dX0_missedOfOwn_5 ?_
  refine lv_istore_n (lv' := [(2, .int ((s0.2.1 3) (Int32.toNatClampNeg x1))), (0, .ref (a0 0)), (1, .int x1)]) hx hb dX0_missedOfOwn_6 rfl hl (by decide) rfl (fun ls hl => ?_)
  refine lv_iconst (v := 0) hx hb dX0_missedOfOwn_7 (by decide) ?_
  refine lv_istore_n (lv' := [(3, .int 0), (2, .int ((s0.2.1 3) (Int32.toNatClampNeg x1))), (0, .ref (a0 0)), (1, .int x1)]) hx hb dX0_missedOfOwn_8 rfl hl (by decide) rfl (fun ls hl => ?_)
  refine lv_iconst (v := 0) hx hb dX0_missedOfOwn_9 (by decide) ?_
  refine lv_istore (lv' := [(4, .int 0), (3, .int 0), (2, .int ((s0.2.1 3) (Int32.toNatClampNeg x1))), (0, .ref (a0 0)), (1, .int x1)]) hx hb dX0_missedOfOwn_10 hl (by decide) rfl (fun ls hl => ?_)
  have lp12 : ∀ (e57 : Int32 → Int32 → Int32 → Int32 → Prop) (k57 : ∀ (z1 : Int32) (z2 : Int32) (z3 : Int32) (z4 : Int32) (ls : Array Slot), e57 z1 z2 z3 z4 → lv_has ls 5 [(1, .int z1), (2, .int z2), (3, .int z3), (4, .int z4), (0, .ref (a0 0))] → W p l e ({ frames := 3, cells := 0, slots := 0, locals := 70 } : Room) s m [.ref (a0 0), .int x1].toArray below meth c s.heap [] 0 0 (MQ below (vp_Si post) [.ref (a0 0), .int x1].toArray s 0 0 (fun _ => False)) (F0 m 57 ls [])) (n : Nat) (z1 : Int32) (z2 : Int32) (z3 : Int32) (z4 : Int32) (ls : Array Slot), wp_X0_missedOfOwn_L12 s0 post e57 n z1 z2 z3 z4 → lv_has ls 5 [(1, .int z1), (2, .int z2), (3, .int z3), (4, .int z4), (0, .ref (a0 0))] → W p l e ({ frames := 3, cells := 0, slots := 0, locals := 70 } : Room) s m [.ref (a0 0), .int x1].toArray below meth c s.heap [] 0 0 (MQ below (vp_Si post) [.ref (a0 0), .int x1].toArray s 0 0 (fun _ => False)) (F0 m 12 ls []) := by
    intro e57 k57 n
    induction n with
    | zero =>
      intro z1 z2 z3 z4 ls h
      exact h.elim
    | succ n ih =>
      intro z1 z2 z3 z4 ls h hl
      unfold wp_X0_missedOfOwn_L12 at h
      refine lv_iload hx hb dX0_missedOfOwn_12 (lv_at hl 3 rfl) ?_
      refine lv_aload_n hx hb dX0_missedOfOwn_14 rfl (lv_at hl 4 rfl) ?_
      refine lv_iload_n hx hb dX0_missedOfOwn_15 rfl (lv_at hl 1 rfl) ?_
      refine vp_callSi (rd_wV (wc := bd_w a0 q s0) (As := [.int z2]) (rest := [.int z4]) hx hb hml hown ht (c2_X0_flapsOn h) wd_X0_flapsOn mw_772 hQ hV va_S.rf (hP.sub [0, 1, 2, 3, 4, 5, 6, 7, 8, 9, 10, 11, 12] rfl) rfl rfl rfl hl.1 rfl (Nat.le_of_ble_eq_true rfl) dX0_missedOfOwn_16 ⟨Nat.le_of_ble_eq_true rfl, Nat.le_of_ble_eq_true rfl, rfl, rfl⟩ ⟨Nat.le_of_ble_eq_true rfl, Nat.le_of_ble_eq_true rfl⟩) (fun r_2 h => ?_)
      try dsimp only at h
      refine lv_icmp_ge (tgt := 57) hx hb dX0_missedOfOwn_19 (by decide) (fun c_4 => ?_) (fun c_4 => ?_)
      · replace h := h.1 c_4
        exact k57 _ _ _ _ ls h (lv_sub hl [0, 1, 2, 3, 4] rfl)
      · replace h := h.2 c_4
        refine lv_aload_n hx hb dX0_missedOfOwn_22 rfl (lv_at hl 4 rfl) ?_
        refine lv_iload_n hx hb dX0_missedOfOwn_23 rfl (lv_at hl 1 rfl) ?_
        refine lv_iload hx hb dX0_missedOfOwn_24 (lv_at hl 3 rfl) ?_
        refine vp_callSi (rd_wV (wc := bd_w a0 q s0) (As := [.int z2, .int z4]) (rest := []) hx hb hml hown ht (c2_X0_isLastOfSign h) wd_X0_isLastOfSign mw_917 hQ hV va_S.rf (hP.sub [0, 1, 2, 3, 4, 5, 6, 7, 8, 9, 10, 11, 12] rfl) rfl rfl rfl hl.1 rfl (Nat.le_of_ble_eq_true rfl) dX0_missedOfOwn_26 ⟨Nat.le_of_ble_eq_true rfl, Nat.le_of_ble_eq_true rfl, rfl, rfl⟩ ⟨Nat.le_of_ble_eq_true rfl, Nat.le_of_ble_eq_true rfl⟩) (fun r_5 h => ?_)
        try dsimp only at h
        refine lv_if_eq (tgt := 51) hx hb dX0_missedOfOwn_29 (by decide) (fun c_7 => ?_) (fun c_7 => ?_)
        · replace h := h.1 c_7
          refine lv_iinc (v := (z4 + 1)) (lv' := [(4, .int (z4 + 1)), (1, .int z1), (2, .int z2), (3, .int z3), (0, .ref (a0 0))]) hx hb dX0_missedOfOwn_51 hl (k := 3) rfl rfl (by decide) rfl (fun ls hl => ?_)
          refine lv_goto (tgt := 12) hx hb dX0_missedOfOwn_54 (by decide) ?_
          exact ih _ _ _ _ ls h (lv_sub hl [1, 2, 3, 0, 4] rfl)
        · replace h := h.2 c_7
          refine lv_aload_n hx hb dX0_missedOfOwn_32 rfl (lv_at hl 4 rfl) ?_
          refine lv_iload_n hx hb dX0_missedOfOwn_33 rfl (lv_at hl 0 rfl) ?_
          refine lv_aload_n hx hb dX0_missedOfOwn_34 rfl (lv_at hl 4 rfl) ?_
          refine lv_iload_n hx hb dX0_missedOfOwn_35 rfl (lv_at hl 1 rfl) ?_
          refine lv_iload hx hb dX0_missedOfOwn_36 (lv_at hl 3 rfl) ?_
          refine vp_callSi (rd_wV (wc := bd_w a0 q s0) (As := [.int z2, .int z4]) (rest := [.int z1, .ref (a0 0)]) hx hb hml hown ht (c2_X0_signOf h) wd_X0_signOf mw_668 hQ hV va_S.rf (hP.sub [0, 1, 2, 3, 4, 5, 6, 7, 8, 9, 10, 11, 12] rfl) rfl rfl rfl hl.1 rfl (Nat.le_of_ble_eq_true rfl) dX0_missedOfOwn_38 ⟨Nat.le_of_ble_eq_true rfl, Nat.le_of_ble_eq_true rfl, rfl, rfl⟩ ⟨Nat.le_of_ble_eq_true rfl, Nat.le_of_ble_eq_true rfl⟩) (fun r_8 h => ?_)
          try dsimp only at h
          refine vp_callSi (rd_wV (wc := bd_w a0 q s0) (As := [.int z1, .int r_8]) (rest := []) hx hb hml hown ht (c2_X0_nearest h) wd_X0_nearest mw_572 hQ hV va_S.rf (hP.sub [0, 1, 2, 3, 4, 5, 6, 7, 8, 9, 10, 11, 12] rfl) rfl rfl rfl hl.1 rfl (Nat.le_of_ble_eq_true rfl) dX0_missedOfOwn_41 ⟨Nat.le_of_ble_eq_true rfl, Nat.le_of_ble_eq_true rfl, rfl, rfl⟩ ⟨Nat.le_of_ble_eq_true rfl, Nat.le_of_ble_eq_true rfl⟩) (fun r_10 h => ?_)
          try dsimp only at h
          refine lv_iconst (v := (-1)) hx hb dX0_missedOfOwn_44 (by decide) ?_
          refine lv_icmp_ne (tgt := 51) hx hb dX0_missedOfOwn_45 (by decide) (fun c_12 => ?_) (fun c_12 => ?_)
          · replace h := h.1 c_12
            refine lv_iinc (v := (z4 + 1)) (lv' := [(4, .int (z4 + 1)), (1, .int z1), (2, .int z2), (3, .int z3), (0, .ref (a0 0))]) hx hb dX0_missedOfOwn_51 hl (k := 3) rfl rfl (by decide) rfl (fun ls hl => ?_)
            refine lv_goto (tgt := 12) hx hb dX0_missedOfOwn_54 (by decide) ?_
            exact ih _ _ _ _ ls h (lv_sub hl [1, 2, 3, 0, 4] rfl)
          · replace h := h.2 c_12
            refine lv_iinc (v := (z3 + 1)) (lv' := [(3, .int (z3 + 1)), (1, .int z1), (2, .int z2), (4, .int z4), (0, .ref (a0 0))]) hx hb dX0_missedOfOwn_48 hl (k := 2) rfl rfl (by decide) rfl (fun ls hl => ?_)
            refine lv_iinc (v := (z4 + 1)) (lv' := [(4, .int (z4 + 1)), (3, .int (z3 + 1)), (1, .int z1), (2, .int z2), (0, .ref (a0 0))]) hx hb dX0_missedOfOwn_51 hl (k := 3) rfl rfl (by decide) rfl (fun ls hl => ?_)
            refine lv_goto (tgt := 12) hx hb dX0_missedOfOwn_54 (by decide) ?_
            exact ih _ _ _ _ ls h (lv_sub hl [2, 3, 1, 0, 4] rfl)
  obtain ⟨n12, h⟩ := h
  refine lp12 _ ?_ n12 _ _ _ _ ls h (lv_sub hl [4, 2, 1, 0, 3] rfl)
  · intro z1 z2 z3 z4 ls h hl
    try dsimp only at h
    refine lv_iload_n hx hb dX0_missedOfOwn_57 rfl (lv_at hl 2 rfl) ?_
    exact rd_iret hx hb hr hk h dX0_missedOfOwn_58

def wp_X0_signsOfOthers_L5 (s0 : Bd) (post : Int32 → Prop) (e37 : Int32 → Int32 → Int32 → Prop) : Nat → Int32 → Int32 → Int32 → Prop
  | 0, _, _, _ => False
  | n5 + 1, z1, z2, z3 => ((126 < z3 → e37 z1 z2 z3) ∧ (¬ 126 < z3 → wp_X0_someDrumHas (fun r_2 => ((r_2 = 0 → wp_X0_signsOfOthers_L5 s0 post e37 n5 z1 z2 (z3 + 1)) ∧ (¬ r_2 = 0 → wp_X0_drumHas (fun r_5 => ((¬ r_5 = 0 → wp_X0_signsOfOthers_L5 s0 post e37 n5 z1 z2 (z3 + 1)) ∧ (r_5 = 0 → wp_X0_signsOfOthers_L5 s0 post e37 n5 z1 (z2 + 1) (z3 + 1)))) s0 z1 z3))) s0 z3))
def wp_X0_signsOfOthers (post : Int32 → Prop) (s0 : Bd) (x1 : Int32) : Prop := (∃ n5, wp_X0_signsOfOthers_L5 s0 post (fun z1 z2 z3 => post z2) n5 x1 0 32)
set_option maxHeartbeats 4000000 in
set_option maxRecDepth 100000 in
theorem c2_X0_signsOfOthers {l : Launch} {D : va_G} {q : Nat → ClassId} {a0 : Nat → Nat} {s0 : Bd} {x1 : Int32} {post : Int32 → Prop} (h : wp_X0_signsOfOthers post s0 x1) : Met l yX0_signsOfOthers (Cond.code yX0_signsOfOthers cX0_signsOfOthers 4 (some .int) :: w_all) ({ frames := 4, cells := 0, slots := 0, locals := 92 } : Room) (rd_P D q [.ref (a0 0), .int x1] (bd_w a0 q s0)) (vp_Si post) 0 0 (fun _ => False) := by
  refine rd_start (by decide) (Nat.le_of_ble_eq_true rfl) ?_
  intro p e s m below meth c ls hx hb hr hml hown ht hk hP hQ hV hl
  have hK := hQ.1
  have hown : s.vm.findClass RX0 = some m.cls := hown
  have hl : lv_has ls 4 [(0, .ref (a0 0)), (1, .int x1)] := hl
  have hP : va_P D vwCl [((a0 0), .inr (0, [.int (s0.1 0), .int (s0.1 1), .int (s0.1 2), .int (s0.1 3), .int (s0.1 4), .int (s0.1 5), .ref (a0 1), .ref (a0 2), .ref (a0 3), .ref (a0 4), .ref (a0 5), .ref (a0 6), .ref (a0 7), .ref (a0 8), .ref (a0 9), .ref (a0 10), .ref (a0 11), .ref (a0 12)])), ((a0 1), .inl (q 0, 4, .inl (s0.2.1 0))), ((a0 2), .inl (q 0, 4, .inl (s0.2.1 1))), ((a0 3), .inl (q 0, 160, .inl (s0.2.1 2))), ((a0 4), .inl (q 0, 40, .inl (s0.2.1 3))), ((a0 5), .inl (q 0, 40, .inl (s0.2.1 4))), ((a0 6), .inl (q 0, 40, .inl (s0.2.1 5))), ((a0 7), .inl (q 0, 40, .inl (s0.2.1 6))), ((a0 8), .inl (q 0, 40, .inl (s0.2.1 7))), ((a0 9), .inl (q 0, 40, .inl (s0.2.1 8))), ((a0 10), .inl (q 0, 40, .inl (s0.2.1 9))), ((a0 11), .inl (q 1, 40, .inr (.inl s0.2.2.1))), ((a0 12), .inl (q 0, s0.2.2.2.1, .inl s0.2.2.2.2))] s.heap := hP
  unfold wp_X0_signsOfOthers at h
  refine lv_iconst (v := 0) hx hb dX0_signsOfOthers_0 (by decide) ?_
  refine lv_istore_n (lv' := [(2, .int 0), (0, .ref (a0 0)), (1, .int x1)]) hx hb dX0_signsOfOthers_1 rfl hl (by decide) rfl (fun ls hl => ?_)
  refine lv_bipush (v := 32) hx hb dX0_signsOfOthers_2 (by decide) ?_
  refine lv_istore_n (lv' := [(3, .int 32), (2, .int 0), (0, .ref (a0 0)), (1, .int x1)]) hx hb dX0_signsOfOthers_4 rfl hl (by decide) rfl (fun ls hl => ?_)
  have lp5 : ∀ (e37 : Int32 → Int32 → Int32 → Prop) (k37 : ∀ (z1 : Int32) (z2 : Int32) (z3 : Int32) (ls : Array Slot), e37 z1 z2 z3 → lv_has ls 4 [(1, .int z1), (2, .int z2), (3, .int z3), (0, .ref (a0 0))] → W p l e ({ frames := 4, cells := 0, slots := 0, locals := 92 } : Room) s m [.ref (a0 0), .int x1].toArray below meth c s.heap [] 0 0 (MQ below (vp_Si post) [.ref (a0 0), .int x1].toArray s 0 0 (fun _ => False)) (F0 m 37 ls [])) (n : Nat) (z1 : Int32) (z2 : Int32) (z3 : Int32) (ls : Array Slot), wp_X0_signsOfOthers_L5 s0 post e37 n z1 z2 z3 → lv_has ls 4 [(1, .int z1), (2, .int z2), (3, .int z3), (0, .ref (a0 0))] → W p l e ({ frames := 4, cells := 0, slots := 0, locals := 92 } : Room) s m [.ref (a0 0), .int x1].toArray below meth c s.heap [] 0 0 (MQ below (vp_Si post) [.ref (a0 0), .int x1].toArray s 0 0 (fun _ => False)) (F0 m 5 ls []) := by
    intro e37 k37 n
    induction n with
    | zero =>
      intro z1 z2 z3 ls h
      exact h.elim
    | succ n ih =>
      intro z1 z2 z3 ls h hl
      unfold wp_X0_signsOfOthers_L5 at h
      refine lv_iload_n hx hb dX0_signsOfOthers_5 rfl (lv_at hl 2 rfl) ?_
      refine lv_bipush (v := 126) hx hb dX0_signsOfOthers_6 (by decide) ?_
      refine lv_icmp_gt (tgt := 37) hx hb dX0_signsOfOthers_8 (by decide) (fun c_1 => ?_) (fun c_1 => ?_)
      · replace h := h.1 c_1
        exact k37 _ _ _ ls h (lv_sub hl [0, 1, 2, 3] rfl)
      · replace h := h.2 c_1
        refine lv_aload_n hx hb dX0_signsOfOthers_11 rfl (lv_at hl 3 rfl) ?_
        refine lv_iload_n hx hb dX0_signsOfOthers_12 rfl (lv_at hl 2 rfl) ?_
        refine vp_callSi (rd_wV (wc := bd_w a0 q s0) (As := [.int z3]) (rest := []) hx hb hml hown ht (c2_X0_someDrumHas h) wd_X0_someDrumHas mw_1092 hQ hV va_S.rf (hP.sub [0, 1, 2, 3, 4, 5, 6, 7, 8, 9, 10, 11, 12] rfl) rfl rfl rfl hl.1 rfl (Nat.le_of_ble_eq_true rfl) dX0_signsOfOthers_13 ⟨Nat.le_of_ble_eq_true rfl, Nat.le_of_ble_eq_true rfl, rfl, rfl⟩ ⟨Nat.le_of_ble_eq_true rfl, Nat.le_of_ble_eq_true rfl⟩) (fun r_2 h => ?_)
        try dsimp only at h
        refine lv_if_eq (tgt := 31) hx hb dX0_signsOfOthers_16 (by decide) (fun c_4 => ?_) (fun c_4 => ?_)
        · replace h := h.1 c_4
          refine lv_iinc (v := (z3 + 1)) (lv' := [(3, .int (z3 + 1)), (1, .int z1), (2, .int z2), (0, .ref (a0 0))]) hx hb dX0_signsOfOthers_31 hl (k := 2) rfl rfl (by decide) rfl (fun ls hl => ?_)
          refine lv_goto (tgt := 5) hx hb dX0_signsOfOthers_34 (by decide) ?_
          exact ih _ _ _ ls h (lv_sub hl [1, 2, 0, 3] rfl)
        · replace h := h.2 c_4
          refine lv_aload_n hx hb dX0_signsOfOthers_19 rfl (lv_at hl 3 rfl) ?_
          refine lv_iload_n hx hb dX0_signsOfOthers_20 rfl (lv_at hl 0 rfl) ?_
          refine lv_iload_n hx hb dX0_signsOfOthers_21 rfl (lv_at hl 2 rfl) ?_
          refine vp_callSi (rd_wV (wc := bd_w a0 q s0) (As := [.int z1, .int z3]) (rest := []) hx hb hml hown ht (c2_X0_drumHas h) wd_X0_drumHas mw_1096 hQ hV va_S.rf (hP.sub [0, 1, 2, 3, 4, 5, 6, 7, 8, 9, 10, 11, 12] rfl) rfl rfl rfl hl.1 rfl (Nat.le_of_ble_eq_true rfl) dX0_signsOfOthers_22 ⟨Nat.le_of_ble_eq_true rfl, Nat.le_of_ble_eq_true rfl, rfl, rfl⟩ ⟨Nat.le_of_ble_eq_true rfl, Nat.le_of_ble_eq_true rfl⟩) (fun r_5 h => ?_)
          try dsimp only at h
          refine lv_if_ne (tgt := 31) hx hb dX0_signsOfOthers_25 (by decide) (fun c_7 => ?_) (fun c_7 => ?_)
          · replace h := h.1 c_7
            refine lv_iinc (v := (z3 + 1)) (lv' := [(3, .int (z3 + 1)), (1, .int z1), (2, .int z2), (0, .ref (a0 0))]) hx hb dX0_signsOfOthers_31 hl (k := 2) rfl rfl (by decide) rfl (fun ls hl => ?_)
            refine lv_goto (tgt := 5) hx hb dX0_signsOfOthers_34 (by decide) ?_
            exact ih _ _ _ ls h (lv_sub hl [1, 2, 0, 3] rfl)
          · replace h := h.2 c_7
            refine lv_iinc (v := (z2 + 1)) (lv' := [(2, .int (z2 + 1)), (1, .int z1), (3, .int z3), (0, .ref (a0 0))]) hx hb dX0_signsOfOthers_28 hl (k := 1) rfl rfl (by decide) rfl (fun ls hl => ?_)
            refine lv_iinc (v := (z3 + 1)) (lv' := [(3, .int (z3 + 1)), (2, .int (z2 + 1)), (1, .int z1), (0, .ref (a0 0))]) hx hb dX0_signsOfOthers_31 hl (k := 2) rfl rfl (by decide) rfl (fun ls hl => ?_)
            refine lv_goto (tgt := 5) hx hb dX0_signsOfOthers_34 (by decide) ?_
            exact ih _ _ _ ls h (lv_sub hl [2, 1, 0, 3] rfl)
  obtain ⟨n5, h⟩ := h
  refine lp5 _ ?_ n5 _ _ _ ls h (lv_sub hl [3, 1, 0, 2] rfl)
  · intro z1 z2 z3 ls h hl
    try dsimp only at h
    refine lv_iload_n hx hb dX0_signsOfOthers_37 rfl (lv_at hl 1 rfl) ?_
    exact rd_iret hx hb hr hk h dX0_signsOfOthers_38

def wp_X0_unlikeSigns_L4 (s0 : Bd) (post : Int32 → Prop) (e31 : Int32 → Int32 → Int32 → Prop) : Nat → Int32 → Int32 → Int32 → Prop
  | 0, _, _, _ => False
  | n4 + 1, z1, z2, z3 => wp_X0_flapsOn (fun r_1 => ((r_1 ≤ z3 → e31 z1 z2 z3) ∧ (¬ r_1 ≤ z3 → wp_X0_isLastOfSign (fun r_4 => ((r_4 = 0 → wp_X0_unlikeSigns_L4 s0 post e31 n4 z1 z2 (z3 + 1)) ∧ (¬ r_4 = 0 → wp_X0_unlikeSigns_L4 s0 post e31 n4 z1 (z2 + 1) (z3 + 1)))) s0 z1 z3))) s0 z1
def wp_X0_unlikeSigns (post : Int32 → Prop) (s0 : Bd) (x1 : Int32) : Prop := (∃ n4, wp_X0_unlikeSigns_L4 s0 post (fun z1 z2 z3 => post z2) n4 x1 0 0)
set_option maxHeartbeats 4000000 in
set_option maxRecDepth 100000 in
theorem c2_X0_unlikeSigns {l : Launch} {D : va_G} {q : Nat → ClassId} {a0 : Nat → Nat} {s0 : Bd} {x1 : Int32} {post : Int32 → Prop} (h : wp_X0_unlikeSigns post s0 x1) : Met l yX0_unlikeSigns (Cond.code yX0_unlikeSigns cX0_unlikeSigns 4 (some .int) :: w_all) ({ frames := 3, cells := 0, slots := 0, locals := 70 } : Room) (rd_P D q [.ref (a0 0), .int x1] (bd_w a0 q s0)) (vp_Si post) 0 0 (fun _ => False) := by
  refine rd_start (by decide) (Nat.le_of_ble_eq_true rfl) ?_
  intro p e s m below meth c ls hx hb hr hml hown ht hk hP hQ hV hl
  have hK := hQ.1
  have hown : s.vm.findClass RX0 = some m.cls := hown
  have hl : lv_has ls 4 [(0, .ref (a0 0)), (1, .int x1)] := hl
  have hP : va_P D vwCl [((a0 0), .inr (0, [.int (s0.1 0), .int (s0.1 1), .int (s0.1 2), .int (s0.1 3), .int (s0.1 4), .int (s0.1 5), .ref (a0 1), .ref (a0 2), .ref (a0 3), .ref (a0 4), .ref (a0 5), .ref (a0 6), .ref (a0 7), .ref (a0 8), .ref (a0 9), .ref (a0 10), .ref (a0 11), .ref (a0 12)])), ((a0 1), .inl (q 0, 4, .inl (s0.2.1 0))), ((a0 2), .inl (q 0, 4, .inl (s0.2.1 1))), ((a0 3), .inl (q 0, 160, .inl (s0.2.1 2))), ((a0 4), .inl (q 0, 40, .inl (s0.2.1 3))), ((a0 5), .inl (q 0, 40, .inl (s0.2.1 4))), ((a0 6), .inl (q 0, 40, .inl (s0.2.1 5))), ((a0 7), .inl (q 0, 40, .inl (s0.2.1 6))), ((a0 8), .inl (q 0, 40, .inl (s0.2.1 7))), ((a0 9), .inl (q 0, 40, .inl (s0.2.1 8))), ((a0 10), .inl (q 0, 40, .inl (s0.2.1 9))), ((a0 11), .inl (q 1, 40, .inr (.inl s0.2.2.1))), ((a0 12), .inl (q 0, s0.2.2.2.1, .inl s0.2.2.2.2))] s.heap := hP
  unfold wp_X0_unlikeSigns at h
  refine lv_iconst (v := 0) hx hb dX0_unlikeSigns_0 (by decide) ?_
  refine lv_istore_n (lv' := [(2, .int 0), (0, .ref (a0 0)), (1, .int x1)]) hx hb dX0_unlikeSigns_1 rfl hl (by decide) rfl (fun ls hl => ?_)
  refine lv_iconst (v := 0) hx hb dX0_unlikeSigns_2 (by decide) ?_
  refine lv_istore_n (lv' := [(3, .int 0), (2, .int 0), (0, .ref (a0 0)), (1, .int x1)]) hx hb dX0_unlikeSigns_3 rfl hl (by decide) rfl (fun ls hl => ?_)
  have lp4 : ∀ (e31 : Int32 → Int32 → Int32 → Prop) (k31 : ∀ (z1 : Int32) (z2 : Int32) (z3 : Int32) (ls : Array Slot), e31 z1 z2 z3 → lv_has ls 4 [(1, .int z1), (2, .int z2), (3, .int z3), (0, .ref (a0 0))] → W p l e ({ frames := 3, cells := 0, slots := 0, locals := 70 } : Room) s m [.ref (a0 0), .int x1].toArray below meth c s.heap [] 0 0 (MQ below (vp_Si post) [.ref (a0 0), .int x1].toArray s 0 0 (fun _ => False)) (F0 m 31 ls [])) (n : Nat) (z1 : Int32) (z2 : Int32) (z3 : Int32) (ls : Array Slot), wp_X0_unlikeSigns_L4 s0 post e31 n z1 z2 z3 → lv_has ls 4 [(1, .int z1), (2, .int z2), (3, .int z3), (0, .ref (a0 0))] → W p l e ({ frames := 3, cells := 0, slots := 0, locals := 70 } : Room) s m [.ref (a0 0), .int x1].toArray below meth c s.heap [] 0 0 (MQ below (vp_Si post) [.ref (a0 0), .int x1].toArray s 0 0 (fun _ => False)) (F0 m 4 ls []) := by
    intro e31 k31 n
    induction n with
    | zero =>
      intro z1 z2 z3 ls h
      exact h.elim
    | succ n ih =>
      intro z1 z2 z3 ls h hl
      unfold wp_X0_unlikeSigns_L4 at h
      refine lv_iload_n hx hb dX0_unlikeSigns_4 rfl (lv_at hl 2 rfl) ?_
      refine lv_aload_n hx hb dX0_unlikeSigns_5 rfl (lv_at hl 3 rfl) ?_
      refine lv_iload_n hx hb dX0_unlikeSigns_6 rfl (lv_at hl 0 rfl) ?_
      refine vp_callSi (rd_wV (wc := bd_w a0 q s0) (As := [.int z1]) (rest := [.int z3]) hx hb hml hown ht (c2_X0_flapsOn h) wd_X0_flapsOn mw_772 hQ hV va_S.rf (hP.sub [0, 1, 2, 3, 4, 5, 6, 7, 8, 9, 10, 11, 12] rfl) rfl rfl rfl hl.1 rfl (Nat.le_of_ble_eq_true rfl) dX0_unlikeSigns_7 ⟨Nat.le_of_ble_eq_true rfl, Nat.le_of_ble_eq_true rfl, rfl, rfl⟩ ⟨Nat.le_of_ble_eq_true rfl, Nat.le_of_ble_eq_true rfl⟩) (fun r_1 h => ?_)
      try dsimp only at h
      refine lv_icmp_ge (tgt := 31) hx hb dX0_unlikeSigns_10 (by decide) (fun c_3 => ?_) (fun c_3 => ?_)
      · replace h := h.1 c_3
        exact k31 _ _ _ ls h (lv_sub hl [0, 1, 2, 3] rfl)
      · replace h := h.2 c_3
        refine lv_aload_n hx hb dX0_unlikeSigns_13 rfl (lv_at hl 3 rfl) ?_
        refine lv_iload_n hx hb dX0_unlikeSigns_14 rfl (lv_at hl 0 rfl) ?_
        refine lv_iload_n hx hb dX0_unlikeSigns_15 rfl (lv_at hl 2 rfl) ?_
        refine vp_callSi (rd_wV (wc := bd_w a0 q s0) (As := [.int z1, .int z3]) (rest := []) hx hb hml hown ht (c2_X0_isLastOfSign h) wd_X0_isLastOfSign mw_917 hQ hV va_S.rf (hP.sub [0, 1, 2, 3, 4, 5, 6, 7, 8, 9, 10, 11, 12] rfl) rfl rfl rfl hl.1 rfl (Nat.le_of_ble_eq_true rfl) dX0_unlikeSigns_16 ⟨Nat.le_of_ble_eq_true rfl, Nat.le_of_ble_eq_true rfl, rfl, rfl⟩ ⟨Nat.le_of_ble_eq_true rfl, Nat.le_of_ble_eq_true rfl⟩) (fun r_4 h => ?_)
        try dsimp only at h
        refine lv_if_eq (tgt := 25) hx hb dX0_unlikeSigns_19 (by decide) (fun c_6 => ?_) (fun c_6 => ?_)
        · replace h := h.1 c_6
          refine lv_iinc (v := (z3 + 1)) (lv' := [(3, .int (z3 + 1)), (1, .int z1), (2, .int z2), (0, .ref (a0 0))]) hx hb dX0_unlikeSigns_25 hl (k := 2) rfl rfl (by decide) rfl (fun ls hl => ?_)
          refine lv_goto (tgt := 4) hx hb dX0_unlikeSigns_28 (by decide) ?_
          exact ih _ _ _ ls h (lv_sub hl [1, 2, 0, 3] rfl)
        · replace h := h.2 c_6
          refine lv_iinc (v := (z2 + 1)) (lv' := [(2, .int (z2 + 1)), (1, .int z1), (3, .int z3), (0, .ref (a0 0))]) hx hb dX0_unlikeSigns_22 hl (k := 1) rfl rfl (by decide) rfl (fun ls hl => ?_)
          refine lv_iinc (v := (z3 + 1)) (lv' := [(3, .int (z3 + 1)), (2, .int (z2 + 1)), (1, .int z1), (0, .ref (a0 0))]) hx hb dX0_unlikeSigns_25 hl (k := 2) rfl rfl (by decide) rfl (fun ls hl => ?_)
          refine lv_goto (tgt := 4) hx hb dX0_unlikeSigns_28 (by decide) ?_
          exact ih _ _ _ ls h (lv_sub hl [2, 1, 0, 3] rfl)
  obtain ⟨n4, h⟩ := h
  refine lp4 _ ?_ n4 _ _ _ ls h (lv_sub hl [3, 1, 0, 2] rfl)
  · intro z1 z2 z3 ls h hl
    try dsimp only at h
    refine lv_iload_n hx hb dX0_unlikeSigns_31 rfl (lv_at hl 1 rfl) ?_
    exact rd_iret hx hb hr hk h dX0_unlikeSigns_32

def wp_X0_mostOfOneSign_L4 (s0 : Bd) (post : Int32 → Prop) (e36 : Int32 → Int32 → Int32 → Prop) : Nat → Int32 → Int32 → Int32 → Prop
  | 0, _, _, _ => False
  | n4 + 1, z1, z2, z3 => wp_X0_flapsOn (fun r_1 => ((r_1 ≤ z3 → e36 z1 z2 z3) ∧ (¬ r_1 ≤ z3 → wp_X0_signOf (fun r_4 => wp_X0_flapsWith (fun r_6 => wp_X0_mostOfOneSign_L4 s0 post e36 n4 z1 (if z2 < r_6 then r_6 else z2) (z3 + 1)) s0 z1 r_4 z3) s0 z1 z3))) s0 z1
def wp_X0_mostOfOneSign (post : Int32 → Prop) (s0 : Bd) (x1 : Int32) : Prop := (∃ n4, wp_X0_mostOfOneSign_L4 s0 post (fun z1 z2 z3 => post z2) n4 x1 0 0)
set_option maxHeartbeats 4000000 in
set_option maxRecDepth 100000 in
theorem c2_X0_mostOfOneSign {l : Launch} {D : va_G} {q : Nat → ClassId} {a0 : Nat → Nat} {s0 : Bd} {x1 : Int32} {post : Int32 → Prop} (h : wp_X0_mostOfOneSign post s0 x1) : Met l yX0_mostOfOneSign (Cond.code yX0_mostOfOneSign cX0_mostOfOneSign 4 (some .int) :: w_all) ({ frames := 2, cells := 0, slots := 0, locals := 48 } : Room) (rd_P D q [.ref (a0 0), .int x1] (bd_w a0 q s0)) (vp_Si post) 0 0 (fun _ => False) := by
  refine rd_start (by decide) (Nat.le_of_ble_eq_true rfl) ?_
  intro p e s m below meth c ls hx hb hr hml hown ht hk hP hQ hV hl
  have hK := hQ.1
  have hown : s.vm.findClass RX0 = some m.cls := hown
  have hl : lv_has ls 4 [(0, .ref (a0 0)), (1, .int x1)] := hl
  have hP : va_P D vwCl [((a0 0), .inr (0, [.int (s0.1 0), .int (s0.1 1), .int (s0.1 2), .int (s0.1 3), .int (s0.1 4), .int (s0.1 5), .ref (a0 1), .ref (a0 2), .ref (a0 3), .ref (a0 4), .ref (a0 5), .ref (a0 6), .ref (a0 7), .ref (a0 8), .ref (a0 9), .ref (a0 10), .ref (a0 11), .ref (a0 12)])), ((a0 1), .inl (q 0, 4, .inl (s0.2.1 0))), ((a0 2), .inl (q 0, 4, .inl (s0.2.1 1))), ((a0 3), .inl (q 0, 160, .inl (s0.2.1 2))), ((a0 4), .inl (q 0, 40, .inl (s0.2.1 3))), ((a0 5), .inl (q 0, 40, .inl (s0.2.1 4))), ((a0 6), .inl (q 0, 40, .inl (s0.2.1 5))), ((a0 7), .inl (q 0, 40, .inl (s0.2.1 6))), ((a0 8), .inl (q 0, 40, .inl (s0.2.1 7))), ((a0 9), .inl (q 0, 40, .inl (s0.2.1 8))), ((a0 10), .inl (q 0, 40, .inl (s0.2.1 9))), ((a0 11), .inl (q 1, 40, .inr (.inl s0.2.2.1))), ((a0 12), .inl (q 0, s0.2.2.2.1, .inl s0.2.2.2.2))] s.heap := hP
  unfold wp_X0_mostOfOneSign at h
  refine lv_iconst (v := 0) hx hb dX0_mostOfOneSign_0 (by decide) ?_
  refine lv_istore_n (lv' := [(2, .int 0), (0, .ref (a0 0)), (1, .int x1)]) hx hb dX0_mostOfOneSign_1 rfl hl (by decide) rfl (fun ls hl => ?_)
  refine lv_iconst (v := 0) hx hb dX0_mostOfOneSign_2 (by decide) ?_
  refine lv_istore_n (lv' := [(3, .int 0), (2, .int 0), (0, .ref (a0 0)), (1, .int x1)]) hx hb dX0_mostOfOneSign_3 rfl hl (by decide) rfl (fun ls hl => ?_)
  have lp4 : ∀ (e36 : Int32 → Int32 → Int32 → Prop) (k36 : ∀ (z1 : Int32) (z2 : Int32) (z3 : Int32) (ls : Array Slot), e36 z1 z2 z3 → lv_has ls 4 [(1, .int z1), (2, .int z2), (3, .int z3), (0, .ref (a0 0))] → W p l e ({ frames := 2, cells := 0, slots := 0, locals := 48 } : Room) s m [.ref (a0 0), .int x1].toArray below meth c s.heap [] 0 0 (MQ below (vp_Si post) [.ref (a0 0), .int x1].toArray s 0 0 (fun _ => False)) (F0 m 36 ls [])) (n : Nat) (z1 : Int32) (z2 : Int32) (z3 : Int32) (ls : Array Slot), wp_X0_mostOfOneSign_L4 s0 post e36 n z1 z2 z3 → lv_has ls 4 [(1, .int z1), (2, .int z2), (3, .int z3), (0, .ref (a0 0))] → W p l e ({ frames := 2, cells := 0, slots := 0, locals := 48 } : Room) s m [.ref (a0 0), .int x1].toArray below meth c s.heap [] 0 0 (MQ below (vp_Si post) [.ref (a0 0), .int x1].toArray s 0 0 (fun _ => False)) (F0 m 4 ls []) := by
    intro e36 k36 n
    induction n with
    | zero =>
      intro z1 z2 z3 ls h
      exact h.elim
    | succ n ih =>
      intro z1 z2 z3 ls h hl
      unfold wp_X0_mostOfOneSign_L4 at h
      refine lv_iload_n hx hb dX0_mostOfOneSign_4 rfl (lv_at hl 2 rfl) ?_
      refine lv_aload_n hx hb dX0_mostOfOneSign_5 rfl (lv_at hl 3 rfl) ?_
      refine lv_iload_n hx hb dX0_mostOfOneSign_6 rfl (lv_at hl 0 rfl) ?_
      refine vp_callSi (rd_wV (wc := bd_w a0 q s0) (As := [.int z1]) (rest := [.int z3]) hx hb hml hown ht (c2_X0_flapsOn h) wd_X0_flapsOn mw_772 hQ hV va_S.rf (hP.sub [0, 1, 2, 3, 4, 5, 6, 7, 8, 9, 10, 11, 12] rfl) rfl rfl rfl hl.1 rfl (Nat.le_of_ble_eq_true rfl) dX0_mostOfOneSign_7 ⟨Nat.le_of_ble_eq_true rfl, Nat.le_of_ble_eq_true rfl, rfl, rfl⟩ ⟨Nat.le_of_ble_eq_true rfl, Nat.le_of_ble_eq_true rfl⟩) (fun r_1 h => ?_)
      try dsimp only at h
      refine lv_icmp_ge (tgt := 36) hx hb dX0_mostOfOneSign_10 (by decide) (fun c_3 => ?_) (fun c_3 => ?_)
      · replace h := h.1 c_3
        exact k36 _ _ _ ls h (lv_sub hl [0, 1, 2, 3] rfl)
      · replace h := h.2 c_3
        refine lv_iload_n hx hb dX0_mostOfOneSign_13 rfl (lv_at hl 1 rfl) ?_
        refine lv_aload_n hx hb dX0_mostOfOneSign_14 rfl (lv_at hl 3 rfl) ?_
        refine lv_iload_n hx hb dX0_mostOfOneSign_15 rfl (lv_at hl 0 rfl) ?_
        refine lv_aload_n hx hb dX0_mostOfOneSign_16 rfl (lv_at hl 3 rfl) ?_
        refine lv_iload_n hx hb dX0_mostOfOneSign_17 rfl (lv_at hl 0 rfl) ?_
        refine lv_iload_n hx hb dX0_mostOfOneSign_18 rfl (lv_at hl 2 rfl) ?_
        refine vp_callSi (rd_wV (wc := bd_w a0 q s0) (As := [.int z1, .int z3]) (rest := [.int z1, .ref (a0 0), .int z2]) hx hb hml hown ht (c2_X0_signOf h) wd_X0_signOf mw_668 hQ hV va_S.rf (hP.sub [0, 1, 2, 3, 4, 5, 6, 7, 8, 9, 10, 11, 12] rfl) rfl rfl rfl hl.1 rfl (Nat.le_of_ble_eq_true rfl) dX0_mostOfOneSign_19 ⟨Nat.le_of_ble_eq_true rfl, Nat.le_of_ble_eq_true rfl, rfl, rfl⟩ ⟨Nat.le_of_ble_eq_true rfl, Nat.le_of_ble_eq_true rfl⟩) (fun r_4 h => ?_)
        try dsimp only at h
        refine lv_iload_n hx hb dX0_mostOfOneSign_22 rfl (lv_at hl 2 rfl) ?_
        refine vp_callSi (rd_wV (wc := bd_w a0 q s0) (As := [.int z1, .int r_4, .int z3]) (rest := [.int z2]) hx hb hml hown ht (c2_X0_flapsWith h) wd_X0_flapsWith mw_921 hQ hV va_S.rf (hP.sub [0, 1, 2, 3, 4, 5, 6, 7, 8, 9, 10, 11, 12] rfl) rfl rfl rfl hl.1 rfl (Nat.le_of_ble_eq_true rfl) dX0_mostOfOneSign_23 ⟨Nat.le_of_ble_eq_true rfl, Nat.le_of_ble_eq_true rfl, rfl, rfl⟩ ⟨Nat.le_of_ble_eq_true rfl, Nat.le_of_ble_eq_true rfl⟩) (fun r_6 h => ?_)
        try dsimp only at h
        refine va_mmax hx hb (hml.trans hl.1.symm) hown (ht _ mw_929) (ht _ mw_704) (ht _ mw_110) (ht _ mw_705) (Nat.le_of_ble_eq_true rfl) (Nat.le_of_ble_eq_true rfl) (Nat.le_of_ble_eq_true rfl) (Nat.le_of_ble_eq_true rfl) dX0_mostOfOneSign_26 ?_
        refine lv_istore_n (lv' := [(2, .int (if z2 < r_6 then r_6 else z2)), (1, .int z1), (3, .int z3), (0, .ref (a0 0))]) hx hb dX0_mostOfOneSign_29 rfl hl (by decide) rfl (fun ls hl => ?_)
        refine lv_iinc (v := (z3 + 1)) (lv' := [(3, .int (z3 + 1)), (2, .int (if z2 < r_6 then r_6 else z2)), (1, .int z1), (0, .ref (a0 0))]) hx hb dX0_mostOfOneSign_30 hl (k := 2) rfl rfl (by decide) rfl (fun ls hl => ?_)
        refine lv_goto (tgt := 4) hx hb dX0_mostOfOneSign_33 (by decide) ?_
        exact ih _ _ _ ls h (lv_sub hl [2, 1, 0, 3] rfl)
  obtain ⟨n4, h⟩ := h
  refine lp4 _ ?_ n4 _ _ _ ls h (lv_sub hl [3, 1, 0, 2] rfl)
  · intro z1 z2 z3 ls h hl
    try dsimp only at h
    refine lv_iload_n hx hb dX0_mostOfOneSign_36 rfl (lv_at hl 1 rfl) ?_
    exact rd_iret hx hb hr hk h dX0_mostOfOneSign_37

def wp_X0_isWorn (post : Int32 → Prop) (s0 : Bd) (x1 : Int32) (x2 : Int32) : Prop := vp_in x1 40 ∧ (((lg_cmp (((s0.2.2.1 (Int32.toNatClampNeg x1)) >>> (Int32.toInt64 x2 &&& 63)) &&& 1) 0) = 0 → post 0) ∧ (¬ (lg_cmp (((s0.2.2.1 (Int32.toNatClampNeg x1)) >>> (Int32.toInt64 x2 &&& 63)) &&& 1) 0) = 0 → post 1))
set_option maxHeartbeats 4000000 in
set_option maxRecDepth 100000 in
theorem c2_X0_isWorn {l : Launch} {D : va_G} {q : Nat → ClassId} {a0 : Nat → Nat} {s0 : Bd} {x1 : Int32} {x2 : Int32} {post : Int32 → Prop} (h : wp_X0_isWorn post s0 x1 x2) : Met l yX0_isWorn (Cond.code yX0_isWorn cX0_isWorn 3 (some .boolean) :: w_all) ({ frames := 0, cells := 0, slots := 0, locals := 0 } : Room) (rd_P D q [.ref (a0 0), .int x1, .int x2] (bd_w a0 q s0)) (vp_Si post) 0 0 (fun _ => False) := by
  refine rd_start (by decide) (Nat.le_of_ble_eq_true rfl) ?_
  intro p e s m below meth c ls hx hb hr hml hown ht hk hP hQ hV hl
  have hK := hQ.1
  have hown : s.vm.findClass RX0 = some m.cls := hown
  have hl : lv_has ls 3 [(0, .ref (a0 0)), (1, .int x1), (2, .int x2)] := hl
  have hP : va_P D vwCl [((a0 0), .inr (0, [.int (s0.1 0), .int (s0.1 1), .int (s0.1 2), .int (s0.1 3), .int (s0.1 4), .int (s0.1 5), .ref (a0 1), .ref (a0 2), .ref (a0 3), .ref (a0 4), .ref (a0 5), .ref (a0 6), .ref (a0 7), .ref (a0 8), .ref (a0 9), .ref (a0 10), .ref (a0 11), .ref (a0 12)])), ((a0 1), .inl (q 0, 4, .inl (s0.2.1 0))), ((a0 2), .inl (q 0, 4, .inl (s0.2.1 1))), ((a0 3), .inl (q 0, 160, .inl (s0.2.1 2))), ((a0 4), .inl (q 0, 40, .inl (s0.2.1 3))), ((a0 5), .inl (q 0, 40, .inl (s0.2.1 4))), ((a0 6), .inl (q 0, 40, .inl (s0.2.1 5))), ((a0 7), .inl (q 0, 40, .inl (s0.2.1 6))), ((a0 8), .inl (q 0, 40, .inl (s0.2.1 7))), ((a0 9), .inl (q 0, 40, .inl (s0.2.1 8))), ((a0 10), .inl (q 0, 40, .inl (s0.2.1 9))), ((a0 11), .inl (q 1, 40, .inr (.inl s0.2.2.1))), ((a0 12), .inl (q 0, s0.2.2.2.1, .inl s0.2.2.2.2))] s.heap := hP
  unfold wp_X0_isWorn at h
  refine lv_aload_n hx hb dX0_isWorn_0 rfl (lv_at hl 0 rfl) ?_
  refine fl_get (C := RX0) (T := TX0) (N := 18) (ci := 0) (v := .ref (a0 11)) hx hb ht in_X0 hown hK hP 0 rfl rfl 16 (by decide) mw_206 rfl dX0_isWorn_1 ?_
  refine lv_iload_n hx hb dX0_isWorn_4 rfl (lv_at hl 1 rfl) ?_
  obtain ⟨g_1, h⟩ := h
  refine va_lald hx hb hK hP 11 1 rfl rfl g_1 dX0_isWorn_5 ?_
  refine lv_iload_n hx hb dX0_isWorn_6 rfl (lv_at hl 2 rfl) ?_
  refine lv_lshr (v := ((s0.2.2.1 (Int32.toNatClampNeg x1)) >>> (Int32.toInt64 x2 &&& 63))) hx hb dX0_isWorn_7 rfl ?_
  refine lv_lconst (v := 1) hx hb dX0_isWorn_8 (by decide) ?_
  refine lv_land hx hb dX0_isWorn_9 ?_
  refine lv_lconst (v := 0) hx hb dX0_isWorn_10 (by decide) ?_
  refine W.lcmp hx hb dX0_isWorn_11 ?_
  refine lv_if_eq (tgt := 19) hx hb dX0_isWorn_12 (by decide) (fun c_2 => ?_) (fun c_2 => ?_)
  · replace h := h.1 c_2
    refine lv_iconst (v := 0) hx hb dX0_isWorn_19 (by decide) ?_
    exact rd_zret hx hb hr hk rfl h dX0_isWorn_20
  · replace h := h.2 c_2
    refine lv_iconst (v := 1) hx hb dX0_isWorn_15 (by decide) ?_
    refine lv_goto (tgt := 20) hx hb dX0_isWorn_16 (by decide) ?_
    exact rd_zret hx hb hr hk rfl h dX0_isWorn_20

def wp_J13_bitCount_95d88 (post : Int32 → Prop) (y0 : Int64) : Prop := post ((Int64.toInt32 ((((((((y0 - ((((y0).toUInt64 >>> ((Int32.toInt64 (1 : Int32)).toUInt64 &&& Int64.toUInt64 63)).toInt64) &&& 6148914691236517205)) &&& 3689348814741910323) + (((((y0 - ((((y0).toUInt64 >>> ((Int32.toInt64 (1 : Int32)).toUInt64 &&& Int64.toUInt64 63)).toInt64) &&& 6148914691236517205))).toUInt64 >>> ((Int32.toInt64 (2 : Int32)).toUInt64 &&& Int64.toUInt64 63)).toInt64) &&& 3689348814741910323)) + ((((((y0 - ((((y0).toUInt64 >>> ((Int32.toInt64 (1 : Int32)).toUInt64 &&& Int64.toUInt64 63)).toInt64) &&& 6148914691236517205)) &&& 3689348814741910323) + (((((y0 - ((((y0).toUInt64 >>> ((Int32.toInt64 (1 : Int32)).toUInt64 &&& Int64.toUInt64 63)).toInt64) &&& 6148914691236517205))).toUInt64 >>> ((Int32.toInt64 (2 : Int32)).toUInt64 &&& Int64.toUInt64 63)).toInt64) &&& 3689348814741910323))).toUInt64 >>> ((Int32.toInt64 (4 : Int32)).toUInt64 &&& Int64.toUInt64 63)).toInt64)) &&& 1085102592571150095) + ((((((((y0 - ((((y0).toUInt64 >>> ((Int32.toInt64 (1 : Int32)).toUInt64 &&& Int64.toUInt64 63)).toInt64) &&& 6148914691236517205)) &&& 3689348814741910323) + (((((y0 - ((((y0).toUInt64 >>> ((Int32.toInt64 (1 : Int32)).toUInt64 &&& Int64.toUInt64 63)).toInt64) &&& 6148914691236517205))).toUInt64 >>> ((Int32.toInt64 (2 : Int32)).toUInt64 &&& Int64.toUInt64 63)).toInt64) &&& 3689348814741910323)) + ((((((y0 - ((((y0).toUInt64 >>> ((Int32.toInt64 (1 : Int32)).toUInt64 &&& Int64.toUInt64 63)).toInt64) &&& 6148914691236517205)) &&& 3689348814741910323) + (((((y0 - ((((y0).toUInt64 >>> ((Int32.toInt64 (1 : Int32)).toUInt64 &&& Int64.toUInt64 63)).toInt64) &&& 6148914691236517205))).toUInt64 >>> ((Int32.toInt64 (2 : Int32)).toUInt64 &&& Int64.toUInt64 63)).toInt64) &&& 3689348814741910323))).toUInt64 >>> ((Int32.toInt64 (4 : Int32)).toUInt64 &&& Int64.toUInt64 63)).toInt64)) &&& 1085102592571150095)).toUInt64 >>> ((Int32.toInt64 (8 : Int32)).toUInt64 &&& Int64.toUInt64 63)).toInt64)) + (((((((((y0 - ((((y0).toUInt64 >>> ((Int32.toInt64 (1 : Int32)).toUInt64 &&& Int64.toUInt64 63)).toInt64) &&& 6148914691236517205)) &&& 3689348814741910323) + (((((y0 - ((((y0).toUInt64 >>> ((Int32.toInt64 (1 : Int32)).toUInt64 &&& Int64.toUInt64 63)).toInt64) &&& 6148914691236517205))).toUInt64 >>> ((Int32.toInt64 (2 : Int32)).toUInt64 &&& Int64.toUInt64 63)).toInt64) &&& 3689348814741910323)) + ((((((y0 - ((((y0).toUInt64 >>> ((Int32.toInt64 (1 : Int32)).toUInt64 &&& Int64.toUInt64 63)).toInt64) &&& 6148914691236517205)) &&& 3689348814741910323) + (((((y0 - ((((y0).toUInt64 >>> ((Int32.toInt64 (1 : Int32)).toUInt64 &&& Int64.toUInt64 63)).toInt64) &&& 6148914691236517205))).toUInt64 >>> ((Int32.toInt64 (2 : Int32)).toUInt64 &&& Int64.toUInt64 63)).toInt64) &&& 3689348814741910323))).toUInt64 >>> ((Int32.toInt64 (4 : Int32)).toUInt64 &&& Int64.toUInt64 63)).toInt64)) &&& 1085102592571150095) + ((((((((y0 - ((((y0).toUInt64 >>> ((Int32.toInt64 (1 : Int32)).toUInt64 &&& Int64.toUInt64 63)).toInt64) &&& 6148914691236517205)) &&& 3689348814741910323) + (((((y0 - ((((y0).toUInt64 >>> ((Int32.toInt64 (1 : Int32)).toUInt64 &&& Int64.toUInt64 63)).toInt64) &&& 6148914691236517205))).toUInt64 >>> ((Int32.toInt64 (2 : Int32)).toUInt64 &&& Int64.toUInt64 63)).toInt64) &&& 3689348814741910323)) + ((((((y0 - ((((y0).toUInt64 >>> ((Int32.toInt64 (1 : Int32)).toUInt64 &&& Int64.toUInt64 63)).toInt64) &&& 6148914691236517205)) &&& 3689348814741910323) + (((((y0 - ((((y0).toUInt64 >>> ((Int32.toInt64 (1 : Int32)).toUInt64 &&& Int64.toUInt64 63)).toInt64) &&& 6148914691236517205))).toUInt64 >>> ((Int32.toInt64 (2 : Int32)).toUInt64 &&& Int64.toUInt64 63)).toInt64) &&& 3689348814741910323))).toUInt64 >>> ((Int32.toInt64 (4 : Int32)).toUInt64 &&& Int64.toUInt64 63)).toInt64)) &&& 1085102592571150095)).toUInt64 >>> ((Int32.toInt64 (8 : Int32)).toUInt64 &&& Int64.toUInt64 63)).toInt64))).toUInt64 >>> ((Int32.toInt64 (16 : Int32)).toUInt64 &&& Int64.toUInt64 63)).toInt64)) + ((((((((((y0 - ((((y0).toUInt64 >>> ((Int32.toInt64 (1 : Int32)).toUInt64 &&& Int64.toUInt64 63)).toInt64) &&& 6148914691236517205)) &&& 3689348814741910323) + (((((y0 - ((((y0).toUInt64 >>> ((Int32.toInt64 (1 : Int32)).toUInt64 &&& Int64.toUInt64 63)).toInt64) &&& 6148914691236517205))).toUInt64 >>> ((Int32.toInt64 (2 : Int32)).toUInt64 &&& Int64.toUInt64 63)).toInt64) &&& 3689348814741910323)) + ((((((y0 - ((((y0).toUInt64 >>> ((Int32.toInt64 (1 : Int32)).toUInt64 &&& Int64.toUInt64 63)).toInt64) &&& 6148914691236517205)) &&& 3689348814741910323) + (((((y0 - ((((y0).toUInt64 >>> ((Int32.toInt64 (1 : Int32)).toUInt64 &&& Int64.toUInt64 63)).toInt64) &&& 6148914691236517205))).toUInt64 >>> ((Int32.toInt64 (2 : Int32)).toUInt64 &&& Int64.toUInt64 63)).toInt64) &&& 3689348814741910323))).toUInt64 >>> ((Int32.toInt64 (4 : Int32)).toUInt64 &&& Int64.toUInt64 63)).toInt64)) &&& 1085102592571150095) + ((((((((y0 - ((((y0).toUInt64 >>> ((Int32.toInt64 (1 : Int32)).toUInt64 &&& Int64.toUInt64 63)).toInt64) &&& 6148914691236517205)) &&& 3689348814741910323) + (((((y0 - ((((y0).toUInt64 >>> ((Int32.toInt64 (1 : Int32)).toUInt64 &&& Int64.toUInt64 63)).toInt64) &&& 6148914691236517205))).toUInt64 >>> ((Int32.toInt64 (2 : Int32)).toUInt64 &&& Int64.toUInt64 63)).toInt64) &&& 3689348814741910323)) + ((((((y0 - ((((y0).toUInt64 >>> ((Int32.toInt64 (1 : Int32)).toUInt64 &&& Int64.toUInt64 63)).toInt64) &&& 6148914691236517205)) &&& 3689348814741910323) + (((((y0 - ((((y0).toUInt64 >>> ((Int32.toInt64 (1 : Int32)).toUInt64 &&& Int64.toUInt64 63)).toInt64) &&& 6148914691236517205))).toUInt64 >>> ((Int32.toInt64 (2 : Int32)).toUInt64 &&& Int64.toUInt64 63)).toInt64) &&& 3689348814741910323))).toUInt64 >>> ((Int32.toInt64 (4 : Int32)).toUInt64 &&& Int64.toUInt64 63)).toInt64)) &&& 1085102592571150095)).toUInt64 >>> ((Int32.toInt64 (8 : Int32)).toUInt64 &&& Int64.toUInt64 63)).toInt64)) + (((((((((y0 - ((((y0).toUInt64 >>> ((Int32.toInt64 (1 : Int32)).toUInt64 &&& Int64.toUInt64 63)).toInt64) &&& 6148914691236517205)) &&& 3689348814741910323) + (((((y0 - ((((y0).toUInt64 >>> ((Int32.toInt64 (1 : Int32)).toUInt64 &&& Int64.toUInt64 63)).toInt64) &&& 6148914691236517205))).toUInt64 >>> ((Int32.toInt64 (2 : Int32)).toUInt64 &&& Int64.toUInt64 63)).toInt64) &&& 3689348814741910323)) + ((((((y0 - ((((y0).toUInt64 >>> ((Int32.toInt64 (1 : Int32)).toUInt64 &&& Int64.toUInt64 63)).toInt64) &&& 6148914691236517205)) &&& 3689348814741910323) + (((((y0 - ((((y0).toUInt64 >>> ((Int32.toInt64 (1 : Int32)).toUInt64 &&& Int64.toUInt64 63)).toInt64) &&& 6148914691236517205))).toUInt64 >>> ((Int32.toInt64 (2 : Int32)).toUInt64 &&& Int64.toUInt64 63)).toInt64) &&& 3689348814741910323))).toUInt64 >>> ((Int32.toInt64 (4 : Int32)).toUInt64 &&& Int64.toUInt64 63)).toInt64)) &&& 1085102592571150095) + ((((((((y0 - ((((y0).toUInt64 >>> ((Int32.toInt64 (1 : Int32)).toUInt64 &&& Int64.toUInt64 63)).toInt64) &&& 6148914691236517205)) &&& 3689348814741910323) + (((((y0 - ((((y0).toUInt64 >>> ((Int32.toInt64 (1 : Int32)).toUInt64 &&& Int64.toUInt64 63)).toInt64) &&& 6148914691236517205))).toUInt64 >>> ((Int32.toInt64 (2 : Int32)).toUInt64 &&& Int64.toUInt64 63)).toInt64) &&& 3689348814741910323)) + ((((((y0 - ((((y0).toUInt64 >>> ((Int32.toInt64 (1 : Int32)).toUInt64 &&& Int64.toUInt64 63)).toInt64) &&& 6148914691236517205)) &&& 3689348814741910323) + (((((y0 - ((((y0).toUInt64 >>> ((Int32.toInt64 (1 : Int32)).toUInt64 &&& Int64.toUInt64 63)).toInt64) &&& 6148914691236517205))).toUInt64 >>> ((Int32.toInt64 (2 : Int32)).toUInt64 &&& Int64.toUInt64 63)).toInt64) &&& 3689348814741910323))).toUInt64 >>> ((Int32.toInt64 (4 : Int32)).toUInt64 &&& Int64.toUInt64 63)).toInt64)) &&& 1085102592571150095)).toUInt64 >>> ((Int32.toInt64 (8 : Int32)).toUInt64 &&& Int64.toUInt64 63)).toInt64))).toUInt64 >>> ((Int32.toInt64 (16 : Int32)).toUInt64 &&& Int64.toUInt64 63)).toInt64))).toUInt64 >>> ((Int32.toInt64 (32 : Int32)).toUInt64 &&& Int64.toUInt64 63)).toInt64))) &&& 127)
set_option maxHeartbeats 4000000 in
set_option maxRecDepth 100000 in
theorem c2_J13_bitCount_95d88 {l : Launch} {D : va_G} {q : Nat → ClassId} {y0 : Int64} {post : Int32 → Prop} (h : wp_J13_bitCount_95d88 post y0) : Met l yJ13_bitCount_95d88 (Cond.code yJ13_bitCount_95d88 cJ13_bitCount_95d88 2 (some .int) :: w_all) ({ frames := 0, cells := 0, slots := 0, locals := 0 } : Room) (rd_P D q [.long y0] (([] : va_W))) (vp_Si post) 0 0 (fun _ => False) := by
  refine rd_start (by decide) (Nat.le_of_ble_eq_true rfl) ?_
  intro p e s m below meth c ls hx hb hr hml hown ht hk hP hQ hV hl
  have hK := hQ.1
  have hown : s.vm.findClass RJ13 = some m.cls := hown
  have hl : lv_has ls 2 [(0, .long y0)] := hl
  unfold wp_J13_bitCount_95d88 at h
  refine lv_lload_n hx hb dJ13_bitCount_95d88_0 rfl (lv_at hl 0 rfl) ?_
  refine lv_lload_n hx hb dJ13_bitCount_95d88_1 rfl (lv_at hl 0 rfl) ?_
  refine lv_iconst (v := 1) hx hb dJ13_bitCount_95d88_2 (by decide) ?_
  refine lv_lushr (v := (((y0).toUInt64 >>> ((Int32.toInt64 (1 : Int32)).toUInt64 &&& Int64.toUInt64 63)).toInt64)) hx hb dJ13_bitCount_95d88_3 rfl ?_
  refine lv_ldc2 (v := 6148914691236517205) hx hb hown (ht _ mw_749) dJ13_bitCount_95d88_4 ?_
  refine lv_land hx hb dJ13_bitCount_95d88_7 ?_
  refine lv_lsub hx hb dJ13_bitCount_95d88_8 ?_
  refine lv_lstore_n (lv' := [(0, .long (y0 - ((((y0).toUInt64 >>> ((Int32.toInt64 (1 : Int32)).toUInt64 &&& Int64.toUInt64 63)).toInt64) &&& 6148914691236517205)))]) hx hb dJ13_bitCount_95d88_9 rfl hl (by decide) rfl (fun ls hl => ?_)
  refine lv_lload_n hx hb dJ13_bitCount_95d88_10 rfl (lv_at hl 0 rfl) ?_
  refine lv_ldc2 (v := 3689348814741910323) hx hb hown (ht _ mw_750) dJ13_bitCount_95d88_11 ?_
  refine lv_land hx hb dJ13_bitCount_95d88_14 ?_
  refine lv_lload_n hx hb dJ13_bitCount_95d88_15 rfl (lv_at hl 0 rfl) ?_
  refine lv_iconst (v := 2) hx hb dJ13_bitCount_95d88_16 (by decide) ?_
  refine lv_lushr (v := ((((y0 - ((((y0).toUInt64 >>> ((Int32.toInt64 (1 : Int32)).toUInt64 &&& Int64.toUInt64 63)).toInt64) &&& 6148914691236517205))).toUInt64 >>> ((Int32.toInt64 (2 : Int32)).toUInt64 &&& Int64.toUInt64 63)).toInt64)) hx hb dJ13_bitCount_95d88_17 rfl ?_
  refine lv_ldc2 (v := 3689348814741910323) hx hb hown (ht _ mw_750) dJ13_bitCount_95d88_18 ?_
  refine lv_land hx hb dJ13_bitCount_95d88_21 ?_
  refine lv_ladd hx hb dJ13_bitCount_95d88_22 ?_
  refine lv_lstore_n (lv' := [(0, .long (((y0 - ((((y0).toUInt64 >>> ((Int32.toInt64 (1 : Int32)).toUInt64 &&& Int64.toUInt64 63)).toInt64) &&& 6148914691236517205)) &&& 3689348814741910323) + (((((y0 - ((((y0).toUInt64 >>> ((Int32.toInt64 (1 : Int32)).toUInt64 &&& Int64.toUInt64 63)).toInt64) &&& 6148914691236517205))).toUInt64 >>> ((Int32.toInt64 (2 : Int32)).toUInt64 &&& Int64.toUInt64 63)).toInt64) &&& 3689348814741910323)))]) hx hb dJ13_bitCount_95d88_23 rfl hl (by decide) rfl (fun ls hl => ?_)
  refine lv_lload_n hx hb dJ13_bitCount_95d88_24 rfl (lv_at hl 0 rfl) ?_
  refine lv_lload_n hx hb dJ13_bitCount_95d88_25 rfl (lv_at hl 0 rfl) ?_
  refine lv_iconst (v := 4) hx hb dJ13_bitCount_95d88_26 (by decide) ?_
  refine lv_lushr (v := ((((((y0 - ((((y0).toUInt64 >>> ((Int32.toInt64 (1 : Int32)).toUInt64 &&& Int64.toUInt64 63)).toInt64) &&& 6148914691236517205)) &&& 3689348814741910323) + (((((y0 - ((((y0).toUInt64 >>> ((Int32.toInt64 (1 : Int32)).toUInt64 &&& Int64.toUInt64 63)).toInt64) &&& 6148914691236517205))).toUInt64 >>> ((Int32.toInt64 (2 : Int32)).toUInt64 &&& Int64.toUInt64 63)).toInt64) &&& 3689348814741910323))).toUInt64 >>> ((Int32.toInt64 (4 : Int32)).toUInt64 &&& Int64.toUInt64 63)).toInt64)) hx hb dJ13_bitCount_95d88_27 rfl ?_
  refine lv_ladd hx hb dJ13_bitCount_95d88_28 ?_
  refine lv_ldc2 (v := 1085102592571150095) hx hb hown (ht _ mw_751) dJ13_bitCount_95d88_29 ?_
  refine lv_land hx hb dJ13_bitCount_95d88_32 ?_
  refine lv_lstore_n (lv' := [(0, .long (((((y0 - ((((y0).toUInt64 >>> ((Int32.toInt64 (1 : Int32)).toUInt64 &&& Int64.toUInt64 63)).toInt64) &&& 6148914691236517205)) &&& 3689348814741910323) + (((((y0 - ((((y0).toUInt64 >>> ((Int32.toInt64 (1 : Int32)).toUInt64 &&& Int64.toUInt64 63)).toInt64) &&& 6148914691236517205))).toUInt64 >>> ((Int32.toInt64 (2 : Int32)).toUInt64 &&& Int64.toUInt64 63)).toInt64) &&& 3689348814741910323)) + ((((((y0 - ((((y0).toUInt64 >>> ((Int32.toInt64 (1 : Int32)).toUInt64 &&& Int64.toUInt64 63)).toInt64) &&& 6148914691236517205)) &&& 3689348814741910323) + (((((y0 - ((((y0).toUInt64 >>> ((Int32.toInt64 (1 : Int32)).toUInt64 &&& Int64.toUInt64 63)).toInt64) &&& 6148914691236517205))).toUInt64 >>> ((Int32.toInt64 (2 : Int32)).toUInt64 &&& Int64.toUInt64 63)).toInt64) &&& 3689348814741910323))).toUInt64 >>> ((Int32.toInt64 (4 : Int32)).toUInt64 &&& Int64.toUInt64 63)).toInt64)) &&& 1085102592571150095))]) hx hb dJ13_bitCount_95d88_33 rfl hl (by decide) rfl (fun ls hl => ?_)
  refine lv_lload_n hx hb dJ13_bitCount_95d88_34 rfl (lv_at hl 0 rfl) ?_
  refine lv_lload_n hx hb dJ13_bitCount_95d88_35 rfl (lv_at hl 0 rfl) ?_
  refine lv_bipush (v := 8) hx hb dJ13_bitCount_95d88_36 (by decide) ?_
  refine lv_lushr (v := ((((((((y0 - ((((y0).toUInt64 >>> ((Int32.toInt64 (1 : Int32)).toUInt64 &&& Int64.toUInt64 63)).toInt64) &&& 6148914691236517205)) &&& 3689348814741910323) + (((((y0 - ((((y0).toUInt64 >>> ((Int32.toInt64 (1 : Int32)).toUInt64 &&& Int64.toUInt64 63)).toInt64) &&& 6148914691236517205))).toUInt64 >>> ((Int32.toInt64 (2 : Int32)).toUInt64 &&& Int64.toUInt64 63)).toInt64) &&& 3689348814741910323)) + ((((((y0 - ((((y0).toUInt64 >>> ((Int32.toInt64 (1 : Int32)).toUInt64 &&& Int64.toUInt64 63)).toInt64) &&& 6148914691236517205)) &&& 3689348814741910323) + (((((y0 - ((((y0).toUInt64 >>> ((Int32.toInt64 (1 : Int32)).toUInt64 &&& Int64.toUInt64 63)).toInt64) &&& 6148914691236517205))).toUInt64 >>> ((Int32.toInt64 (2 : Int32)).toUInt64 &&& Int64.toUInt64 63)).toInt64) &&& 3689348814741910323))).toUInt64 >>> ((Int32.toInt64 (4 : Int32)).toUInt64 &&& Int64.toUInt64 63)).toInt64)) &&& 1085102592571150095)).toUInt64 >>> ((Int32.toInt64 (8 : Int32)).toUInt64 &&& Int64.toUInt64 63)).toInt64)) hx hb dJ13_bitCount_95d88_38 rfl ?_
  refine lv_ladd hx hb dJ13_bitCount_95d88_39 ?_
  refine lv_lstore_n (lv' := [(0, .long ((((((y0 - ((((y0).toUInt64 >>> ((Int32.toInt64 (1 : Int32)).toUInt64 &&& Int64.toUInt64 63)).toInt64) &&& 6148914691236517205)) &&& 3689348814741910323) + (((((y0 - ((((y0).toUInt64 >>> ((Int32.toInt64 (1 : Int32)).toUInt64 &&& Int64.toUInt64 63)).toInt64) &&& 6148914691236517205))).toUInt64 >>> ((Int32.toInt64 (2 : Int32)).toUInt64 &&& Int64.toUInt64 63)).toInt64) &&& 3689348814741910323)) + ((((((y0 - ((((y0).toUInt64 >>> ((Int32.toInt64 (1 : Int32)).toUInt64 &&& Int64.toUInt64 63)).toInt64) &&& 6148914691236517205)) &&& 3689348814741910323) + (((((y0 - ((((y0).toUInt64 >>> ((Int32.toInt64 (1 : Int32)).toUInt64 &&& Int64.toUInt64 63)).toInt64) &&& 6148914691236517205))).toUInt64 >>> ((Int32.toInt64 (2 : Int32)).toUInt64 &&& Int64.toUInt64 63)).toInt64) &&& 3689348814741910323))).toUInt64 >>> ((Int32.toInt64 (4 : Int32)).toUInt64 &&& Int64.toUInt64 63)).toInt64)) &&& 1085102592571150095) + ((((((((y0 - ((((y0).toUInt64 >>> ((Int32.toInt64 (1 : Int32)).toUInt64 &&& Int64.toUInt64 63)).toInt64) &&& 6148914691236517205)) &&& 3689348814741910323) + (((((y0 - ((((y0).toUInt64 >>> ((Int32.toInt64 (1 : Int32)).toUInt64 &&& Int64.toUInt64 63)).toInt64) &&& 6148914691236517205))).toUInt64 >>> ((Int32.toInt64 (2 : Int32)).toUInt64 &&& Int64.toUInt64 63)).toInt64) &&& 3689348814741910323)) + ((((((y0 - ((((y0).toUInt64 >>> ((Int32.toInt64 (1 : Int32)).toUInt64 &&& Int64.toUInt64 63)).toInt64) &&& 6148914691236517205)) &&& 3689348814741910323) + (((((y0 - ((((y0).toUInt64 >>> ((Int32.toInt64 (1 : Int32)).toUInt64 &&& Int64.toUInt64 63)).toInt64) &&& 6148914691236517205))).toUInt64 >>> ((Int32.toInt64 (2 : Int32)).toUInt64 &&& Int64.toUInt64 63)).toInt64) &&& 3689348814741910323))).toUInt64 >>> ((Int32.toInt64 (4 : Int32)).toUInt64 &&& Int64.toUInt64 63)).toInt64)) &&& 1085102592571150095)).toUInt64 >>> ((Int32.toInt64 (8 : Int32)).toUInt64 &&& Int64.toUInt64 63)).toInt64)))]) hx hb dJ13_bitCount_95d88_40 rfl hl (by decide) rfl (fun ls hl => ?_)
  refine lv_lload_n hx hb dJ13_bitCount_95d88_41 rfl (lv_at hl 0 rfl) ?_
  refine lv_lload_n hx hb dJ13_bitCount_95d88_42 rfl (lv_at hl 0 rfl) ?_
  refine lv_bipush (v := 16) hx hb dJ13_bitCount_95d88_43 (by decide) ?_
  refine lv_lushr (v := (((((((((y0 - ((((y0).toUInt64 >>> ((Int32.toInt64 (1 : Int32)).toUInt64 &&& Int64.toUInt64 63)).toInt64) &&& 6148914691236517205)) &&& 3689348814741910323) + (((((y0 - ((((y0).toUInt64 >>> ((Int32.toInt64 (1 : Int32)).toUInt64 &&& Int64.toUInt64 63)).toInt64) &&& 6148914691236517205))).toUInt64 >>> ((Int32.toInt64 (2 : Int32)).toUInt64 &&& Int64.toUInt64 63)).toInt64) &&& 3689348814741910323)) + ((((((y0 - ((((y0).toUInt64 >>> ((Int32.toInt64 (1 : Int32)).toUInt64 &&& Int64.toUInt64 63)).toInt64) &&& 6148914691236517205)) &&& 3689348814741910323) + (((((y0 - ((((y0).toUInt64 >>> ((Int32.toInt64 (1 : Int32)).toUInt64 &&& Int64.toUInt64 63)).toInt64) &&& 6148914691236517205))).toUInt64 >>> ((Int32.toInt64 (2 : Int32)).toUInt64 &&& Int64.toUInt64 63)).toInt64) &&& 3689348814741910323))).toUInt64 >>> ((Int32.toInt64 (4 : Int32)).toUInt64 &&& Int64.toUInt64 63)).toInt64)) &&& 1085102592571150095) + ((((((((y0 - ((((y0).toUInt64 >>> ((Int32.toInt64 (1 : Int32)).toUInt64 &&& Int64.toUInt64 63)).toInt64) &&& 6148914691236517205)) &&& 3689348814741910323) + (((((y0 - ((((y0).toUInt64 >>> ((Int32.toInt64 (1 : Int32)).toUInt64 &&& Int64.toUInt64 63)).toInt64) &&& 6148914691236517205))).toUInt64 >>> ((Int32.toInt64 (2 : Int32)).toUInt64 &&& Int64.toUInt64 63)).toInt64) &&& 3689348814741910323)) + ((((((y0 - ((((y0).toUInt64 >>> ((Int32.toInt64 (1 : Int32)).toUInt64 &&& Int64.toUInt64 63)).toInt64) &&& 6148914691236517205)) &&& 3689348814741910323) + (((((y0 - ((((y0).toUInt64 >>> ((Int32.toInt64 (1 : Int32)).toUInt64 &&& Int64.toUInt64 63)).toInt64) &&& 6148914691236517205))).toUInt64 >>> ((Int32.toInt64 (2 : Int32)).toUInt64 &&& Int64.toUInt64 63)).toInt64) &&& 3689348814741910323))).toUInt64 >>> ((Int32.toInt64 (4 : Int32)).toUInt64 &&& Int64.toUInt64 63)).toInt64)) &&& 1085102592571150095)).toUInt64 >>> ((Int32.toInt64 (8 : Int32)).toUInt64 &&& Int64.toUInt64 63)).toInt64))).toUInt64 >>> ((Int32.toInt64 (16 : Int32)).toUInt64 &&& Int64.toUInt64 63)).toInt64)) hx hb dJ13_bitCount_95d88_45 rfl ?_
  refine lv_ladd hx hb dJ13_bitCount_95d88_46 ?_
  refine lv_lstore_n (lv' := [(0, .long (((((((y0 - ((((y0).toUInt64 >>> ((Int32.toInt64 (1 : Int32)).toUInt64 &&& Int64.toUInt64 63)).toInt64) &&& 6148914691236517205)) &&& 3689348814741910323) + (((((y0 - ((((y0).toUInt64 >>> ((Int32.toInt64 (1 : Int32)).toUInt64 &&& Int64.toUInt64 63)).toInt64) &&& 6148914691236517205))).toUInt64 >>> ((Int32.toInt64 (2 : Int32)).toUInt64 &&& Int64.toUInt64 63)).toInt64) &&& 3689348814741910323)) + ((((((y0 - ((((y0).toUInt64 >>> ((Int32.toInt64 (1 : Int32)).toUInt64 &&& Int64.toUInt64 63)).toInt64) &&& 6148914691236517205)) &&& 3689348814741910323) + (((((y0 - ((((y0).toUInt64 >>> ((Int32.toInt64 (1 : Int32)).toUInt64 &&& Int64.toUInt64 63)).toInt64) &&& 6148914691236517205))).toUInt64 >>> ((Int32.toInt64 (2 : Int32)).toUInt64 &&& Int64.toUInt64 63)).toInt64) &&& 3689348814741910323))).toUInt64 >>> ((Int32.toInt64 (4 : Int32)).toUInt64 &&& Int64.toUInt64 63)).toInt64)) &&& 1085102592571150095) + ((((((((y0 - ((((y0).toUInt64 >>> ((Int32.toInt64 (1 : Int32)).toUInt64 &&& Int64.toUInt64 63)).toInt64) &&& 6148914691236517205)) &&& 3689348814741910323) + (((((y0 - ((((y0).toUInt64 >>> ((Int32.toInt64 (1 : Int32)).toUInt64 &&& Int64.toUInt64 63)).toInt64) &&& 6148914691236517205))).toUInt64 >>> ((Int32.toInt64 (2 : Int32)).toUInt64 &&& Int64.toUInt64 63)).toInt64) &&& 3689348814741910323)) + ((((((y0 - ((((y0).toUInt64 >>> ((Int32.toInt64 (1 : Int32)).toUInt64 &&& Int64.toUInt64 63)).toInt64) &&& 6148914691236517205)) &&& 3689348814741910323) + (((((y0 - ((((y0).toUInt64 >>> ((Int32.toInt64 (1 : Int32)).toUInt64 &&& Int64.toUInt64 63)).toInt64) &&& 6148914691236517205))).toUInt64 >>> ((Int32.toInt64 (2 : Int32)).toUInt64 &&& Int64.toUInt64 63)).toInt64) &&& 3689348814741910323))).toUInt64 >>> ((Int32.toInt64 (4 : Int32)).toUInt64 &&& Int64.toUInt64 63)).toInt64)) &&& 1085102592571150095)).toUInt64 >>> ((Int32.toInt64 (8 : Int32)).toUInt64 &&& Int64.toUInt64 63)).toInt64)) + (((((((((y0 - ((((y0).toUInt64 >>> ((Int32.toInt64 (1 : Int32)).toUInt64 &&& Int64.toUInt64 63)).toInt64) &&& 6148914691236517205)) &&& 3689348814741910323) + (((((y0 - ((((y0).toUInt64 >>> ((Int32.toInt64 (1 : Int32)).toUInt64 &&& Int64.toUInt64 63)).toInt64) &&& 6148914691236517205))).toUInt64 >>> ((Int32.toInt64 (2 : Int32)).toUInt64 &&& Int64.toUInt64 63)).toInt64) &&& 3689348814741910323)) + ((((((y0 - ((((y0).toUInt64 >>> ((Int32.toInt64 (1 : Int32)).toUInt64 &&& Int64.toUInt64 63)).toInt64) &&& 6148914691236517205)) &&& 3689348814741910323) + (((((y0 - ((((y0).toUInt64 >>> ((Int32.toInt64 (1 : Int32)).toUInt64 &&& Int64.toUInt64 63)).toInt64) &&& 6148914691236517205))).toUInt64 >>> ((Int32.toInt64 (2 : Int32)).toUInt64 &&& Int64.toUInt64 63)).toInt64) &&& 3689348814741910323))).toUInt64 >>> ((Int32.toInt64 (4 : Int32)).toUInt64 &&& Int64.toUInt64 63)).toInt64)) &&& 1085102592571150095) + ((((((((y0 - ((((y0).toUInt64 >>> ((Int32.toInt64 (1 : Int32)).toUInt64 &&& Int64.toUInt64 63)).toInt64) &&& 6148914691236517205)) &&& 3689348814741910323) + (((((y0 - ((((y0).toUInt64 >>> ((Int32.toInt64 (1 : Int32)).toUInt64 &&& Int64.toUInt64 63)).toInt64) &&& 6148914691236517205))).toUInt64 >>> ((Int32.toInt64 (2 : Int32)).toUInt64 &&& Int64.toUInt64 63)).toInt64) &&& 3689348814741910323)) + ((((((y0 - ((((y0).toUInt64 >>> ((Int32.toInt64 (1 : Int32)).toUInt64 &&& Int64.toUInt64 63)).toInt64) &&& 6148914691236517205)) &&& 3689348814741910323) + (((((y0 - ((((y0).toUInt64 >>> ((Int32.toInt64 (1 : Int32)).toUInt64 &&& Int64.toUInt64 63)).toInt64) &&& 6148914691236517205))).toUInt64 >>> ((Int32.toInt64 (2 : Int32)).toUInt64 &&& Int64.toUInt64 63)).toInt64) &&& 3689348814741910323))).toUInt64 >>> ((Int32.toInt64 (4 : Int32)).toUInt64 &&& Int64.toUInt64 63)).toInt64)) &&& 1085102592571150095)).toUInt64 >>> ((Int32.toInt64 (8 : Int32)).toUInt64 &&& Int64.toUInt64 63)).toInt64))).toUInt64 >>> ((Int32.toInt64 (16 : Int32)).toUInt64 &&& Int64.toUInt64 63)).toInt64)))]) hx hb dJ13_bitCount_95d88_47 rfl hl (by decide) rfl (fun ls hl => ?_)
  refine lv_lload_n hx hb dJ13_bitCount_95d88_48 rfl (lv_at hl 0 rfl) ?_
  refine lv_lload_n hx hb dJ13_bitCount_95d88_49 rfl (lv_at hl 0 rfl) ?_
  refine lv_bipush (v := 32) hx hb dJ13_bitCount_95d88_50 (by decide) ?_
  refine lv_lushr (v := ((((((((((y0 - ((((y0).toUInt64 >>> ((Int32.toInt64 (1 : Int32)).toUInt64 &&& Int64.toUInt64 63)).toInt64) &&& 6148914691236517205)) &&& 3689348814741910323) + (((((y0 - ((((y0).toUInt64 >>> ((Int32.toInt64 (1 : Int32)).toUInt64 &&& Int64.toUInt64 63)).toInt64) &&& 6148914691236517205))).toUInt64 >>> ((Int32.toInt64 (2 : Int32)).toUInt64 &&& Int64.toUInt64 63)).toInt64) &&& 3689348814741910323)) + ((((((y0 - ((((y0).toUInt64 >>> ((Int32.toInt64 (1 : Int32)).toUInt64 &&& Int64.toUInt64 63)).toInt64) &&& 6148914691236517205)) &&& 3689348814741910323) + (((((y0 - ((((y0).toUInt64 >>> ((Int32.toInt64 (1 : Int32)).toUInt64 &&& Int64.toUInt64 63)).toInt64) &&& 6148914691236517205))).toUInt64 >>> ((Int32.toInt64 (2 : Int32)).toUInt64 &&& Int64.toUInt64 63)).toInt64) &&& 3689348814741910323))).toUInt64 >>> ((Int32.toInt64 (4 : Int32)).toUInt64 &&& Int64.toUInt64 63)).toInt64)) &&& 1085102592571150095) + ((((((((y0 - ((((y0).toUInt64 >>> ((Int32.toInt64 (1 : Int32)).toUInt64 &&& Int64.toUInt64 63)).toInt64) &&& 6148914691236517205)) &&& 3689348814741910323) + (((((y0 - ((((y0).toUInt64 >>> ((Int32.toInt64 (1 : Int32)).toUInt64 &&& Int64.toUInt64 63)).toInt64) &&& 6148914691236517205))).toUInt64 >>> ((Int32.toInt64 (2 : Int32)).toUInt64 &&& Int64.toUInt64 63)).toInt64) &&& 3689348814741910323)) + ((((((y0 - ((((y0).toUInt64 >>> ((Int32.toInt64 (1 : Int32)).toUInt64 &&& Int64.toUInt64 63)).toInt64) &&& 6148914691236517205)) &&& 3689348814741910323) + (((((y0 - ((((y0).toUInt64 >>> ((Int32.toInt64 (1 : Int32)).toUInt64 &&& Int64.toUInt64 63)).toInt64) &&& 6148914691236517205))).toUInt64 >>> ((Int32.toInt64 (2 : Int32)).toUInt64 &&& Int64.toUInt64 63)).toInt64) &&& 3689348814741910323))).toUInt64 >>> ((Int32.toInt64 (4 : Int32)).toUInt64 &&& Int64.toUInt64 63)).toInt64)) &&& 1085102592571150095)).toUInt64 >>> ((Int32.toInt64 (8 : Int32)).toUInt64 &&& Int64.toUInt64 63)).toInt64)) + (((((((((y0 - ((((y0).toUInt64 >>> ((Int32.toInt64 (1 : Int32)).toUInt64 &&& Int64.toUInt64 63)).toInt64) &&& 6148914691236517205)) &&& 3689348814741910323) + (((((y0 - ((((y0).toUInt64 >>> ((Int32.toInt64 (1 : Int32)).toUInt64 &&& Int64.toUInt64 63)).toInt64) &&& 6148914691236517205))).toUInt64 >>> ((Int32.toInt64 (2 : Int32)).toUInt64 &&& Int64.toUInt64 63)).toInt64) &&& 3689348814741910323)) + ((((((y0 - ((((y0).toUInt64 >>> ((Int32.toInt64 (1 : Int32)).toUInt64 &&& Int64.toUInt64 63)).toInt64) &&& 6148914691236517205)) &&& 3689348814741910323) + (((((y0 - ((((y0).toUInt64 >>> ((Int32.toInt64 (1 : Int32)).toUInt64 &&& Int64.toUInt64 63)).toInt64) &&& 6148914691236517205))).toUInt64 >>> ((Int32.toInt64 (2 : Int32)).toUInt64 &&& Int64.toUInt64 63)).toInt64) &&& 3689348814741910323))).toUInt64 >>> ((Int32.toInt64 (4 : Int32)).toUInt64 &&& Int64.toUInt64 63)).toInt64)) &&& 1085102592571150095) + ((((((((y0 - ((((y0).toUInt64 >>> ((Int32.toInt64 (1 : Int32)).toUInt64 &&& Int64.toUInt64 63)).toInt64) &&& 6148914691236517205)) &&& 3689348814741910323) + (((((y0 - ((((y0).toUInt64 >>> ((Int32.toInt64 (1 : Int32)).toUInt64 &&& Int64.toUInt64 63)).toInt64) &&& 6148914691236517205))).toUInt64 >>> ((Int32.toInt64 (2 : Int32)).toUInt64 &&& Int64.toUInt64 63)).toInt64) &&& 3689348814741910323)) + ((((((y0 - ((((y0).toUInt64 >>> ((Int32.toInt64 (1 : Int32)).toUInt64 &&& Int64.toUInt64 63)).toInt64) &&& 6148914691236517205)) &&& 3689348814741910323) + (((((y0 - ((((y0).toUInt64 >>> ((Int32.toInt64 (1 : Int32)).toUInt64 &&& Int64.toUInt64 63)).toInt64) &&& 6148914691236517205))).toUInt64 >>> ((Int32.toInt64 (2 : Int32)).toUInt64 &&& Int64.toUInt64 63)).toInt64) &&& 3689348814741910323))).toUInt64 >>> ((Int32.toInt64 (4 : Int32)).toUInt64 &&& Int64.toUInt64 63)).toInt64)) &&& 1085102592571150095)).toUInt64 >>> ((Int32.toInt64 (8 : Int32)).toUInt64 &&& Int64.toUInt64 63)).toInt64))).toUInt64 >>> ((Int32.toInt64 (16 : Int32)).toUInt64 &&& Int64.toUInt64 63)).toInt64))).toUInt64 >>> ((Int32.toInt64 (32 : Int32)).toUInt64 &&& Int64.toUInt64 63)).toInt64)) hx hb dJ13_bitCount_95d88_52 rfl ?_
  refine lv_ladd hx hb dJ13_bitCount_95d88_53 ?_
  refine lv_lstore_n (lv' := [(0, .long ((((((((y0 - ((((y0).toUInt64 >>> ((Int32.toInt64 (1 : Int32)).toUInt64 &&& Int64.toUInt64 63)).toInt64) &&& 6148914691236517205)) &&& 3689348814741910323) + (((((y0 - ((((y0).toUInt64 >>> ((Int32.toInt64 (1 : Int32)).toUInt64 &&& Int64.toUInt64 63)).toInt64) &&& 6148914691236517205))).toUInt64 >>> ((Int32.toInt64 (2 : Int32)).toUInt64 &&& Int64.toUInt64 63)).toInt64) &&& 3689348814741910323)) + ((((((y0 - ((((y0).toUInt64 >>> ((Int32.toInt64 (1 : Int32)).toUInt64 &&& Int64.toUInt64 63)).toInt64) &&& 6148914691236517205)) &&& 3689348814741910323) + (((((y0 - ((((y0).toUInt64 >>> ((Int32.toInt64 (1 : Int32)).toUInt64 &&& Int64.toUInt64 63)).toInt64) &&& 6148914691236517205))).toUInt64 >>> ((Int32.toInt64 (2 : Int32)).toUInt64 &&& Int64.toUInt64 63)).toInt64) &&& 3689348814741910323))).toUInt64 >>> ((Int32.toInt64 (4 : Int32)).toUInt64 &&& Int64.toUInt64 63)).toInt64)) &&& 1085102592571150095) + ((((((((y0 - ((((y0).toUInt64 >>> ((Int32.toInt64 (1 : Int32)).toUInt64 &&& Int64.toUInt64 63)).toInt64) &&& 6148914691236517205)) &&& 3689348814741910323) + (((((y0 - ((((y0).toUInt64 >>> ((Int32.toInt64 (1 : Int32)).toUInt64 &&& Int64.toUInt64 63)).toInt64) &&& 6148914691236517205))).toUInt64 >>> ((Int32.toInt64 (2 : Int32)).toUInt64 &&& Int64.toUInt64 63)).toInt64) &&& 3689348814741910323)) + ((((((y0 - ((((y0).toUInt64 >>> ((Int32.toInt64 (1 : Int32)).toUInt64 &&& Int64.toUInt64 63)).toInt64) &&& 6148914691236517205)) &&& 3689348814741910323) + (((((y0 - ((((y0).toUInt64 >>> ((Int32.toInt64 (1 : Int32)).toUInt64 &&& Int64.toUInt64 63)).toInt64) &&& 6148914691236517205))).toUInt64 >>> ((Int32.toInt64 (2 : Int32)).toUInt64 &&& Int64.toUInt64 63)).toInt64) &&& 3689348814741910323))).toUInt64 >>> ((Int32.toInt64 (4 : Int32)).toUInt64 &&& Int64.toUInt64 63)).toInt64)) &&& 1085102592571150095)).toUInt64 >>> ((Int32.toInt64 (8 : Int32)).toUInt64 &&& Int64.toUInt64 63)).toInt64)) + (((((((((y0 - ((((y0).toUInt64 >>> ((Int32.toInt64 (1 : Int32)).toUInt64 &&& Int64.toUInt64 63)).toInt64) &&& 6148914691236517205)) &&& 3689348814741910323) + (((((y0 - ((((y0).toUInt64 >>> ((Int32.toInt64 (1 : Int32)).toUInt64 &&& Int64.toUInt64 63)).toInt64) &&& 6148914691236517205))).toUInt64 >>> ((Int32.toInt64 (2 : Int32)).toUInt64 &&& Int64.toUInt64 63)).toInt64) &&& 3689348814741910323)) + ((((((y0 - ((((y0).toUInt64 >>> ((Int32.toInt64 (1 : Int32)).toUInt64 &&& Int64.toUInt64 63)).toInt64) &&& 6148914691236517205)) &&& 3689348814741910323) + (((((y0 - ((((y0).toUInt64 >>> ((Int32.toInt64 (1 : Int32)).toUInt64 &&& Int64.toUInt64 63)).toInt64) &&& 6148914691236517205))).toUInt64 >>> ((Int32.toInt64 (2 : Int32)).toUInt64 &&& Int64.toUInt64 63)).toInt64) &&& 3689348814741910323))).toUInt64 >>> ((Int32.toInt64 (4 : Int32)).toUInt64 &&& Int64.toUInt64 63)).toInt64)) &&& 1085102592571150095) + ((((((((y0 - ((((y0).toUInt64 >>> ((Int32.toInt64 (1 : Int32)).toUInt64 &&& Int64.toUInt64 63)).toInt64) &&& 6148914691236517205)) &&& 3689348814741910323) + (((((y0 - ((((y0).toUInt64 >>> ((Int32.toInt64 (1 : Int32)).toUInt64 &&& Int64.toUInt64 63)).toInt64) &&& 6148914691236517205))).toUInt64 >>> ((Int32.toInt64 (2 : Int32)).toUInt64 &&& Int64.toUInt64 63)).toInt64) &&& 3689348814741910323)) + ((((((y0 - ((((y0).toUInt64 >>> ((Int32.toInt64 (1 : Int32)).toUInt64 &&& Int64.toUInt64 63)).toInt64) &&& 6148914691236517205)) &&& 3689348814741910323) + (((((y0 - ((((y0).toUInt64 >>> ((Int32.toInt64 (1 : Int32)).toUInt64 &&& Int64.toUInt64 63)).toInt64) &&& 6148914691236517205))).toUInt64 >>> ((Int32.toInt64 (2 : Int32)).toUInt64 &&& Int64.toUInt64 63)).toInt64) &&& 3689348814741910323))).toUInt64 >>> ((Int32.toInt64 (4 : Int32)).toUInt64 &&& Int64.toUInt64 63)).toInt64)) &&& 1085102592571150095)).toUInt64 >>> ((Int32.toInt64 (8 : Int32)).toUInt64 &&& Int64.toUInt64 63)).toInt64))).toUInt64 >>> ((Int32.toInt64 (16 : Int32)).toUInt64 &&& Int64.toUInt64 63)).toInt64)) + ((((((((((y0 - ((((y0).toUInt64 >>> ((Int32.toInt64 (1 : Int32)).toUInt64 &&& Int64.toUInt64 63)).toInt64) &&& 6148914691236517205)) &&& 3689348814741910323) + (((((y0 - ((((y0).toUInt64 >>> ((Int32.toInt64 (1 : Int32)).toUInt64 &&& Int64.toUInt64 63)).toInt64) &&& 6148914691236517205))).toUInt64 >>> ((Int32.toInt64 (2 : Int32)).toUInt64 &&& Int64.toUInt64 63)).toInt64) &&& 3689348814741910323)) + ((((((y0 - ((((y0).toUInt64 >>> ((Int32.toInt64 (1 : Int32)).toUInt64 &&& Int64.toUInt64 63)).toInt64) &&& 6148914691236517205)) &&& 3689348814741910323) + (((((y0 - ((((y0).toUInt64 >>> ((Int32.toInt64 (1 : Int32)).toUInt64 &&& Int64.toUInt64 63)).toInt64) &&& 6148914691236517205))).toUInt64 >>> ((Int32.toInt64 (2 : Int32)).toUInt64 &&& Int64.toUInt64 63)).toInt64) &&& 3689348814741910323))).toUInt64 >>> ((Int32.toInt64 (4 : Int32)).toUInt64 &&& Int64.toUInt64 63)).toInt64)) &&& 1085102592571150095) + ((((((((y0 - ((((y0).toUInt64 >>> ((Int32.toInt64 (1 : Int32)).toUInt64 &&& Int64.toUInt64 63)).toInt64) &&& 6148914691236517205)) &&& 3689348814741910323) + (((((y0 - ((((y0).toUInt64 >>> ((Int32.toInt64 (1 : Int32)).toUInt64 &&& Int64.toUInt64 63)).toInt64) &&& 6148914691236517205))).toUInt64 >>> ((Int32.toInt64 (2 : Int32)).toUInt64 &&& Int64.toUInt64 63)).toInt64) &&& 3689348814741910323)) + ((((((y0 - ((((y0).toUInt64 >>> ((Int32.toInt64 (1 : Int32)).toUInt64 &&& Int64.toUInt64 63)).toInt64) &&& 6148914691236517205)) &&& 3689348814741910323) + (((((y0 - ((((y0).toUInt64 >>> ((Int32.toInt64 (1 : Int32)).toUInt64 &&& Int64.toUInt64 63)).toInt64) &&& 6148914691236517205))).toUInt64 >>> ((Int32.toInt64 (2 : Int32)).toUInt64 &&& Int64.toUInt64 63)).toInt64) &&& 3689348814741910323))).toUInt64 >>> ((Int32.toInt64 (4 : Int32)).toUInt64 &&& Int64.toUInt64 63)).toInt64)) &&& 1085102592571150095)).toUInt64 >>> ((Int32.toInt64 (8 : Int32)).toUInt64 &&& Int64.toUInt64 63)).toInt64)) + (((((((((y0 - ((((y0).toUInt64 >>> ((Int32.toInt64 (1 : Int32)).toUInt64 &&& Int64.toUInt64 63)).toInt64) &&& 6148914691236517205)) &&& 3689348814741910323) + (((((y0 - ((((y0).toUInt64 >>> ((Int32.toInt64 (1 : Int32)).toUInt64 &&& Int64.toUInt64 63)).toInt64) &&& 6148914691236517205))).toUInt64 >>> ((Int32.toInt64 (2 : Int32)).toUInt64 &&& Int64.toUInt64 63)).toInt64) &&& 3689348814741910323)) + ((((((y0 - ((((y0).toUInt64 >>> ((Int32.toInt64 (1 : Int32)).toUInt64 &&& Int64.toUInt64 63)).toInt64) &&& 6148914691236517205)) &&& 3689348814741910323) + (((((y0 - ((((y0).toUInt64 >>> ((Int32.toInt64 (1 : Int32)).toUInt64 &&& Int64.toUInt64 63)).toInt64) &&& 6148914691236517205))).toUInt64 >>> ((Int32.toInt64 (2 : Int32)).toUInt64 &&& Int64.toUInt64 63)).toInt64) &&& 3689348814741910323))).toUInt64 >>> ((Int32.toInt64 (4 : Int32)).toUInt64 &&& Int64.toUInt64 63)).toInt64)) &&& 1085102592571150095) + ((((((((y0 - ((((y0).toUInt64 >>> ((Int32.toInt64 (1 : Int32)).toUInt64 &&& Int64.toUInt64 63)).toInt64) &&& 6148914691236517205)) &&& 3689348814741910323) + (((((y0 - ((((y0).toUInt64 >>> ((Int32.toInt64 (1 : Int32)).toUInt64 &&& Int64.toUInt64 63)).toInt64) &&& 6148914691236517205))).toUInt64 >>> ((Int32.toInt64 (2 : Int32)).toUInt64 &&& Int64.toUInt64 63)).toInt64) &&& 3689348814741910323)) + ((((((y0 - ((((y0).toUInt64 >>> ((Int32.toInt64 (1 : Int32)).toUInt64 &&& Int64.toUInt64 63)).toInt64) &&& 6148914691236517205)) &&& 3689348814741910323) + (((((y0 - ((((y0).toUInt64 >>> ((Int32.toInt64 (1 : Int32)).toUInt64 &&& Int64.toUInt64 63)).toInt64) &&& 6148914691236517205))).toUInt64 >>> ((Int32.toInt64 (2 : Int32)).toUInt64 &&& Int64.toUInt64 63)).toInt64) &&& 3689348814741910323))).toUInt64 >>> ((Int32.toInt64 (4 : Int32)).toUInt64 &&& Int64.toUInt64 63)).toInt64)) &&& 1085102592571150095)).toUInt64 >>> ((Int32.toInt64 (8 : Int32)).toUInt64 &&& Int64.toUInt64 63)).toInt64))).toUInt64 >>> ((Int32.toInt64 (16 : Int32)).toUInt64 &&& Int64.toUInt64 63)).toInt64))).toUInt64 >>> ((Int32.toInt64 (32 : Int32)).toUInt64 &&& Int64.toUInt64 63)).toInt64)))]) hx hb dJ13_bitCount_95d88_54 rfl hl (by decide) rfl (fun ls hl => ?_)
  refine lv_lload_n hx hb dJ13_bitCount_95d88_55 rfl (lv_at hl 0 rfl) ?_
  refine lv_l2i (v := (Int64.toInt32 ((((((((y0 - ((((y0).toUInt64 >>> ((Int32.toInt64 (1 : Int32)).toUInt64 &&& Int64.toUInt64 63)).toInt64) &&& 6148914691236517205)) &&& 3689348814741910323) + (((((y0 - ((((y0).toUInt64 >>> ((Int32.toInt64 (1 : Int32)).toUInt64 &&& Int64.toUInt64 63)).toInt64) &&& 6148914691236517205))).toUInt64 >>> ((Int32.toInt64 (2 : Int32)).toUInt64 &&& Int64.toUInt64 63)).toInt64) &&& 3689348814741910323)) + ((((((y0 - ((((y0).toUInt64 >>> ((Int32.toInt64 (1 : Int32)).toUInt64 &&& Int64.toUInt64 63)).toInt64) &&& 6148914691236517205)) &&& 3689348814741910323) + (((((y0 - ((((y0).toUInt64 >>> ((Int32.toInt64 (1 : Int32)).toUInt64 &&& Int64.toUInt64 63)).toInt64) &&& 6148914691236517205))).toUInt64 >>> ((Int32.toInt64 (2 : Int32)).toUInt64 &&& Int64.toUInt64 63)).toInt64) &&& 3689348814741910323))).toUInt64 >>> ((Int32.toInt64 (4 : Int32)).toUInt64 &&& Int64.toUInt64 63)).toInt64)) &&& 1085102592571150095) + ((((((((y0 - ((((y0).toUInt64 >>> ((Int32.toInt64 (1 : Int32)).toUInt64 &&& Int64.toUInt64 63)).toInt64) &&& 6148914691236517205)) &&& 3689348814741910323) + (((((y0 - ((((y0).toUInt64 >>> ((Int32.toInt64 (1 : Int32)).toUInt64 &&& Int64.toUInt64 63)).toInt64) &&& 6148914691236517205))).toUInt64 >>> ((Int32.toInt64 (2 : Int32)).toUInt64 &&& Int64.toUInt64 63)).toInt64) &&& 3689348814741910323)) + ((((((y0 - ((((y0).toUInt64 >>> ((Int32.toInt64 (1 : Int32)).toUInt64 &&& Int64.toUInt64 63)).toInt64) &&& 6148914691236517205)) &&& 3689348814741910323) + (((((y0 - ((((y0).toUInt64 >>> ((Int32.toInt64 (1 : Int32)).toUInt64 &&& Int64.toUInt64 63)).toInt64) &&& 6148914691236517205))).toUInt64 >>> ((Int32.toInt64 (2 : Int32)).toUInt64 &&& Int64.toUInt64 63)).toInt64) &&& 3689348814741910323))).toUInt64 >>> ((Int32.toInt64 (4 : Int32)).toUInt64 &&& Int64.toUInt64 63)).toInt64)) &&& 1085102592571150095)).toUInt64 >>> ((Int32.toInt64 (8 : Int32)).toUInt64 &&& Int64.toUInt64 63)).toInt64)) + (((((((((y0 - ((((y0).toUInt64 >>> ((Int32.toInt64 (1 : Int32)).toUInt64 &&& Int64.toUInt64 63)).toInt64) &&& 6148914691236517205)) &&& 3689348814741910323) + (((((y0 - ((((y0).toUInt64 >>> ((Int32.toInt64 (1 : Int32)).toUInt64 &&& Int64.toUInt64 63)).toInt64) &&& 6148914691236517205))).toUInt64 >>> ((Int32.toInt64 (2 : Int32)).toUInt64 &&& Int64.toUInt64 63)).toInt64) &&& 3689348814741910323)) + ((((((y0 - ((((y0).toUInt64 >>> ((Int32.toInt64 (1 : Int32)).toUInt64 &&& Int64.toUInt64 63)).toInt64) &&& 6148914691236517205)) &&& 3689348814741910323) + (((((y0 - ((((y0).toUInt64 >>> ((Int32.toInt64 (1 : Int32)).toUInt64 &&& Int64.toUInt64 63)).toInt64) &&& 6148914691236517205))).toUInt64 >>> ((Int32.toInt64 (2 : Int32)).toUInt64 &&& Int64.toUInt64 63)).toInt64) &&& 3689348814741910323))).toUInt64 >>> ((Int32.toInt64 (4 : Int32)).toUInt64 &&& Int64.toUInt64 63)).toInt64)) &&& 1085102592571150095) + ((((((((y0 - ((((y0).toUInt64 >>> ((Int32.toInt64 (1 : Int32)).toUInt64 &&& Int64.toUInt64 63)).toInt64) &&& 6148914691236517205)) &&& 3689348814741910323) + (((((y0 - ((((y0).toUInt64 >>> ((Int32.toInt64 (1 : Int32)).toUInt64 &&& Int64.toUInt64 63)).toInt64) &&& 6148914691236517205))).toUInt64 >>> ((Int32.toInt64 (2 : Int32)).toUInt64 &&& Int64.toUInt64 63)).toInt64) &&& 3689348814741910323)) + ((((((y0 - ((((y0).toUInt64 >>> ((Int32.toInt64 (1 : Int32)).toUInt64 &&& Int64.toUInt64 63)).toInt64) &&& 6148914691236517205)) &&& 3689348814741910323) + (((((y0 - ((((y0).toUInt64 >>> ((Int32.toInt64 (1 : Int32)).toUInt64 &&& Int64.toUInt64 63)).toInt64) &&& 6148914691236517205))).toUInt64 >>> ((Int32.toInt64 (2 : Int32)).toUInt64 &&& Int64.toUInt64 63)).toInt64) &&& 3689348814741910323))).toUInt64 >>> ((Int32.toInt64 (4 : Int32)).toUInt64 &&& Int64.toUInt64 63)).toInt64)) &&& 1085102592571150095)).toUInt64 >>> ((Int32.toInt64 (8 : Int32)).toUInt64 &&& Int64.toUInt64 63)).toInt64))).toUInt64 >>> ((Int32.toInt64 (16 : Int32)).toUInt64 &&& Int64.toUInt64 63)).toInt64)) + ((((((((((y0 - ((((y0).toUInt64 >>> ((Int32.toInt64 (1 : Int32)).toUInt64 &&& Int64.toUInt64 63)).toInt64) &&& 6148914691236517205)) &&& 3689348814741910323) + (((((y0 - ((((y0).toUInt64 >>> ((Int32.toInt64 (1 : Int32)).toUInt64 &&& Int64.toUInt64 63)).toInt64) &&& 6148914691236517205))).toUInt64 >>> ((Int32.toInt64 (2 : Int32)).toUInt64 &&& Int64.toUInt64 63)).toInt64) &&& 3689348814741910323)) + ((((((y0 - ((((y0).toUInt64 >>> ((Int32.toInt64 (1 : Int32)).toUInt64 &&& Int64.toUInt64 63)).toInt64) &&& 6148914691236517205)) &&& 3689348814741910323) + (((((y0 - ((((y0).toUInt64 >>> ((Int32.toInt64 (1 : Int32)).toUInt64 &&& Int64.toUInt64 63)).toInt64) &&& 6148914691236517205))).toUInt64 >>> ((Int32.toInt64 (2 : Int32)).toUInt64 &&& Int64.toUInt64 63)).toInt64) &&& 3689348814741910323))).toUInt64 >>> ((Int32.toInt64 (4 : Int32)).toUInt64 &&& Int64.toUInt64 63)).toInt64)) &&& 1085102592571150095) + ((((((((y0 - ((((y0).toUInt64 >>> ((Int32.toInt64 (1 : Int32)).toUInt64 &&& Int64.toUInt64 63)).toInt64) &&& 6148914691236517205)) &&& 3689348814741910323) + (((((y0 - ((((y0).toUInt64 >>> ((Int32.toInt64 (1 : Int32)).toUInt64 &&& Int64.toUInt64 63)).toInt64) &&& 6148914691236517205))).toUInt64 >>> ((Int32.toInt64 (2 : Int32)).toUInt64 &&& Int64.toUInt64 63)).toInt64) &&& 3689348814741910323)) + ((((((y0 - ((((y0).toUInt64 >>> ((Int32.toInt64 (1 : Int32)).toUInt64 &&& Int64.toUInt64 63)).toInt64) &&& 6148914691236517205)) &&& 3689348814741910323) + (((((y0 - ((((y0).toUInt64 >>> ((Int32.toInt64 (1 : Int32)).toUInt64 &&& Int64.toUInt64 63)).toInt64) &&& 6148914691236517205))).toUInt64 >>> ((Int32.toInt64 (2 : Int32)).toUInt64 &&& Int64.toUInt64 63)).toInt64) &&& 3689348814741910323))).toUInt64 >>> ((Int32.toInt64 (4 : Int32)).toUInt64 &&& Int64.toUInt64 63)).toInt64)) &&& 1085102592571150095)).toUInt64 >>> ((Int32.toInt64 (8 : Int32)).toUInt64 &&& Int64.toUInt64 63)).toInt64)) + (((((((((y0 - ((((y0).toUInt64 >>> ((Int32.toInt64 (1 : Int32)).toUInt64 &&& Int64.toUInt64 63)).toInt64) &&& 6148914691236517205)) &&& 3689348814741910323) + (((((y0 - ((((y0).toUInt64 >>> ((Int32.toInt64 (1 : Int32)).toUInt64 &&& Int64.toUInt64 63)).toInt64) &&& 6148914691236517205))).toUInt64 >>> ((Int32.toInt64 (2 : Int32)).toUInt64 &&& Int64.toUInt64 63)).toInt64) &&& 3689348814741910323)) + ((((((y0 - ((((y0).toUInt64 >>> ((Int32.toInt64 (1 : Int32)).toUInt64 &&& Int64.toUInt64 63)).toInt64) &&& 6148914691236517205)) &&& 3689348814741910323) + (((((y0 - ((((y0).toUInt64 >>> ((Int32.toInt64 (1 : Int32)).toUInt64 &&& Int64.toUInt64 63)).toInt64) &&& 6148914691236517205))).toUInt64 >>> ((Int32.toInt64 (2 : Int32)).toUInt64 &&& Int64.toUInt64 63)).toInt64) &&& 3689348814741910323))).toUInt64 >>> ((Int32.toInt64 (4 : Int32)).toUInt64 &&& Int64.toUInt64 63)).toInt64)) &&& 1085102592571150095) + ((((((((y0 - ((((y0).toUInt64 >>> ((Int32.toInt64 (1 : Int32)).toUInt64 &&& Int64.toUInt64 63)).toInt64) &&& 6148914691236517205)) &&& 3689348814741910323) + (((((y0 - ((((y0).toUInt64 >>> ((Int32.toInt64 (1 : Int32)).toUInt64 &&& Int64.toUInt64 63)).toInt64) &&& 6148914691236517205))).toUInt64 >>> ((Int32.toInt64 (2 : Int32)).toUInt64 &&& Int64.toUInt64 63)).toInt64) &&& 3689348814741910323)) + ((((((y0 - ((((y0).toUInt64 >>> ((Int32.toInt64 (1 : Int32)).toUInt64 &&& Int64.toUInt64 63)).toInt64) &&& 6148914691236517205)) &&& 3689348814741910323) + (((((y0 - ((((y0).toUInt64 >>> ((Int32.toInt64 (1 : Int32)).toUInt64 &&& Int64.toUInt64 63)).toInt64) &&& 6148914691236517205))).toUInt64 >>> ((Int32.toInt64 (2 : Int32)).toUInt64 &&& Int64.toUInt64 63)).toInt64) &&& 3689348814741910323))).toUInt64 >>> ((Int32.toInt64 (4 : Int32)).toUInt64 &&& Int64.toUInt64 63)).toInt64)) &&& 1085102592571150095)).toUInt64 >>> ((Int32.toInt64 (8 : Int32)).toUInt64 &&& Int64.toUInt64 63)).toInt64))).toUInt64 >>> ((Int32.toInt64 (16 : Int32)).toUInt64 &&& Int64.toUInt64 63)).toInt64))).toUInt64 >>> ((Int32.toInt64 (32 : Int32)).toUInt64 &&& Int64.toUInt64 63)).toInt64)))) hx hb dJ13_bitCount_95d88_56 rfl ?_
  refine lv_bipush (v := 127) hx hb dJ13_bitCount_95d88_57 (by decide) ?_
  refine lv_iand hx hb dJ13_bitCount_95d88_59 ?_
  exact rd_iret hx hb hr hk h dJ13_bitCount_95d88_60
