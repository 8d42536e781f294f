def wp_X6_better_L55 (s2 : Bd) (post : Int32 → Prop) (e100 : Int32 → Int32 → Int32 → Int32 → Int32 → Int32 → Int32 → Int32 → Prop) : Nat → Int32 → Int32 → Int32 → Int32 → Int32 → Int32 → Int32 → Int32 → Prop
  | 0, _, _, _, _, _, _, _, _ => False
  | n55 + 1, z1, z2, z3, z4, z5, z6, z7, z8 => ((z3 ≤ z8 → e100 z1 z2 z3 z4 z5 z6 z7 z8) ∧ (¬ z3 ≤ z8 → wp_X0_journeyChange (fun r_10 => ((z4 ≤ r_10 → wp_X6_better_L55 s2 post e100 n55 z1 z2 z3 z4 z5 z6 z7 (z8 + 1)) ∧ (¬ z4 ≤ r_10 → wp_X6_better_L55 s2 post e100 n55 z1 z2 z3 r_10 z7 z8 z7 (z8 + 1)))) s2 z1 z7 z8))
def wp_X6_better_L43 (s2 : Bd) (post : Int32 → Prop) (e106 : Int32 → Int32 → Int32 → Int32 → Int32 → Int32 → Int32 → Prop) : Nat → Int32 → Int32 → Int32 → Int32 → Int32 → Int32 → Int32 → Prop
  | 0, _, _, _, _, _, _, _ => False
  | n43 + 1, z1, z2, z3, z4, z5, z6, z7 => ((z3 ≤ z7 → e106 z1 z2 z3 z4 z5 z6 z7) ∧ (¬ z3 ≤ z7 → (∃ n55, wp_X6_better_L55 s2 post (fun z1 z2 z3 z4 z5 z6 z7 z8 => wp_X6_better_L43 s2 post e106 n43 z1 z2 z3 z4 z5 z6 (z7 + 1)) n55 z1 z2 z3 z4 z5 z6 z7 (z7 + 1))))
def wp_X6_better (post : Int32 → Prop) (s2 : Bd) (x1 : Int32) (x2 : Int32) : Prop := wp_X0_hasDrum (fun r_1 => ((r_1 = 0 → post (-1)) ∧ (¬ r_1 = 0 → ((x2 < 0 → post (-1)) ∧ (¬ x2 < 0 → ((x2 ≤ 2 → wp_X0_flapsOn (fun r_6 => (∃ n43, wp_X6_better_L43 s2 post (fun z1 z2 z3 z4 z5 z6 z7 => ((¬ z5 = (-1) → ((¬ z2 = 0 → ((¬ z2 = 1 → post z6) ∧ (z2 = 1 → post z5))) ∧ (z2 = 0 → wp_X0_journey (fun r_16 => post (r_16 + z4)) s2 z1))) ∧ (z5 = (-1) → post (-2)))) n43 x1 x2 r_6 0 (-1) (-1) 1)) s2 x1) ∧ (¬ x2 ≤ 2 → post (-1)))))))) s2 x1
set_option maxHeartbeats 4000000 in
set_option maxRecDepth 100000 in
theorem c2_X6_better {l : Launch} {D : va_G} {q : Nat → ClassId} {a0 a1 a2 a3 a4 a5 : Nat → Nat} {p8 s8 : Nat} {s2 : Bd} {x1 : Int32} {x2 : Int32} {post : Int32 → Prop} (h : wp_X6_better post s2 x1 x2) : Met l yX6_better (Cond.code yX6_better cX6_better 10 (some .int) :: w_all) ({ frames := 2, cells := 0, slots := 0, locals := 55 } : Room) (rd_P D q [.ref (a0 0), .int x1, .int x2] (fo_w (a0 0) (a1 0) (a2 0) (a3 0) (a4 0) (a5 0) p8 s8 ++ bd_w a2 q s2)) (vp_Si post) 0 0 (fun _ => False) := by
  refine rd_start (by decide) (Nat.le_of_ble_eq_true rfl) ?_
  intro p e s m below meth c ls hx hb hr hml hown ht hk hP hQ hV hl
  have hK := hQ.1
  have hown : s.vm.findClass RX6 = some m.cls := hown
  have hl : lv_has ls 10 [(0, .ref (a0 0)), (1, .int x1), (2, .int x2)] := hl
  have hP : va_P D vwCl [((a0 0), .inr (5, [.ref (a1 0), .ref (a2 0), .ref (a3 0), .ref (a4 0), .ref (a5 0), .ref p8, .ref s8])), ((a2 0), .inr (0, [.int (s2.1 0), .int (s2.1 1), .int (s2.1 2), .int (s2.1 3), .int (s2.1 4), .int (s2.1 5), .ref (a2 1), .ref (a2 2), .ref (a2 3), .ref (a2 4), .ref (a2 5), .ref (a2 6), .ref (a2 7), .ref (a2 8), .ref (a2 9), .ref (a2 10), .ref (a2 11), .ref (a2 12)])), ((a2 1), .inl (q 0, 4, .inl (s2.2.1 0))), ((a2 2), .inl (q 0, 4, .inl (s2.2.1 1))), ((a2 3), .inl (q 0, 160, .inl (s2.2.1 2))), ((a2 4), .inl (q 0, 40, .inl (s2.2.1 3))), ((a2 5), .inl (q 0, 40, .inl (s2.2.1 4))), ((a2 6), .inl (q 0, 40, .inl (s2.2.1 5))), ((a2 7), .inl (q 0, 40, .inl (s2.2.1 6))), ((a2 8), .inl (q 0, 40, .inl (s2.2.1 7))), ((a2 9), .inl (q 0, 40, .inl (s2.2.1 8))), ((a2 10), .inl (q 0, 40, .inl (s2.2.1 9))), ((a2 11), .inl (q 1, 40, .inr (.inl s2.2.2.1))), ((a2 12), .inl (q 0, s2.2.2.2.1, .inl s2.2.2.2.2))] s.heap := hP
  unfold wp_X6_better at h
  refine lv_aload_n hx hb dX6_better_0 rfl (lv_at hl 0 rfl) ?_
  refine fl_get (C := RX6) (T := TX6) (N := 7) (ci := 5) (v := .ref (a2 0)) hx hb ht in_X6 hown hK hP 0 rfl rfl 1 (by decide) mw_356 rfl dX6_better_1 ?_
  refine lv_iload_n hx hb dX6_better_4 rfl (lv_at hl 1 rfl) ?_
  refine vp_callSi (rd_wV (wc := bd_w a2 q s2) (As := [.int x1]) (rest := []) hx hb hml hown ht (c2_X0_hasDrum h) wd_X0_hasDrum mw_904 hQ hV va_S.rf (hP.sub [1, 2, 3, 4, 5, 6, 7, 8, 9, 10, 11, 12, 13] rfl) rfl rfl rfl hl.1 rfl (Nat.le_of_ble_eq_true rfl) dX6_better_5 ⟨Nat.le_of_ble_eq_true rfl, Nat.le_of_ble_eq_true rfl, rfl, rfl⟩ ⟨Nat.le_of_ble_eq_true rfl, Nat.le_of_ble_eq_true rfl⟩) (fun r_1 h => ?_)
  try dsimp only at h
  refine lv_if_eq (tgt := 20) hx hb dX6_better_8 (by decide) (fun c_3 => ?_) (fun c_3 => ?_)
  · replace h := h.1 c_3
    refine lv_iconst (v := (-1)) hx hb dX6_better_20 (by decide) ?_
    exact rd_iret hx hb hr hk h dX6_better_21
  · replace h := h.2 c_3
    refine lv_iload_n hx hb dX6_better_11 rfl (lv_at hl 2 rfl) ?_
    refine lv_if_lt (tgt := 20) hx hb dX6_better_12 (by decide) (fun c_4 => ?_) (fun c_4 => ?_)
    · replace h := h.1 c_4
      refine lv_iconst (v := (-1)) hx hb dX6_better_20 (by decide) ?_
      exact rd_iret hx hb hr hk h dX6_better_21
    · replace h := h.2 c_4
      refine lv_iload_n hx hb dX6_better_15 rfl (lv_at hl 2 rfl) ?_
      refine lv_iconst (v := 2) hx hb dX6_better_16 (by decide) ?_
      refine lv_icmp_le (tgt := 22) hx hb dX6_better_17 (by decide) (fun c_5 => ?_) (fun c_5 => ?_)
      · replace h := h.1 c_5
        refine lv_aload_n hx hb dX6_better_22 rfl (lv_at hl 0 rfl) ?_
        refine fl_get (C := RX6) (T := TX6) (N := 7) (ci := 5) (v := .ref (a2 0)) hx hb ht in_X6 hown hK hP 0 rfl rfl 1 (by decide) mw_356 rfl dX6_better_23 ?_
        refine lv_iload_n hx hb dX6_better_26 rfl (lv_at hl 1 rfl) ?_
        refine vp_callSi (rd_wV (wc := bd_w a2 q s2) (As := [.int x1]) (rest := []) hx hb hml hown ht (c2_X0_flapsOn h) wd_X0_flapsOn mw_908 hQ hV va_S.rf (hP.sub [1, 2, 3, 4, 5, 6, 7, 8, 9, 10, 11, 12, 13] rfl) rfl rfl rfl hl.1 rfl (Nat.le_of_ble_eq_true rfl) dX6_better_27 ⟨Nat.le_of_ble_eq_true rfl, Nat.le_of_ble_eq_true rfl, rfl, rfl⟩ ⟨Nat.le_of_ble_eq_true rfl, Nat.le_of_ble_eq_true rfl⟩) (fun r_6 h => ?_)
        try dsimp only at h
        refine lv_istore_n (lv' := [(3, .int r_6), (0, .ref (a0 0)), (1, .int x1), (2, .int x2)]) hx hb dX6_better_30 rfl hl (by decide) rfl (fun ls hl => ?_)
        refine lv_iconst (v := 0) hx hb dX6_better_31 (by decide) ?_
        refine lv_istore (lv' := [(4, .int 0), (3, .int r_6), (0, .ref (a0 0)), (1, .int x1), (2, .int x2)]) hx hb dX6_better_32 hl (by decide) rfl (fun ls hl => ?_)
        refine lv_iconst (v := (-1)) hx hb dX6_better_34 (by decide) ?_
        refine lv_istore (lv' := [(5, .int (-1)), (4, .int 0), (3, .int r_6), (0, .ref (a0 0)), (1, .int x1), (2, .int x2)]) hx hb dX6_better_35 hl (by decide) rfl (fun ls hl => ?_)
        refine lv_iconst (v := (-1)) hx hb dX6_better_37 (by decide) ?_
        refine lv_istore (lv' := [(6, .int (-1)), (5, .int (-1)), (4, .int 0), (3, .int r_6), (0, .ref (a0 0)), (1, .int x1), (2, .int x2)]) hx hb dX6_better_38 hl (by decide) rfl (fun ls hl => ?_)
        refine lv_iconst (v := 1) hx hb dX6_better_40 (by decide) ?_
        refine lv_istore (lv' := [(7, .int 1), (6, .int (-1)), (5, .int (-1)), (4, .int 0), (3, .int r_6), (0, .ref (a0 0)), (1, .int x1), (2, .int x2)]) hx hb dX6_better_41 hl (by decide) rfl (fun ls hl => ?_)
        have lp43 : ∀ (e106 : Int32 → Int32 → Int32 → Int32 → Int32 → Int32 → Int32 → Prop) (k106 : ∀ (z1 : Int32) (z2 : Int32) (z3 : Int32) (z4 : Int32) (z5 : Int32) (z6 : Int32) (z7 : Int32) (ls : Array Slot), e106 z1 z2 z3 z4 z5 z6 z7 → lv_has ls 10 [(1, .int z1), (2, .int z2), (3, .int z3), (4, .int z4), (5, .int z5), (6, .int z6), (7, .int z7), (0, .ref (a0 0))] → W p l e ({ frames := 2, cells := 0, slots := 0, locals := 55 } : Room) s m [.ref (a0 0), .int x1, .int x2].toArray below meth c s.heap [] 0 0 (MQ below (vp_Si post) [.ref (a0 0), .int x1, .int x2].toArray s 0 0 (fun _ => False)) (F0 m 106 ls [])) (n : Nat) (z1 : Int32) (z2 : Int32) (z3 : Int32) (z4 : Int32) (z5 : Int32) (z6 : Int32) (z7 : Int32) (ls : Array Slot), wp_X6_better_L43 s2 post e106 n z1 z2 z3 z4 z5 z6 z7 → lv_has ls 10 [(1, .int z1), (2, .int z2), (3, .int z3), (4, .int z4), (5, .int z5), (6, .int z6), (7, .int z7), (0, .ref (a0 0))] → W p l e ({ frames := 2, cells := 0, slots := 0, locals := 55 } : Room) s m [.ref (a0 0), .int x1, .int x2].toArray below meth c s.heap [] 0 0 (MQ below (vp_Si post) [.ref (a0 0), .int x1, .int x2].toArray s 0 0 (fun _ => False)) (F0 m 43 ls []) := by
          intro e106 k106 n
          induction n with
          | zero =>
            intro z1 z2 z3 z4 z5 z6 z7 ls h
            exact h.elim
          | succ n ih =>
            intro z1 z2 z3 z4 z5 z6 z7 ls h hl
            unfold wp_X6_better_L43 at h
            refine lv_iload hx hb dX6_better_43 (lv_at hl 6 rfl) ?_
            refine lv_iload_n hx hb dX6_better_45 rfl (lv_at hl 2 rfl) ?_
            refine lv_icmp_ge (tgt := 106) hx hb dX6_better_46 (by decide) (fun c_8 => ?_) (fun c_8 => ?_)
            · replace h := h.1 c_8
              exact k106 _ _ _ _ _ _ _ ls h (lv_sub hl [0, 1, 2, 3, 4, 5, 6, 7] rfl)
            · replace h := h.2 c_8
              refine lv_iload hx hb dX6_better_49 (lv_at hl 6 rfl) ?_
              refine lv_iconst (v := 1) hx hb dX6_better_51 (by decide) ?_
              refine lv_iadd hx hb dX6_better_52 ?_
              refine lv_istore (lv' := [(8, .int (z7 + 1)), (1, .int z1), (2, .int z2), (3, .int z3), (4, .int z4), (5, .int z5), (6, .int z6), (7, .int z7), (0, .ref (a0 0))]) hx hb dX6_better_53 hl (by decide) rfl (fun ls hl => ?_)
              have lp55 : ∀ (e100 : Int32 → Int32 → Int32 → Int32 → Int32 → Int32 → Int32 → Int32 → Prop) (k100 : ∀ (z1 : Int32) (z2 : Int32) (z3 : Int32) (z4 : Int32) (z5 : Int32) (z6 : Int32) (z7 : Int32) (z8 : Int32) (ls : Array Slot), e100 z1 z2 z3 z4 z5 z6 z7 z8 → lv_has ls 10 [(1, .int z1), (2, .int z2), (3, .int z3), (4, .int z4), (5, .int z5), (6, .int z6), (7, .int z7), (8, .int z8), (0, .ref (a0 0))] → W p l e ({ frames := 2, cells := 0, slots := 0, locals := 55 } : Room) s m [.ref (a0 0), .int x1, .int x2].toArray below meth c s.heap [] 0 0 (MQ below (vp_Si post) [.ref (a0 0), .int x1, .int x2].toArray s 0 0 (fun _ => False)) (F0 m 100 ls [])) (n : Nat) (z1 : Int32) (z2 : Int32) (z3 : Int32) (z4 : Int32) (z5 : Int32) (z6 : Int32) (z7 : Int32) (z8 : Int32) (ls : Array Slot), wp_X6_better_L55 s2 post e100 n z1 z2 z3 z4 z5 z6 z7 z8 → lv_has ls 10 [(1, .int z1), (2, .int z2), (3, .int z3), (4, .int z4), (5, .int z5), (6, .int z6), (7, .int z7), (8, .int z8), (0, .ref (a0 0))] → W p l e ({ frames := 2, cells := 0, slots := 0, locals := 55 } : Room) s m [.ref (a0 0), .int x1, .int x2].toArray below meth c s.heap [] 0 0 (MQ below (vp_Si post) [.ref (a0 0), .int x1, .int x2].toArray s 0 0 (fun _ => False)) (F0 m 55 ls []) := by
                intro e100 k100 n
                induction n with
                | zero =>
                  intro z1 z2 z3 z4 z5 z6 z7 z8 ls h
                  exact h.elim
                | succ n ih =>
                  intro z1 z2 z3 z4 z5 z6 z7 z8 ls h hl
                  unfold wp_X6_better_L55 at h
                  refine lv_iload hx hb dX6_better_55 (lv_at hl 7 rfl) ?_
                  refine lv_iload_n hx hb dX6_better_57 rfl (lv_at hl 2 rfl) ?_
                  refine lv_icmp_ge (tgt := 100) hx hb dX6_better_58 (by decide) (fun c_9 => ?_) (fun c_9 => ?_)
                  · replace h := h.1 c_9
                    exact k100 _ _ _ _ _ _ _ _ ls h (lv_sub hl [0, 1, 2, 3, 4, 5, 6, 7, 8] rfl)
                  · replace h := h.2 c_9
                    refine lv_aload_n hx hb dX6_better_61 rfl (lv_at hl 8 rfl) ?_
                    refine fl_get (C := RX6) (T := TX6) (N := 7) (ci := 5) (v := .ref (a2 0)) hx hb ht in_X6 hown hK hP 0 rfl rfl 1 (by decide) mw_356 rfl dX6_better_62 ?_
                    refine lv_iload_n hx hb dX6_better_65 rfl (lv_at hl 0 rfl) ?_
                    refine lv_iload hx hb dX6_better_66 (lv_at hl 6 rfl) ?_
                    refine lv_iload hx hb dX6_better_68 (lv_at hl 7 rfl) ?_
                    refine vp_callSi (rd_wV (wc := bd_w a2 q s2) (As := [.int z1, .int z7, .int z8]) (rest := []) hx hb hml hown ht (c2_X0_journeyChange h) wd_X0_journeyChange mw_1069 hQ hV va_S.rf (hP.sub [1, 2, 3, 4, 5, 6, 7, 8, 9, 10, 11, 12, 13] rfl) rfl rfl rfl hl.1 rfl (Nat.le_of_ble_eq_true rfl) dX6_better_70 ⟨Nat.le_of_ble_eq_true rfl, Nat.le_of_ble_eq_true rfl, rfl, rfl⟩ ⟨Nat.le_of_ble_eq_true rfl, Nat.le_of_ble_eq_true rfl⟩) (fun r_10 h => ?_)
                    try dsimp only at h
                    refine lv_istore (lv' := [(9, .int r_10), (1, .int z1), (2, .int z2), (3, .int z3), (4, .int z4), (5, .int z5), (6, .int z6), (7, .int z7), (8, .int z8), (0, .ref (a0 0))]) hx hb dX6_better_73 hl (by decide) rfl (fun ls hl => ?_)
                    refine lv_iload hx hb dX6_better_75 (lv_at hl 0 rfl) ?_
                    refine lv_iload hx hb dX6_better_77 (lv_at hl 4 rfl) ?_
                    refine lv_icmp_ge (tgt := 94) hx hb dX6_better_79 (by decide) (fun c_12 => ?_) (fun c_12 => ?_)
                    · replace h := h.1 c_12
                      refine lv_iinc (v := (z8 + 1)) (lv' := [(8, .int (z8 + 1)), (9, .int r_10), (1, .int z1), (2, .int z2), (3, .int z3), (4, .int z4), (5, .int z5), (6, .int z6), (7, .int z7), (0, .ref (a0 0))]) hx hb dX6_better_94 hl (k := 8) rfl rfl (by decide) rfl (fun ls hl => ?_)
                      refine lv_goto (tgt := 55) hx hb dX6_better_97 (by decide) ?_
                      exact ih _ _ _ _ _ _ _ _ ls h (lv_sub hl [2, 3, 4, 5, 6, 7, 8, 0, 9] rfl)
                    · replace h := h.2 c_12
                      refine lv_iload hx hb dX6_better_82 (lv_at hl 0 rfl) ?_
                      refine lv_istore (lv' := [(4, .int r_10), (9, .int r_10), (1, .int z1), (2, .int z2), (3, .int z3), (5, .int z5), (6, .int z6), (7, .int z7), (8, .int z8), (0, .ref (a0 0))]) hx hb dX6_better_84 hl (by decide) rfl (fun ls hl => ?_)
                      refine lv_iload hx hb dX6_better_86 (lv_at hl 7 rfl) ?_
                      refine lv_istore (lv' := [(5, .int z7), (4, .int r_10), (9, .int r_10), (1, .int z1), (2, .int z2), (3, .int z3), (6, .int z6), (7, .int z7), (8, .int z8), (0, .ref (a0 0))]) hx hb dX6_better_88 hl (by decide) rfl (fun ls hl => ?_)
                      refine lv_iload hx hb dX6_better_90 (lv_at hl 8 rfl) ?_
                      refine lv_istore (lv' := [(6, .int z8), (5, .int z7), (4, .int r_10), (9, .int r_10), (1, .int z1), (2, .int z2), (3, .int z3), (7, .int z7), (8, .int z8), (0, .ref (a0 0))]) hx hb dX6_better_92 hl (by decide) rfl (fun ls hl => ?_)
                      refine lv_iinc (v := (z8 + 1)) (lv' := [(8, .int (z8 + 1)), (6, .int z8), (5, .int z7), (4, .int r_10), (9, .int r_10), (1, .int z1), (2, .int z2), (3, .int z3), (7, .int z7), (0, .ref (a0 0))]) hx hb dX6_better_94 hl (k := 8) rfl rfl (by decide) rfl (fun ls hl => ?_)
                      refine lv_goto (tgt := 55) hx hb dX6_better_97 (by decide) ?_
                      exact ih _ _ _ _ _ _ _ _ ls h (lv_sub hl [5, 6, 7, 3, 2, 1, 8, 0, 9] rfl)
              obtain ⟨n55, h⟩ := h
              refine lp55 _ ?_ n55 _ _ _ _ _ _ _ _ ls h (lv_sub hl [1, 2, 3, 4, 5, 6, 7, 0, 8] rfl)
              · intro z1 z2 z3 z4 z5 z6 z7 z8 ls h hl
                try dsimp only at h
                refine lv_iinc (v := (z7 + 1)) (lv' := [(7, .int (z7 + 1)), (1, .int z1), (2, .int z2), (3, .int z3), (4, .int z4), (5, .int z5), (6, .int z6), (8, .int z8), (0, .ref (a0 0))]) hx hb dX6_better_100 hl (k := 6) rfl rfl (by decide) rfl (fun ls hl => ?_)
                refine lv_goto (tgt := 43) hx hb dX6_better_103 (by decide) ?_
                exact ih _ _ _ _ _ _ _ ls h (lv_sub hl [1, 2, 3, 4, 5, 6, 0, 8] rfl)
        obtain ⟨n43, h⟩ := h
        refine lp43 _ ?_ n43 _ _ _ _ _ _ _ ls h (lv_sub hl [6, 7, 4, 3, 2, 1, 0, 5] rfl)
        · intro z1 z2 z3 z4 z5 z6 z7 ls h hl
          try dsimp only at h
          refine lv_iload hx hb dX6_better_106 (lv_at hl 4 rfl) ?_
          refine lv_iconst (v := (-1)) hx hb dX6_better_108 (by decide) ?_
          refine lv_icmp_ne (tgt := 115) hx hb dX6_better_109 (by decide) (fun c_13 => ?_) (fun c_13 => ?_)
          · replace h := h.1 c_13
            refine lv_iload_n hx hb dX6_better_115 rfl (lv_at hl 1 rfl) ?_
            refine lv_if_ne (tgt := 133) hx hb dX6_better_116 (by decide) (fun c_14 => ?_) (fun c_14 => ?_)
            · replace h := h.1 c_14
              refine lv_iload_n hx hb dX6_better_133 rfl (lv_at hl 1 rfl) ?_
              refine lv_iconst (v := 1) hx hb dX6_better_134 (by decide) ?_
              refine lv_icmp_ne (tgt := 143) hx hb dX6_better_135 (by decide) (fun c_15 => ?_) (fun c_15 => ?_)
              · replace h := h.1 c_15
                refine lv_iload hx hb dX6_better_143 (lv_at hl 5 rfl) ?_
                exact rd_iret hx hb hr hk h dX6_better_145
              · replace h := h.2 c_15
                refine lv_iload hx hb dX6_better_138 (lv_at hl 4 rfl) ?_
                refine lv_goto (tgt := 145) hx hb dX6_better_140 (by decide) ?_
                exact rd_iret hx hb hr hk h dX6_better_145
            · replace h := h.2 c_14
              refine lv_aload_n hx hb dX6_better_119 rfl (lv_at hl 7 rfl) ?_
              refine fl_get (C := RX6) (T := TX6) (N := 7) (ci := 5) (v := .ref (a2 0)) hx hb ht in_X6 hown hK hP 0 rfl rfl 1 (by decide) mw_356 rfl dX6_better_120 ?_
              refine lv_iload_n hx hb dX6_better_123 rfl (lv_at hl 0 rfl) ?_
              refine vp_callSi (rd_wV (wc := bd_w a2 q s2) (As := [.int z1]) (rest := []) hx hb hml hown ht (c2_X0_journey h) wd_X0_journey mw_1036 hQ hV va_S.rf (hP.sub [1, 2, 3, 4, 5, 6, 7, 8, 9, 10, 11, 12, 13] rfl) rfl rfl rfl hl.1 rfl (Nat.le_of_ble_eq_true rfl) dX6_better_124 ⟨Nat.le_of_ble_eq_true rfl, Nat.le_of_ble_eq_true rfl, rfl, rfl⟩ ⟨Nat.le_of_ble_eq_true rfl, Nat.le_of_ble_eq_true rfl⟩) (fun r_16 h => ?_)
              try dsimp only at h
              refine lv_iload hx hb dX6_better_127 (lv_at hl 3 rfl) ?_
              refine lv_iadd hx hb dX6_better_129 ?_
              refine lv_goto (tgt := 145) hx hb dX6_better_130 (by decide) ?_
              exact rd_iret hx hb hr hk h dX6_better_145
          · replace h := h.2 c_13
            refine lv_bipush (v := (-2)) hx hb dX6_better_112 (by decide) ?_
            exact rd_iret hx hb hr hk h dX6_better_114
      · replace h := h.2 c_5
        refine lv_iconst (v := (-1)) hx hb dX6_better_20 (by decide) ?_
        exact rd_iret hx hb hr hk h dX6_better_21

def wp_X6_farthest_L30 (s2 : Bd) (post : Int32 → Prop) (e101 : Int32 → Int32 → Int32 → Int32 → Int32 → Prop) : Nat → Int32 → Int32 → Int32 → Int32 → Int32 → Prop
  | 0, _, _, _, _, _ => False
  | n30 + 1, z1, z2, z3, z4, z5 => wp_X0_flapsOf (fun r_6 => ((r_6 ≤ z5 → e101 z1 z2 z3 z4 z5) ∧ (¬ r_6 ≤ z5 → wp_X0_flapsOnTo (fun r_9 => wp_X0_signOn (fun r_11 => ((r_9 ≤ z3 → wp_X6_farthest_L30 s2 post e101 n30 z1 z2 z3 z4 (z5 + 1)) ∧ (¬ r_9 ≤ z3 → wp_X0_nearest (fun r_14 => ((¬ r_14 = z5 → wp_X6_farthest_L30 s2 post e101 n30 z1 z2 z3 z4 (z5 + 1)) ∧ (r_14 = z5 → wp_X6_farthest_L30 s2 post e101 n30 z1 z2 r_9 r_11 (z5 + 1)))) s2 z1 r_11))) s2 z1 z5) s2 z1 z5))) s2 z1
def wp_X6_farthest (post : Int32 → Prop) (s2 : Bd) (x1 : Int32) (x2 : Int32) : Prop := wp_X0_hasCell (fun r_1 => ((r_1 = 0 → post (-1)) ∧ (¬ r_1 = 0 → ((x2 < 0 → post (-1)) ∧ (¬ x2 < 0 → ((x2 ≤ 1 → (∃ n30, wp_X6_farthest_L30 s2 post (fun z1 z2 z3 z4 z5 => ((¬ z2 = 0 → post z4) ∧ (z2 = 0 → post z3))) n30 x1 x2 (-1) (-1) 0)) ∧ (¬ x2 ≤ 1 → post (-1)))))))) s2 x1
set_option maxHeartbeats 4000000 in
set_option maxRecDepth 100000 in
theorem c2_X6_farthest {l : Launch} {D : va_G} {q : Nat → ClassId} {a0 a1 a2 a3 a4 a5 : Nat → Nat} {p8 s8 : Nat} {s2 : Bd} {x1 : Int32} {x2 : Int32} {post : Int32 → Prop} (h : wp_X6_farthest post s2 x1 x2) : Met l yX6_farthest (Cond.code yX6_farthest cX6_farthest 8 (some .int) :: w_all) ({ frames := 2, cells := 0, slots := 0, locals := 44 } : Room) (rd_P D q [.ref (a0 0), .int x1, .int x2] (fo_w (a0 0) (a1 0) (a2 0) (a3 0) (a4 0) (a5 0) p8 s8 ++ bd_w a2 q s2)) (vp_Si post) 0 0 (fun _ => False) := by
  refine rd_start (by decide) (Nat.le_of_ble_eq_true rfl) ?_
  intro p e s m below meth c ls hx hb hr hml hown ht hk hP hQ hV hl
  have hK := hQ.1
  have hown : s.vm.findClass RX6 = some m.cls := hown
  have hl : lv_has ls 8 [(0, .ref (a0 0)), (1, .int x1), (2, .int x2)] := hl
  have hP : va_P D vwCl [((a0 0), .inr (5, [.ref (a1 0), .ref (a2 0), .ref (a3 0), .ref (a4 0), .ref (a5 0), .ref p8, .ref s8])), ((a2 0), .inr (0, [.int (s2.1 0), .int (s2.1 1), .int (s2.1 2), .int (s2.1 3), .int (s2.1 4), .int (s2.1 5), .ref (a2 1), .ref (a2 2), .ref (a2 3), .ref (a2 4), .ref (a2 5), .ref (a2 6), .ref (a2 7), .ref (a2 8), .ref (a2 9), .ref (a2 10), .ref (a2 11), .ref (a2 12)])), ((a2 1), .inl (q 0, 4, .inl (s2.2.1 0))), ((a2 2), .inl (q 0, 4, .inl (s2.2.1 1))), ((a2 3), .inl (q 0, 160, .inl (s2.2.1 2))), ((a2 4), .inl (q 0, 40, .inl (s2.2.1 3))), ((a2 5), .inl (q 0, 40, .inl (s2.2.1 4))), ((a2 6), .inl (q 0, 40, .inl (s2.2.1 5))), ((a2 7), .inl (q 0, 40, .inl (s2.2.1 6))), ((a2 8), .inl (q 0, 40, .inl (s2.2.1 7))), ((a2 9), .inl (q 0, 40, .inl (s2.2.1 8))), ((a2 10), .inl (q 0, 40, .inl (s2.2.1 9))), ((a2 11), .inl (q 1, 40, .inr (.inl s2.2.2.1))), ((a2 12), .inl (q 0, s2.2.2.2.1, .inl s2.2.2.2.2))] s.heap := hP
  unfold wp_X6_farthest at h
  refine lv_aload_n hx hb dX6_farthest_0 rfl (lv_at hl 0 rfl) ?_
  refine fl_get (C := RX6) (T := TX6) (N := 7) (ci := 5) (v := .ref (a2 0)) hx hb ht in_X6 hown hK hP 0 rfl rfl 1 (by decide) mw_356 rfl dX6_farthest_1 ?_
  refine lv_iload_n hx hb dX6_farthest_4 rfl (lv_at hl 1 rfl) ?_
  refine vp_callSi (rd_wV (wc := bd_w a2 q s2) (As := [.int x1]) (rest := []) hx hb hml hown ht (c2_X0_hasCell h) wd_X0_hasCell mw_730 hQ hV va_S.rf (hP.sub [1, 2, 3, 4, 5, 6, 7, 8, 9, 10, 11, 12, 13] rfl) rfl rfl rfl hl.1 rfl (Nat.le_of_ble_eq_true rfl) dX6_farthest_5 ⟨Nat.le_of_ble_eq_true rfl, Nat.le_of_ble_eq_true rfl, rfl, rfl⟩ ⟨Nat.le_of_ble_eq_true rfl, Nat.le_of_ble_eq_true rfl⟩) (fun r_1 h => ?_)
  try dsimp only at h
  refine lv_if_eq (tgt := 20) hx hb dX6_farthest_8 (by decide) (fun c_3 => ?_) (fun c_3 => ?_)
  · replace h := h.1 c_3
    refine lv_iconst (v := (-1)) hx hb dX6_farthest_20 (by decide) ?_
    exact rd_iret hx hb hr hk h dX6_farthest_21
  · replace h := h.2 c_3
    refine lv_iload_n hx hb dX6_farthest_11 rfl (lv_at hl 2 rfl) ?_
    refine lv_if_lt (tgt := 20) hx hb dX6_farthest_12 (by decide) (fun c_4 => ?_) (fun c_4 => ?_)
    · replace h := h.1 c_4
      refine lv_iconst (v := (-1)) hx hb dX6_farthest_20 (by decide) ?_
      exact rd_iret hx hb hr hk h dX6_farthest_21
    · replace h := h.2 c_4
      refine lv_iload_n hx hb dX6_farthest_15 rfl (lv_at hl 2 rfl) ?_
      refine lv_iconst (v := 1) hx hb dX6_farthest_16 (by decide) ?_
      refine lv_icmp_le (tgt := 22) hx hb dX6_farthest_17 (by decide) (fun c_5 => ?_) (fun c_5 => ?_)
      · replace h := h.1 c_5
        refine lv_iconst (v := (-1)) hx hb dX6_farthest_22 (by decide) ?_
        refine lv_istore_n (lv' := [(3, .int (-1)), (0, .ref (a0 0)), (1, .int x1), (2, .int x2)]) hx hb dX6_farthest_23 rfl hl (by decide) rfl (fun ls hl => ?_)
        refine lv_iconst (v := (-1)) hx hb dX6_farthest_24 (by decide) ?_
        refine lv_istore (lv' := [(4, .int (-1)), (3, .int (-1)), (0, .ref (a0 0)), (1, .int x1), (2, .int x2)]) hx hb dX6_farthest_25 hl (by decide) rfl (fun ls hl => ?_)
        refine lv_iconst (v := 0) hx hb dX6_farthest_27 (by decide) ?_
        refine lv_istore (lv' := [(5, .int 0), (4, .int (-1)), (3, .int (-1)), (0, .ref (a0 0)), (1, .int x1), (2, .int x2)]) hx hb dX6_farthest_28 hl (by decide) rfl (fun ls hl => ?_)
        have lp30 : ∀ (e101 : Int32 → Int32 → Int32 → Int32 → Int32 → Prop) (k101 : ∀ (z1 : Int32) (z2 : Int32) (z3 : Int32) (z4 : Int32) (z5 : Int32) (ls : Array Slot), e101 z1 z2 z3 z4 z5 → lv_has ls 8 [(1, .int z1), (2, .int z2), (3, .int z3), (4, .int z4), (5, .int z5), (0, .ref (a0 0))] → W p l e ({ frames := 2, cells := 0, slots := 0, locals := 44 } : Room) s m [.ref (a0 0), .int x1, .int x2].toArray below meth c s.heap [] 0 0 (MQ below (vp_Si post) [.ref (a0 0), .int x1, .int x2].toArray s 0 0 (fun _ => False)) (F0 m 101 ls [])) (n : Nat) (z1 : Int32) (z2 : Int32) (z3 : Int32) (z4 : Int32) (z5 : Int32) (ls : Array Slot), wp_X6_farthest_L30 s2 post e101 n z1 z2 z3 z4 z5 → lv_has ls 8 [(1, .int z1), (2, .int z2), (3, .int z3), (4, .int z4), (5, .int z5), (0, .ref (a0 0))] → W p l e ({ frames := 2, cells := 0, slots := 0, locals := 44 } : Room) s m [.ref (a0 0), .int x1, .int x2].toArray below meth c s.heap [] 0 0 (MQ below (vp_Si post) [.ref (a0 0), .int x1, .int x2].toArray s 0 0 (fun _ => False)) (F0 m 30 ls []) := by
          intro e101 k101 n
          induction n with
          | zero =>
            intro z1 z2 z3 z4 z5 ls h
            exact h.elim
          | succ n ih =>
            intro z1 z2 z3 z4 z5 ls h hl
            unfold wp_X6_farthest_L30 at h
            refine lv_iload hx hb dX6_farthest_30 (lv_at hl 4 rfl) ?_
            refine lv_aload_n hx hb dX6_farthest_32 rfl (lv_at hl 5 rfl) ?_
            refine fl_get (C := RX6) (T := TX6) (N := 7) (ci := 5) (v := .ref (a2 0)) hx hb ht in_X6 hown hK hP 0 rfl rfl 1 (by decide) mw_356 rfl dX6_farthest_33 ?_
            refine lv_iload_n hx hb dX6_farthest_36 rfl (lv_at hl 0 rfl) ?_
            refine vp_callSi (rd_wV (wc := bd_w a2 q s2) (As := [.int z1]) (rest := [.int z5]) hx hb hml hown ht (c2_X0_flapsOf h) wd_X0_flapsOf mw_1077 hQ hV va_S.rf (hP.sub [1, 2, 3, 4, 5, 6, 7, 8, 9, 10, 11, 12, 13] rfl) rfl rfl rfl hl.1 rfl (Nat.le_of_ble_eq_true rfl) dX6_farthest_37 ⟨Nat.le_of_ble_eq_true rfl, Nat.le_of_ble_eq_true rfl, rfl, rfl⟩ ⟨Nat.le_of_ble_eq_true rfl, Nat.le_of_ble_eq_true rfl⟩) (fun r_6 h => ?_)
            try dsimp only at h
            refine lv_icmp_ge (tgt := 101) hx hb dX6_farthest_40 (by decide) (fun c_8 => ?_) (fun c_8 => ?_)
            · replace h := h.1 c_8
              exact k101 _ _ _ _ _ ls h (lv_sub hl [0, 1, 2, 3, 4, 5] rfl)
            · replace h := h.2 c_8
              refine lv_aload_n hx hb dX6_farthest_43 rfl (lv_at hl 5 rfl) ?_
              refine fl_get (C := RX6) (T := TX6) (N := 7) (ci := 5) (v := .ref (a2 0)) hx hb ht in_X6 hown hK hP 0 rfl rfl 1 (by decide) mw_356 rfl dX6_farthest_44 ?_
              refine lv_iload_n hx hb dX6_farthest_47 rfl (lv_at hl 0 rfl) ?_
              refine lv_iload hx hb dX6_farthest_48 (lv_at hl 4 rfl) ?_
              refine vp_callSi (rd_wV (wc := bd_w a2 q s2) (As := [.int z1, .int z5]) (rest := []) hx hb hml hown ht (c2_X0_flapsOnTo h) wd_X0_flapsOnTo mw_1078 hQ hV va_S.rf (hP.sub [1, 2, 3, 4, 5, 6, 7, 8, 9, 10, 11, 12, 13] rfl) rfl rfl rfl hl.1 rfl (Nat.le_of_ble_eq_true rfl) dX6_farthest_50 ⟨Nat.le_of_ble_eq_true rfl, Nat.le_of_ble_eq_true rfl, rfl, rfl⟩ ⟨Nat.le_of_ble_eq_true rfl, Nat.le_of_ble_eq_true rfl⟩) (fun r_9 h => ?_)
              try dsimp only at h
              refine lv_istore (lv' := [(6, .int r_9), (1, .int z1), (2, .int z2), (3, .int z3), (4, .int z4), (5, .int z5), (0, .ref (a0 0))]) hx hb dX6_farthest_53 hl (by decide) rfl (fun ls hl => ?_)
              refine lv_aload_n hx hb dX6_farthest_55 rfl (lv_at hl 6 rfl) ?_
              refine fl_get (C := RX6) (T := TX6) (N := 7) (ci := 5) (v := .ref (a2 0)) hx hb ht in_X6 hown hK hP 0 rfl rfl 1 (by decide) mw_356 rfl dX6_farthest_56 ?_
              refine lv_iload_n hx hb dX6_farthest_59 rfl (lv_at hl 1 rfl) ?_
              refine lv_iload hx hb dX6_farthest_60 (lv_at hl 5 rfl) ?_
              refine vp_callSi (rd_wV (wc := bd_w a2 q s2) (As := [.int z1, .int z5]) (rest := []) hx hb hml hown ht (c2_X0_signOn h) wd_X0_signOn mw_939 hQ hV va_S.rf (hP.sub [1, 2, 3, 4, 5, 6, 7, 8, 9, 10, 11, 12, 13] rfl) rfl rfl rfl hl.1 rfl (Nat.le_of_ble_eq_true rfl) dX6_farthest_62 ⟨Nat.le_of_ble_eq_true rfl, Nat.le_of_ble_eq_true rfl, rfl, rfl⟩ ⟨Nat.le_of_ble_eq_true rfl, Nat.le_of_ble_eq_true rfl⟩) (fun r_11 h => ?_)
              try dsimp only at h
              refine lv_istore (lv' := [(7, .int r_11), (6, .int r_9), (1, .int z1), (2, .int z2), (3, .int z3), (4, .int z4), (5, .int z5), (0, .ref (a0 0))]) hx hb dX6_farthest_65 hl (by decide) rfl (fun ls hl => ?_)
              refine lv_iload hx hb dX6_farthest_67 (lv_at hl 1 rfl) ?_
              refine lv_iload_n hx hb dX6_farthest_69 rfl (lv_at hl 4 rfl) ?_
              refine lv_icmp_le (tgt := 95) hx hb dX6_farthest_70 (by decide) (fun c_13 => ?_) (fun c_13 => ?_)
              · replace h := h.1 c_13
                refine lv_iinc (v := (z5 + 1)) (lv' := [(5, .int (z5 + 1)), (7, .int r_11), (6, .int r_9), (1, .int z1), (2, .int z2), (3, .int z3), (4, .int z4), (0, .ref (a0 0))]) hx hb dX6_farthest_95 hl (k := 6) rfl rfl (by decide) rfl (fun ls hl => ?_)
                refine lv_goto (tgt := 30) hx hb dX6_farthest_98 (by decide) ?_
                exact ih _ _ _ _ _ ls h (lv_sub hl [3, 4, 5, 6, 0, 7] rfl)
              · replace h := h.2 c_13
                refine lv_aload_n hx hb dX6_farthest_73 rfl (lv_at hl 7 rfl) ?_
                refine fl_get (C := RX6) (T := TX6) (N := 7) (ci := 5) (v := .ref (a2 0)) hx hb ht in_X6 hown hK hP 0 rfl rfl 1 (by decide) mw_356 rfl dX6_farthest_74 ?_
                refine lv_iload_n hx hb dX6_farthest_77 rfl (lv_at hl 2 rfl) ?_
                refine lv_iload hx hb dX6_farthest_78 (lv_at hl 0 rfl) ?_
                refine vp_callSi (rd_wV (wc := bd_w a2 q s2) (As := [.int z1, .int r_11]) (rest := []) hx hb hml hown ht (c2_X0_nearest h) wd_X0_nearest mw_1079 hQ hV va_S.rf (hP.sub [1, 2, 3, 4, 5, 6, 7, 8, 9, 10, 11, 12, 13] rfl) rfl rfl rfl hl.1 rfl (Nat.le_of_ble_eq_true rfl) dX6_farthest_80 ⟨Nat.le_of_ble_eq_true rfl, Nat.le_of_ble_eq_true rfl, rfl, rfl⟩ ⟨Nat.le_of_ble_eq_true rfl, Nat.le_of_ble_eq_true rfl⟩) (fun r_14 h => ?_)
                try dsimp only at h
                refine lv_iload hx hb dX6_farthest_83 (lv_at hl 6 rfl) ?_
                refine lv_icmp_ne (tgt := 95) hx hb dX6_farthest_85 (by decide) (fun c_16 => ?_) (fun c_16 => ?_)
                · replace h := h.1 c_16
                  refine lv_iinc (v := (z5 + 1)) (lv' := [(5, .int (z5 + 1)), (7, .int r_11), (6, .int r_9), (1, .int z1), (2, .int z2), (3, .int z3), (4, .int z4), (0, .ref (a0 0))]) hx hb dX6_farthest_95 hl (k := 6) rfl rfl (by decide) rfl (fun ls hl => ?_)
                  refine lv_goto (tgt := 30) hx hb dX6_farthest_98 (by decide) ?_
                  exact ih _ _ _ _ _ ls h (lv_sub hl [3, 4, 5, 6, 0, 7] rfl)
                · replace h := h.2 c_16
                  refine lv_iload hx hb dX6_farthest_88 (lv_at hl 1 rfl) ?_
                  refine lv_istore_n (lv' := [(3, .int r_9), (7, .int r_11), (6, .int r_9), (1, .int z1), (2, .int z2), (4, .int z4), (5, .int z5), (0, .ref (a0 0))]) hx hb dX6_farthest_90 rfl hl (by decide) rfl (fun ls hl => ?_)
                  refine lv_iload hx hb dX6_farthest_91 (lv_at hl 1 rfl) ?_
                  refine lv_istore (lv' := [(4, .int r_11), (3, .int r_9), (7, .int r_11), (6, .int r_9), (1, .int z1), (2, .int z2), (5, .int z5), (0, .ref (a0 0))]) hx hb dX6_farthest_93 hl (by decide) rfl (fun ls hl => ?_)
                  refine lv_iinc (v := (z5 + 1)) (lv' := [(5, .int (z5 + 1)), (4, .int r_11), (3, .int r_9), (7, .int r_11), (6, .int r_9), (1, .int z1), (2, .int z2), (0, .ref (a0 0))]) hx hb dX6_farthest_95 hl (k := 6) rfl rfl (by decide) rfl (fun ls hl => ?_)
                  refine lv_goto (tgt := 30) hx hb dX6_farthest_98 (by decide) ?_
                  exact ih _ _ _ _ _ ls h (lv_sub hl [5, 6, 2, 1, 0, 7] rfl)
        obtain ⟨n30, h⟩ := h
        refine lp30 _ ?_ n30 _ _ _ _ _ ls h (lv_sub hl [4, 5, 2, 1, 0, 3] rfl)
        · intro z1 z2 z3 z4 z5 ls h hl
          try dsimp only at h
          refine lv_iload_n hx hb dX6_farthest_101 rfl (lv_at hl 1 rfl) ?_
          refine lv_if_ne (tgt := 109) hx hb dX6_farthest_102 (by decide) (fun c_17 => ?_) (fun c_17 => ?_)
          · replace h := h.1 c_17
            refine lv_iload hx hb dX6_farthest_109 (lv_at hl 3 rfl) ?_
            exact rd_iret hx hb hr hk h dX6_farthest_111
          · replace h := h.2 c_17
            refine lv_iload_n hx hb dX6_farthest_105 rfl (lv_at hl 2 rfl) ?_
            refine lv_goto (tgt := 111) hx hb dX6_farthest_106 (by decide) ?_
            exact rd_iret hx hb hr hk h dX6_farthest_111
      · replace h := h.2 c_5
        refine lv_iconst (v := (-1)) hx hb dX6_farthest_20 (by decide) ?_
        exact rd_iret hx hb hr hk h dX6_farthest_21

def wp_X6_lacks (post : Int32 → Prop) (s2 : Bd) (x1 : Int32) (x2 : Int32) : Prop := wp_X0_hasCell (fun r_1 => ((r_1 = 0 → post (-1)) ∧ (¬ r_1 = 0 → ((x2 < 0 → post (-1)) ∧ (¬ x2 < 0 → ((x2 ≤ 1 → ((¬ x2 = 0 → vp_in x1 40 ∧ wp_X0_signsOfOthers (fun r_8 => post r_8) s2 ((s2.2.1 3) (Int32.toNatClampNeg x1))) ∧ (x2 = 0 → wp_X0_missedOfOwn (fun r_10 => post r_10) s2 x1))) ∧ (¬ x2 ≤ 1 → post (-1)))))))) s2 x1
set_option maxHeartbeats 4000000 in
set_option maxRecDepth 100000 in
theorem c2_X6_lacks {l : Launch} {D : va_G} {q : Nat → ClassId} {a0 a1 a2 a3 a4 a5 : Nat → Nat} {p8 s8 : Nat} {s2 : Bd} {x1 : Int32} {x2 : Int32} {post : Int32 → Prop} (h : wp_X6_lacks post s2 x1 x2) : Met l yX6_lacks (Cond.code yX6_lacks cX6_lacks 3 (some .int) :: w_all) ({ frames := 5, cells := 0, slots := 0, locals := 115 } : Room) (rd_P D q [.ref (a0 0), .int x1, .int x2] (fo_w (a0 0) (a1 0) (a2 0) (a3 0) (a4 0) (a5 0) p8 s8 ++ bd_w a2 q s2)) (vp_Si post) 0 0 (fun _ => False) := by
  refine rd_start (by decide) (Nat.le_of_ble_eq_true rfl) ?_
  intro p e s m below meth c ls hx hb hr hml hown ht hk hP hQ hV hl
  have hK := hQ.1
  have hown : s.vm.findClass RX6 = some m.cls := hown
  have hl : lv_has ls 3 [(0, .ref (a0 0)), (1, .int x1), (2, .int x2)] := hl
  have hP : va_P D vwCl [((a0 0), .inr (5, [.ref (a1 0), .ref (a2 0), .ref (a3 0), .ref (a4 0), .ref (a5 0), .ref p8, .ref s8])), ((a2 0), .inr (0, [.int (s2.1 0), .int (s2.1 1), .int (s2.1 2), .int (s2.1 3), .int (s2.1 4), .int (s2.1 5), .ref (a2 1), .ref (a2 2), .ref (a2 3), .ref (a2 4), .ref (a2 5), .ref (a2 6), .ref (a2 7), .ref (a2 8), .ref (a2 9), .ref (a2 10), .ref (a2 11), .ref (a2 12)])), ((a2 1), .inl (q 0, 4, .inl (s2.2.1 0))), ((a2 2), .inl (q 0, 4, .inl (s2.2.1 1))), ((a2 3), .inl (q 0, 160, .inl (s2.2.1 2))), ((a2 4), .inl (q 0, 40, .inl (s2.2.1 3))), ((a2 5), .inl (q 0, 40, .inl (s2.2.1 4))), ((a2 6), .inl (q 0, 40, .inl (s2.2.1 5))), ((a2 7), .inl (q 0, 40, .inl (s2.2.1 6))), ((a2 8), .inl (q 0, 40, .inl (s2.2.1 7))), ((a2 9), .inl (q 0, 40, .inl (s2.2.1 8))), ((a2 10), .inl (q 0, 40, .inl (s2.2.1 9))), ((a2 11), .inl (q 1, 40, .inr (.inl s2.2.2.1))), ((a2 12), .inl (q 0, s2.2.2.2.1, .inl s2.2.2.2.2))] s.heap := hP
  unfold wp_X6_lacks at h
  refine lv_aload_n hx hb dX6_lacks_0 rfl (lv_at hl 0 rfl) ?_
  refine fl_get (C := RX6) (T := TX6) (N := 7) (ci := 5) (v := .ref (a2 0)) hx hb ht in_X6 hown hK hP 0 rfl rfl 1 (by decide) mw_356 rfl dX6_lacks_1 ?_
  refine lv_iload_n hx hb dX6_lacks_4 rfl (lv_at hl 1 rfl) ?_
  refine vp_callSi (rd_wV (wc := bd_w a2 q s2) (As := [.int x1]) (rest := []) hx hb hml hown ht (c2_X0_hasCell h) wd_X0_hasCell mw_730 hQ hV va_S.rf (hP.sub [1, 2, 3, 4, 5, 6, 7, 8, 9, 10, 11, 12, 13] rfl) rfl rfl rfl hl.1 rfl (Nat.le_of_ble_eq_true rfl) dX6_lacks_5 ⟨Nat.le_of_ble_eq_true rfl, Nat.le_of_ble_eq_true rfl, rfl, rfl⟩ ⟨Nat.le_of_ble_eq_true rfl, Nat.le_of_ble_eq_true rfl⟩) (fun r_1 h => ?_)
  try dsimp only at h
  refine lv_if_eq (tgt := 20) hx hb dX6_lacks_8 (by decide) (fun c_3 => ?_) (fun c_3 => ?_)
  · replace h := h.1 c_3
    refine lv_iconst (v := (-1)) hx hb dX6_lacks_20 (by decide) ?_
    exact rd_iret hx hb hr hk h dX6_lacks_21
  · replace h := h.2 c_3
    refine lv_iload_n hx hb dX6_lacks_11 rfl (lv_at hl 2 rfl) ?_
    refine lv_if_lt (tgt := 20) hx hb dX6_lacks_12 (by decide) (fun c_4 => ?_) (fun c_4 => ?_)
    · replace h := h.1 c_4
      refine lv_iconst (v := (-1)) hx hb dX6_lacks_20 (by decide) ?_
      exact rd_iret hx hb hr hk h dX6_lacks_21
    · replace h := h.2 c_4
      refine lv_iload_n hx hb dX6_lacks_15 rfl (lv_at hl 2 rfl) ?_
      refine lv_iconst (v := 1) hx hb dX6_lacks_16 (by decide) ?_
      refine lv_icmp_le (tgt := 22) hx hb dX6_lacks_17 (by decide) (fun c_5 => ?_) (fun c_5 => ?_)
      · replace h := h.1 c_5
        refine lv_iload_n hx hb dX6_lacks_22 rfl (lv_at hl 2 rfl) ?_
        refine lv_if_ne (tgt := 37) hx hb dX6_lacks_23 (by decide) (fun c_6 => ?_) (fun c_6 => ?_)
        · replace h := h.1 c_6
          refine lv_aload_n hx hb dX6_lacks_37 rfl (lv_at hl 0 rfl) ?_
          refine fl_get (C := RX6) (T := TX6) (N := 7) (ci := 5) (v := .ref (a2 0)) hx hb ht in_X6 hown hK hP 0 rfl rfl 1 (by decide) mw_356 rfl dX6_lacks_38 ?_
          refine lv_aload_n hx hb dX6_lacks_41 rfl (lv_at hl 0 rfl) ?_
          refine fl_get (C := RX6) (T := TX6) (N := 7) (ci := 5) (v := .ref (a2 0)) hx hb ht in_X6 hown hK hP 0 rfl rfl 1 (by decide) mw_356 rfl dX6_lacks_42 ?_
          refine fl_get (C := RX0) (T := TX0) (N := 18) (ci := 0) (v := .ref (a2 4)) hx hb ht in_X0 hown hK hP 1 rfl rfl 9 (by decide) mw_193 rfl dX6_lacks_45 ?_
          refine lv_iload_n hx hb dX6_lacks_48 rfl (lv_at hl 1 rfl) ?_
          obtain ⟨g_7, h⟩ := h
          refine va_iald hx hb hK hP 5 0 rfl rfl g_7 dX6_lacks_49 ?_
          refine vp_callSi (rd_wV (wc := bd_w a2 q s2) (As := [.int ((s2.2.1 3) (Int32.toNatClampNeg x1))]) (rest := []) hx hb hml hown ht (c2_X0_signsOfOthers h) wd_X0_signsOfOthers mw_1088 hQ hV va_S.rf (hP.sub [1, 2, 3, 4, 5, 6, 7, 8, 9, 10, 11, 12, 13] rfl) rfl rfl rfl hl.1 rfl (Nat.le_of_ble_eq_true rfl) dX6_lacks_50 ⟨Nat.le_of_ble_eq_true rfl, Nat.le_of_ble_eq_true rfl, rfl, rfl⟩ ⟨Nat.le_of_ble_eq_true rfl, Nat.le_of_ble_eq_true rfl⟩) (fun r_8 h => ?_)
          try dsimp only at h
          exact rd_iret hx hb hr hk h dX6_lacks_53
        · replace h := h.2 c_6
          refine lv_aload_n hx hb dX6_lacks_26 rfl (lv_at hl 0 rfl) ?_
          refine fl_get (C := RX6) (T := TX6) (N := 7) (ci := 5) (v := .ref (a2 0)) hx hb ht in_X6 hown hK hP 0 rfl rfl 1 (by decide) mw_356 rfl dX6_lacks_27 ?_
          refine lv_iload_n hx hb dX6_lacks_30 rfl (lv_at hl 1 rfl) ?_
          refine vp_callSi (rd_wV (wc := bd_w a2 q s2) (As := [.int x1]) (rest := []) hx hb hml hown ht (c2_X0_missedOfOwn h) wd_X0_missedOfOwn mw_1084 hQ hV va_S.rf (hP.sub [1, 2, 3, 4, 5, 6, 7, 8, 9, 10, 11, 12, 13] rfl) rfl rfl rfl hl.1 rfl (Nat.le_of_ble_eq_true rfl) dX6_lacks_31 ⟨Nat.le_of_ble_eq_true rfl, Nat.le_of_ble_eq_true rfl, rfl, rfl⟩ ⟨Nat.le_of_ble_eq_true rfl, Nat.le_of_ble_eq_true rfl⟩) (fun r_10 h => ?_)
          try dsimp only at h
          refine lv_goto (tgt := 53) hx hb dX6_lacks_34 (by decide) ?_
          exact rd_iret hx hb hr hk h dX6_lacks_53
      · replace h := h.2 c_5
        refine lv_iconst (v := (-1)) hx hb dX6_lacks_20 (by decide) ?_
        exact rd_iret hx hb hr hk h dX6_lacks_21

def wp_X6_unlike_L34 (s2 : Bd) (post : Int32 → Prop) (e104 : Int32 → Int32 → Int32 → Int32 → Prop) : Nat → Int32 → Int32 → Int32 → Int32 → Prop
  | 0, _, _, _, _ => False
  | n34 + 1, z1, z2, z3, z4 => (((s2.1 1) ≤ z4 → e104 z1 z2 z3 z4) ∧ (¬ (s2.1 1) ≤ z4 → wp_X0_wantedSign (fun r_9 => wp_X0_wantedSign (fun r_11 => ((r_9 = r_11 → wp_X6_unlike_L34 s2 post e104 n34 z1 z2 z3 (z4 + 1)) ∧ (¬ r_9 = r_11 → wp_X6_unlike_L34 s2 post e104 n34 z1 z2 (z3 + 1) (z4 + 1)))) s2 ((z2 * (s2.1 1)) + z4)) s2 ((z1 * (s2.1 1)) + z4)))
def wp_X6_unlike (post : Int32 → Prop) (s2 : Bd) (x1 : Int32) (x2 : Int32) : Prop := wp_X0_hasRow (fun r_1 => ((r_1 = 0 → post (-1)) ∧ (¬ r_1 = 0 → wp_X0_hasRow (fun r_4 => ((r_4 = 0 → post (-1)) ∧ (¬ r_4 = 0 → ((¬ x1 = x2 → (∃ n34, wp_X6_unlike_L34 s2 post (fun z1 z2 z3 z4 => post z3) n34 x1 x2 0 0)) ∧ (x1 = x2 → post (-1)))))) s2 x2))) s2 x1
set_option maxHeartbeats 4000000 in
set_option maxRecDepth 100000 in
theorem c2_X6_unlike {l : Launch} {D : va_G} {q : Nat → ClassId} {a0 a1 a2 a3 a4 a5 : Nat → Nat} {p8 s8 : Nat} {s2 : Bd} {x1 : Int32} {x2 : Int32} {post : Int32 → Prop} (h : wp_X6_unlike post s2 x1 x2) : Met l yX6_unlike (Cond.code yX6_unlike cX6_unlike 7 (some .int) :: w_all) ({ frames := 3, cells := 0, slots := 0, locals := 65 } : Room) (rd_P D q [.ref (a0 0), .int x1, .int x2] (fo_w (a0 0) (a1 0) (a2 0) (a3 0) (a4 0) (a5 0) p8 s8 ++ bd_w a2 q s2)) (vp_Si post) 0 0 (fun _ => False) := by
  refine rd_start (by decide) (Nat.le_of_ble_eq_true rfl) ?_
  intro p e s m below meth c ls hx hb hr hml hown ht hk hP hQ hV hl
  have hK := hQ.1
  have hown : s.vm.findClass RX6 = some m.cls := hown
  have hl : lv_has ls 7 [(0, .ref (a0 0)), (1, .int x1), (2, .int x2)] := hl
  have hP : va_P D vwCl [((a0 0), .inr (5, [.ref (a1 0), .ref (a2 0), .ref (a3 0), .ref (a4 0), .ref (a5 0), .ref p8, .ref s8])), ((a2 0), .inr (0, [.int (s2.1 0), .int (s2.1 1), .int (s2.1 2), .int (s2.1 3), .int (s2.1 4), .int (s2.1 5), .ref (a2 1), .ref (a2 2), .ref (a2 3), .ref (a2 4), .ref (a2 5), .ref (a2 6), .ref (a2 7), .ref (a2 8), .ref (a2 9), .ref (a2 10), .ref (a2 11), .ref (a2 12)])), ((a2 1), .inl (q 0, 4, .inl (s2.2.1 0))), ((a2 2), .inl (q 0, 4, .inl (s2.2.1 1))), ((a2 3), .inl (q 0, 160, .inl (s2.2.1 2))), ((a2 4), .inl (q 0, 40, .inl (s2.2.1 3))), ((a2 5), .inl (q 0, 40, .inl (s2.2.1 4))), ((a2 6), .inl (q 0, 40, .inl (s2.2.1 5))), ((a2 7), .inl (q 0, 40, .inl (s2.2.1 6))), ((a2 8), .inl (q 0, 40, .inl (s2.2.1 7))), ((a2 9), .inl (q 0, 40, .inl (s2.2.1 8))), ((a2 10), .inl (q 0, 40, .inl (s2.2.1 9))), ((a2 11), .inl (q 1, 40, .inr (.inl s2.2.2.1))), ((a2 12), .inl (q 0, s2.2.2.2.1, .inl s2.2.2.2.2))] s.heap := hP
  unfold wp_X6_unlike at h
  refine lv_aload_n hx hb dX6_unlike_0 rfl (lv_at hl 0 rfl) ?_
  refine fl_get (C := RX6) (T := TX6) (N := 7) (ci := 5) (v := .ref (a2 0)) hx hb ht in_X6 hown hK hP 0 rfl rfl 1 (by decide) mw_356 rfl dX6_unlike_1 ?_
  refine lv_iload_n hx hb dX6_unlike_4 rfl (lv_at hl 1 rfl) ?_
  refine vp_callSi (rd_wV (wc := bd_w a2 q s2) (As := [.int x1]) (rest := []) hx hb hml hown ht (c2_X0_hasRow h) wd_X0_hasRow mw_621 hQ hV va_S.rf (hP.sub [1, 2, 3, 4, 5, 6, 7, 8, 9, 10, 11, 12, 13] rfl) rfl rfl rfl hl.1 rfl (Nat.le_of_ble_eq_true rfl) dX6_unlike_5 ⟨Nat.le_of_ble_eq_true rfl, Nat.le_of_ble_eq_true rfl, rfl, rfl⟩ ⟨Nat.le_of_ble_eq_true rfl, Nat.le_of_ble_eq_true rfl⟩) (fun r_1 h => ?_)
  try dsimp only at h
  refine lv_if_eq (tgt := 27) hx hb dX6_unlike_8 (by decide) (fun c_3 => ?_) (fun c_3 => ?_)
  · replace h := h.1 c_3
    refine lv_iconst (v := (-1)) hx hb dX6_unlike_27 (by decide) ?_
    exact rd_iret hx hb hr hk h dX6_unlike_28
  · replace h := h.2 c_3
    refine lv_aload_n hx hb dX6_unlike_11 rfl (lv_at hl 0 rfl) ?_
    refine fl_get (C := RX6) (T := TX6) (N := 7) (ci := 5) (v := .ref (a2 0)) hx hb ht in_X6 hown hK hP 0 rfl rfl 1 (by decide) mw_356 rfl dX6_unlike_12 ?_
    refine lv_iload_n hx hb dX6_unlike_15 rfl (lv_at hl 2 rfl) ?_
    refine vp_callSi (rd_wV (wc := bd_w a2 q s2) (As := [.int x2]) (rest := []) hx hb hml hown ht (c2_X0_hasRow h) wd_X0_hasRow mw_621 hQ hV va_S.rf (hP.sub [1, 2, 3, 4, 5, 6, 7, 8, 9, 10, 11, 12, 13] rfl) rfl rfl rfl hl.1 rfl (Nat.le_of_ble_eq_true rfl) dX6_unlike_16 ⟨Nat.le_of_ble_eq_true rfl, Nat.le_of_ble_eq_true rfl, rfl, rfl⟩ ⟨Nat.le_of_ble_eq_true rfl, Nat.le_of_ble_eq_true rfl⟩) (fun r_4 h => ?_)
    try dsimp only at h
    refine lv_if_eq (tgt := 27) hx hb dX6_unlike_19 (by decide) (fun c_6 => ?_) (fun c_6 => ?_)
    · replace h := h.1 c_6
      refine lv_iconst (v := (-1)) hx hb dX6_unlike_27 (by decide) ?_
      exact rd_iret hx hb hr hk h dX6_unlike_28
    · replace h := h.2 c_6
      refine lv_iload_n hx hb dX6_unlike_22 rfl (lv_at hl 1 rfl) ?_
      refine lv_iload_n hx hb dX6_unlike_23 rfl (lv_at hl 2 rfl) ?_
      refine lv_icmp_ne (tgt := 29) hx hb dX6_unlike_24 (by decide) (fun c_7 => ?_) (fun c_7 => ?_)
      · replace h := h.1 c_7
        refine lv_iconst (v := 0) hx hb dX6_unlike_29 (by decide) ?_
        refine lv_istore_n (lv' := [(3, .int 0), (0, .ref (a0 0)), (1, .int x1), (2, .int x2)]) hx hb dX6_unlike_30 rfl hl (by decide) rfl (fun ls hl => ?_)
        refine lv_iconst (v := 0) hx hb dX6_unlike_31 (by decide) ?_
        refine lv_istore (lv' := [(4, .int 0), (3, .int 0), (0, .ref (a0 0)), (1, .int x1), (2, .int x2)]) hx hb dX6_unlike_32 hl (by decide) rfl (fun ls hl => ?_)
        have lp34 : ∀ (e104 : Int32 → Int32 → Int32 → Int32 → Prop) (k104 : ∀ (z1 : Int32) (z2 : Int32) (z3 : Int32) (z4 : Int32) (ls : Array Slot), e104 z1 z2 z3 z4 → lv_has ls 7 [(1, .int z1), (2, .int z2), (3, .int z3), (4, .int z4), (0, .ref (a0 0))] → W p l e ({ frames := 3, cells := 0, slots := 0, locals := 65 } : Room) s m [.ref (a0 0), .int x1, .int x2].toArray below meth c s.heap [] 0 0 (MQ below (vp_Si post) [.ref (a0 0), .int x1, .int x2].toArray s 0 0 (fun _ => False)) (F0 m 104 ls [])) (n : Nat) (z1 : Int32) (z2 : Int32) (z3 : Int32) (z4 : Int32) (ls : Array Slot), wp_X6_unlike_L34 s2 post e104 n z1 z2 z3 z4 → lv_has ls 7 [(1, .int z1), (2, .int z2), (3, .int z3), (4, .int z4), (0, .ref (a0 0))] → W p l e ({ frames := 3, cells := 0, slots := 0, locals := 65 } : Room) s m [.ref (a0 0), .int x1, .int x2].toArray below meth c s.heap [] 0 0 (MQ below (vp_Si post) [.ref (a0 0), .int x1, .int x2].toArray s 0 0 (fun _ => False)) (F0 m 34 ls []) := by
          intro e104 k104 n
          induction n with
          | zero =>
            intro z1 z2 z3 z4 ls h
            exact h.elim
          | succ n ih =>
            intro z1 z2 z3 z4 ls h hl
            unfold wp_X6_unlike_L34 at h
            refine lv_iload hx hb dX6_unlike_34 (lv_at hl 3 rfl) ?_
            refine lv_aload_n hx hb dX6_unlike_36 rfl (lv_at hl 4 rfl) ?_
            refine fl_get (C := RX6) (T := TX6) (N := 7) (ci := 5) (v := .ref (a2 0)) hx hb ht in_X6 hown hK hP 0 rfl rfl 1 (by decide) mw_356 rfl dX6_unlike_37 ?_
            refine fl_get (C := RX0) (T := TX0) (N := 18) (ci := 0) (v := .int (s2.1 1)) hx hb ht in_X0 hown hK hP 1 rfl rfl 1 (by decide) mw_174 rfl dX6_unlike_40 ?_
            refine lv_icmp_ge (tgt := 104) hx hb dX6_unlike_43 (by decide) (fun c_8 => ?_) (fun c_8 => ?_)
            · replace h := h.1 c_8
              exact k104 _ _ _ _ ls h (lv_sub hl [0, 1, 2, 3, 4] rfl)
            · replace h := h.2 c_8
              refine lv_aload_n hx hb dX6_unlike_46 rfl (lv_at hl 4 rfl) ?_
              refine fl_get (C := RX6) (T := TX6) (N := 7) (ci := 5) (v := .ref (a2 0)) hx hb ht in_X6 hown hK hP 0 rfl rfl 1 (by decide) mw_356 rfl dX6_unlike_47 ?_
              refine lv_iload_n hx hb dX6_unlike_50 rfl (lv_at hl 0 rfl) ?_
              refine lv_aload_n hx hb dX6_unlike_51 rfl (lv_at hl 4 rfl) ?_
              refine fl_get (C := RX6) (T := TX6) (N := 7) (ci := 5) (v := .ref (a2 0)) hx hb ht in_X6 hown hK hP 0 rfl rfl 1 (by decide) mw_356 rfl dX6_unlike_52 ?_
              refine fl_get (C := RX0) (T := TX0) (N := 18) (ci := 0) (v := .int (s2.1 1)) hx hb ht in_X0 hown hK hP 1 rfl rfl 1 (by decide) mw_174 rfl dX6_unlike_55 ?_
              refine lv_imul hx hb dX6_unlike_58 ?_
              refine lv_iload hx hb dX6_unlike_59 (lv_at hl 3 rfl) ?_
              refine lv_iadd hx hb dX6_unlike_61 ?_
              refine vp_callSi (rd_wV (wc := bd_w a2 q s2) (As := [.int ((z1 * (s2.1 1)) + z4)]) (rest := []) hx hb hml hown ht (c2_X0_wantedSign h) wd_X0_wantedSign mw_1104 hQ hV va_S.rf (hP.sub [1, 2, 3, 4, 5, 6, 7, 8, 9, 10, 11, 12, 13] rfl) rfl rfl rfl hl.1 rfl (Nat.le_of_ble_eq_true rfl) dX6_unlike_62 ⟨Nat.le_of_ble_eq_true rfl, Nat.le_of_ble_eq_true rfl, rfl, rfl⟩ ⟨Nat.le_of_ble_eq_true rfl, Nat.le_of_ble_eq_true rfl⟩) (fun r_9 h => ?_)
              try dsimp only at h
              refine lv_istore (lv' := [(5, .int r_9), (1, .int z1), (2, .int z2), (3, .int z3), (4, .int z4), (0, .ref (a0 0))]) hx hb dX6_unlike_65 hl (by decide) rfl (fun ls hl => ?_)
              refine lv_aload_n hx hb dX6_unlike_67 rfl (lv_at hl 5 rfl) ?_
              refine fl_get (C := RX6) (T := TX6) (N := 7) (ci := 5) (v := .ref (a2 0)) hx hb ht in_X6 hown hK hP 0 rfl rfl 1 (by decide) mw_356 rfl dX6_unlike_68 ?_
              refine lv_iload_n hx hb dX6_unlike_71 rfl (lv_at hl 2 rfl) ?_
              refine lv_aload_n hx hb dX6_unlike_72 rfl (lv_at hl 5 rfl) ?_
              refine fl_get (C := RX6) (T := TX6) (N := 7) (ci := 5) (v := .ref (a2 0)) hx hb ht in_X6 hown hK hP 0 rfl rfl 1 (by decide) mw_356 rfl dX6_unlike_73 ?_
              refine fl_get (C := RX0) (T := TX0) (N := 18) (ci := 0) (v := .int (s2.1 1)) hx hb ht in_X0 hown hK hP 1 rfl rfl 1 (by decide) mw_174 rfl dX6_unlike_76 ?_
              refine lv_imul hx hb dX6_unlike_79 ?_
              refine lv_iload hx hb dX6_unlike_80 (lv_at hl 4 rfl) ?_
              refine lv_iadd hx hb dX6_unlike_82 ?_
              refine vp_callSi (rd_wV (wc := bd_w a2 q s2) (As := [.int ((z2 * (s2.1 1)) + z4)]) (rest := []) hx hb hml hown ht (c2_X0_wantedSign h) wd_X0_wantedSign mw_1104 hQ hV va_S.rf (hP.sub [1, 2, 3, 4, 5, 6, 7, 8, 9, 10, 11, 12, 13] rfl) rfl rfl rfl hl.1 rfl (Nat.le_of_ble_eq_true rfl) dX6_unlike_83 ⟨Nat.le_of_ble_eq_true rfl, Nat.le_of_ble_eq_true rfl, rfl, rfl⟩ ⟨Nat.le_of_ble_eq_true rfl, Nat.le_of_ble_eq_true rfl⟩) (fun r_11 h => ?_)
              try dsimp only at h
              refine lv_istore (lv' := [(6, .int r_11), (5, .int r_9), (1, .int z1), (2, .int z2), (3, .int z3), (4, .int z4), (0, .ref (a0 0))]) hx hb dX6_unlike_86 hl (by decide) rfl (fun ls hl => ?_)
              refine lv_iload hx hb dX6_unlike_88 (lv_at hl 1 rfl) ?_
              refine lv_iload hx hb dX6_unlike_90 (lv_at hl 0 rfl) ?_
              refine lv_icmp_eq (tgt := 98) hx hb dX6_unlike_92 (by decide) (fun c_13 => ?_) (fun c_13 => ?_)
              · replace h := h.1 c_13
                refine lv_iinc (v := (z4 + 1)) (lv' := [(4, .int (z4 + 1)), (6, .int r_11), (5, .int r_9), (1, .int z1), (2, .int z2), (3, .int z3), (0, .ref (a0 0))]) hx hb dX6_unlike_98 hl (k := 5) rfl rfl (by decide) rfl (fun ls hl => ?_)
                refine lv_goto (tgt := 34) hx hb dX6_unlike_101 (by decide) ?_
                exact ih _ _ _ _ ls h (lv_sub hl [3, 4, 5, 0, 6] rfl)
              · replace h := h.2 c_13
                refine lv_iinc (v := (z3 + 1)) (lv' := [(3, .int (z3 + 1)), (6, .int r_11), (5, .int r_9), (1, .int z1), (2, .int z2), (4, .int z4), (0, .ref (a0 0))]) hx hb dX6_unlike_95 hl (k := 4) rfl rfl (by decide) rfl (fun ls hl => ?_)
                refine lv_iinc (v := (z4 + 1)) (lv' := [(4, .int (z4 + 1)), (3, .int (z3 + 1)), (6, .int r_11), (5, .int r_9), (1, .int z1), (2, .int z2), (0, .ref (a0 0))]) hx hb dX6_unlike_98 hl (k := 5) rfl rfl (by decide) rfl (fun ls hl => ?_)
                refine lv_goto (tgt := 34) hx hb dX6_unlike_101 (by decide) ?_
                exact ih _ _ _ _ ls h (lv_sub hl [4, 5, 1, 0, 6] rfl)
        obtain ⟨n34, h⟩ := h
        refine lp34 _ ?_ n34 _ _ _ _ ls h (lv_sub hl [3, 4, 1, 0, 2] rfl)
        · intro z1 z2 z3 z4 ls h hl
          try dsimp only at h
          refine lv_iload_n hx hb dX6_unlike_104 rfl (lv_at hl 2 rfl) ?_
          exact rd_iret hx hb hr hk h dX6_unlike_105
      · replace h := h.2 c_7
        refine lv_iconst (v := (-1)) hx hb dX6_unlike_27 (by decide) ?_
        exact rd_iret hx hb hr hk h dX6_unlike_28

def wp_X6_letter (post : Int32 → Prop) (s2 : Bd) (x1 : Int32) (x2 : Int32) : Prop := ((x1 < 0 → post (-1)) ∧ (¬ x1 < 0 → ((1 < x1 → post (-1)) ∧ (¬ 1 < x1 → (((-1) ≤ x2 → wp_X0_isThere (fun r_4 => ((r_4 = 0 → ((¬ x2 = (-1) → ((x2 < 0 → ¬ ((s2.1 1) + 1) = 0 ∧ ((¬ (x2 - x2 / ((s2.1 1) + 1) * ((s2.1 1) + 1)) = (s2.1 1) → ¬ ((s2.1 1) + 1) = 0 ∧ ((¬ x1 = 0 → vp_in (((x2 / ((s2.1 1) + 1)) * (s2.1 1)) + (x2 - x2 / ((s2.1 1) + 1) * ((s2.1 1) + 1))) 40 ∧ wp_X0_signOn (fun r_14 => post r_14) s2 (((x2 / ((s2.1 1) + 1)) * (s2.1 1)) + (x2 - x2 / ((s2.1 1) + 1) * ((s2.1 1) + 1))) ((s2.2.1 6) (Int32.toNatClampNeg (((x2 / ((s2.1 1) + 1)) * (s2.1 1)) + (x2 - x2 / ((s2.1 1) + 1) * ((s2.1 1) + 1)))))) ∧ (x1 = 0 → vp_in (((x2 / ((s2.1 1) + 1)) * (s2.1 1)) + (x2 - x2 / ((s2.1 1) + 1) * ((s2.1 1) + 1))) 40 ∧ wp_X0_signOn (fun r_17 => post r_17) s2 (((x2 / ((s2.1 1) + 1)) * (s2.1 1)) + (x2 - x2 / ((s2.1 1) + 1) * ((s2.1 1) + 1))) ((s2.2.1 4) (Int32.toNatClampNeg (((x2 / ((s2.1 1) + 1)) * (s2.1 1)) + (x2 - x2 / ((s2.1 1) + 1) * ((s2.1 1) + 1)))))))) ∧ ((x2 - x2 / ((s2.1 1) + 1) * ((s2.1 1) + 1)) = (s2.1 1) → post 47))) ∧ (¬ x2 < 0 → post (-2)))) ∧ (x2 = (-1) → post 0))) ∧ (¬ r_4 = 0 → wp_X0_cells (fun r_19 => ((¬ x2 = (-1) → ((x2 < ((r_19 + (s2.1 0)) - 1) → ¬ ((s2.1 1) + 1) = 0 ∧ ((¬ (x2 - x2 / ((s2.1 1) + 1) * ((s2.1 1) + 1)) = (s2.1 1) → ¬ ((s2.1 1) + 1) = 0 ∧ ((¬ x1 = 0 → vp_in (((x2 / ((s2.1 1) + 1)) * (s2.1 1)) + (x2 - x2 / ((s2.1 1) + 1) * ((s2.1 1) + 1))) 40 ∧ wp_X0_signOn (fun r_28 => post r_28) s2 (((x2 / ((s2.1 1) + 1)) * (s2.1 1)) + (x2 - x2 / ((s2.1 1) + 1) * ((s2.1 1) + 1))) ((s2.2.1 6) (Int32.toNatClampNeg (((x2 / ((s2.1 1) + 1)) * (s2.1 1)) + (x2 - x2 / ((s2.1 1) + 1) * ((s2.1 1) + 1)))))) ∧ (x1 = 0 → vp_in (((x2 / ((s2.1 1) + 1)) * (s2.1 1)) + (x2 - x2 / ((s2.1 1) + 1) * ((s2.1 1) + 1))) 40 ∧ wp_X0_signOn (fun r_31 => post r_31) s2 (((x2 / ((s2.1 1) + 1)) * (s2.1 1)) + (x2 - x2 / ((s2.1 1) + 1) * ((s2.1 1) + 1))) ((s2.2.1 4) (Int32.toNatClampNeg (((x2 / ((s2.1 1) + 1)) * (s2.1 1)) + (x2 - x2 / ((s2.1 1) + 1) * ((s2.1 1) + 1)))))))) ∧ ((x2 - x2 / ((s2.1 1) + 1) * ((s2.1 1) + 1)) = (s2.1 1) → post 47))) ∧ (¬ x2 < ((r_19 + (s2.1 0)) - 1) → post (-2)))) ∧ (x2 = (-1) → post ((r_19 + (s2.1 0)) - 1)))) s2))) s2) ∧ (¬ (-1) ≤ x2 → post (-1)))))))
set_option maxHeartbeats 4000000 in
set_option maxRecDepth 100000 in
theorem c2_X6_letter {l : Launch} {D : va_G} {q : Nat → ClassId} {a0 a1 a2 a3 a4 a5 : Nat → Nat} {p8 s8 : Nat} {s2 : Bd} {x1 : Int32} {x2 : Int32} {post : Int32 → Prop} (h : wp_X6_letter post s2 x1 x2) : Met l yX6_letter (Cond.code yX6_letter cX6_letter 6 (some .int) :: w_all) ({ frames := 2, cells := 0, slots := 0, locals := 44 } : Room) (rd_P D q [.ref (a0 0), .int x1, .int x2] (fo_w (a0 0) (a1 0) (a2 0) (a3 0) (a4 0) (a5 0) p8 s8 ++ bd_w a2 q s2)) (vp_Si post) 0 0 (fun _ => False) := by
  refine rd_start (by decide) (Nat.le_of_ble_eq_true rfl) ?_
  intro p e s m below meth c ls hx hb hr hml hown ht hk hP hQ hV hl
  have hK := hQ.1
  have hown : s.vm.findClass RX6 = some m.cls := hown
  have hl : lv_has ls 6 [(0, .ref (a0 0)), (1, .int x1), (2, .int x2)] := hl
  have hP : va_P D vwCl [((a0 0), .inr (5, [.ref (a1 0), .ref (a2 0), .ref (a3 0), .ref (a4 0), .ref (a5 0), .ref p8, .ref s8])), ((a2 0), .inr (0, [.int (s2.1 0), .int (s2.1 1), .int (s2.1 2), .int (s2.1 3), .int (s2.1 4), .int (s2.1 5), .ref (a2 1), .ref (a2 2), .ref (a2 3), .ref (a2 4), .ref (a2 5), .ref (a2 6), .ref (a2 7), .ref (a2 8), .ref (a2 9), .ref (a2 10), .ref (a2 11), .ref (a2 12)])), ((a2 1), .inl (q 0, 4, .inl (s2.2.1 0))), ((a2 2), .inl (q 0, 4, .inl (s2.2.1 1))), ((a2 3), .inl (q 0, 160, .inl (s2.2.1 2))), ((a2 4), .inl (q 0, 40, .inl (s2.2.1 3))), ((a2 5), .inl (q 0, 40, .inl (s2.2.1 4))), ((a2 6), .inl (q 0, 40, .inl (s2.2.1 5))), ((a2 7), .inl (q 0, 40, .inl (s2.2.1 6))), ((a2 8), .inl (q 0, 40, .inl (s2.2.1 7))), ((a2 9), .inl (q 0, 40, .inl (s2.2.1 8))), ((a2 10), .inl (q 0, 40, .inl (s2.2.1 9))), ((a2 11), .inl (q 1, 40, .inr (.inl s2.2.2.1))), ((a2 12), .inl (q 0, s2.2.2.2.1, .inl s2.2.2.2.2))] s.heap := hP
  unfold wp_X6_letter at h
  refine lv_iload_n hx hb dX6_letter_0 rfl (lv_at hl 1 rfl) ?_
  refine lv_if_lt (tgt := 14) hx hb dX6_letter_1 (by decide) (fun c_1 => ?_) (fun c_1 => ?_)
  · replace h := h.1 c_1
    refine lv_iconst (v := (-1)) hx hb dX6_letter_14 (by decide) ?_
    exact rd_iret hx hb hr hk h dX6_letter_15
  · replace h := h.2 c_1
    refine lv_iload_n hx hb dX6_letter_4 rfl (lv_at hl 1 rfl) ?_
    refine lv_iconst (v := 1) hx hb dX6_letter_5 (by decide) ?_
    refine lv_icmp_gt (tgt := 14) hx hb dX6_letter_6 (by decide) (fun c_2 => ?_) (fun c_2 => ?_)
    · replace h := h.1 c_2
      refine lv_iconst (v := (-1)) hx hb dX6_letter_14 (by decide) ?_
      exact rd_iret hx hb hr hk h dX6_letter_15
    · replace h := h.2 c_2
      refine lv_iload_n hx hb dX6_letter_9 rfl (lv_at hl 2 rfl) ?_
      refine lv_iconst (v := (-1)) hx hb dX6_letter_10 (by decide) ?_
      refine lv_icmp_ge (tgt := 16) hx hb dX6_letter_11 (by decide) (fun c_3 => ?_) (fun c_3 => ?_)
      · replace h := h.1 c_3
        refine lv_aload_n hx hb dX6_letter_16 rfl (lv_at hl 0 rfl) ?_
        refine fl_get (C := RX6) (T := TX6) (N := 7) (ci := 5) (v := .ref (a2 0)) hx hb ht in_X6 hown hK hP 0 rfl rfl 1 (by decide) mw_356 rfl dX6_letter_17 ?_
        refine vp_callSi (rd_wV (wc := bd_w a2 q s2) (As := []) (rest := []) hx hb hml hown ht (c2_X0_isThere h) wd_X0_isThere mw_677 hQ hV va_S.rf (hP.sub [1, 2, 3, 4, 5, 6, 7, 8, 9, 10, 11, 12, 13] rfl) rfl rfl rfl hl.1 rfl (Nat.le_of_ble_eq_true rfl) dX6_letter_20 ⟨Nat.le_of_ble_eq_true rfl, Nat.le_of_ble_eq_true rfl, rfl, rfl⟩ ⟨Nat.le_of_ble_eq_true rfl, Nat.le_of_ble_eq_true rfl⟩) (fun r_4 h => ?_)
        try dsimp only at h
        refine lv_if_eq (tgt := 46) hx hb dX6_letter_23 (by decide) (fun c_6 => ?_) (fun c_6 => ?_)
        · replace h := h.1 c_6
          refine lv_iconst (v := 0) hx hb dX6_letter_46 (by decide) ?_
          refine lv_istore_n (lv' := [(3, .int 0), (0, .ref (a0 0)), (1, .int x1), (2, .int x2)]) hx hb dX6_letter_47 rfl hl (by decide) rfl (fun ls hl => ?_)
          refine lv_iload_n hx hb dX6_letter_48 rfl (lv_at hl 3 rfl) ?_
          refine lv_iconst (v := (-1)) hx hb dX6_letter_49 (by decide) ?_
          refine lv_icmp_ne (tgt := 55) hx hb dX6_letter_50 (by decide) (fun c_7 => ?_) (fun c_7 => ?_)
          · replace h := h.1 c_7
            refine lv_iload_n hx hb dX6_letter_55 rfl (lv_at hl 3 rfl) ?_
            refine lv_iload_n hx hb dX6_letter_56 rfl (lv_at hl 0 rfl) ?_
            refine lv_icmp_lt (tgt := 63) hx hb dX6_letter_57 (by decide) (fun c_8 => ?_) (fun c_8 => ?_)
            · replace h := h.1 c_8
              refine lv_iload_n hx hb dX6_letter_63 rfl (lv_at hl 3 rfl) ?_
              refine lv_aload_n hx hb dX6_letter_64 rfl (lv_at hl 1 rfl) ?_
              refine fl_get (C := RX6) (T := TX6) (N := 7) (ci := 5) (v := .ref (a2 0)) hx hb ht in_X6 hown hK hP 0 rfl rfl 1 (by decide) mw_356 rfl dX6_letter_65 ?_
              refine fl_get (C := RX0) (T := TX0) (N := 18) (ci := 0) (v := .int (s2.1 1)) hx hb ht in_X0 hown hK hP 1 rfl rfl 1 (by decide) mw_174 rfl dX6_letter_68 ?_
              refine lv_iconst (v := 1) hx hb dX6_letter_71 (by decide) ?_
              refine lv_iadd hx hb dX6_letter_72 ?_
              obtain ⟨g_9, h⟩ := h
              refine lv_irem hx hb dX6_letter_73 g_9 ?_
              refine lv_istore (lv' := [(4, .int (x2 - x2 / ((s2.1 1) + 1) * ((s2.1 1) + 1))), (3, .int 0), (0, .ref (a0 0)), (1, .int x1), (2, .int x2)]) hx hb dX6_letter_74 hl (by decide) rfl (fun ls hl => ?_)
              refine lv_iload hx hb dX6_letter_76 (lv_at hl 0 rfl) ?_
              refine lv_aload_n hx hb dX6_letter_78 rfl (lv_at hl 2 rfl) ?_
              refine fl_get (C := RX6) (T := TX6) (N := 7) (ci := 5) (v := .ref (a2 0)) hx hb ht in_X6 hown hK hP 0 rfl rfl 1 (by decide) mw_356 rfl dX6_letter_79 ?_
              refine fl_get (C := RX0) (T := TX0) (N := 18) (ci := 0) (v := .int (s2.1 1)) hx hb ht in_X0 hown hK hP 1 rfl rfl 1 (by decide) mw_174 rfl dX6_letter_82 ?_
              refine lv_icmp_ne (tgt := 91) hx hb dX6_letter_85 (by decide) (fun c_10 => ?_) (fun c_10 => ?_)
              · replace h := h.1 c_10
                refine lv_iload_n hx hb dX6_letter_91 rfl (lv_at hl 4 rfl) ?_
                refine lv_aload_n hx hb dX6_letter_92 rfl (lv_at hl 2 rfl) ?_
                refine fl_get (C := RX6) (T := TX6) (N := 7) (ci := 5) (v := .ref (a2 0)) hx hb ht in_X6 hown hK hP 0 rfl rfl 1 (by decide) mw_356 rfl dX6_letter_93 ?_
                refine fl_get (C := RX0) (T := TX0) (N := 18) (ci := 0) (v := .int (s2.1 1)) hx hb ht in_X0 hown hK hP 1 rfl rfl 1 (by decide) mw_174 rfl dX6_letter_96 ?_
                refine lv_iconst (v := 1) hx hb dX6_letter_99 (by decide) ?_
                refine lv_iadd hx hb dX6_letter_100 ?_
                obtain ⟨g_11, h⟩ := h
                refine lv_idiv hx hb dX6_letter_101 g_11 ?_
                refine lv_aload_n hx hb dX6_letter_102 rfl (lv_at hl 2 rfl) ?_
                refine fl_get (C := RX6) (T := TX6) (N := 7) (ci := 5) (v := .ref (a2 0)) hx hb ht in_X6 hown hK hP 0 rfl rfl 1 (by decide) mw_356 rfl dX6_letter_103 ?_
                refine fl_get (C := RX0) (T := TX0) (N := 18) (ci := 0) (v := .int (s2.1 1)) hx hb ht in_X0 hown hK hP 1 rfl rfl 1 (by decide) mw_174 rfl dX6_letter_106 ?_
                refine lv_imul hx hb dX6_letter_109 ?_
                refine lv_iload hx hb dX6_letter_110 (lv_at hl 0 rfl) ?_
                refine lv_iadd hx hb dX6_letter_112 ?_
                refine lv_istore (lv' := [(5, .int (((x2 / ((s2.1 1) + 1)) * (s2.1 1)) + (x2 - x2 / ((s2.1 1) + 1) * ((s2.1 1) + 1)))), (4, .int (x2 - x2 / ((s2.1 1) + 1) * ((s2.1 1) + 1))), (3, .int 0), (0, .ref (a0 0)), (1, .int x1), (2, .int x2)]) hx hb dX6_letter_113 hl (by decide) rfl (fun ls hl => ?_)
                refine lv_aload_n hx hb dX6_letter_115 rfl (lv_at hl 3 rfl) ?_
                refine fl_get (C := RX6) (T := TX6) (N := 7) (ci := 5) (v := .ref (a2 0)) hx hb ht in_X6 hown hK hP 0 rfl rfl 1 (by decide) mw_356 rfl dX6_letter_116 ?_
                refine lv_iload hx hb dX6_letter_119 (lv_at hl 0 rfl) ?_
                refine lv_iload_n hx hb dX6_letter_121 rfl (lv_at hl 4 rfl) ?_
                refine lv_if_ne (tgt := 138) hx hb dX6_letter_122 (by decide) (fun c_12 => ?_) (fun c_12 => ?_)
                · replace h := h.1 c_12
                  refine lv_aload_n hx hb dX6_letter_138 rfl (lv_at hl 3 rfl) ?_
                  refine fl_get (C := RX6) (T := TX6) (N := 7) (ci := 5) (v := .ref (a2 0)) hx hb ht in_X6 hown hK hP 0 rfl rfl 1 (by decide) mw_356 rfl dX6_letter_139 ?_
                  refine fl_get (C := RX0) (T := TX0) (N := 18) (ci := 0) (v := .ref (a2 7)) hx hb ht in_X0 hown hK hP 1 rfl rfl 12 (by decide) mw_199 rfl dX6_letter_142 ?_
                  refine lv_iload hx hb dX6_letter_145 (lv_at hl 0 rfl) ?_
                  obtain ⟨g_13, h⟩ := h
                  refine va_iald hx hb hK hP 8 0 rfl rfl g_13 dX6_letter_147 ?_
                  refine vp_callSi (rd_wV (wc := bd_w a2 q s2) (As := [.int (((x2 / ((s2.1 1) + 1)) * (s2.1 1)) + (x2 - x2 / ((s2.1 1) + 1) * ((s2.1 1) + 1))), .int ((s2.2.1 6) (Int32.toNatClampNeg (((x2 / ((s2.1 1) + 1)) * (s2.1 1)) + (x2 - x2 / ((s2.1 1) + 1) * ((s2.1 1) + 1)))))]) (rest := []) hx hb hml hown ht (c2_X0_signOn h) wd_X0_signOn mw_939 hQ hV va_S.rf (hP.sub [1, 2, 3, 4, 5, 6, 7, 8, 9, 10, 11, 12, 13] rfl) rfl rfl rfl hl.1 rfl (Nat.le_of_ble_eq_true rfl) dX6_letter_148 ⟨Nat.le_of_ble_eq_true rfl, Nat.le_of_ble_eq_true rfl, rfl, rfl⟩ ⟨Nat.le_of_ble_eq_true rfl, Nat.le_of_ble_eq_true rfl⟩) (fun r_14 h => ?_)
                  try dsimp only at h
                  exact rd_iret hx hb hr hk h dX6_letter_151
                · replace h := h.2 c_12
                  refine lv_aload_n hx hb dX6_letter_125 rfl (lv_at hl 3 rfl) ?_
                  refine fl_get (C := RX6) (T := TX6) (N := 7) (ci := 5) (v := .ref (a2 0)) hx hb ht in_X6 hown hK hP 0 rfl rfl 1 (by decide) mw_356 rfl dX6_letter_126 ?_
                  refine fl_get (C := RX0) (T := TX0) (N := 18) (ci := 0) (v := .ref (a2 5)) hx hb ht in_X0 hown hK hP 1 rfl rfl 10 (by decide) mw_195 rfl dX6_letter_129 ?_
                  refine lv_iload hx hb dX6_letter_132 (lv_at hl 0 rfl) ?_
                  obtain ⟨g_16, h⟩ := h
                  refine va_iald hx hb hK hP 6 0 rfl rfl g_16 dX6_letter_134 ?_
                  refine lv_goto (tgt := 148) hx hb dX6_letter_135 (by decide) ?_
                  refine vp_callSi (rd_wV (wc := bd_w a2 q s2) (As := [.int (((x2 / ((s2.1 1) + 1)) * (s2.1 1)) + (x2 - x2 / ((s2.1 1) + 1) * ((s2.1 1) + 1))), .int ((s2.2.1 4) (Int32.toNatClampNeg (((x2 / ((s2.1 1) + 1)) * (s2.1 1)) + (x2 - x2 / ((s2.1 1) + 1) * ((s2.1 1) + 1)))))]) (rest := []) hx hb hml hown ht (c2_X0_signOn h) wd_X0_signOn mw_939 hQ hV va_S.rf (hP.sub [1, 2, 3, 4, 5, 6, 7, 8, 9, 10, 11, 12, 13] rfl) rfl rfl rfl hl.1 rfl (Nat.le_of_ble_eq_true rfl) dX6_letter_148 ⟨Nat.le_of_ble_eq_true rfl, Nat.le_of_ble_eq_true rfl, rfl, rfl⟩ ⟨Nat.le_of_ble_eq_true rfl, Nat.le_of_ble_eq_true rfl⟩) (fun r_17 h => ?_)
                  try dsimp only at h
                  exact rd_iret hx hb hr hk h dX6_letter_151
              · replace h := h.2 c_10
                refine lv_bipush (v := 47) hx hb dX6_letter_88 (by decide) ?_
                exact rd_iret hx hb hr hk h dX6_letter_90
            · replace h := h.2 c_8
              refine lv_bipush (v := (-2)) hx hb dX6_letter_60 (by decide) ?_
              exact rd_iret hx hb hr hk h dX6_letter_62
          · replace h := h.2 c_7
            refine lv_iload_n hx hb dX6_letter_53 rfl (lv_at hl 0 rfl) ?_
            exact rd_iret hx hb hr hk h dX6_letter_54
        · replace h := h.2 c_6
          refine lv_aload_n hx hb dX6_letter_26 rfl (lv_at hl 0 rfl) ?_
          refine fl_get (C := RX6) (T := TX6) (N := 7) (ci := 5) (v := .ref (a2 0)) hx hb ht in_X6 hown hK hP 0 rfl rfl 1 (by decide) mw_356 rfl dX6_letter_27 ?_
          refine vp_callSi (rd_wV (wc := bd_w a2 q s2) (As := []) (rest := []) hx hb hml hown ht (c2_X0_cells h) wd_X0_cells mw_885 hQ hV va_S.rf (hP.sub [1, 2, 3, 4, 5, 6, 7, 8, 9, 10, 11, 12, 13] rfl) rfl rfl rfl hl.1 rfl (Nat.le_of_ble_eq_true rfl) dX6_letter_30 ⟨Nat.le_of_ble_eq_true rfl, Nat.le_of_ble_eq_true rfl, rfl, rfl⟩ ⟨Nat.le_of_ble_eq_true rfl, Nat.le_of_ble_eq_true rfl⟩) (fun r_19 h => ?_)
          try dsimp only at h
          refine lv_aload_n hx hb dX6_letter_33 rfl (lv_at hl 0 rfl) ?_
          refine fl_get (C := RX6) (T := TX6) (N := 7) (ci := 5) (v := .ref (a2 0)) hx hb ht in_X6 hown hK hP 0 rfl rfl 1 (by decide) mw_356 rfl dX6_letter_34 ?_
          refine fl_get (C := RX0) (T := TX0) (N := 18) (ci := 0) (v := .int (s2.1 0)) hx hb ht in_X0 hown hK hP 1 rfl rfl 0 (by decide) mw_169 rfl dX6_letter_37 ?_
          refine lv_iadd hx hb dX6_letter_40 ?_
          refine lv_iconst (v := 1) hx hb dX6_letter_41 (by decide) ?_
          refine lv_isub hx hb dX6_letter_42 ?_
          refine lv_goto (tgt := 47) hx hb dX6_letter_43 (by decide) ?_
          refine lv_istore_n (lv' := [(3, .int ((r_19 + (s2.1 0)) - 1)), (0, .ref (a0 0)), (1, .int x1), (2, .int x2)]) hx hb dX6_letter_47 rfl hl (by decide) rfl (fun ls hl => ?_)
          refine lv_iload_n hx hb dX6_letter_48 rfl (lv_at hl 3 rfl) ?_
          refine lv_iconst (v := (-1)) hx hb dX6_letter_49 (by decide) ?_
          refine lv_icmp_ne (tgt := 55) hx hb dX6_letter_50 (by decide) (fun c_21 => ?_) (fun c_21 => ?_)
          · replace h := h.1 c_21
            refine lv_iload_n hx hb dX6_letter_55 rfl (lv_at hl 3 rfl) ?_
            refine lv_iload_n hx hb dX6_letter_56 rfl (lv_at hl 0 rfl) ?_
            refine lv_icmp_lt (tgt := 63) hx hb dX6_letter_57 (by decide) (fun c_22 => ?_) (fun c_22 => ?_)
            · replace h := h.1 c_22
              refine lv_iload_n hx hb dX6_letter_63 rfl (lv_at hl 3 rfl) ?_
              refine lv_aload_n hx hb dX6_letter_64 rfl (lv_at hl 1 rfl) ?_
              refine fl_get (C := RX6) (T := TX6) (N := 7) (ci := 5) (v := .ref (a2 0)) hx hb ht in_X6 hown hK hP 0 rfl rfl 1 (by decide) mw_356 rfl dX6_letter_65 ?_
              refine fl_get (C := RX0) (T := TX0) (N := 18) (ci := 0) (v := .int (s2.1 1)) hx hb ht in_X0 hown hK hP 1 rfl rfl 1 (by decide) mw_174 rfl dX6_letter_68 ?_
              refine lv_iconst (v := 1) hx hb dX6_letter_71 (by decide) ?_
              refine lv_iadd hx hb dX6_letter_72 ?_
              obtain ⟨g_23, h⟩ := h
              refine lv_irem hx hb dX6_letter_73 g_23 ?_
              refine lv_istore (lv' := [(4, .int (x2 - x2 / ((s2.1 1) + 1) * ((s2.1 1) + 1))), (3, .int ((r_19 + (s2.1 0)) - 1)), (0, .ref (a0 0)), (1, .int x1), (2, .int x2)]) hx hb dX6_letter_74 hl (by decide) rfl (fun ls hl => ?_)
              refine lv_iload hx hb dX6_letter_76 (lv_at hl 0 rfl) ?_
              refine lv_aload_n hx hb dX6_letter_78 rfl (lv_at hl 2 rfl) ?_
              refine fl_get (C := RX6) (T := TX6) (N := 7) (ci := 5) (v := .ref (a2 0)) hx hb ht in_X6 hown hK hP 0 rfl rfl 1 (by decide) mw_356 rfl dX6_letter_79 ?_
              refine fl_get (C := RX0) (T := TX0) (N := 18) (ci := 0) (v := .int (s2.1 1)) hx hb ht in_X0 hown hK hP 1 rfl rfl 1 (by decide) mw_174 rfl dX6_letter_82 ?_
              refine lv_icmp_ne (tgt := 91) hx hb dX6_letter_85 (by decide) (fun c_24 => ?_) (fun c_24 => ?_)
              · replace h := h.1 c_24
                refine lv_iload_n hx hb dX6_letter_91 rfl (lv_at hl 4 rfl) ?_
                refine lv_aload_n hx hb dX6_letter_92 rfl (lv_at hl 2 rfl) ?_
                refine fl_get (C := RX6) (T := TX6) (N := 7) (ci := 5) (v := .ref (a2 0)) hx hb ht in_X6 hown hK hP 0 rfl rfl 1 (by decide) mw_356 rfl dX6_letter_93 ?_
                refine fl_get (C := RX0) (T := TX0) (N := 18) (ci := 0) (v := .int (s2.1 1)) hx hb ht in_X0 hown hK hP 1 rfl rfl 1 (by decide) mw_174 rfl dX6_letter_96 ?_
                refine lv_iconst (v := 1) hx hb dX6_letter_99 (by decide) ?_
                refine lv_iadd hx hb dX6_letter_100 ?_
                obtain ⟨g_25, h⟩ := h
                refine lv_idiv hx hb dX6_letter_101 g_25 ?_
                refine lv_aload_n hx hb dX6_letter_102 rfl (lv_at hl 2 rfl) ?_
                refine fl_get (C := RX6) (T := TX6) (N := 7) (ci := 5) (v := .ref (a2 0)) hx hb ht in_X6 hown hK hP 0 rfl rfl 1 (by decide) mw_356 rfl dX6_letter_103 ?_
                refine fl_get (C := RX0) (T := TX0) (N := 18) (ci := 0) (v := .int (s2.1 1)) hx hb ht in_X0 hown hK hP 1 rfl rfl 1 (by decide) mw_174 rfl dX6_letter_106 ?_
                refine lv_imul hx hb dX6_letter_109 ?_
                refine lv_iload hx hb dX6_letter_110 (lv_at hl 0 rfl) ?_
                refine lv_iadd hx hb dX6_letter_112 ?_
                refine lv_istore (lv' := [(5, .int (((x2 / ((s2.1 1) + 1)) * (s2.1 1)) + (x2 - x2 / ((s2.1 1) + 1) * ((s2.1 1) + 1)))), (4, .int (x2 - x2 / ((s2.1 1) + 1) * ((s2.1 1) + 1))), (3, .int ((r_19 + (s2.1 0)) - 1)), (0, .ref (a0 0)), (1, .int x1), (2, .int x2)]) hx hb dX6_letter_113 hl (by decide) rfl (fun ls hl => ?_)
                refine lv_aload_n hx hb dX6_letter_115 rfl (lv_at hl 3 rfl) ?_
                refine fl_get (C := RX6) (T := TX6) (N := 7) (ci := 5) (v := .ref (a2 0)) hx hb ht in_X6 hown hK hP 0 rfl rfl 1 (by decide) mw_356 rfl dX6_letter_116 ?_
                refine lv_iload hx hb dX6_letter_119 (lv_at hl 0 rfl) ?_
                refine lv_iload_n hx hb dX6_letter_121 rfl (lv_at hl 4 rfl) ?_
                refine lv_if_ne (tgt := 138) hx hb dX6_letter_122 (by decide) (fun c_26 => ?_) (fun c_26 => ?_)
                · replace h := h.1 c_26
                  refine lv_aload_n hx hb dX6_letter_138 rfl (lv_at hl 3 rfl) ?_
                  refine fl_get (C := RX6) (T := TX6) (N := 7) (ci := 5) (v := .ref (a2 0)) hx hb ht in_X6 hown hK hP 0 rfl rfl 1 (by decide) mw_356 rfl dX6_letter_139 ?_
                  refine fl_get (C := RX0) (T := TX0) (N := 18) (ci := 0) (v := .ref (a2 7)) hx hb ht in_X0 hown hK hP 1 rfl rfl 12 (by decide) mw_199 rfl dX6_letter_142 ?_
                  refine lv_iload hx hb dX6_letter_145 (lv_at hl 0 rfl) ?_
                  obtain ⟨g_27, h⟩ := h
                  refine va_iald hx hb hK hP 8 0 rfl rfl g_27 dX6_letter_147 ?_
                  refine vp_callSi (rd_wV (wc := bd_w a2 q s2) (As := [.int (((x2 / ((s2.1 1) + 1)) * (s2.1 1)) + (x2 - x2 / ((s2.1 1) + 1) * ((s2.1 1) + 1))), .int ((s2.2.1 6) (Int32.toNatClampNeg (((x2 / ((s2.1 1) + 1)) * (s2.1 1)) + (x2 - x2 / ((s2.1 1) + 1) * ((s2.1 1) + 1)))))]) (rest := []) hx hb hml hown ht (c2_X0_signOn h) wd_X0_signOn mw_939 hQ hV va_S.rf (hP.sub [1, 2, 3, 4, 5, 6, 7, 8, 9, 10, 11, 12, 13] rfl) rfl rfl rfl hl.1 rfl (Nat.le_of_ble_eq_true rfl) dX6_letter_148 ⟨Nat.le_of_ble_eq_true rfl, Nat.le_of_ble_eq_true rfl, rfl, rfl⟩ ⟨Nat.le_of_ble_eq_true rfl, Nat.le_of_ble_eq_true rfl⟩) (fun r_28 h => ?_)
                  try dsimp only at h
                  exact rd_iret hx hb hr hk h dX6_letter_151
                · replace h := h.2 c_26
                  refine lv_aload_n hx hb dX6_letter_125 rfl (lv_at hl 3 rfl) ?_
                  refine fl_get (C := RX6) (T := TX6) (N := 7) (ci := 5) (v := .ref (a2 0)) hx hb ht in_X6 hown hK hP 0 rfl rfl 1 (by decide) mw_356 rfl dX6_letter_126 ?_
                  refine fl_get (C := RX0) (T := TX0) (N := 18) (ci := 0) (v := .ref (a2 5)) hx hb ht in_X0 hown hK hP 1 rfl rfl 10 (by decide) mw_195 rfl dX6_letter_129 ?_
                  refine lv_iload hx hb dX6_letter_132 (lv_at hl 0 rfl) ?_
                  obtain ⟨g_30, h⟩ := h
                  refine va_iald hx hb hK hP 6 0 rfl rfl g_30 dX6_letter_134 ?_
                  refine lv_goto (tgt := 148) hx hb dX6_letter_135 (by decide) ?_
                  refine vp_callSi (rd_wV (wc := bd_w a2 q s2) (As := [.int (((x2 / ((s2.1 1) + 1)) * (s2.1 1)) + (x2 - x2 / ((s2.1 1) + 1) * ((s2.1 1) + 1))), .int ((s2.2.1 4) (Int32.toNatClampNeg (((x2 / ((s2.1 1) + 1)) * (s2.1 1)) + (x2 - x2 / ((s2.1 1) + 1) * ((s2.1 1) + 1)))))]) (rest := []) hx hb hml hown ht (c2_X0_signOn h) wd_X0_signOn mw_939 hQ hV va_S.rf (hP.sub [1, 2, 3, 4, 5, 6, 7, 8, 9, 10, 11, 12, 13] rfl) rfl rfl rfl hl.1 rfl (Nat.le_of_ble_eq_true rfl) dX6_letter_148 ⟨Nat.le_of_ble_eq_true rfl, Nat.le_of_ble_eq_true rfl, rfl, rfl⟩ ⟨Nat.le_of_ble_eq_true rfl, Nat.le_of_ble_eq_true rfl⟩) (fun r_31 h => ?_)
                  try dsimp only at h
                  exact rd_iret hx hb hr hk h dX6_letter_151
              · replace h := h.2 c_24
                refine lv_bipush (v := 47) hx hb dX6_letter_88 (by decide) ?_
                exact rd_iret hx hb hr hk h dX6_letter_90
            · replace h := h.2 c_22
              refine lv_bipush (v := (-2)) hx hb dX6_letter_60 (by decide) ?_
              exact rd_iret hx hb hr hk h dX6_letter_62
          · replace h := h.2 c_21
            refine lv_iload_n hx hb dX6_letter_53 rfl (lv_at hl 0 rfl) ?_
            exact rd_iret hx hb hr hk h dX6_letter_54
      · replace h := h.2 c_3
        refine lv_iconst (v := (-1)) hx hb dX6_letter_14 (by decide) ?_
        exact rd_iret hx hb hr hk h dX6_letter_15

def wp_X6_digest_L6 (s2 : Bd) (post : Int64 → Prop) (e124 : Int64 → Int32 → Prop) : Nat → Int64 → Int32 → Prop
  | 0, _, _ => False
  | n6 + 1, w1, z3 => wp_X0_cells (fun r_1 => ((r_1 ≤ z3 → e124 w1 z3) ∧ (¬ r_1 ≤ z3 → vp_in z3 40 ∧ vp_in z3 40 ∧ vp_in z3 40 ∧ vp_in z3 40 ∧ vp_in z3 40 ∧ vp_in z3 40 ∧ wp_X6_digest_L6 s2 post e124 n6 ((31 * ((31 * ((31 * ((31 * ((31 * ((31 * w1) + (Int32.toInt64 ((s2.2.1 3) (Int32.toNatClampNeg z3))))) + (Int32.toInt64 ((s2.2.1 4) (Int32.toNatClampNeg z3))))) + (Int32.toInt64 ((s2.2.1 5) (Int32.toNatClampNeg z3))))) + (Int32.toInt64 ((s2.2.1 6) (Int32.toNatClampNeg z3))))) + (Int32.toInt64 ((s2.2.1 7) (Int32.toNatClampNeg z3))))) + (s2.2.2.1 (Int32.toNatClampNeg z3))) (z3 + 1)))) s2
def wp_X6_digest (post : Int64 → Prop) (s2 : Bd) : Prop := (∃ n6, wp_X6_digest_L6 s2 post (fun w1 z3 => post w1) n6 17 0)
set_option maxHeartbeats 4000000 in
set_option maxRecDepth 100000 in
theorem c2_X6_digest {l : Launch} {D : va_G} {q : Nat → ClassId} {a0 a1 a2 a3 a4 a5 : Nat → Nat} {p8 s8 : Nat} {s2 : Bd} {post : Int64 → Prop} (h : wp_X6_digest post s2) : Met l yX6_digest (Cond.code yX6_digest cX6_digest 4 (some .long) :: w_all) ({ frames := 1, cells := 0, slots := 0, locals := 20 } : Room) (rd_P D q [.ref (a0 0)] (fo_w (a0 0) (a1 0) (a2 0) (a3 0) (a4 0) (a5 0) p8 s8 ++ bd_w a2 q s2)) (vp_Sl post) 0 0 (fun _ => False) := by
  refine rd_start (by decide) (Nat.le_of_ble_eq_true rfl) ?_
  intro p e s m below meth c ls hx hb hr hml hown ht hk hP hQ hV hl
  have hK := hQ.1
  have hown : s.vm.findClass RX6 = some m.cls := hown
  have hl : lv_has ls 4 [(0, .ref (a0 0))] := hl
  have hP : va_P D vwCl [((a0 0), .inr (5, [.ref (a1 0), .ref (a2 0), .ref (a3 0), .ref (a4 0), .ref (a5 0), .ref p8, .ref s8])), ((a2 0), .inr (0, [.int (s2.1 0), .int (s2.1 1), .int (s2.1 2), .int (s2.1 3), .int (s2.1 4), .int (s2.1 5), .ref (a2 1), .ref (a2 2), .ref (a2 3), .ref (a2 4), .ref (a2 5), .ref (a2 6), .ref (a2 7), .ref (a2 8), .ref (a2 9), .ref (a2 10), .ref (a2 11), .ref (a2 12)])), ((a2 1), .inl (q 0, 4, .inl (s2.2.1 0))), ((a2 2), .inl (q 0, 4, .inl (s2.2.1 1))), ((a2 3), .inl (q 0, 160, .inl (s2.2.1 2))), ((a2 4), .inl (q 0, 40, .inl (s2.2.1 3))), ((a2 5), .inl (q 0, 40, .inl (s2.2.1 4))), ((a2 6), .inl (q 0, 40, .inl (s2.2.1 5))), ((a2 7), .inl (q 0, 40, .inl (s2.2.1 6))), ((a2 8), .inl (q 0, 40, .inl (s2.2.1 7))), ((a2 9), .inl (q 0, 40, .inl (s2.2.1 8))), ((a2 10), .inl (q 0, 40, .inl (s2.2.1 9))), ((a2 11), .inl (q 1, 40, .inr (.inl s2.2.2.1))), ((a2 12), .inl (q 0, s2.2.2.2.1, .inl s2.2.2.2.2))] s.heap := hP
  unfold wp_X6_digest at h
  refine lv_ldc2 (v := 17) hx hb hown (ht _ mw_1113) dX6_digest_0 ?_
  refine lv_lstore_n (lv' := [(1, .long 17), (0, .ref (a0 0))]) hx hb dX6_digest_3 rfl hl (by decide) rfl (fun ls hl => ?_)
  refine lv_iconst (v := 0) hx hb dX6_digest_4 (by decide) ?_
  refine lv_istore_n (lv' := [(3, .int 0), (1, .long 17), (0, .ref (a0 0))]) hx hb dX6_digest_5 rfl hl (by decide) rfl (fun ls hl => ?_)
  have lp6 : ∀ (e124 : Int64 → Int32 → Prop) (k124 : ∀ (w1 : Int64) (z3 : Int32) (ls : Array Slot), e124 w1 z3 → lv_has ls 4 [(1, .long w1), (3, .int z3), (0, .ref (a0 0))] → W p l e ({ frames := 1, cells := 0, slots := 0, locals := 20 } : Room) s m [.ref (a0 0)].toArray below meth c s.heap [] 0 0 (MQ below (vp_Sl post) [.ref (a0 0)].toArray s 0 0 (fun _ => False)) (F0 m 124 ls [])) (n : Nat) (w1 : Int64) (z3 : Int32) (ls : Array Slot), wp_X6_digest_L6 s2 post e124 n w1 z3 → lv_has ls 4 [(1, .long w1), (3, .int z3), (0, .ref (a0 0))] → W p l e ({ frames := 1, cells := 0, slots := 0, locals := 20 } : Room) s m [.ref (a0 0)].toArray below meth c s.heap [] 0 0 (MQ below (vp_Sl post) [.ref (a0 0)].toArray s 0 0 (fun _ => False)) (F0 m 6 ls []) := by
    intro e124 k124 n
    induction n with
    | zero =>
      intro w1 z3 ls h
      exact h.elim
    | succ n ih =>
      intro w1 z3 ls h hl
      unfold wp_X6_digest_L6 at h
      refine lv_iload_n hx hb dX6_digest_6 rfl (lv_at hl 1 rfl) ?_
      refine lv_aload_n hx hb dX6_digest_7 rfl (lv_at hl 2 rfl) ?_
      refine fl_get (C := RX6) (T := TX6) (N := 7) (ci := 5) (v := .ref (a2 0)) hx hb ht in_X6 hown hK hP 0 rfl rfl 1 (by decide) mw_356 rfl dX6_digest_8 ?_
      refine vp_callSi (rd_wV (wc := bd_w a2 q s2) (As := []) (rest := [.int z3]) hx hb hml hown ht (c2_X0_cells h) wd_X0_cells mw_885 hQ hV va_S.rf (hP.sub [1, 2, 3, 4, 5, 6, 7, 8, 9, 10, 11, 12, 13] rfl) rfl rfl rfl hl.1 rfl (Nat.le_of_ble_eq_true rfl) dX6_digest_11 ⟨Nat.le_of_ble_eq_true rfl, Nat.le_of_ble_eq_true rfl, rfl, rfl⟩ ⟨Nat.le_of_ble_eq_true rfl, Nat.le_of_ble_eq_true rfl⟩) (fun r_1 h => ?_)
      try dsimp only at h
      refine lv_icmp_ge (tgt := 124) hx hb dX6_digest_14 (by decide) (fun c_3 => ?_) (fun c_3 => ?_)
      · replace h := h.1 c_3
        exact k124 _ _ ls h (lv_sub hl [0, 1, 2] rfl)
      · replace h := h.2 c_3
        refine lv_ldc2 (v := 31) hx hb hown (ht _ mw_1114) dX6_digest_17 ?_
        refine lv_lload_n hx hb dX6_digest_20 rfl (lv_at hl 0 rfl) ?_
        refine lv_lmul hx hb dX6_digest_21 ?_
        refine lv_aload_n hx hb dX6_digest_22 rfl (lv_at hl 2 rfl) ?_
        refine fl_get (C := RX6) (T := TX6) (N := 7) (ci := 5) (v := .ref (a2 0)) hx hb ht in_X6 hown hK hP 0 rfl rfl 1 (by decide) mw_356 rfl dX6_digest_23 ?_
        refine fl_get (C := RX0) (T := TX0) (N := 18) (ci := 0) (v := .ref (a2 4)) hx hb ht in_X0 hown hK hP 1 rfl rfl 9 (by decide) mw_193 rfl dX6_digest_26 ?_
        refine lv_iload_n hx hb dX6_digest_29 rfl (lv_at hl 1 rfl) ?_
        obtain ⟨g_4, h⟩ := h
        refine va_iald hx hb hK hP 5 0 rfl rfl g_4 dX6_digest_30 ?_
        refine lv_i2l (v := (Int32.toInt64 ((s2.2.1 3) (Int32.toNatClampNeg z3)))) hx hb dX6_digest_31 rfl ?_
        refine lv_ladd hx hb dX6_digest_32 ?_
        refine lv_lstore_n (lv' := [(1, .long ((31 * w1) + (Int32.toInt64 ((s2.2.1 3) (Int32.toNatClampNeg z3))))), (3, .int z3), (0, .ref (a0 0))]) hx hb dX6_digest_33 rfl hl (by decide) rfl (fun ls hl => ?_)
        refine lv_ldc2 (v := 31) hx hb hown (ht _ mw_1114) dX6_digest_34 ?_
        refine lv_lload_n hx hb dX6_digest_37 rfl (lv_at hl 0 rfl) ?_
        refine lv_lmul hx hb dX6_digest_38 ?_
        refine lv_aload_n hx hb dX6_digest_39 rfl (lv_at hl 2 rfl) ?_
        refine fl_get (C := RX6) (T := TX6) (N := 7) (ci := 5) (v := .ref (a2 0)) hx hb ht in_X6 hown hK hP 0 rfl rfl 1 (by decide) mw_356 rfl dX6_digest_40 ?_
        refine fl_get (C := RX0) (T := TX0) (N := 18) (ci := 0) (v := .ref (a2 5)) hx hb ht in_X0 hown hK hP 1 rfl rfl 10 (by decide) mw_195 rfl dX6_digest_43 ?_
        refine lv_iload_n hx hb dX6_digest_46 rfl (lv_at hl 1 rfl) ?_
        obtain ⟨g_5, h⟩ := h
        refine va_iald hx hb hK hP 6 0 rfl rfl g_5 dX6_digest_47 ?_
        refine lv_i2l (v := (Int32.toInt64 ((s2.2.1 4) (Int32.toNatClampNeg z3)))) hx hb dX6_digest_48 rfl ?_
        refine lv_ladd hx hb dX6_digest_49 ?_
        refine lv_lstore_n (lv' := [(1, .long ((31 * ((31 * w1) + (Int32.toInt64 ((s2.2.1 3) (Int32.toNatClampNeg z3))))) + (Int32.toInt64 ((s2.2.1 4) (Int32.toNatClampNeg z3))))), (3, .int z3), (0, .ref (a0 0))]) hx hb dX6_digest_50 rfl hl (by decide) rfl (fun ls hl => ?_)
        refine lv_ldc2 (v := 31) hx hb hown (ht _ mw_1114) dX6_digest_51 ?_
        refine lv_lload_n hx hb dX6_digest_54 rfl (lv_at hl 0 rfl) ?_
        refine lv_lmul hx hb dX6_digest_55 ?_
        refine lv_aload_n hx hb dX6_digest_56 rfl (lv_at hl 2 rfl) ?_
        refine fl_get (C := RX6) (T := TX6) (N := 7) (ci := 5) (v := .ref (a2 0)) hx hb ht in_X6 hown hK hP 0 rfl rfl 1 (by decide) mw_356 rfl dX6_digest_57 ?_
        refine fl_get (C := RX0) (T := TX0) (N := 18) (ci := 0) (v := .ref (a2 6)) hx hb ht in_X0 hown hK hP 1 rfl rfl 11 (by decide) mw_197 rfl dX6_digest_60 ?_
        refine lv_iload_n hx hb dX6_digest_63 rfl (lv_at hl 1 rfl) ?_
        obtain ⟨g_6, h⟩ := h
        refine va_iald hx hb hK hP 7 0 rfl rfl g_6 dX6_digest_64 ?_
        refine lv_i2l (v := (Int32.toInt64 ((s2.2.1 5) (Int32.toNatClampNeg z3)))) hx hb dX6_digest_65 rfl ?_
        refine lv_ladd hx hb dX6_digest_66 ?_
        refine lv_lstore_n (lv' := [(1, .long ((31 * ((31 * ((31 * w1) + (Int32.toInt64 ((s2.2.1 3) (Int32.toNatClampNeg z3))))) + (Int32.toInt64 ((s2.2.1 4) (Int32.toNatClampNeg z3))))) + (Int32.toInt64 ((s2.2.1 5) (Int32.toNatClampNeg z3))))), (3, .int z3), (0, .ref (a0 0))]) hx hb dX6_digest_67 rfl hl (by decide) rfl (fun ls hl => ?_)
        refine lv_ldc2 (v := 31) hx hb hown (ht _ mw_1114) dX6_digest_68 ?_
        refine lv_lload_n hx hb dX6_digest_71 rfl (lv_at hl 0 rfl) ?_
        refine lv_lmul hx hb dX6_digest_72 ?_
        refine lv_aload_n hx hb dX6_digest_73 rfl (lv_at hl 2 rfl) ?_
        refine fl_get (C := RX6) (T := TX6) (N := 7) (ci := 5) (v := .ref (a2 0)) hx hb ht in_X6 hown hK hP 0 rfl rfl 1 (by decide) mw_356 rfl dX6_digest_74 ?_
        refine fl_get (C := RX0) (T := TX0) (N := 18) (ci := 0) (v := .ref (a2 7)) hx hb ht in_X0 hown hK hP 1 rfl rfl 12 (by decide) mw_199 rfl dX6_digest_77 ?_
        refine lv_iload_n hx hb dX6_digest_80 rfl (lv_at hl 1 rfl) ?_
        obtain ⟨g_7, h⟩ := h
        refine va_iald hx hb hK hP 8 0 rfl rfl g_7 dX6_digest_81 ?_
        refine lv_i2l (v := (Int32.toInt64 ((s2.2.1 6) (Int32.toNatClampNeg z3)))) hx hb dX6_digest_82 rfl ?_
        refine lv_ladd hx hb dX6_digest_83 ?_
        refine lv_lstore_n (lv' := [(1, .long ((31 * ((31 * ((31 * ((31 * w1) + (Int32.toInt64 ((s2.2.1 3) (Int32.toNatClampNeg z3))))) + (Int32.toInt64 ((s2.2.1 4) (Int32.toNatClampNeg z3))))) + (Int32.toInt64 ((s2.2.1 5) (Int32.toNatClampNeg z3))))) + (Int32.toInt64 ((s2.2.1 6) (Int32.toNatClampNeg z3))))), (3, .int z3), (0, .ref (a0 0))]) hx hb dX6_digest_84 rfl hl (by decide) rfl (fun ls hl => ?_)
        refine lv_ldc2 (v := 31) hx hb hown (ht _ mw_1114) dX6_digest_85 ?_
        refine lv_lload_n hx hb dX6_digest_88 rfl (lv_at hl 0 rfl) ?_
        refine lv_lmul hx hb dX6_digest_89 ?_
        refine lv_aload_n hx hb dX6_digest_90 rfl (lv_at hl 2 rfl) ?_
        refine fl_get (C := RX6) (T := TX6) (N := 7) (ci := 5) (v := .ref (a2 0)) hx hb ht in_X6 hown hK hP 0 rfl rfl 1 (by decide) mw_356 rfl dX6_digest_91 ?_
        refine fl_get (C := RX0) (T := TX0) (N := 18) (ci := 0) (v := .ref (a2 8)) hx hb ht in_X0 hown hK hP 1 rfl rfl 13 (by decide) mw_201 rfl dX6_digest_94 ?_
        refine lv_iload_n hx hb dX6_digest_97 rfl (lv_at hl 1 rfl) ?_
        obtain ⟨g_8, h⟩ := h
        refine va_iald hx hb hK hP 9 0 rfl rfl g_8 dX6_digest_98 ?_
        refine lv_i2l (v := (Int32.toInt64 ((s2.2.1 7) (Int32.toNatClampNeg z3)))) hx hb dX6_digest_99 rfl ?_
        refine lv_ladd hx hb dX6_digest_100 ?_
        refine lv_lstore_n (lv' := [(1, .long ((31 * ((31 * ((31 * ((31 * ((31 * w1) + (Int32.toInt64 ((s2.2.1 3) (Int32.toNatClampNeg z3))))) + (Int32.toInt64 ((s2.2.1 4) (Int32.toNatClampNeg z3))))) + (Int32.toInt64 ((s2.2.1 5) (Int32.toNatClampNeg z3))))) + (Int32.toInt64 ((s2.2.1 6) (Int32.toNatClampNeg z3))))) + (Int32.toInt64 ((s2.2.1 7) (Int32.toNatClampNeg z3))))), (3, .int z3), (0, .ref (a0 0))]) hx hb dX6_digest_101 rfl hl (by decide) rfl (fun ls hl => ?_)
        refine lv_ldc2 (v := 31) hx hb hown (ht _ mw_1114) dX6_digest_102 ?_
        refine lv_lload_n hx hb dX6_digest_105 rfl (lv_at hl 0 rfl) ?_
        refine lv_lmul hx hb dX6_digest_106 ?_
        refine lv_aload_n hx hb dX6_digest_107 rfl (lv_at hl 2 rfl) ?_
        refine fl_get (C := RX6) (T := TX6) (N := 7) (ci := 5) (v := .ref (a2 0)) hx hb ht in_X6 hown hK hP 0 rfl rfl 1 (by decide) mw_356 rfl dX6_digest_108 ?_
        refine fl_get (C := RX0) (T := TX0) (N := 18) (ci := 0) (v := .ref (a2 11)) hx hb ht in_X0 hown hK hP 1 rfl rfl 16 (by decide) mw_207 rfl dX6_digest_111 ?_
        refine lv_iload_n hx hb dX6_digest_114 rfl (lv_at hl 1 rfl) ?_
        obtain ⟨g_9, h⟩ := h
        refine va_lald hx hb hK hP 12 1 rfl rfl g_9 dX6_digest_115 ?_
        refine lv_ladd hx hb dX6_digest_116 ?_
        refine lv_lstore_n (lv' := [(1, .long ((31 * ((31 * ((31 * ((31 * ((31 * ((31 * w1) + (Int32.toInt64 ((s2.2.1 3) (Int32.toNatClampNeg z3))))) + (Int32.toInt64 ((s2.2.1 4) (Int32.toNatClampNeg z3))))) + (Int32.toInt64 ((s2.2.1 5) (Int32.toNatClampNeg z3))))) + (Int32.toInt64 ((s2.2.1 6) (Int32.toNatClampNeg z3))))) + (Int32.toInt64 ((s2.2.1 7) (Int32.toNatClampNeg z3))))) + (s2.2.2.1 (Int32.toNatClampNeg z3)))), (3, .int z3), (0, .ref (a0 0))]) hx hb dX6_digest_117 rfl hl (by decide) rfl (fun ls hl => ?_)
        refine lv_iinc (v := (z3 + 1)) (lv' := [(3, .int (z3 + 1)), (1, .long ((31 * ((31 * ((31 * ((31 * ((31 * ((31 * w1) + (Int32.toInt64 ((s2.2.1 3) (Int32.toNatClampNeg z3))))) + (Int32.toInt64 ((s2.2.1 4) (Int32.toNatClampNeg z3))))) + (Int32.toInt64 ((s2.2.1 5) (Int32.toNatClampNeg z3))))) + (Int32.toInt64 ((s2.2.1 6) (Int32.toNatClampNeg z3))))) + (Int32.toInt64 ((s2.2.1 7) (Int32.toNatClampNeg z3))))) + (s2.2.2.1 (Int32.toNatClampNeg z3)))), (0, .ref (a0 0))]) hx hb dX6_digest_118 hl (k := 1) rfl rfl (by decide) rfl (fun ls hl => ?_)
        refine lv_goto (tgt := 6) hx hb dX6_digest_121 (by decide) ?_
        exact ih _ _ ls h (lv_sub hl [1, 0, 2] rfl)
  obtain ⟨n6, h⟩ := h
  refine lp6 _ ?_ n6 _ _ ls h (lv_sub hl [1, 0, 2] rfl)
  · intro w1 z3 ls h hl
    try dsimp only at h
    refine lv_lload_n hx hb dX6_digest_124 rfl (lv_at hl 0 rfl) ?_
    exact rd_lret hx hb hr hk h dX6_digest_125

def wp_X7_in (post : Int32 → Prop) (y0 : Int64) (y2 : Int64) (y4 : Int64) : Prop := (((lg_cmp y0 y2) < 0 → post 0) ∧ (¬ (lg_cmp y0 y2) < 0 → ((0 < (lg_cmp y0 y4) → post 0) ∧ (¬ 0 < (lg_cmp y0 y4) → post 1))))
set_option maxHeartbeats 4000000 in
set_option maxRecDepth 100000 in
theorem c2_X7_in {l : Launch} {D : va_G} {q : Nat → ClassId} {y0 : Int64} {y2 : Int64} {y4 : Int64} {post : Int32 → Prop} (h : wp_X7_in post y0 y2 y4) : Met l yX7_in (Cond.code yX7_in cX7_in 6 (some .boolean) :: w_all) ({ frames := 0, cells := 0, slots := 0, locals := 0 } : Room) (rd_P D q [.long y0, .long y2, .long y4] (([] : va_W))) (vp_Si post) 0 0 (fun _ => False) := by
  refine rd_start (by decide) (Nat.le_of_ble_eq_true rfl) ?_
  intro p e s m below meth c ls hx hb hr hml hown ht hk hP hQ hV hl
  have hK := hQ.1
  have hown : s.vm.findClass RX7 = some m.cls := hown
  have hl : lv_has ls 6 [(0, .long y0), (2, .long y2), (4, .long y4)] := hl
  unfold wp_X7_in at h
  refine lv_lload_n hx hb dX7_in_0 rfl (lv_at hl 0 rfl) ?_
  refine lv_lload_n hx hb dX7_in_1 rfl (lv_at hl 1 rfl) ?_
  refine W.lcmp hx hb dX7_in_2 ?_
  refine lv_if_lt (tgt := 17) hx hb dX7_in_3 (by decide) (fun c_1 => ?_) (fun c_1 => ?_)
  · replace h := h.1 c_1
    refine lv_iconst (v := 0) hx hb dX7_in_17 (by decide) ?_
    exact rd_zret hx hb hr hk rfl h dX7_in_18
  · replace h := h.2 c_1
    refine lv_lload_n hx hb dX7_in_6 rfl (lv_at hl 0 rfl) ?_
    refine lv_lload hx hb dX7_in_7 (lv_at hl 2 rfl) ?_
    refine W.lcmp hx hb dX7_in_9 ?_
    refine lv_if_gt (tgt := 17) hx hb dX7_in_10 (by decide) (fun c_2 => ?_) (fun c_2 => ?_)
    · replace h := h.1 c_2
      refine lv_iconst (v := 0) hx hb dX7_in_17 (by decide) ?_
      exact rd_zret hx hb hr hk rfl h dX7_in_18
    · replace h := h.2 c_2
      refine lv_iconst (v := 1) hx hb dX7_in_13 (by decide) ?_
      refine lv_goto (tgt := 18) hx hb dX7_in_14 (by decide) ?_
      exact rd_zret hx hb hr hk rfl h dX7_in_18

def wp_X7_isIn (post : Int32 → Prop) (y0 : Int64) (x2 : Int32) : Prop := ((¬ (lg_cmp ((((y0).toUInt64 >>> ((Int32.toInt64 x2).toUInt64 &&& Int64.toUInt64 63)).toInt64) &&& 1) 1) = 0 → post 0) ∧ ((lg_cmp ((((y0).toUInt64 >>> ((Int32.toInt64 x2).toUInt64 &&& Int64.toUInt64 63)).toInt64) &&& 1) 1) = 0 → post 1))
set_option maxHeartbeats 4000000 in
set_option maxRecDepth 100000 in
theorem c2_X7_isIn {l : Launch} {D : va_G} {q : Nat → ClassId} {y0 : Int64} {x2 : Int32} {post : Int32 → Prop} (h : wp_X7_isIn post y0 x2) : Met l yX7_isIn (Cond.code yX7_isIn cX7_isIn 3 (some .boolean) :: w_all) ({ frames := 0, cells := 0, slots := 0, locals := 0 } : Room) (rd_P D q [.long y0, .int x2] (([] : va_W))) (vp_Si post) 0 0 (fun _ => False) := by
  refine rd_start (by decide) (Nat.le_of_ble_eq_true rfl) ?_
  intro p e s m below meth c ls hx hb hr hml hown ht hk hP hQ hV hl
  have hK := hQ.1
  have hown : s.vm.findClass RX7 = some m.cls := hown
  have hl : lv_has ls 3 [(0, .long y0), (2, .int x2)] := hl
  unfold wp_X7_isIn at h
  refine lv_lload_n hx hb dX7_isIn_0 rfl (lv_at hl 0 rfl) ?_
  refine lv_iload_n hx hb dX7_isIn_1 rfl (lv_at hl 1 rfl) ?_
  refine lv_lushr (v := (((y0).toUInt64 >>> ((Int32.toInt64 x2).toUInt64 &&& Int64.toUInt64 63)).toInt64)) hx hb dX7_isIn_2 rfl ?_
  refine lv_lconst (v := 1) hx hb dX7_isIn_3 (by decide) ?_
  refine lv_land hx hb dX7_isIn_4 ?_
  refine lv_lconst (v := 1) hx hb dX7_isIn_5 (by decide) ?_
  refine W.lcmp hx hb dX7_isIn_6 ?_
  refine lv_if_ne (tgt := 14) hx hb dX7_isIn_7 (by decide) (fun c_1 => ?_) (fun c_1 => ?_)
  · replace h := h.1 c_1
    refine lv_iconst (v := 0) hx hb dX7_isIn_14 (by decide) ?_
    exact rd_zret hx hb hr hk rfl h dX7_isIn_15
  · replace h := h.2 c_1
    refine lv_iconst (v := 1) hx hb dX7_isIn_10 (by decide) ?_
    refine lv_goto (tgt := 15) hx hb dX7_isIn_11 (by decide) ?_
    exact rd_zret hx hb hr hk rfl h dX7_isIn_15
