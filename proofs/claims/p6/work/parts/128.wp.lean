def wp_X7_entries_L15 (s0 : Md) (post : Int32 → Prop) (e64 : Int32 → Int32 → Int32 → Int32 → Int32 → Prop) : Nat → Int32 → Int32 → Int32 → Int32 → Int32 → Prop
  | 0, _, _, _, _, _ => False
  | n15 + 1, z1, z2, z3, z4, z5 => ((40 ≤ z5 → e64 z1 z2 z3 z4 z5) ∧ (¬ 40 ≤ z5 → ((z2 = 0 → wp_X7_logged (fun r_4 => wp_X7_entries_L15 s0 post e64 n15 z1 z2 (z3 + r_4) z4 (z5 + 1)) s0 z1 z4 z5) ∧ (¬ z2 = 0 → wp_X7_logged (fun r_6 => ((r_6 ≤ 0 → wp_X7_entries_L15 s0 post e64 n15 z1 z2 (z3 + 0) z4 (z5 + 1)) ∧ (¬ r_6 ≤ 0 → wp_X7_entries_L15 s0 post e64 n15 z1 z2 (z3 + 1) z4 (z5 + 1)))) s0 z1 z4 z5))))
def wp_X7_entries_L5 (s0 : Md) (post : Int32 → Prop) (e70 : Int32 → Int32 → Int32 → Int32 → Prop) : Nat → Int32 → Int32 → Int32 → Int32 → Prop
  | 0, _, _, _, _ => False
  | n5 + 1, z1, z2, z3, z4 => ((40 ≤ z4 → e70 z1 z2 z3 z4) ∧ (¬ 40 ≤ z4 → (∃ n15, wp_X7_entries_L15 s0 post (fun z1 z2 z3 z4 z5 => wp_X7_entries_L5 s0 post e70 n5 z1 z2 z3 (z4 + 1)) n15 z1 z2 z3 z4 0)))
def wp_X7_entries (post : Int32 → Prop) (s0 : Md) (x1 : Int32) (x2 : Int32) : Prop := (∃ n5, wp_X7_entries_L5 s0 post (fun z1 z2 z3 z4 => post z3) n5 x1 x2 0 0)
set_option maxHeartbeats 4000000 in
set_option maxRecDepth 100000 in
theorem c2_X7_entries {l : Launch} {D : va_G} {q : Nat → ClassId} {a0 : Nat → Nat} {s0 : Md} {x1 : Int32} {x2 : Int32} {post : Int32 → Prop} (h : wp_X7_entries post s0 x1 x2) : Met l yX7_entries (Cond.code yX7_entries cX7_entries 6 (some .int) :: w_all) ({ frames := 1, cells := 0, slots := 0, locals := 23 } : Room) (rd_P D q [.ref (a0 0), .int x1, .int x2] (md_v a0 q s0)) (vp_Si post) 0 0 (fun _ => False) := by
  refine rd_start (by decide) (Nat.le_of_ble_eq_true rfl) ?_
  intro p e s m below meth c ls hx hb hr hml hown ht hk hP hQ hV hl
  have hK := hQ.1
  have hown : s.vm.findClass RX7 = some m.cls := hown
  have hl : lv_has ls 6 [(0, .ref (a0 0)), (1, .int x1), (2, .int x2)] := hl
  have hP : va_P D vwCl [((a0 0), .inr (6, [.ref (a0 1), .ref (a0 2), .int (s0.1 0), .ref (a0 3), .ref (a0 5), .ref (a0 4), .long s0.2.1, .int (s0.1 1), .int (s0.1 2), .ref (a0 6), .int (s0.1 3), .int (s0.1 4), .ref (a0 7), .int (s0.1 5), .int (s0.1 6), .int (s0.1 7), .int (s0.1 8), .int (s0.1 9), .int (s0.1 10), .int (s0.1 11), .int (s0.1 12), .int (s0.1 13), .int (s0.1 14)])), ((a0 1), .inl (q 1, 6896, .inr (.inl (s0.2.2.1 0)))), ((a0 2), .inl (q 1, 68960, .inr (.inl (s0.2.2.1 1)))), ((a0 3), .inl (q 1, 13792, .inr (.inl (s0.2.2.1 2)))), ((a0 4), .inl (q 1, 6896, .inr (.inl (s0.2.2.1 3)))), ((a0 5), .inl (q 3, 2, .inl (s0.2.2.2 0))), ((a0 6), .inl (q 0, 40, .inl (s0.2.2.2 1))), ((a0 7), .inl (q 2, 400, .inl (s0.2.2.2 2)))] s.heap := hP
  unfold wp_X7_entries at h
  refine lv_iconst (v := 0) hx hb dX7_entries_0 (by decide) ?_
  refine lv_istore_n (lv' := [(3, .int 0), (0, .ref (a0 0)), (1, .int x1), (2, .int x2)]) hx hb dX7_entries_1 rfl hl (by decide) rfl (fun ls hl => ?_)
  refine lv_iconst (v := 0) hx hb dX7_entries_2 (by decide) ?_
  refine lv_istore (lv' := [(4, .int 0), (3, .int 0), (0, .ref (a0 0)), (1, .int x1), (2, .int x2)]) hx hb dX7_entries_3 hl (by decide) rfl (fun ls hl => ?_)
  have lp5 : ∀ (e70 : Int32 → Int32 → Int32 → Int32 → Prop) (k70 : ∀ (z1 : Int32) (z2 : Int32) (z3 : Int32) (z4 : Int32) (ls : Array Slot), e70 z1 z2 z3 z4 → lv_has ls 6 [(1, .int z1), (2, .int z2), (3, .int z3), (4, .int z4), (0, .ref (a0 0))] → W p l e ({ frames := 1, cells := 0, slots := 0, locals := 23 } : Room) s m [.ref (a0 0), .int x1, .int x2].toArray below meth c s.heap [] 0 0 (MQ below (vp_Si post) [.ref (a0 0), .int x1, .int x2].toArray s 0 0 (fun _ => False)) (F0 m 70 ls [])) (n : Nat) (z1 : Int32) (z2 : Int32) (z3 : Int32) (z4 : Int32) (ls : Array Slot), wp_X7_entries_L5 s0 post e70 n z1 z2 z3 z4 → lv_has ls 6 [(1, .int z1), (2, .int z2), (3, .int z3), (4, .int z4), (0, .ref (a0 0))] → W p l e ({ frames := 1, cells := 0, slots := 0, locals := 23 } : Room) s m [.ref (a0 0), .int x1, .int x2].toArray below meth c s.heap [] 0 0 (MQ below (vp_Si post) [.ref (a0 0), .int x1, .int x2].toArray s 0 0 (fun _ => False)) (F0 m 5 ls []) := by
    intro e70 k70 n
    induction n with
    | zero =>
      intro z1 z2 z3 z4 ls h
      exact h.elim
    | succ n ih =>
      intro z1 z2 z3 z4 ls h hl
      unfold wp_X7_entries_L5 at h
      refine lv_iload hx hb dX7_entries_5 (lv_at hl 3 rfl) ?_
      refine lv_bipush (v := 40) hx hb dX7_entries_7 (by decide) ?_
      refine lv_icmp_ge (tgt := 70) hx hb dX7_entries_9 (by decide) (fun c_1 => ?_) (fun c_1 => ?_)
      · replace h := h.1 c_1
        exact k70 _ _ _ _ ls h (lv_sub hl [0, 1, 2, 3, 4] rfl)
      · replace h := h.2 c_1
        refine lv_iconst (v := 0) hx hb dX7_entries_12 (by decide) ?_
        refine lv_istore (lv' := [(5, .int 0), (1, .int z1), (2, .int z2), (3, .int z3), (4, .int z4), (0, .ref (a0 0))]) hx hb dX7_entries_13 hl (by decide) rfl (fun ls hl => ?_)
        have lp15 : ∀ (e64 : Int32 → Int32 → Int32 → Int32 → Int32 → Prop) (k64 : ∀ (z1 : Int32) (z2 : Int32) (z3 : Int32) (z4 : Int32) (z5 : Int32) (ls : Array Slot), e64 z1 z2 z3 z4 z5 → lv_has ls 6 [(1, .int z1), (2, .int z2), (3, .int z3), (4, .int z4), (5, .int z5), (0, .ref (a0 0))] → W p l e ({ frames := 1, cells := 0, slots := 0, locals := 23 } : Room) s m [.ref (a0 0), .int x1, .int x2].toArray below meth c s.heap [] 0 0 (MQ below (vp_Si post) [.ref (a0 0), .int x1, .int x2].toArray s 0 0 (fun _ => False)) (F0 m 64 ls [])) (n : Nat) (z1 : Int32) (z2 : Int32) (z3 : Int32) (z4 : Int32) (z5 : Int32) (ls : Array Slot), wp_X7_entries_L15 s0 post e64 n z1 z2 z3 z4 z5 → lv_has ls 6 [(1, .int z1), (2, .int z2), (3, .int z3), (4, .int z4), (5, .int z5), (0, .ref (a0 0))] → W p l e ({ frames := 1, cells := 0, slots := 0, locals := 23 } : Room) s m [.ref (a0 0), .int x1, .int x2].toArray below meth c s.heap [] 0 0 (MQ below (vp_Si post) [.ref (a0 0), .int x1, .int x2].toArray s 0 0 (fun _ => False)) (F0 m 15 ls []) := by
          intro e64 k64 n
          induction n with
          | zero =>
            intro z1 z2 z3 z4 z5 ls h
            exact h.elim
          | succ n ih =>
            intro z1 z2 z3 z4 z5 ls h hl
            unfold wp_X7_entries_L15 at h
            refine lv_iload hx hb dX7_entries_15 (lv_at hl 4 rfl) ?_
            refine lv_bipush (v := 40) hx hb dX7_entries_17 (by decide) ?_
            refine lv_icmp_ge (tgt := 64) hx hb dX7_entries_19 (by decide) (fun c_2 => ?_) (fun c_2 => ?_)
            · replace h := h.1 c_2
              exact k64 _ _ _ _ _ ls h (lv_sub hl [0, 1, 2, 3, 4, 5] rfl)
            · replace h := h.2 c_2
              refine lv_iload_n hx hb dX7_entries_22 rfl (lv_at hl 2 rfl) ?_
              refine lv_iload_n hx hb dX7_entries_23 rfl (lv_at hl 1 rfl) ?_
              refine lv_if_eq (tgt := 47) hx hb dX7_entries_24 (by decide) (fun c_3 => ?_) (fun c_3 => ?_)
              · replace h := h.1 c_3
                refine lv_aload_n hx hb dX7_entries_47 rfl (lv_at hl 5 rfl) ?_
                refine lv_iload_n hx hb dX7_entries_48 rfl (lv_at hl 0 rfl) ?_
                refine lv_iload hx hb dX7_entries_49 (lv_at hl 3 rfl) ?_
                refine lv_iload hx hb dX7_entries_51 (lv_at hl 4 rfl) ?_
                refine vp_callSi (rd_wV (wc := md_v a0 q s0) (As := [.int z1, .int z4, .int z5]) (rest := [.int z3]) hx hb hml hown ht (c2_X7_logged h) wd_X7_logged mw_1515 hQ hV va_S.rf (hP.sub [0, 1, 2, 3, 4, 5, 6, 7] rfl) rfl rfl rfl hl.1 rfl (Nat.le_of_ble_eq_true rfl) dX7_entries_53 ⟨Nat.le_of_ble_eq_true rfl, Nat.le_of_ble_eq_true rfl, rfl, rfl⟩ ⟨Nat.le_of_ble_eq_true rfl, Nat.le_of_ble_eq_true rfl⟩) (fun r_4 h => ?_)
                try dsimp only at h
                refine lv_iadd hx hb dX7_entries_56 ?_
                refine lv_istore_n (lv' := [(3, .int (z3 + r_4)), (1, .int z1), (2, .int z2), (4, .int z4), (5, .int z5), (0, .ref (a0 0))]) hx hb dX7_entries_57 rfl hl (by decide) rfl (fun ls hl => ?_)
                refine lv_iinc (v := (z5 + 1)) (lv' := [(5, .int (z5 + 1)), (3, .int (z3 + r_4)), (1, .int z1), (2, .int z2), (4, .int z4), (0, .ref (a0 0))]) hx hb dX7_entries_58 hl (k := 4) rfl rfl (by decide) rfl (fun ls hl => ?_)
                refine lv_goto (tgt := 15) hx hb dX7_entries_61 (by decide) ?_
                exact ih _ _ _ _ _ ls h (lv_sub hl [2, 3, 1, 4, 0, 5] rfl)
              · replace h := h.2 c_3
                refine lv_aload_n hx hb dX7_entries_27 rfl (lv_at hl 5 rfl) ?_
                refine lv_iload_n hx hb dX7_entries_28 rfl (lv_at hl 0 rfl) ?_
                refine lv_iload hx hb dX7_entries_29 (lv_at hl 3 rfl) ?_
                refine lv_iload hx hb dX7_entries_31 (lv_at hl 4 rfl) ?_
                refine vp_callSi (rd_wV (wc := md_v a0 q s0) (As := [.int z1, .int z4, .int z5]) (rest := [.int z3]) hx hb hml hown ht (c2_X7_logged h) wd_X7_logged mw_1515 hQ hV va_S.rf (hP.sub [0, 1, 2, 3, 4, 5, 6, 7] rfl) rfl rfl rfl hl.1 rfl (Nat.le_of_ble_eq_true rfl) dX7_entries_33 ⟨Nat.le_of_ble_eq_true rfl, Nat.le_of_ble_eq_true rfl, rfl, rfl⟩ ⟨Nat.le_of_ble_eq_true rfl, Nat.le_of_ble_eq_true rfl⟩) (fun r_6 h => ?_)
                try dsimp only at h
                refine lv_if_le (tgt := 43) hx hb dX7_entries_36 (by decide) (fun c_8 => ?_) (fun c_8 => ?_)
                · replace h := h.1 c_8
                  refine lv_iconst (v := 0) hx hb dX7_entries_43 (by decide) ?_
                  refine lv_goto (tgt := 56) hx hb dX7_entries_44 (by decide) ?_
                  refine lv_iadd hx hb dX7_entries_56 ?_
                  refine lv_istore_n (lv' := [(3, .int (z3 + 0)), (1, .int z1), (2, .int z2), (4, .int z4), (5, .int z5), (0, .ref (a0 0))]) hx hb dX7_entries_57 rfl hl (by decide) rfl (fun ls hl => ?_)
                  refine lv_iinc (v := (z5 + 1)) (lv' := [(5, .int (z5 + 1)), (3, .int (z3 + 0)), (1, .int z1), (2, .int z2), (4, .int z4), (0, .ref (a0 0))]) hx hb dX7_entries_58 hl (k := 4) rfl rfl (by decide) rfl (fun ls hl => ?_)
                  refine lv_goto (tgt := 15) hx hb dX7_entries_61 (by decide) ?_
                  exact ih _ _ _ _ _ ls h (lv_sub hl [2, 3, 1, 4, 0, 5] rfl)
                · replace h := h.2 c_8
                  refine lv_iconst (v := 1) hx hb dX7_entries_39 (by decide) ?_
                  refine lv_goto (tgt := 56) hx hb dX7_entries_40 (by decide) ?_
                  refine lv_iadd hx hb dX7_entries_56 ?_
                  refine lv_istore_n (lv' := [(3, .int (z3 + 1)), (1, .int z1), (2, .int z2), (4, .int z4), (5, .int z5), (0, .ref (a0 0))]) hx hb dX7_entries_57 rfl hl (by decide) rfl (fun ls hl => ?_)
                  refine lv_iinc (v := (z5 + 1)) (lv' := [(5, .int (z5 + 1)), (3, .int (z3 + 1)), (1, .int z1), (2, .int z2), (4, .int z4), (0, .ref (a0 0))]) hx hb dX7_entries_58 hl (k := 4) rfl rfl (by decide) rfl (fun ls hl => ?_)
                  refine lv_goto (tgt := 15) hx hb dX7_entries_61 (by decide) ?_
                  exact ih _ _ _ _ _ ls h (lv_sub hl [2, 3, 1, 4, 0, 5] rfl)
        obtain ⟨n15, h⟩ := h
        refine lp15 _ ?_ n15 _ _ _ _ _ ls h (lv_sub hl [1, 2, 3, 4, 0, 5] rfl)
        · intro z1 z2 z3 z4 z5 ls h hl
          try dsimp only at h
          refine lv_iinc (v := (z4 + 1)) (lv' := [(4, .int (z4 + 1)), (1, .int z1), (2, .int z2), (3, .int z3), (5, .int z5), (0, .ref (a0 0))]) hx hb dX7_entries_64 hl (k := 3) rfl rfl (by decide) rfl (fun ls hl => ?_)
          refine lv_goto (tgt := 5) hx hb dX7_entries_67 (by decide) ?_
          exact ih _ _ _ _ ls h (lv_sub hl [1, 2, 3, 0, 5] rfl)
  obtain ⟨n5, h⟩ := h
  refine lp5 _ ?_ n5 _ _ _ _ ls h (lv_sub hl [3, 4, 1, 0, 2] rfl)
  · intro z1 z2 z3 z4 ls h hl
    try dsimp only at h
    refine lv_iload_n hx hb dX7_entries_70 rfl (lv_at hl 2 rfl) ?_
    exact rd_iret hx hb hr hk h dX7_entries_71

def wp_X7_log (post : Int32 → Prop) (s0 : Md) (x1 : Int32) (x2 : Int32) : Prop := wp_X7_isDrum (fun r_1 => ((r_1 = 0 → post (-1)) ∧ (¬ r_1 = 0 → wp_X7_in (fun r_4 => ((¬ r_4 = 0 → ((¬ x2 = 0 → ((¬ x2 = 2 → wp_X7_entries (fun r_9 => post r_9) s0 x1 (0 : Int32)) ∧ (x2 = 2 → wp_X7_entries (fun r_11 => post r_11) s0 x1 (1 : Int32)))) ∧ (x2 = 0 → wp_X7_journey (fun r_13 => post r_13) s0 x1 (0 : Int32) (0 : Int32)))) ∧ (r_4 = 0 → post (-1)))) (Int32.toInt64 x2) (0 : Int64) (2 : Int64)))) s0 x1
set_option maxHeartbeats 4000000 in
set_option maxRecDepth 100000 in
theorem c2_X7_log {l : Launch} {D : va_G} {q : Nat → ClassId} {a0 : Nat → Nat} {s0 : Md} {x1 : Int32} {x2 : Int32} {post : Int32 → Prop} (h : wp_X7_log post s0 x1 x2) : Met l yX7_log (Cond.code yX7_log cX7_log 3 (some .int) :: w_all) ({ frames := 2, cells := 0, slots := 0, locals := 50 } : Room) (rd_P D q [.ref (a0 0), .int x1, .int x2] (md_v a0 q s0)) (vp_Si post) 0 0 (fun _ => False) := by
  refine rd_start (by decide) (Nat.le_of_ble_eq_true rfl) ?_
  intro p e s m below meth c ls hx hb hr hml hown ht hk hP hQ hV hl
  have hK := hQ.1
  have hown : s.vm.findClass RX7 = some m.cls := hown
  have hl : lv_has ls 3 [(0, .ref (a0 0)), (1, .int x1), (2, .int x2)] := hl
  have hP : va_P D vwCl [((a0 0), .inr (6, [.ref (a0 1), .ref (a0 2), .int (s0.1 0), .ref (a0 3), .ref (a0 5), .ref (a0 4), .long s0.2.1, .int (s0.1 1), .int (s0.1 2), .ref (a0 6), .int (s0.1 3), .int (s0.1 4), .ref (a0 7), .int (s0.1 5), .int (s0.1 6), .int (s0.1 7), .int (s0.1 8), .int (s0.1 9), .int (s0.1 10), .int (s0.1 11), .int (s0.1 12), .int (s0.1 13), .int (s0.1 14)])), ((a0 1), .inl (q 1, 6896, .inr (.inl (s0.2.2.1 0)))), ((a0 2), .inl (q 1, 68960, .inr (.inl (s0.2.2.1 1)))), ((a0 3), .inl (q 1, 13792, .inr (.inl (s0.2.2.1 2)))), ((a0 4), .inl (q 1, 6896, .inr (.inl (s0.2.2.1 3)))), ((a0 5), .inl (q 3, 2, .inl (s0.2.2.2 0))), ((a0 6), .inl (q 0, 40, .inl (s0.2.2.2 1))), ((a0 7), .inl (q 2, 400, .inl (s0.2.2.2 2)))] s.heap := hP
  unfold wp_X7_log at h
  refine lv_aload_n hx hb dX7_log_0 rfl (lv_at hl 0 rfl) ?_
  refine lv_iload_n hx hb dX7_log_1 rfl (lv_at hl 1 rfl) ?_
  refine vp_callSi (rd_wV (wc := md_v a0 q s0) (As := [.int x1]) (rest := []) hx hb hml hown ht (c2_X7_isDrum h) wd_X7_isDrum mw_1373 hQ hV va_S.rf (hP.sub [0, 1, 2, 3, 4, 5, 6, 7] rfl) rfl rfl rfl hl.1 rfl (Nat.le_of_ble_eq_true rfl) dX7_log_2 ⟨Nat.le_of_ble_eq_true rfl, Nat.le_of_ble_eq_true rfl, rfl, rfl⟩ ⟨Nat.le_of_ble_eq_true rfl, Nat.le_of_ble_eq_true rfl⟩) (fun r_1 h => ?_)
  try dsimp only at h
  refine lv_if_eq (tgt := 20) hx hb dX7_log_5 (by decide) (fun c_3 => ?_) (fun c_3 => ?_)
  · replace h := h.1 c_3
    refine lv_iconst (v := (-1)) hx hb dX7_log_20 (by decide) ?_
    exact rd_iret hx hb hr hk h dX7_log_21
  · replace h := h.2 c_3
    refine lv_iload_n hx hb dX7_log_8 rfl (lv_at hl 2 rfl) ?_
    refine lv_i2l (v := (Int32.toInt64 x2)) hx hb dX7_log_9 rfl ?_
    refine lv_lconst (v := 0) hx hb dX7_log_10 (by decide) ?_
    refine lv_ldc2 (v := 2) hx hb hown (ht _ mw_1421) dX7_log_11 ?_
    refine vp_callSi (rd_wS (wc := ([] : va_W)) (As := [.long (Int32.toInt64 x2), .long 0, .long 2]) (rest := []) hx hb hml hown ht (c2_X7_in h) wd_X7_in mw_1213 hQ hV va_S.rf (hP.sub [] rfl) rfl hl.1 rfl (Nat.le_of_ble_eq_true rfl) dX7_log_14 ⟨Nat.le_of_ble_eq_true rfl, Nat.le_of_ble_eq_true rfl, rfl, rfl⟩ ⟨Nat.le_of_ble_eq_true rfl, Nat.le_of_ble_eq_true rfl⟩) (fun r_4 h => ?_)
    try dsimp only at h
    refine lv_if_ne (tgt := 22) hx hb dX7_log_17 (by decide) (fun c_6 => ?_) (fun c_6 => ?_)
    · replace h := h.1 c_6
      refine lv_iload_n hx hb dX7_log_22 rfl (lv_at hl 2 rfl) ?_
      refine lv_if_ne (tgt := 36) hx hb dX7_log_23 (by decide) (fun c_7 => ?_) (fun c_7 => ?_)
      · replace h := h.1 c_7
        refine lv_aload_n hx hb dX7_log_36 rfl (lv_at hl 0 rfl) ?_
        refine lv_iload_n hx hb dX7_log_37 rfl (lv_at hl 1 rfl) ?_
        refine lv_iload_n hx hb dX7_log_38 rfl (lv_at hl 2 rfl) ?_
        refine lv_iconst (v := 2) hx hb dX7_log_39 (by decide) ?_
        refine lv_icmp_ne (tgt := 47) hx hb dX7_log_40 (by decide) (fun c_8 => ?_) (fun c_8 => ?_)
        · replace h := h.1 c_8
          refine lv_iconst (v := 0) hx hb dX7_log_47 (by decide) ?_
          refine vp_callSi (rd_wV (wc := md_v a0 q s0) (As := [.int x1, .int 0]) (rest := []) hx hb hml hown ht (c2_X7_entries h) wd_X7_entries mw_1522 hQ hV va_S.rf (hP.sub [0, 1, 2, 3, 4, 5, 6, 7] rfl) rfl rfl rfl hl.1 rfl (Nat.le_of_ble_eq_true rfl) dX7_log_48 ⟨Nat.le_of_ble_eq_true rfl, Nat.le_of_ble_eq_true rfl, rfl, rfl⟩ ⟨Nat.le_of_ble_eq_true rfl, Nat.le_of_ble_eq_true rfl⟩) (fun r_9 h => ?_)
          try dsimp only at h
          exact rd_iret hx hb hr hk h dX7_log_51
        · replace h := h.2 c_8
          refine lv_iconst (v := 1) hx hb dX7_log_43 (by decide) ?_
          refine lv_goto (tgt := 48) hx hb dX7_log_44 (by decide) ?_
          refine vp_callSi (rd_wV (wc := md_v a0 q s0) (As := [.int x1, .int 1]) (rest := []) hx hb hml hown ht (c2_X7_entries h) wd_X7_entries mw_1522 hQ hV va_S.rf (hP.sub [0, 1, 2, 3, 4, 5, 6, 7] rfl) rfl rfl rfl hl.1 rfl (Nat.le_of_ble_eq_true rfl) dX7_log_48 ⟨Nat.le_of_ble_eq_true rfl, Nat.le_of_ble_eq_true rfl, rfl, rfl⟩ ⟨Nat.le_of_ble_eq_true rfl, Nat.le_of_ble_eq_true rfl⟩) (fun r_11 h => ?_)
          try dsimp only at h
          exact rd_iret hx hb hr hk h dX7_log_51
      · replace h := h.2 c_7
        refine lv_aload_n hx hb dX7_log_26 rfl (lv_at hl 0 rfl) ?_
        refine lv_iload_n hx hb dX7_log_27 rfl (lv_at hl 1 rfl) ?_
        refine lv_iconst (v := 0) hx hb dX7_log_28 (by decide) ?_
        refine lv_iconst (v := 0) hx hb dX7_log_29 (by decide) ?_
        refine vp_callSi (rd_wV (wc := md_v a0 q s0) (As := [.int x1, .int 0, .int 0]) (rest := []) hx hb hml hown ht (c2_X7_journey h) wd_X7_journey mw_1511 hQ hV va_S.rf (hP.sub [0, 1, 2, 3, 4, 5, 6, 7] rfl) rfl rfl rfl hl.1 rfl (Nat.le_of_ble_eq_true rfl) dX7_log_30 ⟨Nat.le_of_ble_eq_true rfl, Nat.le_of_ble_eq_true rfl, rfl, rfl⟩ ⟨Nat.le_of_ble_eq_true rfl, Nat.le_of_ble_eq_true rfl⟩) (fun r_13 h => ?_)
        try dsimp only at h
        refine lv_goto (tgt := 51) hx hb dX7_log_33 (by decide) ?_
        exact rd_iret hx hb hr hk h dX7_log_51
    · replace h := h.2 c_6
      refine lv_iconst (v := (-1)) hx hb dX7_log_20 (by decide) ?_
      exact rd_iret hx hb hr hk h dX7_log_21

def wp_X7_often_L33 (s0 : Md) (post : Int32 → Prop) (e74 : Int32 → Int32 → Int32 → Int32 → Int32 → Prop) : Nat → Int32 → Int32 → Int32 → Int32 → Int32 → Prop
  | 0, _, _, _, _, _ => False
  | n33 + 1, z1, z2, z3, z4, z5 => ((40 ≤ z5 → e74 z1 z2 z3 z4 z5) ∧ (¬ 40 ≤ z5 → ((z3 = 0 → wp_X7_logged (fun r_11 => wp_X7_often_L33 s0 post e74 n33 z1 z2 z3 (z4 + r_11) (z5 + 1)) s0 z1 z2 z5) ∧ (¬ z3 = 0 → wp_X7_logged (fun r_13 => wp_X7_often_L33 s0 post e74 n33 z1 z2 z3 (z4 + r_13) (z5 + 1)) s0 z1 z5 z2))))
def wp_X7_often (post : Int32 → Prop) (s0 : Md) (x1 : Int32) (x2 : Int32) (x3 : Int32) : Prop := wp_X7_isDrum (fun r_1 => ((r_1 = 0 → post (-1)) ∧ (¬ r_1 = 0 → wp_X7_flapsOf (fun r_4 => wp_X7_in (fun r_6 => ((¬ r_6 = 0 → (∃ n33, wp_X7_often_L33 s0 post (fun z1 z2 z3 z4 z5 => post z4) n33 x1 x2 x3 0 0)) ∧ (r_6 = 0 → post (-1)))) (Int32.toInt64 x2) (0 : Int64) (Int32.toInt64 (r_4 - 1))) s0 x1))) s0 x1
set_option maxHeartbeats 4000000 in
set_option maxRecDepth 100000 in
theorem c2_X7_often {l : Launch} {D : va_G} {q : Nat → ClassId} {a0 : Nat → Nat} {s0 : Md} {x1 : Int32} {x2 : Int32} {x3 : Int32} {post : Int32 → Prop} (h : wp_X7_often post s0 x1 x2 x3) : Met l yX7_often (Cond.code yX7_often cX7_often 6 (some .int) :: w_all) ({ frames := 2, cells := 0, slots := 0, locals := 46 } : Room) (rd_P D q [.ref (a0 0), .int x1, .int x2, .int x3] (md_v a0 q s0)) (vp_Si post) 0 0 (fun _ => False) := by
  refine rd_start (by decide) (Nat.le_of_ble_eq_true rfl) ?_
  intro p e s m below meth c ls hx hb hr hml hown ht hk hP hQ hV hl
  have hK := hQ.1
  have hown : s.vm.findClass RX7 = some m.cls := hown
  have hl : lv_has ls 6 [(0, .ref (a0 0)), (1, .int x1), (2, .int x2), (3, .int x3)] := hl
  have hP : va_P D vwCl [((a0 0), .inr (6, [.ref (a0 1), .ref (a0 2), .int (s0.1 0), .ref (a0 3), .ref (a0 5), .ref (a0 4), .long s0.2.1, .int (s0.1 1), .int (s0.1 2), .ref (a0 6), .int (s0.1 3), .int (s0.1 4), .ref (a0 7), .int (s0.1 5), .int (s0.1 6), .int (s0.1 7), .int (s0.1 8), .int (s0.1 9), .int (s0.1 10), .int (s0.1 11), .int (s0.1 12), .int (s0.1 13), .int (s0.1 14)])), ((a0 1), .inl (q 1, 6896, .inr (.inl (s0.2.2.1 0)))), ((a0 2), .inl (q 1, 68960, .inr (.inl (s0.2.2.1 1)))), ((a0 3), .inl (q 1, 13792, .inr (.inl (s0.2.2.1 2)))), ((a0 4), .inl (q 1, 6896, .inr (.inl (s0.2.2.1 3)))), ((a0 5), .inl (q 3, 2, .inl (s0.2.2.2 0))), ((a0 6), .inl (q 0, 40, .inl (s0.2.2.2 1))), ((a0 7), .inl (q 2, 400, .inl (s0.2.2.2 2)))] s.heap := hP
  unfold wp_X7_often at h
  refine lv_aload_n hx hb dX7_often_0 rfl (lv_at hl 0 rfl) ?_
  refine lv_iload_n hx hb dX7_often_1 rfl (lv_at hl 1 rfl) ?_
  refine vp_callSi (rd_wV (wc := md_v a0 q s0) (As := [.int x1]) (rest := []) hx hb hml hown ht (c2_X7_isDrum h) wd_X7_isDrum mw_1373 hQ hV va_S.rf (hP.sub [0, 1, 2, 3, 4, 5, 6, 7] rfl) rfl rfl rfl hl.1 rfl (Nat.le_of_ble_eq_true rfl) dX7_often_2 ⟨Nat.le_of_ble_eq_true rfl, Nat.le_of_ble_eq_true rfl, rfl, rfl⟩ ⟨Nat.le_of_ble_eq_true rfl, Nat.le_of_ble_eq_true rfl⟩) (fun r_1 h => ?_)
  try dsimp only at h
  refine lv_if_eq (tgt := 25) hx hb dX7_often_5 (by decide) (fun c_3 => ?_) (fun c_3 => ?_)
  · replace h := h.1 c_3
    refine lv_iconst (v := (-1)) hx hb dX7_often_25 (by decide) ?_
    exact rd_iret hx hb hr hk h dX7_often_26
  · replace h := h.2 c_3
    refine lv_iload_n hx hb dX7_often_8 rfl (lv_at hl 2 rfl) ?_
    refine lv_i2l (v := (Int32.toInt64 x2)) hx hb dX7_often_9 rfl ?_
    refine lv_lconst (v := 0) hx hb dX7_often_10 (by decide) ?_
    refine lv_aload_n hx hb dX7_often_11 rfl (lv_at hl 0 rfl) ?_
    refine lv_iload_n hx hb dX7_often_12 rfl (lv_at hl 1 rfl) ?_
    refine vp_callSi (rd_wV (wc := md_v a0 q s0) (As := [.int x1]) (rest := [.long 0, .long (Int32.toInt64 x2)]) hx hb hml hown ht (c2_X7_flapsOf h) wd_X7_flapsOf mw_1253 hQ hV va_S.rf (hP.sub [0, 1, 2, 3, 4, 5, 6, 7] rfl) rfl rfl rfl hl.1 rfl (Nat.le_of_ble_eq_true rfl) dX7_often_13 ⟨Nat.le_of_ble_eq_true rfl, Nat.le_of_ble_eq_true rfl, rfl, rfl⟩ ⟨Nat.le_of_ble_eq_true rfl, Nat.le_of_ble_eq_true rfl⟩) (fun r_4 h => ?_)
    try dsimp only at h
    refine lv_iconst (v := 1) hx hb dX7_often_16 (by decide) ?_
    refine lv_isub hx hb dX7_often_17 ?_
    refine lv_i2l (v := (Int32.toInt64 (r_4 - 1))) hx hb dX7_often_18 rfl ?_
    refine vp_callSi (rd_wS (wc := ([] : va_W)) (As := [.long (Int32.toInt64 x2), .long 0, .long (Int32.toInt64 (r_4 - 1))]) (rest := []) hx hb hml hown ht (c2_X7_in h) wd_X7_in mw_1213 hQ hV va_S.rf (hP.sub [] rfl) rfl hl.1 rfl (Nat.le_of_ble_eq_true rfl) dX7_often_19 ⟨Nat.le_of_ble_eq_true rfl, Nat.le_of_ble_eq_true rfl, rfl, rfl⟩ ⟨Nat.le_of_ble_eq_true rfl, Nat.le_of_ble_eq_true rfl⟩) (fun r_6 h => ?_)
    try dsimp only at h
    refine lv_if_ne (tgt := 27) hx hb dX7_often_22 (by decide) (fun c_8 => ?_) (fun c_8 => ?_)
    · replace h := h.1 c_8
      refine lv_iconst (v := 0) hx hb dX7_often_27 (by decide) ?_
      refine lv_istore (lv' := [(4, .int 0), (0, .ref (a0 0)), (1, .int x1), (2, .int x2), (3, .int x3)]) hx hb dX7_often_28 hl (by decide) rfl (fun ls hl => ?_)
      refine lv_iconst (v := 0) hx hb dX7_often_30 (by decide) ?_
      refine lv_istore (lv' := [(5, .int 0), (4, .int 0), (0, .ref (a0 0)), (1, .int x1), (2, .int x2), (3, .int x3)]) hx hb dX7_often_31 hl (by decide) rfl (fun ls hl => ?_)
      have lp33 : ∀ (e74 : Int32 → Int32 → Int32 → Int32 → Int32 → Prop) (k74 : ∀ (z1 : Int32) (z2 : Int32) (z3 : Int32) (z4 : Int32) (z5 : Int32) (ls : Array Slot), e74 z1 z2 z3 z4 z5 → lv_has ls 6 [(1, .int z1), (2, .int z2), (3, .int z3), (4, .int z4), (5, .int z5), (0, .ref (a0 0))] → W p l e ({ frames := 2, cells := 0, slots := 0, locals := 46 } : Room) s m [.ref (a0 0), .int x1, .int x2, .int x3].toArray below meth c s.heap [] 0 0 (MQ below (vp_Si post) [.ref (a0 0), .int x1, .int x2, .int x3].toArray s 0 0 (fun _ => False)) (F0 m 74 ls [])) (n : Nat) (z1 : Int32) (z2 : Int32) (z3 : Int32) (z4 : Int32) (z5 : Int32) (ls : Array Slot), wp_X7_often_L33 s0 post e74 n z1 z2 z3 z4 z5 → lv_has ls 6 [(1, .int z1), (2, .int z2), (3, .int z3), (4, .int z4), (5, .int z5), (0, .ref (a0 0))] → W p l e ({ frames := 2, cells := 0, slots := 0, locals := 46 } : Room) s m [.ref (a0 0), .int x1, .int x2, .int x3].toArray below meth c s.heap [] 0 0 (MQ below (vp_Si post) [.ref (a0 0), .int x1, .int x2, .int x3].toArray s 0 0 (fun _ => False)) (F0 m 33 ls []) := by
        intro e74 k74 n
        induction n with
        | zero =>
          intro z1 z2 z3 z4 z5 ls h
          exact h.elim
        | succ n ih =>
          intro z1 z2 z3 z4 z5 ls h hl
          unfold wp_X7_often_L33 at h
          refine lv_iload hx hb dX7_often_33 (lv_at hl 4 rfl) ?_
          refine lv_bipush (v := 40) hx hb dX7_often_35 (by decide) ?_
          refine lv_icmp_ge (tgt := 74) hx hb dX7_often_37 (by decide) (fun c_9 => ?_) (fun c_9 => ?_)
          · replace h := h.1 c_9
            exact k74 _ _ _ _ _ ls h (lv_sub hl [0, 1, 2, 3, 4, 5] rfl)
          · replace h := h.2 c_9
            refine lv_iload hx hb dX7_often_40 (lv_at hl 3 rfl) ?_
            refine lv_iload_n hx hb dX7_often_42 rfl (lv_at hl 2 rfl) ?_
            refine lv_if_eq (tgt := 57) hx hb dX7_often_43 (by decide) (fun c_10 => ?_) (fun c_10 => ?_)
            · replace h := h.1 c_10
              refine lv_aload_n hx hb dX7_often_57 rfl (lv_at hl 5 rfl) ?_
              refine lv_iload_n hx hb dX7_often_58 rfl (lv_at hl 0 rfl) ?_
              refine lv_iload_n hx hb dX7_often_59 rfl (lv_at hl 1 rfl) ?_
              refine lv_iload hx hb dX7_often_60 (lv_at hl 4 rfl) ?_
              refine vp_callSi (rd_wV (wc := md_v a0 q s0) (As := [.int z1, .int z2, .int z5]) (rest := [.int z4]) hx hb hml hown ht (c2_X7_logged h) wd_X7_logged mw_1515 hQ hV va_S.rf (hP.sub [0, 1, 2, 3, 4, 5, 6, 7] rfl) rfl rfl rfl hl.1 rfl (Nat.le_of_ble_eq_true rfl) dX7_often_62 ⟨Nat.le_of_ble_eq_true rfl, Nat.le_of_ble_eq_true rfl, rfl, rfl⟩ ⟨Nat.le_of_ble_eq_true rfl, Nat.le_of_ble_eq_true rfl⟩) (fun r_11 h => ?_)
              try dsimp only at h
              refine lv_iadd hx hb dX7_often_65 ?_
              refine lv_istore (lv' := [(4, .int (z4 + r_11)), (1, .int z1), (2, .int z2), (3, .int z3), (5, .int z5), (0, .ref (a0 0))]) hx hb dX7_often_66 hl (by decide) rfl (fun ls hl => ?_)
              refine lv_iinc (v := (z5 + 1)) (lv' := [(5, .int (z5 + 1)), (4, .int (z4 + r_11)), (1, .int z1), (2, .int z2), (3, .int z3), (0, .ref (a0 0))]) hx hb dX7_often_68 hl (k := 4) rfl rfl (by decide) rfl (fun ls hl => ?_)
              refine lv_goto (tgt := 33) hx hb dX7_often_71 (by decide) ?_
              exact ih _ _ _ _ _ ls h (lv_sub hl [2, 3, 4, 1, 0, 5] rfl)
            · replace h := h.2 c_10
              refine lv_aload_n hx hb dX7_often_46 rfl (lv_at hl 5 rfl) ?_
              refine lv_iload_n hx hb dX7_often_47 rfl (lv_at hl 0 rfl) ?_
              refine lv_iload hx hb dX7_often_48 (lv_at hl 4 rfl) ?_
              refine lv_iload_n hx hb dX7_often_50 rfl (lv_at hl 1 rfl) ?_
              refine vp_callSi (rd_wV (wc := md_v a0 q s0) (As := [.int z1, .int z5, .int z2]) (rest := [.int z4]) hx hb hml hown ht (c2_X7_logged h) wd_X7_logged mw_1515 hQ hV va_S.rf (hP.sub [0, 1, 2, 3, 4, 5, 6, 7] rfl) rfl rfl rfl hl.1 rfl (Nat.le_of_ble_eq_true rfl) dX7_often_51 ⟨Nat.le_of_ble_eq_true rfl, Nat.le_of_ble_eq_true rfl, rfl, rfl⟩ ⟨Nat.le_of_ble_eq_true rfl, Nat.le_of_ble_eq_true rfl⟩) (fun r_13 h => ?_)
              try dsimp only at h
              refine lv_goto (tgt := 65) hx hb dX7_often_54 (by decide) ?_
              refine lv_iadd hx hb dX7_often_65 ?_
              refine lv_istore (lv' := [(4, .int (z4 + r_13)), (1, .int z1), (2, .int z2), (3, .int z3), (5, .int z5), (0, .ref (a0 0))]) hx hb dX7_often_66 hl (by decide) rfl (fun ls hl => ?_)
              refine lv_iinc (v := (z5 + 1)) (lv' := [(5, .int (z5 + 1)), (4, .int (z4 + r_13)), (1, .int z1), (2, .int z2), (3, .int z3), (0, .ref (a0 0))]) hx hb dX7_often_68 hl (k := 4) rfl rfl (by decide) rfl (fun ls hl => ?_)
              refine lv_goto (tgt := 33) hx hb dX7_often_71 (by decide) ?_
              exact ih _ _ _ _ _ ls h (lv_sub hl [2, 3, 4, 1, 0, 5] rfl)
      obtain ⟨n33, h⟩ := h
      refine lp33 _ ?_ n33 _ _ _ _ _ ls h (lv_sub hl [3, 4, 5, 1, 0, 2] rfl)
      · intro z1 z2 z3 z4 z5 ls h hl
        try dsimp only at h
        refine lv_iload hx hb dX7_often_74 (lv_at hl 3 rfl) ?_
        exact rd_iret hx hb hr hk h dX7_often_76
    · replace h := h.2 c_8
      refine lv_iconst (v := (-1)) hx hb dX7_often_25 (by decide) ?_
      exact rd_iret hx hb hr hk h dX7_often_26

def wp_X7_better_L57 (s0 : Md) (post : Int32 → Prop) (e104 : Int32 → Int32 → Int32 → Int32 → Int32 → Int32 → Int32 → Prop) : Nat → Int32 → Int32 → Int32 → Int32 → Int32 → Int32 → Int32 → Prop
  | 0, _, _, _, _, _, _, _ => False
  | n57 + 1, z1, z2, z3, z4, z5, z6, z7 => wp_X7_flapsOf (fun r_12 => ((r_12 ≤ z7 → e104 z1 z2 z3 z4 z5 z6 z7) ∧ (¬ r_12 ≤ z7 → wp_X7_journey (fun r_15 => ((r_15 < z3 → wp_X7_better_L57 s0 post e104 n57 z1 z2 r_15 z6 z7 z6 (z7 + 1)) ∧ (¬ r_15 < z3 → wp_X7_better_L57 s0 post e104 n57 z1 z2 z3 z4 z5 z6 (z7 + 1)))) s0 z1 z6 z7))) s0 z1
def wp_X7_better_L41 (s0 : Md) (post : Int32 → Prop) (e110 : Int32 → Int32 → Int32 → Int32 → Int32 → Int32 → Prop) : Nat → Int32 → Int32 → Int32 → Int32 → Int32 → Int32 → Prop
  | 0, _, _, _, _, _, _ => False
  | n41 + 1, z1, z2, z3, z4, z5, z6 => wp_X7_flapsOf (fun r_9 => ((r_9 ≤ z6 → e110 z1 z2 z3 z4 z5 z6) ∧ (¬ r_9 ≤ z6 → (∃ n57, wp_X7_better_L57 s0 post (fun z1 z2 z3 z4 z5 z6 z7 => wp_X7_better_L41 s0 post e110 n41 z1 z2 z3 z4 z5 (z6 + 1)) n57 z1 z2 z3 z4 z5 z6 (z6 + 1))))) s0 z1
def wp_X7_better (post : Int32 → Prop) (s0 : Md) (x1 : Int32) (x2 : Int32) : Prop := wp_X7_isDrum (fun r_1 => ((r_1 = 0 → post (-1)) ∧ (¬ r_1 = 0 → wp_X7_in (fun r_4 => ((¬ r_4 = 0 → wp_X7_journey (fun r_7 => (∃ n41, wp_X7_better_L41 s0 post (fun z1 z2 z3 z4 z5 z6 => ((¬ z4 = (-2) → ((¬ z2 = 0 → ((¬ z2 = 1 → post z5) ∧ (z2 = 1 → post z4))) ∧ (z2 = 0 → post z3))) ∧ (z4 = (-2) → post (-2)))) n41 x1 x2 r_7 (-2) (-2) 1)) s0 x1 (0 : Int32) (0 : Int32)) ∧ (r_4 = 0 → post (-1)))) (Int32.toInt64 x2) (0 : Int64) (2 : Int64)))) s0 x1
set_option maxHeartbeats 4000000 in
set_option maxRecDepth 100000 in
theorem c2_X7_better {l : Launch} {D : va_G} {q : Nat → ClassId} {a0 : Nat → Nat} {s0 : Md} {x1 : Int32} {x2 : Int32} {post : Int32 → Prop} (h : wp_X7_better post s0 x1 x2) : Met l yX7_better (Cond.code yX7_better cX7_better 9 (some .int) :: w_all) ({ frames := 2, cells := 0, slots := 0, locals := 50 } : Room) (rd_P D q [.ref (a0 0), .int x1, .int x2] (md_v a0 q s0)) (vp_Si post) 0 0 (fun _ => False) := by
  refine rd_start (by decide) (Nat.le_of_ble_eq_true rfl) ?_
  intro p e s m below meth c ls hx hb hr hml hown ht hk hP hQ hV hl
  have hK := hQ.1
  have hown : s.vm.findClass RX7 = some m.cls := hown
  have hl : lv_has ls 9 [(0, .ref (a0 0)), (1, .int x1), (2, .int x2)] := hl
  have hP : va_P D vwCl [((a0 0), .inr (6, [.ref (a0 1), .ref (a0 2), .int (s0.1 0), .ref (a0 3), .ref (a0 5), .ref (a0 4), .long s0.2.1, .int (s0.1 1), .int (s0.1 2), .ref (a0 6), .int (s0.1 3), .int (s0.1 4), .ref (a0 7), .int (s0.1 5), .int (s0.1 6), .int (s0.1 7), .int (s0.1 8), .int (s0.1 9), .int (s0.1 10), .int (s0.1 11), .int (s0.1 12), .int (s0.1 13), .int (s0.1 14)])), ((a0 1), .inl (q 1, 6896, .inr (.inl (s0.2.2.1 0)))), ((a0 2), .inl (q 1, 68960, .inr (.inl (s0.2.2.1 1)))), ((a0 3), .inl (q 1, 13792, .inr (.inl (s0.2.2.1 2)))), ((a0 4), .inl (q 1, 6896, .inr (.inl (s0.2.2.1 3)))), ((a0 5), .inl (q 3, 2, .inl (s0.2.2.2 0))), ((a0 6), .inl (q 0, 40, .inl (s0.2.2.2 1))), ((a0 7), .inl (q 2, 400, .inl (s0.2.2.2 2)))] s.heap := hP
  unfold wp_X7_better at h
  refine lv_aload_n hx hb dX7_better_0 rfl (lv_at hl 0 rfl) ?_
  refine lv_iload_n hx hb dX7_better_1 rfl (lv_at hl 1 rfl) ?_
  refine vp_callSi (rd_wV (wc := md_v a0 q s0) (As := [.int x1]) (rest := []) hx hb hml hown ht (c2_X7_isDrum h) wd_X7_isDrum mw_1373 hQ hV va_S.rf (hP.sub [0, 1, 2, 3, 4, 5, 6, 7] rfl) rfl rfl rfl hl.1 rfl (Nat.le_of_ble_eq_true rfl) dX7_better_2 ⟨Nat.le_of_ble_eq_true rfl, Nat.le_of_ble_eq_true rfl, rfl, rfl⟩ ⟨Nat.le_of_ble_eq_true rfl, Nat.le_of_ble_eq_true rfl⟩) (fun r_1 h => ?_)
  try dsimp only at h
  refine lv_if_eq (tgt := 20) hx hb dX7_better_5 (by decide) (fun c_3 => ?_) (fun c_3 => ?_)
  · replace h := h.1 c_3
    refine lv_iconst (v := (-1)) hx hb dX7_better_20 (by decide) ?_
    exact rd_iret hx hb hr hk h dX7_better_21
  · replace h := h.2 c_3
    refine lv_iload_n hx hb dX7_better_8 rfl (lv_at hl 2 rfl) ?_
    refine lv_i2l (v := (Int32.toInt64 x2)) hx hb dX7_better_9 rfl ?_
    refine lv_lconst (v := 0) hx hb dX7_better_10 (by decide) ?_
    refine lv_ldc2 (v := 2) hx hb hown (ht _ mw_1421) dX7_better_11 ?_
    refine vp_callSi (rd_wS (wc := ([] : va_W)) (As := [.long (Int32.toInt64 x2), .long 0, .long 2]) (rest := []) hx hb hml hown ht (c2_X7_in h) wd_X7_in mw_1213 hQ hV va_S.rf (hP.sub [] rfl) rfl hl.1 rfl (Nat.le_of_ble_eq_true rfl) dX7_better_14 ⟨Nat.le_of_ble_eq_true rfl, Nat.le_of_ble_eq_true rfl, rfl, rfl⟩ ⟨Nat.le_of_ble_eq_true rfl, Nat.le_of_ble_eq_true rfl⟩) (fun r_4 h => ?_)
    try dsimp only at h
    refine lv_if_ne (tgt := 22) hx hb dX7_better_17 (by decide) (fun c_6 => ?_) (fun c_6 => ?_)
    · replace h := h.1 c_6
      refine lv_aload_n hx hb dX7_better_22 rfl (lv_at hl 0 rfl) ?_
      refine lv_iload_n hx hb dX7_better_23 rfl (lv_at hl 1 rfl) ?_
      refine lv_iconst (v := 0) hx hb dX7_better_24 (by decide) ?_
      refine lv_iconst (v := 0) hx hb dX7_better_25 (by decide) ?_
      refine vp_callSi (rd_wV (wc := md_v a0 q s0) (As := [.int x1, .int 0, .int 0]) (rest := []) hx hb hml hown ht (c2_X7_journey h) wd_X7_journey mw_1511 hQ hV va_S.rf (hP.sub [0, 1, 2, 3, 4, 5, 6, 7] rfl) rfl rfl rfl hl.1 rfl (Nat.le_of_ble_eq_true rfl) dX7_better_26 ⟨Nat.le_of_ble_eq_true rfl, Nat.le_of_ble_eq_true rfl, rfl, rfl⟩ ⟨Nat.le_of_ble_eq_true rfl, Nat.le_of_ble_eq_true rfl⟩) (fun r_7 h => ?_)
      try dsimp only at h
      refine lv_istore_n (lv' := [(3, .int r_7), (0, .ref (a0 0)), (1, .int x1), (2, .int x2)]) hx hb dX7_better_29 rfl hl (by decide) rfl (fun ls hl => ?_)
      refine lv_bipush (v := (-2)) hx hb dX7_better_30 (by decide) ?_
      refine lv_istore (lv' := [(4, .int (-2)), (3, .int r_7), (0, .ref (a0 0)), (1, .int x1), (2, .int x2)]) hx hb dX7_better_32 hl (by decide) rfl (fun ls hl => ?_)
      refine lv_bipush (v := (-2)) hx hb dX7_better_34 (by decide) ?_
      refine lv_istore (lv' := [(5, .int (-2)), (4, .int (-2)), (3, .int r_7), (0, .ref (a0 0)), (1, .int x1), (2, .int x2)]) hx hb dX7_better_36 hl (by decide) rfl (fun ls hl => ?_)
      refine lv_iconst (v := 1) hx hb dX7_better_38 (by decide) ?_
      refine lv_istore (lv' := [(6, .int 1), (5, .int (-2)), (4, .int (-2)), (3, .int r_7), (0, .ref (a0 0)), (1, .int x1), (2, .int x2)]) hx hb dX7_better_39 hl (by decide) rfl (fun ls hl => ?_)
      have lp41 : ∀ (e110 : Int32 → Int32 → Int32 → Int32 → Int32 → Int32 → Prop) (k110 : ∀ (z1 : Int32) (z2 : Int32) (z3 : Int32) (z4 : Int32) (z5 : Int32) (z6 : Int32) (ls : Array Slot), e110 z1 z2 z3 z4 z5 z6 → lv_has ls 9 [(1, .int z1), (2, .int z2), (3, .int z3), (4, .int z4), (5, .int z5), (6, .int z6), (0, .ref (a0 0))] → W p l e ({ frames := 2, cells := 0, slots := 0, locals := 50 } : Room) s m [.ref (a0 0), .int x1, .int x2].toArray below meth c s.heap [] 0 0 (MQ below (vp_Si post) [.ref (a0 0), .int x1, .int x2].toArray s 0 0 (fun _ => False)) (F0 m 110 ls [])) (n : Nat) (z1 : Int32) (z2 : Int32) (z3 : Int32) (z4 : Int32) (z5 : Int32) (z6 : Int32) (ls : Array Slot), wp_X7_better_L41 s0 post e110 n z1 z2 z3 z4 z5 z6 → lv_has ls 9 [(1, .int z1), (2, .int z2), (3, .int z3), (4, .int z4), (5, .int z5), (6, .int z6), (0, .ref (a0 0))] → W p l e ({ frames := 2, cells := 0, slots := 0, locals := 50 } : Room) s m [.ref (a0 0), .int x1, .int x2].toArray below meth c s.heap [] 0 0 (MQ below (vp_Si post) [.ref (a0 0), .int x1, .int x2].toArray s 0 0 (fun _ => False)) (F0 m 41 ls []) := by
        intro e110 k110 n
        induction n with
        | zero =>
          intro z1 z2 z3 z4 z5 z6 ls h
          exact h.elim
        | succ n ih =>
          intro z1 z2 z3 z4 z5 z6 ls h hl
          unfold wp_X7_better_L41 at h
          refine lv_iload hx hb dX7_better_41 (lv_at hl 5 rfl) ?_
          refine lv_aload_n hx hb dX7_better_43 rfl (lv_at hl 6 rfl) ?_
          refine lv_iload_n hx hb dX7_better_44 rfl (lv_at hl 0 rfl) ?_
          refine vp_callSi (rd_wV (wc := md_v a0 q s0) (As := [.int z1]) (rest := [.int z6]) hx hb hml hown ht (c2_X7_flapsOf h) wd_X7_flapsOf mw_1253 hQ hV va_S.rf (hP.sub [0, 1, 2, 3, 4, 5, 6, 7] rfl) rfl rfl rfl hl.1 rfl (Nat.le_of_ble_eq_true rfl) dX7_better_45 ⟨Nat.le_of_ble_eq_true rfl, Nat.le_of_ble_eq_true rfl, rfl, rfl⟩ ⟨Nat.le_of_ble_eq_true rfl, Nat.le_of_ble_eq_true rfl⟩) (fun r_9 h => ?_)
          try dsimp only at h
          refine lv_icmp_ge (tgt := 110) hx hb dX7_better_48 (by decide) (fun c_11 => ?_) (fun c_11 => ?_)
          · replace h := h.1 c_11
            exact k110 _ _ _ _ _ _ ls h (lv_sub hl [0, 1, 2, 3, 4, 5, 6] rfl)
          · replace h := h.2 c_11
            refine lv_iload hx hb dX7_better_51 (lv_at hl 5 rfl) ?_
            refine lv_iconst (v := 1) hx hb dX7_better_53 (by decide) ?_
            refine lv_iadd hx hb dX7_better_54 ?_
            refine lv_istore (lv' := [(7, .int (z6 + 1)), (1, .int z1), (2, .int z2), (3, .int z3), (4, .int z4), (5, .int z5), (6, .int z6), (0, .ref (a0 0))]) hx hb dX7_better_55 hl (by decide) rfl (fun ls hl => ?_)
            have lp57 : ∀ (e104 : Int32 → Int32 → Int32 → Int32 → Int32 → Int32 → Int32 → Prop) (k104 : ∀ (z1 : Int32) (z2 : Int32) (z3 : Int32) (z4 : Int32) (z5 : Int32) (z6 : Int32) (z7 : Int32) (ls : Array Slot), e104 z1 z2 z3 z4 z5 z6 z7 → lv_has ls 9 [(1, .int z1), (2, .int z2), (3, .int z3), (4, .int z4), (5, .int z5), (6, .int z6), (7, .int z7), (0, .ref (a0 0))] → W p l e ({ frames := 2, cells := 0, slots := 0, locals := 50 } : Room) s m [.ref (a0 0), .int x1, .int x2].toArray below meth c s.heap [] 0 0 (MQ below (vp_Si post) [.ref (a0 0), .int x1, .int x2].toArray s 0 0 (fun _ => False)) (F0 m 104 ls [])) (n : Nat) (z1 : Int32) (z2 : Int32) (z3 : Int32) (z4 : Int32) (z5 : Int32) (z6 : Int32) (z7 : Int32) (ls : Array Slot), wp_X7_better_L57 s0 post e104 n z1 z2 z3 z4 z5 z6 z7 → lv_has ls 9 [(1, .int z1), (2, .int z2), (3, .int z3), (4, .int z4), (5, .int z5), (6, .int z6), (7, .int z7), (0, .ref (a0 0))] → W p l e ({ frames := 2, cells := 0, slots := 0, locals := 50 } : Room) s m [.ref (a0 0), .int x1, .int x2].toArray below meth c s.heap [] 0 0 (MQ below (vp_Si post) [.ref (a0 0), .int x1, .int x2].toArray s 0 0 (fun _ => False)) (F0 m 57 ls []) := by
              intro e104 k104 n
              induction n with
              | zero =>
                intro z1 z2 z3 z4 z5 z6 z7 ls h
                exact h.elim
              | succ n ih =>
                intro z1 z2 z3 z4 z5 z6 z7 ls h hl
                unfold wp_X7_better_L57 at h
                refine lv_iload hx hb dX7_better_57 (lv_at hl 6 rfl) ?_
                refine lv_aload_n hx hb dX7_better_59 rfl (lv_at hl 7 rfl) ?_
                refine lv_iload_n hx hb dX7_better_60 rfl (lv_at hl 0 rfl) ?_
                refine vp_callSi (rd_wV (wc := md_v a0 q s0) (As := [.int z1]) (rest := [.int z7]) hx hb hml hown ht (c2_X7_flapsOf h) wd_X7_flapsOf mw_1253 hQ hV va_S.rf (hP.sub [0, 1, 2, 3, 4, 5, 6, 7] rfl) rfl rfl rfl hl.1 rfl (Nat.le_of_ble_eq_true rfl) dX7_better_61 ⟨Nat.le_of_ble_eq_true rfl, Nat.le_of_ble_eq_true rfl, rfl, rfl⟩ ⟨Nat.le_of_ble_eq_true rfl, Nat.le_of_ble_eq_true rfl⟩) (fun r_12 h => ?_)
                try dsimp only at h
                refine lv_icmp_ge (tgt := 104) hx hb dX7_better_64 (by decide) (fun c_14 => ?_) (fun c_14 => ?_)
                · replace h := h.1 c_14
                  exact k104 _ _ _ _ _ _ _ ls h (lv_sub hl [0, 1, 2, 3, 4, 5, 6, 7] rfl)
                · replace h := h.2 c_14
                  refine lv_aload_n hx hb dX7_better_67 rfl (lv_at hl 7 rfl) ?_
                  refine lv_iload_n hx hb dX7_better_68 rfl (lv_at hl 0 rfl) ?_
                  refine lv_iload hx hb dX7_better_69 (lv_at hl 5 rfl) ?_
                  refine lv_iload hx hb dX7_better_71 (lv_at hl 6 rfl) ?_
                  refine vp_callSi (rd_wV (wc := md_v a0 q s0) (As := [.int z1, .int z6, .int z7]) (rest := []) hx hb hml hown ht (c2_X7_journey h) wd_X7_journey mw_1511 hQ hV va_S.rf (hP.sub [0, 1, 2, 3, 4, 5, 6, 7] rfl) rfl rfl rfl hl.1 rfl (Nat.le_of_ble_eq_true rfl) dX7_better_73 ⟨Nat.le_of_ble_eq_true rfl, Nat.le_of_ble_eq_true rfl, rfl, rfl⟩ ⟨Nat.le_of_ble_eq_true rfl, Nat.le_of_ble_eq_true rfl⟩) (fun r_15 h => ?_)
                  try dsimp only at h
                  refine lv_istore (lv' := [(8, .int r_15), (1, .int z1), (2, .int z2), (3, .int z3), (4, .int z4), (5, .int z5), (6, .int z6), (7, .int z7), (0, .ref (a0 0))]) hx hb dX7_better_76 hl (by decide) rfl (fun ls hl => ?_)
                  refine lv_iload hx hb dX7_better_78 (lv_at hl 0 rfl) ?_
                  refine lv_iload_n hx hb dX7_better_80 rfl (lv_at hl 3 rfl) ?_
                  refine lv_icmp_lt (tgt := 87) hx hb dX7_better_81 (by decide) (fun c_17 => ?_) (fun c_17 => ?_)
                  · replace h := h.1 c_17
                    refine lv_iload hx hb dX7_better_87 (lv_at hl 0 rfl) ?_
                    refine lv_istore_n (lv' := [(3, .int r_15), (8, .int r_15), (1, .int z1), (2, .int z2), (4, .int z4), (5, .int z5), (6, .int z6), (7, .int z7), (0, .ref (a0 0))]) hx hb dX7_better_89 rfl hl (by decide) rfl (fun ls hl => ?_)
                    refine lv_iload hx hb dX7_better_90 (lv_at hl 6 rfl) ?_
                    refine lv_istore (lv' := [(4, .int z6), (3, .int r_15), (8, .int r_15), (1, .int z1), (2, .int z2), (5, .int z5), (6, .int z6), (7, .int z7), (0, .ref (a0 0))]) hx hb dX7_better_92 hl (by decide) rfl (fun ls hl => ?_)
                    refine lv_iload hx hb dX7_better_94 (lv_at hl 7 rfl) ?_
                    refine lv_istore (lv' := [(5, .int z7), (4, .int z6), (3, .int r_15), (8, .int r_15), (1, .int z1), (2, .int z2), (6, .int z6), (7, .int z7), (0, .ref (a0 0))]) hx hb dX7_better_96 hl (by decide) rfl (fun ls hl => ?_)
                    refine lv_iinc (v := (z7 + 1)) (lv' := [(7, .int (z7 + 1)), (5, .int z7), (4, .int z6), (3, .int r_15), (8, .int r_15), (1, .int z1), (2, .int z2), (6, .int z6), (0, .ref (a0 0))]) hx hb dX7_better_98 hl (k := 7) rfl rfl (by decide) rfl (fun ls hl => ?_)
                    refine lv_goto (tgt := 57) hx hb dX7_better_101 (by decide) ?_
                    exact ih _ _ _ _ _ _ _ ls h (lv_sub hl [5, 6, 3, 2, 1, 7, 0, 8] rfl)
                  · replace h := h.2 c_17
                    refine lv_goto (tgt := 98) hx hb dX7_better_84 (by decide) ?_
                    refine lv_iinc (v := (z7 + 1)) (lv' := [(7, .int (z7 + 1)), (8, .int r_15), (1, .int z1), (2, .int z2), (3, .int z3), (4, .int z4), (5, .int z5), (6, .int z6), (0, .ref (a0 0))]) hx hb dX7_better_98 hl (k := 7) rfl rfl (by decide) rfl (fun ls hl => ?_)
                    refine lv_goto (tgt := 57) hx hb dX7_better_101 (by decide) ?_
                    exact ih _ _ _ _ _ _ _ ls h (lv_sub hl [2, 3, 4, 5, 6, 7, 0, 8] rfl)
            obtain ⟨n57, h⟩ := h
            refine lp57 _ ?_ n57 _ _ _ _ _ _ _ ls h (lv_sub hl [1, 2, 3, 4, 5, 6, 0, 7] rfl)
            · intro z1 z2 z3 z4 z5 z6 z7 ls h hl
              try dsimp only at h
              refine lv_iinc (v := (z6 + 1)) (lv' := [(6, .int (z6 + 1)), (1, .int z1), (2, .int z2), (3, .int z3), (4, .int z4), (5, .int z5), (7, .int z7), (0, .ref (a0 0))]) hx hb dX7_better_104 hl (k := 5) rfl rfl (by decide) rfl (fun ls hl => ?_)
              refine lv_goto (tgt := 41) hx hb dX7_better_107 (by decide) ?_
              exact ih _ _ _ _ _ _ ls h (lv_sub hl [1, 2, 3, 4, 5, 0, 7] rfl)
      obtain ⟨n41, h⟩ := h
      refine lp41 _ ?_ n41 _ _ _ _ _ _ ls h (lv_sub hl [5, 6, 3, 2, 1, 0, 4] rfl)
      · intro z1 z2 z3 z4 z5 z6 ls h hl
        try dsimp only at h
        refine lv_iload hx hb dX7_better_110 (lv_at hl 3 rfl) ?_
        refine lv_bipush (v := (-2)) hx hb dX7_better_112 (by decide) ?_
        refine lv_icmp_ne (tgt := 122) hx hb dX7_better_114 (by decide) (fun c_18 => ?_) (fun c_18 => ?_)
        · replace h := h.1 c_18
          refine lv_iload_n hx hb dX7_better_122 rfl (lv_at hl 1 rfl) ?_
          refine lv_if_ne (tgt := 130) hx hb dX7_better_123 (by decide) (fun c_19 => ?_) (fun c_19 => ?_)
          · replace h := h.1 c_19
            refine lv_iload_n hx hb dX7_better_130 rfl (lv_at hl 1 rfl) ?_
            refine lv_iconst (v := 1) hx hb dX7_better_131 (by decide) ?_
            refine lv_icmp_ne (tgt := 140) hx hb dX7_better_132 (by decide) (fun c_20 => ?_) (fun c_20 => ?_)
            · replace h := h.1 c_20
              refine lv_iload hx hb dX7_better_140 (lv_at hl 4 rfl) ?_
              exact rd_iret hx hb hr hk h dX7_better_142
            · replace h := h.2 c_20
              refine lv_iload hx hb dX7_better_135 (lv_at hl 3 rfl) ?_
              refine lv_goto (tgt := 142) hx hb dX7_better_137 (by decide) ?_
              exact rd_iret hx hb hr hk h dX7_better_142
          · replace h := h.2 c_19
            refine lv_iload_n hx hb dX7_better_126 rfl (lv_at hl 2 rfl) ?_
            refine lv_goto (tgt := 142) hx hb dX7_better_127 (by decide) ?_
            exact rd_iret hx hb hr hk h dX7_better_142
        · replace h := h.2 c_18
          refine lv_bipush (v := (-2)) hx hb dX7_better_117 (by decide) ?_
          refine lv_goto (tgt := 142) hx hb dX7_better_119 (by decide) ?_
          exact rd_iret hx hb hr hk h dX7_better_142
    · replace h := h.2 c_6
      refine lv_iconst (v := (-1)) hx hb dX7_better_20 (by decide) ?_
      exact rd_iret hx hb hr hk h dX7_better_21

def wp_X7_farthest_L29 (s0 : Md) (post : Int32 → Prop) (e101 : Int32 → Int32 → Int32 → Int32 → Int32 → Prop) : Nat → Int32 → Int32 → Int32 → Int32 → Int32 → Prop
  | 0, _, _, _, _, _ => False
  | n29 + 1, z1, z2, z3, z4, z5 => ((127 ≤ z5 → e101 z1 z2 z3 z4 z5) ∧ (¬ 127 ≤ z5 → wp_X7_flapFor (fun r_8 => ((r_8 = (-1) → wp_X7_farthest_L29 s0 post e101 n29 z1 z2 z3 z4 (z5 + 1)) ∧ (¬ r_8 = (-1) → wp_X7_of (fun r_11 => wp_X7_flaps (fun r_13 => wp_X7_on (fun r_15 => ((z3 < r_15 → wp_X7_of (fun r_18 => wp_X7_flaps (fun r_20 => wp_X7_on (fun r_22 => wp_X7_farthest_L29 s0 post e101 n29 z1 z2 r_22 z5 (z5 + 1)) r_18 r_8 r_20) s0 z1) s0 z1 (2 : Int32)) ∧ (¬ z3 < r_15 → wp_X7_farthest_L29 s0 post e101 n29 z1 z2 z3 z4 (z5 + 1)))) r_11 r_8 r_13) s0 z1) s0 z1 (2 : Int32)))) s0 z1 z5))
def wp_X7_farthest (post : Int32 → Prop) (s0 : Md) (x1 : Int32) (x2 : Int32) : Prop := wp_X7_isCell (fun r_1 => ((r_1 = 0 → post (-1)) ∧ (¬ r_1 = 0 → wp_X7_in (fun r_4 => ((¬ r_4 = 0 → (∃ n29, wp_X7_farthest_L29 s0 post (fun z1 z2 z3 z4 z5 => ((¬ z2 = 0 → post z4) ∧ (z2 = 0 → post z3))) n29 x1 x2 (-1) (-1) 32)) ∧ (r_4 = 0 → post (-1)))) (Int32.toInt64 x2) (0 : Int64) (1 : Int64)))) s0 x1
set_option maxHeartbeats 4000000 in
set_option maxRecDepth 100000 in
theorem c2_X7_farthest {l : Launch} {D : va_G} {q : Nat → ClassId} {a0 : Nat → Nat} {s0 : Md} {x1 : Int32} {x2 : Int32} {post : Int32 → Prop} (h : wp_X7_farthest post s0 x1 x2) : Met l yX7_farthest (Cond.code yX7_farthest cX7_farthest 7 (some .int) :: w_all) ({ frames := 3, cells := 0, slots := 0, locals := 67 } : Room) (rd_P D q [.ref (a0 0), .int x1, .int x2] (md_v a0 q s0)) (vp_Si post) 0 0 (fun _ => False) := by
  refine rd_start (by decide) (Nat.le_of_ble_eq_true rfl) ?_
  intro p e s m below meth c ls hx hb hr hml hown ht hk hP hQ hV hl
  have hK := hQ.1
  have hown : s.vm.findClass RX7 = some m.cls := hown
  have hl : lv_has ls 7 [(0, .ref (a0 0)), (1, .int x1), (2, .int x2)] := hl
  have hP : va_P D vwCl [((a0 0), .inr (6, [.ref (a0 1), .ref (a0 2), .int (s0.1 0), .ref (a0 3), .ref (a0 5), .ref (a0 4), .long s0.2.1, .int (s0.1 1), .int (s0.1 2), .ref (a0 6), .int (s0.1 3), .int (s0.1 4), .ref (a0 7), .int (s0.1 5), .int (s0.1 6), .int (s0.1 7), .int (s0.1 8), .int (s0.1 9), .int (s0.1 10), .int (s0.1 11), .int (s0.1 12), .int (s0.1 13), .int (s0.1 14)])), ((a0 1), .inl (q 1, 6896, .inr (.inl (s0.2.2.1 0)))), ((a0 2), .inl (q 1, 68960, .inr (.inl (s0.2.2.1 1)))), ((a0 3), .inl (q 1, 13792, .inr (.inl (s0.2.2.1 2)))), ((a0 4), .inl (q 1, 6896, .inr (.inl (s0.2.2.1 3)))), ((a0 5), .inl (q 3, 2, .inl (s0.2.2.2 0))), ((a0 6), .inl (q 0, 40, .inl (s0.2.2.2 1))), ((a0 7), .inl (q 2, 400, .inl (s0.2.2.2 2)))] s.heap := hP
  unfold wp_X7_farthest at h
  refine lv_aload_n hx hb dX7_farthest_0 rfl (lv_at hl 0 rfl) ?_
  refine lv_iload_n hx hb dX7_farthest_1 rfl (lv_at hl 1 rfl) ?_
  refine vp_callSi (rd_wV (wc := md_v a0 q s0) (As := [.int x1]) (rest := []) hx hb hml hown ht (c2_X7_isCell h) wd_X7_isCell mw_1340 hQ hV va_S.rf (hP.sub [0, 1, 2, 3, 4, 5, 6, 7] rfl) rfl rfl rfl hl.1 rfl (Nat.le_of_ble_eq_true rfl) dX7_farthest_2 ⟨Nat.le_of_ble_eq_true rfl, Nat.le_of_ble_eq_true rfl, rfl, rfl⟩ ⟨Nat.le_of_ble_eq_true rfl, Nat.le_of_ble_eq_true rfl⟩) (fun r_1 h => ?_)
  try dsimp only at h
  refine lv_if_eq (tgt := 18) hx hb dX7_farthest_5 (by decide) (fun c_3 => ?_) (fun c_3 => ?_)
  · replace h := h.1 c_3
    refine lv_iconst (v := (-1)) hx hb dX7_farthest_18 (by decide) ?_
    exact rd_iret hx hb hr hk h dX7_farthest_19
  · replace h := h.2 c_3
    refine lv_iload_n hx hb dX7_farthest_8 rfl (lv_at hl 2 rfl) ?_
    refine lv_i2l (v := (Int32.toInt64 x2)) hx hb dX7_farthest_9 rfl ?_
    refine lv_lconst (v := 0) hx hb dX7_farthest_10 (by decide) ?_
    refine lv_lconst (v := 1) hx hb dX7_farthest_11 (by decide) ?_
    refine vp_callSi (rd_wS (wc := ([] : va_W)) (As := [.long (Int32.toInt64 x2), .long 0, .long 1]) (rest := []) hx hb hml hown ht (c2_X7_in h) wd_X7_in mw_1213 hQ hV va_S.rf (hP.sub [] rfl) rfl hl.1 rfl (Nat.le_of_ble_eq_true rfl) dX7_farthest_12 ⟨Nat.le_of_ble_eq_true rfl, Nat.le_of_ble_eq_true rfl, rfl, rfl⟩ ⟨Nat.le_of_ble_eq_true rfl, Nat.le_of_ble_eq_true rfl⟩) (fun r_4 h => ?_)
    try dsimp only at h
    refine lv_if_ne (tgt := 20) hx hb dX7_farthest_15 (by decide) (fun c_6 => ?_) (fun c_6 => ?_)
    · replace h := h.1 c_6
      refine lv_iconst (v := (-1)) hx hb dX7_farthest_20 (by decide) ?_
      refine lv_istore_n (lv' := [(3, .int (-1)), (0, .ref (a0 0)), (1, .int x1), (2, .int x2)]) hx hb dX7_farthest_21 rfl hl (by decide) rfl (fun ls hl => ?_)
      refine lv_iconst (v := (-1)) hx hb dX7_farthest_22 (by decide) ?_
      refine lv_istore (lv' := [(4, .int (-1)), (3, .int (-1)), (0, .ref (a0 0)), (1, .int x1), (2, .int x2)]) hx hb dX7_farthest_23 hl (by decide) rfl (fun ls hl => ?_)
      refine lv_bipush (v := 32) hx hb dX7_farthest_25 (by decide) ?_
      refine lv_istore (lv' := [(5, .int 32), (4, .int (-1)), (3, .int (-1)), (0, .ref (a0 0)), (1, .int x1), (2, .int x2)]) hx hb dX7_farthest_27 hl (by decide) rfl (fun ls hl => ?_)
      have lp29 : ∀ (e101 : Int32 → Int32 → Int32 → Int32 → Int32 → Prop) (k101 : ∀ (z1 : Int32) (z2 : Int32) (z3 : Int32) (z4 : Int32) (z5 : Int32) (ls : Array Slot), e101 z1 z2 z3 z4 z5 → lv_has ls 7 [(1, .int z1), (2, .int z2), (3, .int z3), (4, .int z4), (5, .int z5), (0, .ref (a0 0))] → W p l e ({ frames := 3, cells := 0, slots := 0, locals := 67 } : Room) s m [.ref (a0 0), .int x1, .int x2].toArray below meth c s.heap [] 0 0 (MQ below (vp_Si post) [.ref (a0 0), .int x1, .int x2].toArray s 0 0 (fun _ => False)) (F0 m 101 ls [])) (n : Nat) (z1 : Int32) (z2 : Int32) (z3 : Int32) (z4 : Int32) (z5 : Int32) (ls : Array Slot), wp_X7_farthest_L29 s0 post e101 n z1 z2 z3 z4 z5 → lv_has ls 7 [(1, .int z1), (2, .int z2), (3, .int z3), (4, .int z4), (5, .int z5), (0, .ref (a0 0))] → W p l e ({ frames := 3, cells := 0, slots := 0, locals := 67 } : Room) s m [.ref (a0 0), .int x1, .int x2].toArray below meth c s.heap [] 0 0 (MQ below (vp_Si post) [.ref (a0 0), .int x1, .int x2].toArray s 0 0 (fun _ => False)) (F0 m 29 ls []) := by
        intro e101 k101 n
        induction n with
        | zero =>
          intro z1 z2 z3 z4 z5 ls h
          exact h.elim
        | succ n ih =>
          intro z1 z2 z3 z4 z5 ls h hl
          unfold wp_X7_farthest_L29 at h
          refine lv_iload hx hb dX7_farthest_29 (lv_at hl 4 rfl) ?_
          refine lv_bipush (v := 127) hx hb dX7_farthest_31 (by decide) ?_
          refine lv_icmp_ge (tgt := 101) hx hb dX7_farthest_33 (by decide) (fun c_7 => ?_) (fun c_7 => ?_)
          · replace h := h.1 c_7
            exact k101 _ _ _ _ _ ls h (lv_sub hl [0, 1, 2, 3, 4, 5] rfl)
          · replace h := h.2 c_7
            refine lv_aload_n hx hb dX7_farthest_36 rfl (lv_at hl 5 rfl) ?_
            refine lv_iload_n hx hb dX7_farthest_37 rfl (lv_at hl 0 rfl) ?_
            refine lv_iload hx hb dX7_farthest_38 (lv_at hl 4 rfl) ?_
            refine vp_callSi (rd_wV (wc := md_v a0 q s0) (As := [.int z1, .int z5]) (rest := []) hx hb hml hown ht (c2_X7_flapFor h) wd_X7_flapFor mw_1241 hQ hV va_S.rf (hP.sub [0, 1, 2, 3, 4, 5, 6, 7] rfl) rfl rfl rfl hl.1 rfl (Nat.le_of_ble_eq_true rfl) dX7_farthest_40 ⟨Nat.le_of_ble_eq_true rfl, Nat.le_of_ble_eq_true rfl, rfl, rfl⟩ ⟨Nat.le_of_ble_eq_true rfl, Nat.le_of_ble_eq_true rfl⟩) (fun r_8 h => ?_)
            try dsimp only at h
            refine lv_istore (lv' := [(6, .int r_8), (1, .int z1), (2, .int z2), (3, .int z3), (4, .int z4), (5, .int z5), (0, .ref (a0 0))]) hx hb dX7_farthest_43 hl (by decide) rfl (fun ls hl => ?_)
            refine lv_iload hx hb dX7_farthest_45 (lv_at hl 0 rfl) ?_
            refine lv_iconst (v := (-1)) hx hb dX7_farthest_47 (by decide) ?_
            refine lv_icmp_eq (tgt := 95) hx hb dX7_farthest_48 (by decide) (fun c_10 => ?_) (fun c_10 => ?_)
            · replace h := h.1 c_10
              refine lv_iinc (v := (z5 + 1)) (lv' := [(5, .int (z5 + 1)), (6, .int r_8), (1, .int z1), (2, .int z2), (3, .int z3), (4, .int z4), (0, .ref (a0 0))]) hx hb dX7_farthest_95 hl (k := 5) rfl rfl (by decide) rfl (fun ls hl => ?_)
              refine lv_goto (tgt := 29) hx hb dX7_farthest_98 (by decide) ?_
              exact ih _ _ _ _ _ ls h (lv_sub hl [2, 3, 4, 5, 0, 6] rfl)
            · replace h := h.2 c_10
              refine lv_aload_n hx hb dX7_farthest_51 rfl (lv_at hl 6 rfl) ?_
              refine lv_iload_n hx hb dX7_farthest_52 rfl (lv_at hl 1 rfl) ?_
              refine lv_iconst (v := 2) hx hb dX7_farthest_53 (by decide) ?_
              refine vp_callSi (rd_wV (wc := md_v a0 q s0) (As := [.int z1, .int 2]) (rest := []) hx hb hml hown ht (c2_X7_of h) wd_X7_of mw_1249 hQ hV va_S.rf (hP.sub [0, 1, 2, 3, 4, 5, 6, 7] rfl) rfl rfl rfl hl.1 rfl (Nat.le_of_ble_eq_true rfl) dX7_farthest_54 ⟨Nat.le_of_ble_eq_true rfl, Nat.le_of_ble_eq_true rfl, rfl, rfl⟩ ⟨Nat.le_of_ble_eq_true rfl, Nat.le_of_ble_eq_true rfl⟩) (fun r_11 h => ?_)
              try dsimp only at h
              refine lv_iload hx hb dX7_farthest_57 (lv_at hl 0 rfl) ?_
              refine lv_aload_n hx hb dX7_farthest_59 rfl (lv_at hl 6 rfl) ?_
              refine lv_iload_n hx hb dX7_farthest_60 rfl (lv_at hl 1 rfl) ?_
              refine vp_callSi (rd_wV (wc := md_v a0 q s0) (As := [.int z1]) (rest := [.int r_8, .int r_11]) hx hb hml hown ht (c2_X7_flaps h) wd_X7_flaps mw_1245 hQ hV va_S.rf (hP.sub [0, 1, 2, 3, 4, 5, 6, 7] rfl) rfl rfl rfl hl.1 rfl (Nat.le_of_ble_eq_true rfl) dX7_farthest_61 ⟨Nat.le_of_ble_eq_true rfl, Nat.le_of_ble_eq_true rfl, rfl, rfl⟩ ⟨Nat.le_of_ble_eq_true rfl, Nat.le_of_ble_eq_true rfl⟩) (fun r_13 h => ?_)
              try dsimp only at h
              refine vp_callSi (rd_wS (wc := ([] : va_W)) (As := [.int r_11, .int r_8, .int r_13]) (rest := []) hx hb hml hown ht (c2_X7_on h) wd_X7_on mw_1268 hQ hV va_S.rf (hP.sub [] rfl) rfl hl.1 rfl (Nat.le_of_ble_eq_true rfl) dX7_farthest_64 ⟨Nat.le_of_ble_eq_true rfl, Nat.le_of_ble_eq_true rfl, rfl, rfl⟩ ⟨Nat.le_of_ble_eq_true rfl, Nat.le_of_ble_eq_true rfl⟩) (fun r_15 h => ?_)
              try dsimp only at h
              refine lv_iload_n hx hb dX7_farthest_67 rfl (lv_at hl 3 rfl) ?_
              refine lv_icmp_gt (tgt := 74) hx hb dX7_farthest_68 (by decide) (fun c_17 => ?_) (fun c_17 => ?_)
              · replace h := h.1 c_17
                refine lv_aload_n hx hb dX7_farthest_74 rfl (lv_at hl 6 rfl) ?_
                refine lv_iload_n hx hb dX7_farthest_75 rfl (lv_at hl 1 rfl) ?_
                refine lv_iconst (v := 2) hx hb dX7_farthest_76 (by decide) ?_
                refine vp_callSi (rd_wV (wc := md_v a0 q s0) (As := [.int z1, .int 2]) (rest := []) hx hb hml hown ht (c2_X7_of h) wd_X7_of mw_1249 hQ hV va_S.rf (hP.sub [0, 1, 2, 3, 4, 5, 6, 7] rfl) rfl rfl rfl hl.1 rfl (Nat.le_of_ble_eq_true rfl) dX7_farthest_77 ⟨Nat.le_of_ble_eq_true rfl, Nat.le_of_ble_eq_true rfl, rfl, rfl⟩ ⟨Nat.le_of_ble_eq_true rfl, Nat.le_of_ble_eq_true rfl⟩) (fun r_18 h => ?_)
                try dsimp only at h
                refine lv_iload hx hb dX7_farthest_80 (lv_at hl 0 rfl) ?_
                refine lv_aload_n hx hb dX7_farthest_82 rfl (lv_at hl 6 rfl) ?_
                refine lv_iload_n hx hb dX7_farthest_83 rfl (lv_at hl 1 rfl) ?_
                refine vp_callSi (rd_wV (wc := md_v a0 q s0) (As := [.int z1]) (rest := [.int r_8, .int r_18]) hx hb hml hown ht (c2_X7_flaps h) wd_X7_flaps mw_1245 hQ hV va_S.rf (hP.sub [0, 1, 2, 3, 4, 5, 6, 7] rfl) rfl rfl rfl hl.1 rfl (Nat.le_of_ble_eq_true rfl) dX7_farthest_84 ⟨Nat.le_of_ble_eq_true rfl, Nat.le_of_ble_eq_true rfl, rfl, rfl⟩ ⟨Nat.le_of_ble_eq_true rfl, Nat.le_of_ble_eq_true rfl⟩) (fun r_20 h => ?_)
                try dsimp only at h
                refine vp_callSi (rd_wS (wc := ([] : va_W)) (As := [.int r_18, .int r_8, .int r_20]) (rest := []) hx hb hml hown ht (c2_X7_on h) wd_X7_on mw_1268 hQ hV va_S.rf (hP.sub [] rfl) rfl hl.1 rfl (Nat.le_of_ble_eq_true rfl) dX7_farthest_87 ⟨Nat.le_of_ble_eq_true rfl, Nat.le_of_ble_eq_true rfl, rfl, rfl⟩ ⟨Nat.le_of_ble_eq_true rfl, Nat.le_of_ble_eq_true rfl⟩) (fun r_22 h => ?_)
                try dsimp only at h
                refine lv_istore_n (lv' := [(3, .int r_22), (6, .int r_8), (1, .int z1), (2, .int z2), (4, .int z4), (5, .int z5), (0, .ref (a0 0))]) hx hb dX7_farthest_90 rfl hl (by decide) rfl (fun ls hl => ?_)
                refine lv_iload hx hb dX7_farthest_91 (lv_at hl 5 rfl) ?_
                refine lv_istore (lv' := [(4, .int z5), (3, .int r_22), (6, .int r_8), (1, .int z1), (2, .int z2), (5, .int z5), (0, .ref (a0 0))]) hx hb dX7_farthest_93 hl (by decide) rfl (fun ls hl => ?_)
                refine lv_iinc (v := (z5 + 1)) (lv' := [(5, .int (z5 + 1)), (4, .int z5), (3, .int r_22), (6, .int r_8), (1, .int z1), (2, .int z2), (0, .ref (a0 0))]) hx hb dX7_farthest_95 hl (k := 5) rfl rfl (by decide) rfl (fun ls hl => ?_)
                refine lv_goto (tgt := 29) hx hb dX7_farthest_98 (by decide) ?_
                exact ih _ _ _ _ _ ls h (lv_sub hl [4, 5, 2, 1, 0, 6] rfl)
              · replace h := h.2 c_17
                refine lv_goto (tgt := 95) hx hb dX7_farthest_71 (by decide) ?_
                refine lv_iinc (v := (z5 + 1)) (lv' := [(5, .int (z5 + 1)), (6, .int r_8), (1, .int z1), (2, .int z2), (3, .int z3), (4, .int z4), (0, .ref (a0 0))]) hx hb dX7_farthest_95 hl (k := 5) rfl rfl (by decide) rfl (fun ls hl => ?_)
                refine lv_goto (tgt := 29) hx hb dX7_farthest_98 (by decide) ?_
                exact ih _ _ _ _ _ ls h (lv_sub hl [2, 3, 4, 5, 0, 6] rfl)
      obtain ⟨n29, h⟩ := h
      refine lp29 _ ?_ n29 _ _ _ _ _ ls h (lv_sub hl [4, 5, 2, 1, 0, 3] rfl)
      · intro z1 z2 z3 z4 z5 ls h hl
        try dsimp only at h
        refine lv_iload_n hx hb dX7_farthest_101 rfl (lv_at hl 1 rfl) ?_
        refine lv_if_ne (tgt := 109) hx hb dX7_farthest_102 (by decide) (fun c_24 => ?_) (fun c_24 => ?_)
        · replace h := h.1 c_24
          refine lv_iload hx hb dX7_farthest_109 (lv_at hl 3 rfl) ?_
          exact rd_iret hx hb hr hk h dX7_farthest_111
        · replace h := h.2 c_24
          refine lv_iload_n hx hb dX7_farthest_105 rfl (lv_at hl 2 rfl) ?_
          refine lv_goto (tgt := 111) hx hb dX7_farthest_106 (by decide) ?_
          exact rd_iret hx hb hr hk h dX7_farthest_111
    · replace h := h.2 c_6
      refine lv_iconst (v := (-1)) hx hb dX7_farthest_18 (by decide) ?_
      exact rd_iret hx hb hr hk h dX7_farthest_19

def wp_X7_hasElsewhere_L2 (s0 : Md) (post : Int32 → Prop) (e32 : Int32 → Int32 → Int32 → Prop) : Nat → Int32 → Int32 → Int32 → Prop
  | 0, _, _, _ => False
  | n2 + 1, z1, z2, z3 => wp_X7_drums (fun r_1 => ((r_1 ≤ z3 → e32 z1 z2 z3) ∧ (¬ r_1 ≤ z3 → ((z3 = z1 → wp_X7_hasElsewhere_L2 s0 post e32 n2 z1 z2 (z3 + 1)) ∧ (¬ z3 = z1 → wp_X7_manyWith (fun r_5 => ((r_5 ≤ 0 → wp_X7_hasElsewhere_L2 s0 post e32 n2 z1 z2 (z3 + 1)) ∧ (¬ r_5 ≤ 0 → post 1))) s0 z3 z2))))) s0
def wp_X7_hasElsewhere (post : Int32 → Prop) (s0 : Md) (x1 : Int32) (x2 : Int32) : Prop := (∃ n2, wp_X7_hasElsewhere_L2 s0 post (fun z1 z2 z3 => post 0) n2 x1 x2 0)
set_option maxHeartbeats 4000000 in
set_option maxRecDepth 100000 in
theorem c2_X7_hasElsewhere {l : Launch} {D : va_G} {q : Nat → ClassId} {a0 : Nat → Nat} {s0 : Md} {x1 : Int32} {x2 : Int32} {post : Int32 → Prop} (h : wp_X7_hasElsewhere post s0 x1 x2) : Met l yX7_hasElsewhere (Cond.code yX7_hasElsewhere cX7_hasElsewhere 4 (some .boolean) :: w_all) ({ frames := 2, cells := 0, slots := 0, locals := 46 } : Room) (rd_P D q [.ref (a0 0), .int x1, .int x2] (md_v a0 q s0)) (vp_Si post) 0 0 (fun _ => False) := by
  refine rd_start (by decide) (Nat.le_of_ble_eq_true rfl) ?_
  intro p e s m below meth c ls hx hb hr hml hown ht hk hP hQ hV hl
  have hK := hQ.1
  have hown : s.vm.findClass RX7 = some m.cls := hown
  have hl : lv_has ls 4 [(0, .ref (a0 0)), (1, .int x1), (2, .int x2)] := hl
  have hP : va_P D vwCl [((a0 0), .inr (6, [.ref (a0 1), .ref (a0 2), .int (s0.1 0), .ref (a0 3), .ref (a0 5), .ref (a0 4), .long s0.2.1, .int (s0.1 1), .int (s0.1 2), .ref (a0 6), .int (s0.1 3), .int (s0.1 4), .ref (a0 7), .int (s0.1 5), .int (s0.1 6), .int (s0.1 7), .int (s0.1 8), .int (s0.1 9), .int (s0.1 10), .int (s0.1 11), .int (s0.1 12), .int (s0.1 13), .int (s0.1 14)])), ((a0 1), .inl (q 1, 6896, .inr (.inl (s0.2.2.1 0)))), ((a0 2), .inl (q 1, 68960, .inr (.inl (s0.2.2.1 1)))), ((a0 3), .inl (q 1, 13792, .inr (.inl (s0.2.2.1 2)))), ((a0 4), .inl (q 1, 6896, .inr (.inl (s0.2.2.1 3)))), ((a0 5), .inl (q 3, 2, .inl (s0.2.2.2 0))), ((a0 6), .inl (q 0, 40, .inl (s0.2.2.2 1))), ((a0 7), .inl (q 2, 400, .inl (s0.2.2.2 2)))] s.heap := hP
  unfold wp_X7_hasElsewhere at h
  refine lv_iconst (v := 0) hx hb dX7_hasElsewhere_0 (by decide) ?_
  refine lv_istore_n (lv' := [(3, .int 0), (0, .ref (a0 0)), (1, .int x1), (2, .int x2)]) hx hb dX7_hasElsewhere_1 rfl hl (by decide) rfl (fun ls hl => ?_)
  have lp2 : ∀ (e32 : Int32 → Int32 → Int32 → Prop) (k32 : ∀ (z1 : Int32) (z2 : Int32) (z3 : Int32) (ls : Array Slot), e32 z1 z2 z3 → lv_has ls 4 [(1, .int z1), (2, .int z2), (3, .int z3), (0, .ref (a0 0))] → W p l e ({ frames := 2, cells := 0, slots := 0, locals := 46 } : Room) s m [.ref (a0 0), .int x1, .int x2].toArray below meth c s.heap [] 0 0 (MQ below (vp_Si post) [.ref (a0 0), .int x1, .int x2].toArray s 0 0 (fun _ => False)) (F0 m 32 ls [])) (n : Nat) (z1 : Int32) (z2 : Int32) (z3 : Int32) (ls : Array Slot), wp_X7_hasElsewhere_L2 s0 post e32 n z1 z2 z3 → lv_has ls 4 [(1, .int z1), (2, .int z2), (3, .int z3), (0, .ref (a0 0))] → W p l e ({ frames := 2, cells := 0, slots := 0, locals := 46 } : Room) s m [.ref (a0 0), .int x1, .int x2].toArray below meth c s.heap [] 0 0 (MQ below (vp_Si post) [.ref (a0 0), .int x1, .int x2].toArray s 0 0 (fun _ => False)) (F0 m 2 ls []) := by
    intro e32 k32 n
    induction n with
    | zero =>
      intro z1 z2 z3 ls h
      exact h.elim
    | succ n ih =>
      intro z1 z2 z3 ls h hl
      unfold wp_X7_hasElsewhere_L2 at h
      refine lv_iload_n hx hb dX7_hasElsewhere_2 rfl (lv_at hl 2 rfl) ?_
      refine lv_aload_n hx hb dX7_hasElsewhere_3 rfl (lv_at hl 3 rfl) ?_
      refine vp_callSi (rd_wV (wc := md_v a0 q s0) (As := []) (rest := [.int z3]) hx hb hml hown ht (c2_X7_drums h) wd_X7_drums mw_1287 hQ hV va_S.rf (hP.sub [0, 1, 2, 3, 4, 5, 6, 7] rfl) rfl rfl rfl hl.1 rfl (Nat.le_of_ble_eq_true rfl) dX7_hasElsewhere_4 ⟨Nat.le_of_ble_eq_true rfl, Nat.le_of_ble_eq_true rfl, rfl, rfl⟩ ⟨Nat.le_of_ble_eq_true rfl, Nat.le_of_ble_eq_true rfl⟩) (fun r_1 h => ?_)
      try dsimp only at h
      refine lv_icmp_ge (tgt := 32) hx hb dX7_hasElsewhere_7 (by decide) (fun c_3 => ?_) (fun c_3 => ?_)
      · replace h := h.1 c_3
        exact k32 _ _ _ ls h (lv_sub hl [0, 1, 2, 3] rfl)
      · replace h := h.2 c_3
        refine lv_iload_n hx hb dX7_hasElsewhere_10 rfl (lv_at hl 2 rfl) ?_
        refine lv_iload_n hx hb dX7_hasElsewhere_11 rfl (lv_at hl 0 rfl) ?_
        refine lv_icmp_eq (tgt := 26) hx hb dX7_hasElsewhere_12 (by decide) (fun c_4 => ?_) (fun c_4 => ?_)
        · replace h := h.1 c_4
          refine lv_iinc (v := (z3 + 1)) (lv' := [(3, .int (z3 + 1)), (1, .int z1), (2, .int z2), (0, .ref (a0 0))]) hx hb dX7_hasElsewhere_26 hl (k := 2) rfl rfl (by decide) rfl (fun ls hl => ?_)
          refine lv_goto (tgt := 2) hx hb dX7_hasElsewhere_29 (by decide) ?_
          exact ih _ _ _ ls h (lv_sub hl [1, 2, 0, 3] rfl)
        · replace h := h.2 c_4
          refine lv_aload_n hx hb dX7_hasElsewhere_15 rfl (lv_at hl 3 rfl) ?_
          refine lv_iload_n hx hb dX7_hasElsewhere_16 rfl (lv_at hl 2 rfl) ?_
          refine lv_iload_n hx hb dX7_hasElsewhere_17 rfl (lv_at hl 1 rfl) ?_
          refine vp_callSi (rd_wV (wc := md_v a0 q s0) (As := [.int z3, .int z2]) (rest := []) hx hb hml hown ht (c2_X7_manyWith h) wd_X7_manyWith mw_1409 hQ hV va_S.rf (hP.sub [0, 1, 2, 3, 4, 5, 6, 7] rfl) rfl rfl rfl hl.1 rfl (Nat.le_of_ble_eq_true rfl) dX7_hasElsewhere_18 ⟨Nat.le_of_ble_eq_true rfl, Nat.le_of_ble_eq_true rfl, rfl, rfl⟩ ⟨Nat.le_of_ble_eq_true rfl, Nat.le_of_ble_eq_true rfl⟩) (fun r_5 h => ?_)
          try dsimp only at h
          refine lv_if_le (tgt := 26) hx hb dX7_hasElsewhere_21 (by decide) (fun c_7 => ?_) (fun c_7 => ?_)
          · replace h := h.1 c_7
            refine lv_iinc (v := (z3 + 1)) (lv' := [(3, .int (z3 + 1)), (1, .int z1), (2, .int z2), (0, .ref (a0 0))]) hx hb dX7_hasElsewhere_26 hl (k := 2) rfl rfl (by decide) rfl (fun ls hl => ?_)
            refine lv_goto (tgt := 2) hx hb dX7_hasElsewhere_29 (by decide) ?_
            exact ih _ _ _ ls h (lv_sub hl [1, 2, 0, 3] rfl)
          · replace h := h.2 c_7
            refine lv_iconst (v := 1) hx hb dX7_hasElsewhere_24 (by decide) ?_
            exact rd_zret hx hb hr hk rfl h dX7_hasElsewhere_25
  obtain ⟨n2, h⟩ := h
  refine lp2 _ ?_ n2 _ _ _ ls h (lv_sub hl [2, 3, 0, 1] rfl)
  · intro z1 z2 z3 ls h hl
    try dsimp only at h
    refine lv_iconst (v := 0) hx hb dX7_hasElsewhere_32 (by decide) ?_
    exact rd_zret hx hb hr hk rfl h dX7_hasElsewhere_33

def wp_X7_lacks_L26 (s0 : Md) (post : Int32 → Prop) (e117 : Int32 → Int32 → Int32 → Int32 → Prop) : Nat → Int32 → Int32 → Int32 → Int32 → Prop
  | 0, _, _, _, _ => False
  | n26 + 1, z1, z2, z3, z4 => ((127 ≤ z4 → e117 z1 z2 z3 z4) ∧ (¬ 127 ≤ z4 → wp_X7_of (fun r_8 => wp_X7_manyWith (fun r_10 => ((r_10 ≤ 0 → ((¬ z2 = 0 → wp_X7_of (fun r_14 => wp_X7_hasElsewhere (fun r_16 => ((r_16 = 0 → wp_X7_lacks_L26 s0 post e117 n26 z1 z2 (z3 + 0) (z4 + 1)) ∧ (¬ r_16 = 0 → wp_X7_lacks_L26 s0 post e117 n26 z1 z2 (z3 + 1) (z4 + 1)))) s0 r_14 z4) s0 z1 (0 : Int32)) ∧ (z2 = 0 → wp_X7_lacks_L26 s0 post e117 n26 z1 z2 (z3 + 0) (z4 + 1)))) ∧ (¬ r_10 ≤ 0 → ((¬ z2 = 0 → wp_X7_lacks_L26 s0 post e117 n26 z1 z2 (z3 + 0) (z4 + 1)) ∧ (z2 = 0 → wp_X7_flapFor (fun r_20 => ((¬ r_20 = (-1) → wp_X7_lacks_L26 s0 post e117 n26 z1 z2 (z3 + 0) (z4 + 1)) ∧ (r_20 = (-1) → wp_X7_lacks_L26 s0 post e117 n26 z1 z2 (z3 + 1) (z4 + 1)))) s0 z1 z4))))) s0 r_8 z4) s0 z1 (0 : Int32)))
def wp_X7_lacks (post : Int32 → Prop) (s0 : Md) (x1 : Int32) (x2 : Int32) : Prop := wp_X7_isCell (fun r_1 => ((r_1 = 0 → post (-1)) ∧ (¬ r_1 = 0 → wp_X7_in (fun r_4 => ((¬ r_4 = 0 → (∃ n26, wp_X7_lacks_L26 s0 post (fun z1 z2 z3 z4 => post z3) n26 x1 x2 0 32)) ∧ (r_4 = 0 → post (-1)))) (Int32.toInt64 x2) (0 : Int64) (1 : Int64)))) s0 x1
set_option maxHeartbeats 4000000 in
set_option maxRecDepth 100000 in
theorem c2_X7_lacks {l : Launch} {D : va_G} {q : Nat → ClassId} {a0 : Nat → Nat} {s0 : Md} {x1 : Int32} {x2 : Int32} {post : Int32 → Prop} (h : wp_X7_lacks post s0 x1 x2) : Met l yX7_lacks (Cond.code yX7_lacks cX7_lacks 6 (some .int) :: w_all) ({ frames := 3, cells := 0, slots := 0, locals := 69 } : Room) (rd_P D q [.ref (a0 0), .int x1, .int x2] (md_v a0 q s0)) (vp_Si post) 0 0 (fun _ => False) := by
  refine rd_start (by decide) (Nat.le_of_ble_eq_true rfl) ?_
  intro p e s m below meth c ls hx hb hr hml hown ht hk hP hQ hV hl
  have hK := hQ.1
  have hown : s.vm.findClass RX7 = some m.cls := hown
  have hl : lv_has ls 6 [(0, .ref (a0 0)), (1, .int x1), (2, .int x2)] := hl
  have hP : va_P D vwCl [((a0 0), .inr (6, [.ref (a0 1), .ref (a0 2), .int (s0.1 0), .ref (a0 3), .ref (a0 5), .ref (a0 4), .long s0.2.1, .int (s0.1 1), .int (s0.1 2), .ref (a0 6), .int (s0.1 3), .int (s0.1 4), .ref (a0 7), .int (s0.1 5), .int (s0.1 6), .int (s0.1 7), .int (s0.1 8), .int (s0.1 9), .int (s0.1 10), .int (s0.1 11), .int (s0.1 12), .int (s0.1 13), .int (s0.1 14)])), ((a0 1), .inl (q 1, 6896, .inr (.inl (s0.2.2.1 0)))), ((a0 2), .inl (q 1, 68960, .inr (.inl (s0.2.2.1 1)))), ((a0 3), .inl (q 1, 13792, .inr (.inl (s0.2.2.1 2)))), ((a0 4), .inl (q 1, 6896, .inr (.inl (s0.2.2.1 3)))), ((a0 5), .inl (q 3, 2, .inl (s0.2.2.2 0))), ((a0 6), .inl (q 0, 40, .inl (s0.2.2.2 1))), ((a0 7), .inl (q 2, 400, .inl (s0.2.2.2 2)))] s.heap := hP
  unfold wp_X7_lacks at h
  refine lv_aload_n hx hb dX7_lacks_0 rfl (lv_at hl 0 rfl) ?_
  refine lv_iload_n hx hb dX7_lacks_1 rfl (lv_at hl 1 rfl) ?_
  refine vp_callSi (rd_wV (wc := md_v a0 q s0) (As := [.int x1]) (rest := []) hx hb hml hown ht (c2_X7_isCell h) wd_X7_isCell mw_1340 hQ hV va_S.rf (hP.sub [0, 1, 2, 3, 4, 5, 6, 7] rfl) rfl rfl rfl hl.1 rfl (Nat.le_of_ble_eq_true rfl) dX7_lacks_2 ⟨Nat.le_of_ble_eq_true rfl, Nat.le_of_ble_eq_true rfl, rfl, rfl⟩ ⟨Nat.le_of_ble_eq_true rfl, Nat.le_of_ble_eq_true rfl⟩) (fun r_1 h => ?_)
  try dsimp only at h
  refine lv_if_eq (tgt := 18) hx hb dX7_lacks_5 (by decide) (fun c_3 => ?_) (fun c_3 => ?_)
  · replace h := h.1 c_3
    refine lv_iconst (v := (-1)) hx hb dX7_lacks_18 (by decide) ?_
    exact rd_iret hx hb hr hk h dX7_lacks_19
  · replace h := h.2 c_3
    refine lv_iload_n hx hb dX7_lacks_8 rfl (lv_at hl 2 rfl) ?_
    refine lv_i2l (v := (Int32.toInt64 x2)) hx hb dX7_lacks_9 rfl ?_
    refine lv_lconst (v := 0) hx hb dX7_lacks_10 (by decide) ?_
    refine lv_lconst (v := 1) hx hb dX7_lacks_11 (by decide) ?_
    refine vp_callSi (rd_wS (wc := ([] : va_W)) (As := [.long (Int32.toInt64 x2), .long 0, .long 1]) (rest := []) hx hb hml hown ht (c2_X7_in h) wd_X7_in mw_1213 hQ hV va_S.rf (hP.sub [] rfl) rfl hl.1 rfl (Nat.le_of_ble_eq_true rfl) dX7_lacks_12 ⟨Nat.le_of_ble_eq_true rfl, Nat.le_of_ble_eq_true rfl, rfl, rfl⟩ ⟨Nat.le_of_ble_eq_true rfl, Nat.le_of_ble_eq_true rfl⟩) (fun r_4 h => ?_)
    try dsimp only at h
    refine lv_if_ne (tgt := 20) hx hb dX7_lacks_15 (by decide) (fun c_6 => ?_) (fun c_6 => ?_)
    · replace h := h.1 c_6
      refine lv_iconst (v := 0) hx hb dX7_lacks_20 (by decide) ?_
      refine lv_istore_n (lv' := [(3, .int 0), (0, .ref (a0 0)), (1, .int x1), (2, .int x2)]) hx hb dX7_lacks_21 rfl hl (by decide) rfl (fun ls hl => ?_)
      refine lv_bipush (v := 32) hx hb dX7_lacks_22 (by decide) ?_
      refine lv_istore (lv' := [(4, .int 32), (3, .int 0), (0, .ref (a0 0)), (1, .int x1), (2, .int x2)]) hx hb dX7_lacks_24 hl (by decide) rfl (fun ls hl => ?_)
      have lp26 : ∀ (e117 : Int32 → Int32 → Int32 → Int32 → Prop) (k117 : ∀ (z1 : Int32) (z2 : Int32) (z3 : Int32) (z4 : Int32) (ls : Array Slot), e117 z1 z2 z3 z4 → lv_has ls 6 [(1, .int z1), (2, .int z2), (3, .int z3), (4, .int z4), (0, .ref (a0 0))] → W p l e ({ frames := 3, cells := 0, slots := 0, locals := 69 } : Room) s m [.ref (a0 0), .int x1, .int x2].toArray below meth c s.heap [] 0 0 (MQ below (vp_Si post) [.ref (a0 0), .int x1, .int x2].toArray s 0 0 (fun _ => False)) (F0 m 117 ls [])) (n : Nat) (z1 : Int32) (z2 : Int32) (z3 : Int32) (z4 : Int32) (ls : Array Slot), wp_X7_lacks_L26 s0 post e117 n z1 z2 z3 z4 → lv_has ls 6 [(1, .int z1), (2, .int z2), (3, .int z3), (4, .int z4), (0, .ref (a0 0))] → W p l e ({ frames := 3, cells := 0, slots := 0, locals := 69 } : Room) s m [.ref (a0 0), .int x1, .int x2].toArray below meth c s.heap [] 0 0 (MQ below (vp_Si post) [.ref (a0 0), .int x1, .int x2].toArray s 0 0 (fun _ => False)) (F0 m 26 ls []) := by
        intro e117 k117 n
        induction n with
        | zero =>
          intro z1 z2 z3 z4 ls h
          exact h.elim
        | succ n ih =>
          intro z1 z2 z3 z4 ls h hl
          unfold wp_X7_lacks_L26 at h
          refine lv_iload hx hb dX7_lacks_26 (lv_at hl 3 rfl) ?_
          refine lv_bipush (v := 127) hx hb dX7_lacks_28 (by decide) ?_
          refine lv_icmp_ge (tgt := 117) hx hb dX7_lacks_30 (by decide) (fun c_7 => ?_) (fun c_7 => ?_)
          · replace h := h.1 c_7
            exact k117 _ _ _ _ ls h (lv_sub hl [0, 1, 2, 3, 4] rfl)
          · replace h := h.2 c_7
            refine lv_aload_n hx hb dX7_lacks_33 rfl (lv_at hl 4 rfl) ?_
            refine lv_aload_n hx hb dX7_lacks_34 rfl (lv_at hl 4 rfl) ?_
            refine lv_iload_n hx hb dX7_lacks_35 rfl (lv_at hl 0 rfl) ?_
            refine lv_iconst (v := 0) hx hb dX7_lacks_36 (by decide) ?_
            refine vp_callSi (rd_wV (wc := md_v a0 q s0) (As := [.int z1, .int 0]) (rest := [.ref (a0 0)]) hx hb hml hown ht (c2_X7_of h) wd_X7_of mw_1249 hQ hV va_S.rf (hP.sub [0, 1, 2, 3, 4, 5, 6, 7] rfl) rfl rfl rfl hl.1 rfl (Nat.le_of_ble_eq_true rfl) dX7_lacks_37 ⟨Nat.le_of_ble_eq_true rfl, Nat.le_of_ble_eq_true rfl, rfl, rfl⟩ ⟨Nat.le_of_ble_eq_true rfl, Nat.le_of_ble_eq_true rfl⟩) (fun r_8 h => ?_)
            try dsimp only at h
            refine lv_iload hx hb dX7_lacks_40 (lv_at hl 3 rfl) ?_
            refine vp_callSi (rd_wV (wc := md_v a0 q s0) (As := [.int r_8, .int z4]) (rest := []) hx hb hml hown ht (c2_X7_manyWith h) wd_X7_manyWith mw_1409 hQ hV va_S.rf (hP.sub [0, 1, 2, 3, 4, 5, 6, 7] rfl) rfl rfl rfl hl.1 rfl (Nat.le_of_ble_eq_true rfl) dX7_lacks_42 ⟨Nat.le_of_ble_eq_true rfl, Nat.le_of_ble_eq_true rfl, rfl, rfl⟩ ⟨Nat.le_of_ble_eq_true rfl, Nat.le_of_ble_eq_true rfl⟩) (fun r_10 h => ?_)
            try dsimp only at h
            refine lv_if_le (tgt := 52) hx hb dX7_lacks_45 (by decide) (fun c_12 => ?_) (fun c_12 => ?_)
            · replace h := h.1 c_12
              refine lv_iconst (v := 0) hx hb dX7_lacks_52 (by decide) ?_
              refine lv_istore (lv' := [(5, .int 0), (1, .int z1), (2, .int z2), (3, .int z3), (4, .int z4), (0, .ref (a0 0))]) hx hb dX7_lacks_53 hl (by decide) rfl (fun ls hl => ?_)
              refine lv_iload_n hx hb dX7_lacks_55 rfl (lv_at hl 3 rfl) ?_
              refine lv_iload_n hx hb dX7_lacks_56 rfl (lv_at hl 2 rfl) ?_
              refine lv_if_ne (tgt := 84) hx hb dX7_lacks_57 (by decide) (fun c_13 => ?_) (fun c_13 => ?_)
              · replace h := h.1 c_13
                refine lv_iload hx hb dX7_lacks_84 (lv_at hl 0 rfl) ?_
                refine lv_if_ne (tgt := 108) hx hb dX7_lacks_86 (by decide) (fun c9 => absurd c9 (by decide)) (fun _ => ?_)
                refine lv_aload_n hx hb dX7_lacks_89 rfl (lv_at hl 5 rfl) ?_
                refine lv_aload_n hx hb dX7_lacks_90 rfl (lv_at hl 5 rfl) ?_
                refine lv_iload_n hx hb dX7_lacks_91 rfl (lv_at hl 1 rfl) ?_
                refine lv_iconst (v := 0) hx hb dX7_lacks_92 (by decide) ?_
                refine vp_callSi (rd_wV (wc := md_v a0 q s0) (As := [.int z1, .int 0]) (rest := [.ref (a0 0), .int z3]) hx hb hml hown ht (c2_X7_of h) wd_X7_of mw_1249 hQ hV va_S.rf (hP.sub [0, 1, 2, 3, 4, 5, 6, 7] rfl) rfl rfl rfl hl.1 rfl (Nat.le_of_ble_eq_true rfl) dX7_lacks_93 ⟨Nat.le_of_ble_eq_true rfl, Nat.le_of_ble_eq_true rfl, rfl, rfl⟩ ⟨Nat.le_of_ble_eq_true rfl, Nat.le_of_ble_eq_true rfl⟩) (fun r_14 h => ?_)
                try dsimp only at h
                refine lv_iload hx hb dX7_lacks_96 (lv_at hl 4 rfl) ?_
                refine vp_callSi (rd_wV (wc := md_v a0 q s0) (As := [.int r_14, .int z4]) (rest := [.int z3]) hx hb hml hown ht (c2_X7_hasElsewhere h) wd_X7_hasElsewhere mw_1542 hQ hV va_S.rf (hP.sub [0, 1, 2, 3, 4, 5, 6, 7] rfl) rfl rfl rfl hl.1 rfl (Nat.le_of_ble_eq_true rfl) dX7_lacks_98 ⟨Nat.le_of_ble_eq_true rfl, Nat.le_of_ble_eq_true rfl, rfl, rfl⟩ ⟨Nat.le_of_ble_eq_true rfl, Nat.le_of_ble_eq_true rfl⟩) (fun r_16 h => ?_)
                try dsimp only at h
                refine lv_if_eq (tgt := 108) hx hb dX7_lacks_101 (by decide) (fun c_18 => ?_) (fun c_18 => ?_)
                · replace h := h.1 c_18
                  refine lv_iconst (v := 0) hx hb dX7_lacks_108 (by decide) ?_
                  refine lv_iadd hx hb dX7_lacks_109 ?_
                  refine lv_istore_n (lv' := [(3, .int (z3 + 0)), (5, .int 0), (1, .int z1), (2, .int z2), (4, .int z4), (0, .ref (a0 0))]) hx hb dX7_lacks_110 rfl hl (by decide) rfl (fun ls hl => ?_)
                  refine lv_iinc (v := (z4 + 1)) (lv' := [(4, .int (z4 + 1)), (3, .int (z3 + 0)), (5, .int 0), (1, .int z1), (2, .int z2), (0, .ref (a0 0))]) hx hb dX7_lacks_111 hl (k := 4) rfl rfl (by decide) rfl (fun ls hl => ?_)
                  refine lv_goto (tgt := 26) hx hb dX7_lacks_114 (by decide) ?_
                  exact ih _ _ _ _ ls h (lv_sub hl [3, 4, 1, 0, 5] rfl)
                · replace h := h.2 c_18
                  refine lv_iconst (v := 1) hx hb dX7_lacks_104 (by decide) ?_
                  refine lv_goto (tgt := 109) hx hb dX7_lacks_105 (by decide) ?_
                  refine lv_iadd hx hb dX7_lacks_109 ?_
                  refine lv_istore_n (lv' := [(3, .int (z3 + 1)), (5, .int 0), (1, .int z1), (2, .int z2), (4, .int z4), (0, .ref (a0 0))]) hx hb dX7_lacks_110 rfl hl (by decide) rfl (fun ls hl => ?_)
                  refine lv_iinc (v := (z4 + 1)) (lv' := [(4, .int (z4 + 1)), (3, .int (z3 + 1)), (5, .int 0), (1, .int z1), (2, .int z2), (0, .ref (a0 0))]) hx hb dX7_lacks_111 hl (k := 4) rfl rfl (by decide) rfl (fun ls hl => ?_)
                  refine lv_goto (tgt := 26) hx hb dX7_lacks_114 (by decide) ?_
                  exact ih _ _ _ _ ls h (lv_sub hl [3, 4, 1, 0, 5] rfl)
              · replace h := h.2 c_13
                refine lv_iload hx hb dX7_lacks_60 (lv_at hl 0 rfl) ?_
                refine lv_if_eq (tgt := 80) hx hb dX7_lacks_62 (by decide) (fun _ => ?_) (fun c9 => absurd (by decide) c9)
                refine lv_iconst (v := 0) hx hb dX7_lacks_80 (by decide) ?_
                refine lv_goto (tgt := 109) hx hb dX7_lacks_81 (by decide) ?_
                refine lv_iadd hx hb dX7_lacks_109 ?_
                refine lv_istore_n (lv' := [(3, .int (z3 + 0)), (5, .int 0), (1, .int z1), (2, .int z2), (4, .int z4), (0, .ref (a0 0))]) hx hb dX7_lacks_110 rfl hl (by decide) rfl (fun ls hl => ?_)
                refine lv_iinc (v := (z4 + 1)) (lv' := [(4, .int (z4 + 1)), (3, .int (z3 + 0)), (5, .int 0), (1, .int z1), (2, .int z2), (0, .ref (a0 0))]) hx hb dX7_lacks_111 hl (k := 4) rfl rfl (by decide) rfl (fun ls hl => ?_)
                refine lv_goto (tgt := 26) hx hb dX7_lacks_114 (by decide) ?_
                exact ih _ _ _ _ ls h (lv_sub hl [3, 4, 1, 0, 5] rfl)
            · replace h := h.2 c_12
              refine lv_iconst (v := 1) hx hb dX7_lacks_48 (by decide) ?_
              refine lv_goto (tgt := 53) hx hb dX7_lacks_49 (by decide) ?_
              refine lv_istore (lv' := [(5, .int 1), (1, .int z1), (2, .int z2), (3, .int z3), (4, .int z4), (0, .ref (a0 0))]) hx hb dX7_lacks_53 hl (by decide) rfl (fun ls hl => ?_)
              refine lv_iload_n hx hb dX7_lacks_55 rfl (lv_at hl 3 rfl) ?_
              refine lv_iload_n hx hb dX7_lacks_56 rfl (lv_at hl 2 rfl) ?_
              refine lv_if_ne (tgt := 84) hx hb dX7_lacks_57 (by decide) (fun c_19 => ?_) (fun c_19 => ?_)
              · replace h := h.1 c_19
                refine lv_iload hx hb dX7_lacks_84 (lv_at hl 0 rfl) ?_
                refine lv_if_ne (tgt := 108) hx hb dX7_lacks_86 (by decide) (fun _ => ?_) (fun c9 => absurd c9 (by decide))
                refine lv_iconst (v := 0) hx hb dX7_lacks_108 (by decide) ?_
                refine lv_iadd hx hb dX7_lacks_109 ?_
                refine lv_istore_n (lv' := [(3, .int (z3 + 0)), (5, .int 1), (1, .int z1), (2, .int z2), (4, .int z4), (0, .ref (a0 0))]) hx hb dX7_lacks_110 rfl hl (by decide) rfl (fun ls hl => ?_)
                refine lv_iinc (v := (z4 + 1)) (lv' := [(4, .int (z4 + 1)), (3, .int (z3 + 0)), (5, .int 1), (1, .int z1), (2, .int z2), (0, .ref (a0 0))]) hx hb dX7_lacks_111 hl (k := 4) rfl rfl (by decide) rfl (fun ls hl => ?_)
                refine lv_goto (tgt := 26) hx hb dX7_lacks_114 (by decide) ?_
                exact ih _ _ _ _ ls h (lv_sub hl [3, 4, 1, 0, 5] rfl)
              · replace h := h.2 c_19
                refine lv_iload hx hb dX7_lacks_60 (lv_at hl 0 rfl) ?_
                refine lv_if_eq (tgt := 80) hx hb dX7_lacks_62 (by decide) (fun c9 => absurd c9 (by decide)) (fun _ => ?_)
                refine lv_aload_n hx hb dX7_lacks_65 rfl (lv_at hl 5 rfl) ?_
                refine lv_iload_n hx hb dX7_lacks_66 rfl (lv_at hl 1 rfl) ?_
                refine lv_iload hx hb dX7_lacks_67 (lv_at hl 4 rfl) ?_
                refine vp_callSi (rd_wV (wc := md_v a0 q s0) (As := [.int z1, .int z4]) (rest := [.int z3]) hx hb hml hown ht (c2_X7_flapFor h) wd_X7_flapFor mw_1241 hQ hV va_S.rf (hP.sub [0, 1, 2, 3, 4, 5, 6, 7] rfl) rfl rfl rfl hl.1 rfl (Nat.le_of_ble_eq_true rfl) dX7_lacks_69 ⟨Nat.le_of_ble_eq_true rfl, Nat.le_of_ble_eq_true rfl, rfl, rfl⟩ ⟨Nat.le_of_ble_eq_true rfl, Nat.le_of_ble_eq_true rfl⟩) (fun r_20 h => ?_)
                try dsimp only at h
                refine lv_iconst (v := (-1)) hx hb dX7_lacks_72 (by decide) ?_
                refine lv_icmp_ne (tgt := 80) hx hb dX7_lacks_73 (by decide) (fun c_22 => ?_) (fun c_22 => ?_)
                · replace h := h.1 c_22
                  refine lv_iconst (v := 0) hx hb dX7_lacks_80 (by decide) ?_
                  refine lv_goto (tgt := 109) hx hb dX7_lacks_81 (by decide) ?_
                  refine lv_iadd hx hb dX7_lacks_109 ?_
                  refine lv_istore_n (lv' := [(3, .int (z3 + 0)), (5, .int 1), (1, .int z1), (2, .int z2), (4, .int z4), (0, .ref (a0 0))]) hx hb dX7_lacks_110 rfl hl (by decide) rfl (fun ls hl => ?_)
                  refine lv_iinc (v := (z4 + 1)) (lv' := [(4, .int (z4 + 1)), (3, .int (z3 + 0)), (5, .int 1), (1, .int z1), (2, .int z2), (0, .ref (a0 0))]) hx hb dX7_lacks_111 hl (k := 4) rfl rfl (by decide) rfl (fun ls hl => ?_)
                  refine lv_goto (tgt := 26) hx hb dX7_lacks_114 (by decide) ?_
                  exact ih _ _ _ _ ls h (lv_sub hl [3, 4, 1, 0, 5] rfl)
                · replace h := h.2 c_22
                  refine lv_iconst (v := 1) hx hb dX7_lacks_76 (by decide) ?_
                  refine lv_goto (tgt := 109) hx hb dX7_lacks_77 (by decide) ?_
                  refine lv_iadd hx hb dX7_lacks_109 ?_
                  refine lv_istore_n (lv' := [(3, .int (z3 + 1)), (5, .int 1), (1, .int z1), (2, .int z2), (4, .int z4), (0, .ref (a0 0))]) hx hb dX7_lacks_110 rfl hl (by decide) rfl (fun ls hl => ?_)
                  refine lv_iinc (v := (z4 + 1)) (lv' := [(4, .int (z4 + 1)), (3, .int (z3 + 1)), (5, .int 1), (1, .int z1), (2, .int z2), (0, .ref (a0 0))]) hx hb dX7_lacks_111 hl (k := 4) rfl rfl (by decide) rfl (fun ls hl => ?_)
                  refine lv_goto (tgt := 26) hx hb dX7_lacks_114 (by decide) ?_
                  exact ih _ _ _ _ ls h (lv_sub hl [3, 4, 1, 0, 5] rfl)
      obtain ⟨n26, h⟩ := h
      refine lp26 _ ?_ n26 _ _ _ _ ls h (lv_sub hl [3, 4, 1, 0, 2] rfl)
      · intro z1 z2 z3 z4 ls h hl
        try dsimp only at h
        refine lv_iload_n hx hb dX7_lacks_117 rfl (lv_at hl 2 rfl) ?_
        exact rd_iret hx hb hr hk h dX7_lacks_118
    · replace h := h.2 c_6
      refine lv_iconst (v := (-1)) hx hb dX7_lacks_18 (by decide) ?_
      exact rd_iret hx hb hr hk h dX7_lacks_19

def wp_X7_lays_L3 (post : Md → Prop) (e36 : Md → Int32 → Int32 → Prop) : Nat → Md → Int32 → Int32 → Prop
  | 0, _, _, _ => False
  | n3 + 1, t0, z1, z2 => ((z2 < 0 → e36 t0 z1 z2) ∧ (¬ z2 < 0 → vp_in (t0.1 5) 400 ∧ wp_X7_lays_L3 post e36 n3 ((va_up t0.1 5 ((t0.1 5) + 1)), t0.2.1, t0.2.2.1, (va_up t0.2.2.2 2 (upd (t0.2.2.2 2) (Int32.toNatClampNeg (t0.1 5)) (vp_nar .byte (Int8.toInt32 (Int32.toInt8 (z1 >>> (z2 &&& 31)))))))) z1 (z2 + (-8))))
def wp_X7_lays (post : Md → Prop) (s0 : Md) (x1 : Int32) : Prop := (∃ n3, wp_X7_lays_L3 post (fun t0 z1 z2 => post t0) n3 s0 x1 24)
set_option maxHeartbeats 4000000 in
set_option maxRecDepth 100000 in
theorem c2_X7_lays {l : Launch} {D : va_G} {q : Nat → ClassId} {sz : Nat} {a0 : Nat → Nat} {s0 : Md} {x1 : Int32} {post : Md → Prop} (h : wp_X7_lays post s0 x1) : Met l yX7_lays (Cond.code yX7_lays cX7_lays 3 none :: w_all) ({ frames := 0, cells := 0, slots := 0, locals := 0 } : Room) (mt_P D q [.ref (a0 0), .int x1] (md_v a0 q s0) sz) (va_Qv (fun u : Md => post u) (mt_B D (md_v a0 q s0) sz (fun u : Md => md_v a0 q u)) (va_A (md_v a0 q s0) sz)) 0 0 (va_A (md_v a0 q s0) sz) := by
  refine mt_start (by decide) (Nat.le_of_ble_eq_true rfl) ?_
  intro p e s m below meth c ls hx hb hr hml hown ht hk hin hP hQ hD hA hS hV hl
  have hK := hQ.1
  have hown : s.vm.findClass RX7 = some m.cls := hown
  have hl : lv_has ls 3 [(0, .ref (a0 0)), (1, .int x1)] := hl
  have hP : va_P D vwCl [((a0 0), .inr (6, [.ref (a0 1), .ref (a0 2), .int (s0.1 0), .ref (a0 3), .ref (a0 5), .ref (a0 4), .long s0.2.1, .int (s0.1 1), .int (s0.1 2), .ref (a0 6), .int (s0.1 3), .int (s0.1 4), .ref (a0 7), .int (s0.1 5), .int (s0.1 6), .int (s0.1 7), .int (s0.1 8), .int (s0.1 9), .int (s0.1 10), .int (s0.1 11), .int (s0.1 12), .int (s0.1 13), .int (s0.1 14)])), ((a0 1), .inl (q 1, 6896, .inr (.inl (s0.2.2.1 0)))), ((a0 2), .inl (q 1, 68960, .inr (.inl (s0.2.2.1 1)))), ((a0 3), .inl (q 1, 13792, .inr (.inl (s0.2.2.1 2)))), ((a0 4), .inl (q 1, 6896, .inr (.inl (s0.2.2.1 3)))), ((a0 5), .inl (q 3, 2, .inl (s0.2.2.2 0))), ((a0 6), .inl (q 0, 40, .inl (s0.2.2.2 1))), ((a0 7), .inl (q 2, 400, .inl (s0.2.2.2 2)))] s.heap := hP
  have hD : va_D _ [((a0 0), .inr (6, [.ref (a0 1), .ref (a0 2), .int (s0.1 0), .ref (a0 3), .ref (a0 5), .ref (a0 4), .long s0.2.1, .int (s0.1 1), .int (s0.1 2), .ref (a0 6), .int (s0.1 3), .int (s0.1 4), .ref (a0 7), .int (s0.1 5), .int (s0.1 6), .int (s0.1 7), .int (s0.1 8), .int (s0.1 9), .int (s0.1 10), .int (s0.1 11), .int (s0.1 12), .int (s0.1 13), .int (s0.1 14)])), ((a0 1), .inl (q 1, 6896, .inr (.inl (s0.2.2.1 0)))), ((a0 2), .inl (q 1, 68960, .inr (.inl (s0.2.2.1 1)))), ((a0 3), .inl (q 1, 13792, .inr (.inl (s0.2.2.1 2)))), ((a0 4), .inl (q 1, 6896, .inr (.inl (s0.2.2.1 3)))), ((a0 5), .inl (q 3, 2, .inl (s0.2.2.2 0))), ((a0 6), .inl (q 0, 40, .inl (s0.2.2.2 1))), ((a0 7), .inl (q 2, 400, .inl (s0.2.2.2 2)))] := hD
  unfold wp_X7_lays at h
  refine lv_bipush (v := 24) hx hb dX7_lays_0 (by decide) ?_
  refine lv_istore_n (lv' := [(2, .int 24), (0, .ref (a0 0)), (1, .int x1)]) hx hb dX7_lays_2 rfl hl (by decide) rfl (fun ls hl => ?_)
  have lp3 : ∀ (e36 : Md → Int32 → Int32 → Prop) (k36 : ∀ (t0 : Md) (z1 : Int32) (z2 : Int32) (H : Heap) (locs : List Loc) (ls : Array Slot), e36 t0 z1 z2 → va_P D vwCl (md_v a0 q t0) H → va_D (va_A (md_v a0 q s0) sz) (md_v a0 q t0) → va_S (va_A (md_v a0 q s0) sz) s.heap H locs → lv_has ls 3 [(1, .int z1), (2, .int z2), (0, .ref (a0 0))] → W p l e ({ frames := 0, cells := 0, slots := 0, locals := 0 } : Room) s m [.ref (a0 0), .int x1].toArray below meth c H locs 0 0 (MQ below (va_Qv (fun u : Md => post u) (mt_B D (md_v a0 q s0) sz (fun u : Md => md_v a0 q u)) (va_A (md_v a0 q s0) sz)) [.ref (a0 0), .int x1].toArray s 0 0 (va_A (md_v a0 q s0) sz)) (F0 m 36 ls [])) (n : Nat) (t0 : Md) (z1 : Int32) (z2 : Int32) (H : Heap) (locs : List Loc) (ls : Array Slot), wp_X7_lays_L3 post e36 n t0 z1 z2 → va_P D vwCl (md_v a0 q t0) H → va_D (va_A (md_v a0 q s0) sz) (md_v a0 q t0) → va_S (va_A (md_v a0 q s0) sz) s.heap H locs → lv_has ls 3 [(1, .int z1), (2, .int z2), (0, .ref (a0 0))] → W p l e ({ frames := 0, cells := 0, slots := 0, locals := 0 } : Room) s m [.ref (a0 0), .int x1].toArray below meth c H locs 0 0 (MQ below (va_Qv (fun u : Md => post u) (mt_B D (md_v a0 q s0) sz (fun u : Md => md_v a0 q u)) (va_A (md_v a0 q s0) sz)) [.ref (a0 0), .int x1].toArray s 0 0 (va_A (md_v a0 q s0) sz)) (F0 m 3 ls []) := by
    intro e36 k36 n
    induction n with
    | zero =>
      intro t0 z1 z2 H locs ls h
      exact h.elim
    | succ n ih =>
      intro t0 z1 z2 H locs ls h hP hD hS hl
      have hP : va_P D vwCl [((a0 0), .inr (6, [.ref (a0 1), .ref (a0 2), .int (t0.1 0), .ref (a0 3), .ref (a0 5), .ref (a0 4), .long t0.2.1, .int (t0.1 1), .int (t0.1 2), .ref (a0 6), .int (t0.1 3), .int (t0.1 4), .ref (a0 7), .int (t0.1 5), .int (t0.1 6), .int (t0.1 7), .int (t0.1 8), .int (t0.1 9), .int (t0.1 10), .int (t0.1 11), .int (t0.1 12), .int (t0.1 13), .int (t0.1 14)])), ((a0 1), .inl (q 1, 6896, .inr (.inl (t0.2.2.1 0)))), ((a0 2), .inl (q 1, 68960, .inr (.inl (t0.2.2.1 1)))), ((a0 3), .inl (q 1, 13792, .inr (.inl (t0.2.2.1 2)))), ((a0 4), .inl (q 1, 6896, .inr (.inl (t0.2.2.1 3)))), ((a0 5), .inl (q 3, 2, .inl (t0.2.2.2 0))), ((a0 6), .inl (q 0, 40, .inl (t0.2.2.2 1))), ((a0 7), .inl (q 2, 400, .inl (t0.2.2.2 2)))] H := hP
      have hD : va_D _ [((a0 0), .inr (6, [.ref (a0 1), .ref (a0 2), .int (t0.1 0), .ref (a0 3), .ref (a0 5), .ref (a0 4), .long t0.2.1, .int (t0.1 1), .int (t0.1 2), .ref (a0 6), .int (t0.1 3), .int (t0.1 4), .ref (a0 7), .int (t0.1 5), .int (t0.1 6), .int (t0.1 7), .int (t0.1 8), .int (t0.1 9), .int (t0.1 10), .int (t0.1 11), .int (t0.1 12), .int (t0.1 13), .int (t0.1 14)])), ((a0 1), .inl (q 1, 6896, .inr (.inl (t0.2.2.1 0)))), ((a0 2), .inl (q 1, 68960, .inr (.inl (t0.2.2.1 1)))), ((a0 3), .inl (q 1, 13792, .inr (.inl (t0.2.2.1 2)))), ((a0 4), .inl (q 1, 6896, .inr (.inl (t0.2.2.1 3)))), ((a0 5), .inl (q 3, 2, .inl (t0.2.2.2 0))), ((a0 6), .inl (q 0, 40, .inl (t0.2.2.2 1))), ((a0 7), .inl (q 2, 400, .inl (t0.2.2.2 2)))] := hD
      unfold wp_X7_lays_L3 at h
      refine lv_iload_n hx hb dX7_lays_3 rfl (lv_at hl 1 rfl) ?_
      refine lv_if_lt (tgt := 36) hx hb dX7_lays_4 (by decide) (fun c_1 => ?_) (fun c_1 => ?_)
      · replace h := h.1 c_1
        exact k36 _ _ _ _ _ ls h (hP.sub (ws' := md_v a0 q t0) [0, 1, 2, 3, 4, 5, 6, 7] rfl) (hD.sub (ws' := md_v a0 q t0) [0, 1, 2, 3, 4, 5, 6, 7] (by decide) rfl) hS (lv_sub hl [0, 1, 2] rfl)
      · replace h := h.2 c_1
        refine lv_aload_n hx hb dX7_lays_7 rfl (lv_at hl 2 rfl) ?_
        refine fl_get (C := RX7) (T := TX7) (N := 23) (ci := 6) (v := .ref (a0 7)) hx hb ht in_X7 hown hK hP 0 rfl rfl 12 (by decide) mw_1142 rfl dX7_lays_8 ?_
        refine lv_aload_n hx hb dX7_lays_11 rfl (lv_at hl 2 rfl) ?_
        refine fl_get (C := RX7) (T := TX7) (N := 23) (ci := 6) (v := .int (t0.1 5)) hx hb ht in_X7 hown hK hP 0 rfl rfl 13 (by decide) mw_1143 rfl dX7_lays_12 ?_
        refine lv_iload_n hx hb dX7_lays_15 rfl (lv_at hl 0 rfl) ?_
        refine lv_iload_n hx hb dX7_lays_16 rfl (lv_at hl 1 rfl) ?_
        refine lv_ishr hx hb dX7_lays_17 ?_
        refine lv_i2b (v := (Int8.toInt32 (Int32.toInt8 (z1 >>> (z2 &&& 31))))) hx hb dX7_lays_18 rfl ?_
        obtain ⟨g_2, h⟩ := h
        refine va_bast hx hb hK hP hD hS 7 2 rfl rfl g_2 dX7_lays_19 (fun H locs hP hD hS => ?_)
        have hP : va_P D vwCl [((a0 0), .inr (6, [.ref (a0 1), .ref (a0 2), .int (t0.1 0), .ref (a0 3), .ref (a0 5), .ref (a0 4), .long t0.2.1, .int (t0.1 1), .int (t0.1 2), .ref (a0 6), .int (t0.1 3), .int (t0.1 4), .ref (a0 7), .int (t0.1 5), .int (t0.1 6), .int (t0.1 7), .int (t0.1 8), .int (t0.1 9), .int (t0.1 10), .int (t0.1 11), .int (t0.1 12), .int (t0.1 13), .int (t0.1 14)])), ((a0 1), .inl (q 1, 6896, .inr (.inl (t0.2.2.1 0)))), ((a0 2), .inl (q 1, 68960, .inr (.inl (t0.2.2.1 1)))), ((a0 3), .inl (q 1, 13792, .inr (.inl (t0.2.2.1 2)))), ((a0 4), .inl (q 1, 6896, .inr (.inl (t0.2.2.1 3)))), ((a0 5), .inl (q 3, 2, .inl (t0.2.2.2 0))), ((a0 6), .inl (q 0, 40, .inl (t0.2.2.2 1))), ((a0 7), .inl (q 2, 400, .inl (upd (t0.2.2.2 2) (Int32.toNatClampNeg (t0.1 5)) (vp_nar .byte (Int8.toInt32 (Int32.toInt8 (z1 >>> (z2 &&& 31))))))))] H := hP
        have hD : va_D _ [((a0 0), .inr (6, [.ref (a0 1), .ref (a0 2), .int (t0.1 0), .ref (a0 3), .ref (a0 5), .ref (a0 4), .long t0.2.1, .int (t0.1 1), .int (t0.1 2), .ref (a0 6), .int (t0.1 3), .int (t0.1 4), .ref (a0 7), .int (t0.1 5), .int (t0.1 6), .int (t0.1 7), .int (t0.1 8), .int (t0.1 9), .int (t0.1 10), .int (t0.1 11), .int (t0.1 12), .int (t0.1 13), .int (t0.1 14)])), ((a0 1), .inl (q 1, 6896, .inr (.inl (t0.2.2.1 0)))), ((a0 2), .inl (q 1, 68960, .inr (.inl (t0.2.2.1 1)))), ((a0 3), .inl (q 1, 13792, .inr (.inl (t0.2.2.1 2)))), ((a0 4), .inl (q 1, 6896, .inr (.inl (t0.2.2.1 3)))), ((a0 5), .inl (q 3, 2, .inl (t0.2.2.2 0))), ((a0 6), .inl (q 0, 40, .inl (t0.2.2.2 1))), ((a0 7), .inl (q 2, 400, .inl (upd (t0.2.2.2 2) (Int32.toNatClampNeg (t0.1 5)) (vp_nar .byte (Int8.toInt32 (Int32.toInt8 (z1 >>> (z2 &&& 31))))))))] := hD
        refine lv_aload_n hx hb dX7_lays_20 rfl (lv_at hl 2 rfl) ?_
        refine lv_dup hx hb dX7_lays_21 rfl ?_
        refine fl_get (C := RX7) (T := TX7) (N := 23) (ci := 6) (v := .int (t0.1 5)) hx hb ht in_X7 hown hK hP 0 rfl rfl 13 (by decide) mw_1143 rfl dX7_lays_22 ?_
        refine lv_iconst (v := 1) hx hb dX7_lays_25 (by decide) ?_
        refine lv_iadd hx hb dX7_lays_26 ?_
        refine fl_put (C := RX7) (T := TX7) (N := 23) (ci := 6) (v := .int ((t0.1 5) + 1)) (ws2 := [((a0 0), .inr (6, [.ref (a0 1), .ref (a0 2), .int (t0.1 0), .ref (a0 3), .ref (a0 5), .ref (a0 4), .long t0.2.1, .int (t0.1 1), .int (t0.1 2), .ref (a0 6), .int (t0.1 3), .int (t0.1 4), .ref (a0 7), .int ((t0.1 5) + 1), .int (t0.1 6), .int (t0.1 7), .int (t0.1 8), .int (t0.1 9), .int (t0.1 10), .int (t0.1 11), .int (t0.1 12), .int (t0.1 13), .int (t0.1 14)])), ((a0 1), .inl (q 1, 6896, .inr (.inl (t0.2.2.1 0)))), ((a0 2), .inl (q 1, 68960, .inr (.inl (t0.2.2.1 1)))), ((a0 3), .inl (q 1, 13792, .inr (.inl (t0.2.2.1 2)))), ((a0 4), .inl (q 1, 6896, .inr (.inl (t0.2.2.1 3)))), ((a0 5), .inl (q 3, 2, .inl (t0.2.2.2 0))), ((a0 6), .inl (q 0, 40, .inl (t0.2.2.2 1))), ((a0 7), .inl (q 2, 400, .inl (upd (t0.2.2.2 2) (Int32.toNatClampNeg (t0.1 5)) (vp_nar .byte (Int8.toInt32 (Int32.toInt8 (z1 >>> (z2 &&& 31))))))))]) hx hb ht in_X7 tyX7_ok nmX7 hown hK hP hD hS 0 rfl rfl 13 (by decide) mw_1143 rfl rfl rfl (Nat.le_of_ble_eq_true rfl) dX7_lays_27 rfl (fun H locs hP hD hS => ?_)
        refine lv_iinc (v := (z2 + (-8))) (lv' := [(2, .int (z2 + (-8))), (1, .int z1), (0, .ref (a0 0))]) hx hb dX7_lays_30 hl (k := 1) rfl rfl (by decide) rfl (fun ls hl => ?_)
        refine lv_goto (tgt := 3) hx hb dX7_lays_33 (by decide) ?_
        exact ih _ _ _ _ _ ls h (hP.sub (ws' := md_v a0 q ((va_up t0.1 5 ((t0.1 5) + 1)), t0.2.1, t0.2.2.1, (va_up t0.2.2.2 2 (upd (t0.2.2.2 2) (Int32.toNatClampNeg (t0.1 5)) (vp_nar .byte (Int8.toInt32 (Int32.toInt8 (z1 >>> (z2 &&& 31))))))))) [0, 1, 2, 3, 4, 5, 6, 7] rfl) (hD.sub (ws' := md_v a0 q ((va_up t0.1 5 ((t0.1 5) + 1)), t0.2.1, t0.2.2.1, (va_up t0.2.2.2 2 (upd (t0.2.2.2 2) (Int32.toNatClampNeg (t0.1 5)) (vp_nar .byte (Int8.toInt32 (Int32.toInt8 (z1 >>> (z2 &&& 31))))))))) [0, 1, 2, 3, 4, 5, 6, 7] (by decide) rfl) hS (lv_sub hl [1, 0, 2] rfl)
  obtain ⟨n3, h⟩ := h
  refine lp3 _ ?_ n3 _ _ _ _ _ ls h (hP.sub (ws' := md_v a0 q s0) [0, 1, 2, 3, 4, 5, 6, 7] rfl) (hD.sub (ws' := md_v a0 q s0) [0, 1, 2, 3, 4, 5, 6, 7] (by decide) rfl) hS (lv_sub hl [2, 0, 1] rfl)
  · intro t0 z1 z2 H locs ls h hP hD hS hl
    try dsimp only at h
    have hP : va_P D vwCl [((a0 0), .inr (6, [.ref (a0 1), .ref (a0 2), .int (t0.1 0), .ref (a0 3), .ref (a0 5), .ref (a0 4), .long t0.2.1, .int (t0.1 1), .int (t0.1 2), .ref (a0 6), .int (t0.1 3), .int (t0.1 4), .ref (a0 7), .int (t0.1 5), .int (t0.1 6), .int (t0.1 7), .int (t0.1 8), .int (t0.1 9), .int (t0.1 10), .int (t0.1 11), .int (t0.1 12), .int (t0.1 13), .int (t0.1 14)])), ((a0 1), .inl (q 1, 6896, .inr (.inl (t0.2.2.1 0)))), ((a0 2), .inl (q 1, 68960, .inr (.inl (t0.2.2.1 1)))), ((a0 3), .inl (q 1, 13792, .inr (.inl (t0.2.2.1 2)))), ((a0 4), .inl (q 1, 6896, .inr (.inl (t0.2.2.1 3)))), ((a0 5), .inl (q 3, 2, .inl (t0.2.2.2 0))), ((a0 6), .inl (q 0, 40, .inl (t0.2.2.2 1))), ((a0 7), .inl (q 2, 400, .inl (t0.2.2.2 2)))] H := hP
    have hD : va_D _ [((a0 0), .inr (6, [.ref (a0 1), .ref (a0 2), .int (t0.1 0), .ref (a0 3), .ref (a0 5), .ref (a0 4), .long t0.2.1, .int (t0.1 1), .int (t0.1 2), .ref (a0 6), .int (t0.1 3), .int (t0.1 4), .ref (a0 7), .int (t0.1 5), .int (t0.1 6), .int (t0.1 7), .int (t0.1 8), .int (t0.1 9), .int (t0.1 10), .int (t0.1 11), .int (t0.1 12), .int (t0.1 13), .int (t0.1 14)])), ((a0 1), .inl (q 1, 6896, .inr (.inl (t0.2.2.1 0)))), ((a0 2), .inl (q 1, 68960, .inr (.inl (t0.2.2.1 1)))), ((a0 3), .inl (q 1, 13792, .inr (.inl (t0.2.2.1 2)))), ((a0 4), .inl (q 1, 6896, .inr (.inl (t0.2.2.1 3)))), ((a0 5), .inl (q 3, 2, .inl (t0.2.2.2 0))), ((a0 6), .inl (q 0, 40, .inl (t0.2.2.2 1))), ((a0 7), .inl (q 2, 400, .inl (t0.2.2.2 2)))] := hD
    exact mt_vret t0 hx hb hr hk h (hP.sub (ws' := md_v a0 q t0) [0, 1, 2, 3, 4, 5, 6, 7] rfl) (hD.sub (ws' := md_v a0 q t0) [0, 1, 2, 3, 4, 5, 6, 7] (by decide) rfl) hS dX7_lays_36
