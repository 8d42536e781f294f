def wp_X7_farthest_L29 (s0 : Md) (post : Int32 → Prop) (e101 : Int32 → Int32 → Int32 → Int32 → Int32 → Prop) : Nat → Int32 → Int32 → Int32 → Int32 → Int32 → Prop
  | 0, _, _, _, _, _ => False
  | n29 + 1, z1, z2, z3, z4, z5 => ((127 ≤ z5 → e101 z1 z2 z3 z4 z5) ∧ (¬ 127 ≤ z5 → wp_X7_flapFor (fun r_8 => ((r_8 = (-1) → wp_X7_farthest_L29 s0 post e101 n29 z1 z2 z3 z4 (z5 + 1)) ∧ (¬ r_8 = (-1) → wp_X7_of (fun r_11 => wp_X7_flaps (fun r_13 => wp_X7_on (fun r_15 => ((z3 < r_15 → wp_X7_of (fun r_18 => wp_X7_flaps (fun r_20 => wp_X7_on (fun r_22 => wp_X7_farthest_L29 s0 post e101 n29 z1 z2 r_22 z5 (z5 + 1)) r_18 r_8 r_20) s0 z1) s0 z1 (2 : Int32)) ∧ (¬ z3 < r_15 → wp_X7_farthest_L29 s0 post e101 n29 z1 z2 z3 z4 (z5 + 1)))) r_11 r_8 r_13) s0 z1) s0 z1 (2 : Int32)))) s0 z1 z5))
def wp_X7_farthest (post : Int32 → Prop) (s0 : Md) (x1 : Int32) (x2 : Int32) : Prop := wp_X7_isCell (fun r_1 => ((r_1 = 0 → post (-1)) ∧ (¬ r_1 = 0 → wp_X7_in (fun r_4 => ((¬ r_4 = 0 → (∃ n29, wp_X7_farthest_L29 s0 post (fun z1 z2 z3 z4 z5 => ((¬ z2 = 0 → post z4) ∧ (z2 = 0 → post z3))) n29 x1 x2 (-1) (-1) 32)) ∧ (r_4 = 0 → post (-1)))) (Int32.toInt64 x2) (0 : Int64) (1 : Int64)))) s0 x1
set_option maxHeartbeats 4000000 in
set_option maxRecDepth 100000 in
theorem c2_X7_farthest {l : Launch} {D : va_G} {q : Nat → ClassId} {a0 : Nat → Nat} {s0 : Md} {x1 : Int32} {x2 : Int32} {post : Int32 → Prop} (h : wp_X7_farthest post s0 x1 x2) : Met l yX7_farthest (Cond.code yX7_farthest cX7_farthest 7 (some .int) :: w_all) ({ frames := 3, cells := 0, slots := 0, locals := 67 } : Room) (rd_P D q [.ref (a0 0), .int x1, .int x2] (md_v a0 q s0)) (vp_Si post) 0 0 (fun _ => False) := by
  refine rd_start (by decide) (Nat.le_of_ble_eq_true rfl) ?_
  intro p e s m below meth c ls hx hb hr hml hown ht hk hP hQ hV hl
  have hK := hQ.1
  have hown : s.vm.findClass RX7 = some m.cls := hown
  have hl : lv_has ls 7 [(0, .ref (a0 0)), (1, .int x1), (2, .int x2)] := hl
  have hP : va_P D vwCl [((a0 0), .inr (6, [.ref (a0 1), .ref (a0 2), .int (s0.1 0), .ref (a0 3), .ref (a0 5), .ref (a0 4), .long s0.2.1, .int (s0.1 1), .int (s0.1 2), .ref (a0 6), .int (s0.1 3), .int (s0.1 4), .ref (a0 7), .int (s0.1 5), .int (s0.1 6), .int (s0.1 7), .int (s0.1 8), .int (s0.1 9), .int (s0.1 10), .int (s0.1 11), .int (s0.1 12), .int (s0.1 13), .int (s0.1 14)])), ((a0 1), .inl (q 1, 6896, .inr (.inl (s0.2.2.1 0)))), ((a0 2), .inl (q 1, 68960, .inr (.inl (s0.2.2.1 1)))), ((a0 3), .inl (q 1, 13792, .inr (.inl (s0.2.2.1 2)))), ((a0 4), .inl (q 1, 6896, .inr (.inl (s0.2.2.1 3)))), ((a0 5), .inl (q 3, 2, .inl (s0.2.2.2 0))), ((a0 6), .inl (q 0, 40, .inl (s0.2.2.2 1))), ((a0 7), .inl (q 2, 400, .inl (s0.2.2.2 2)))] s.heap := hP
  unfold wp_X7_farthest at h
  refine lv_aload_n hx hb dX7_farthest_0 rfl (lv_at hl 0 rfl) ?_
  refine lv_iload_n hx hb dX7_farthest_1 rfl (lv_at hl 1 rfl) ?_
  refine vp_callSi (rd_wV (wc := md_v a0 q s0) (As := [.int x1]) (rest := []) hx hb hml hown ht (c2_X7_isCell h) wd_X7_isCell mw_1340 hQ hV va_S.rf (hP.sub [0, 1, 2, 3, 4, 5, 6, 7] rfl) rfl rfl rfl hl.1 rfl (Nat.le_of_ble_eq_true rfl) dX7_farthest_2 ⟨Nat.le_of_ble_eq_true rfl, Nat.le_of_ble_eq_true rfl, rfl, rfl⟩ ⟨Nat.le_of_ble_eq_true rfl, Nat.le_of_ble_eq_true rfl⟩) (fun r_1 h => ?_)
  try dsimp only at h
  refine lv_if_eq (tgt := 18) hx hb dX7_farthest_5 (by decide) (fun c_3 => ?_) (fun c_3 => ?_)
  · replace h := h.1 c_3
    refine lv_iconst (v := (-1)) hx hb dX7_farthest_18 (by decide) ?_
    exact rd_iret hx hb hr hk h dX7_farthest_19
  · replace h := h.2 c_3
    refine lv_iload_n hx hb dX7_farthest_8 rfl (lv_at hl 2 rfl) ?_
    refine lv_i2l (v := (Int32.toInt64 x2)) hx hb dX7_farthest_9 rfl ?_
    refine lv_lconst (v := 0) hx hb dX7_farthest_10 (by decide) ?_
    refine lv_lconst (v := 1) hx hb dX7_farthest_11 (by decide) ?_
    refine vp_callSi (rd_wS (wc := ([] : va_W)) (As := [.long (Int32.toInt64 x2), .long 0, .long 1]) (rest := []) hx hb hml hown ht (c2_X7_in h) wd_X7_in mw_1213 hQ hV va_S.rf (hP.sub [] rfl) rfl hl.1 rfl (Nat.le_of_ble_eq_true rfl) dX7_farthest_12 ⟨Nat.le_of_ble_eq_true rfl, Nat.le_of_ble_eq_true rfl, rfl, rfl⟩ ⟨Nat.le_of_ble_eq_true rfl, Nat.le_of_ble_eq_true rfl⟩) (fun r_4 h => ?_)
    try dsimp only at h
    refine lv_if_ne (tgt := 20) hx hb dX7_farthest_15 (by decide) (fun c_6 => ?_) (fun c_6 => ?_)
    · replace h := h.1 c_6
      refine lv_iconst (v := (-1)) hx hb dX7_farthest_20 (by decide) ?_
      refine lv_istore_n (lv' := [(3, .int (-1)), (0, .ref (a0 0)), (1, .int x1), (2, .int x2)]) hx hb dX7_farthest_21 rfl hl (by decide) rfl (fun ls hl => ?_)
      refine lv_iconst (v := (-1)) hx hb dX7_farthest_22 (by decide) ?_
      refine lv_istore (lv' := [(4, .int (-1)), (3, .int (-1)), (0, .ref (a0 0)), (1, .int x1), (2, .int x2)]) hx hb dX7_farthest_23 hl (by decide) rfl (fun ls hl => ?_)
      refine lv_bipush (v := 32) hx hb dX7_farthest_25 (by decide) ?_
      refine lv_istore (lv' := [(5, .int 32), (4, .int (-1)), (3, .int (-1)), (0, .ref (a0 0)), (1, .int x1), (2, .int x2)]) hx hb dX7_farthest_27 hl (by decide) rfl (fun ls hl => ?_)
      have lp29 : ∀ (e101 : Int32 → Int32 → Int32 → Int32 → Int32 → Prop) (k101 : ∀ (z1 : Int32) (z2 : Int32) (z3 : Int32) (z4 : Int32) (z5 : Int32) (ls : Array Slot), e101 z1 z2 z3 z4 z5 → lv_has ls 7 [(1, .int z1), (2, .int z2), (3, .int z3), (4, .int z4), (5, .int z5), (0, .ref (a0 0))] → W p l e ({ frames := 3, cells := 0, slots := 0, locals := 67 } : Room) s m [.ref (a0 0), .int x1, .int x2].toArray below meth c s.heap [] 0 0 (MQ below (vp_Si post) [.ref (a0 0), .int x1, .int x2].toArray s 0 0 (fun _ => False)) (F0 m 101 ls [])) (n : Nat) (z1 : Int32) (z2 : Int32) (z3 : Int32) (z4 : Int32) (z5 : Int32) (ls : Array Slot), wp_X7_farthest_L29 s0 post e101 n z1 z2 z3 z4 z5 → lv_has ls 7 [(1, .int z1), (2, .int z2), (3, .int z3), (4, .int z4), (5, .int z5), (0, .ref (a0 0))] → W p l e ({ frames := 3, cells := 0, slots := 0, locals := 67 } : Room) s m [.ref (a0 0), .int x1, .int x2].toArray below meth c s.heap [] 0 0 (MQ below (vp_Si post) [.ref (a0 0), .int x1, .int x2].toArray s 0 0 (fun _ => False)) (F0 m 29 ls []) := by
        intro e101 k101 n
        induction n with
        | zero =>
          intro z1 z2 z3 z4 z5 ls h
          exact h.elim
        | succ n ih =>
          intro z1 z2 z3 z4 z5 ls h hl
          unfold wp_X7_farthest_L29 at h
          refine lv_iload hx hb dX7_farthest_29 (lv_at hl 4 rfl) ?_
          refine lv_bipush (v := 127) hx hb dX7_farthest_31 (by decide) ?_
          refine lv_icmp_ge (tgt := 101) hx hb dX7_farthest_33 (by decide) (fun c_7 => ?_) (fun c_7 => ?_)
          · replace h := h.1 c_7
            exact k101 _ _ _ _ _ ls h (lv_sub hl [0, 1, 2, 3, 4, 5] rfl)
          · replace h := h.2 c_7
            refine lv_aload_n hx hb dX7_farthest_36 rfl (lv_at hl 5 rfl) ?_
            refine lv_iload_n hx hb dX7_farthest_37 rfl (lv_at hl 0 rfl) ?_
            refine lv_iload hx hb dX7_farthest_38 (lv_at hl 4 rfl) ?_
            refine vp_callSi (rd_wV (wc := md_v a0 q s0) (As := [.int z1, .int z5]) (rest := []) hx hb hml hown ht (c2_X7_flapFor h) wd_X7_flapFor mw_1241 hQ hV va_S.rf (hP.sub [0, 1, 2, 3, 4, 5, 6, 7] rfl) rfl rfl rfl hl.1 rfl (Nat.le_of_ble_eq_true rfl) dX7_farthest_40 ⟨Nat.le_of_ble_eq_true rfl, Nat.le_of_ble_eq_true rfl, rfl, rfl⟩ ⟨Nat.le_of_ble_eq_true rfl, Nat.le_of_ble_eq_true rfl⟩) (fun r_8 h => ?_)
            try dsimp only at h
            refine lv_istore (lv' := [(6, .int r_8), (1, .int z1), (2, .int z2), (3, .int z3), (4, .int z4), (5, .int z5), (0, .ref (a0 0))]) hx hb dX7_farthest_43 hl (by decide) rfl (fun ls hl => ?_)
            refine lv_iload hx hb dX7_farthest_45 (lv_at hl 0 rfl) ?_
            refine lv_iconst (v := (-1)) hx hb dX7_farthest_47 (by decide) ?_
            refine lv_icmp_eq (tgt := 95) hx hb dX7_farthest_48 (by decide) (fun c_10 => ?_) (fun c_10 => ?_)
            · replace h := h.1 c_10
              refine lv_iinc (v := (z5 + 1)) (lv' := [(5, .int (z5 + 1)), (6, .int r_8), (1, .int z1), (2, .int z2), (3, .int z3), (4, .int z4), (0, .ref (a0 0))]) hx hb dX7_farthest_95 hl (k := 5) rfl rfl (by decide) rfl (fun ls hl => ?_)
              refine lv_goto (tgt := 29) hx hb dX7_farthest_98 (by decide) ?_
              exact ih _ _ _ _ _ ls h (lv_sub hl [2, 3, 4, 5, 0, 6] rfl)
            · replace h := h.2 c_10
              refine lv_aload_n hx hb dX7_farthest_51 rfl (lv_at hl 6 rfl) ?_
              refine lv_iload_n hx hb dX7_farthest_52 rfl (lv_at hl 1 rfl) ?_
              refine lv_iconst (v := 2) hx hb dX7_farthest_53 (by decide) ?_
              refine vp_callSi (rd_wV (wc := md_v a0 q s0) (As := [.int z1, .int 2]) (rest := []) hx hb hml hown ht (c2_X7_of h) wd_X7_of mw_1249 hQ hV va_S.rf (hP.sub [0, 1, 2, 3, 4, 5, 6, 7] rfl) rfl rfl rfl hl.1 rfl (Nat.le_of_ble_eq_true rfl) dX7_farthest_54 ⟨Nat.le_of_ble_eq_true rfl, Nat.le_of_ble_eq_true rfl, rfl, rfl⟩ ⟨Nat.le_of_ble_eq_true rfl, Nat.le_of_ble_eq_true rfl⟩) (fun r_11 h => ?_)
              try dsimp only at h
              refine lv_iload hx hb dX7_farthest_57 (lv_at hl 0 rfl) ?_
              refine lv_aload_n hx hb dX7_farthest_59 rfl (lv_at hl 6 rfl) ?_
              refine lv_iload_n hx hb dX7_farthest_60 rfl (lv_at hl 1 rfl) ?_
              refine vp_callSi (rd_wV (wc := md_v a0 q s0) (As := [.int z1]) (rest := [.int r_8, .int r_11]) hx hb hml hown ht (c2_X7_flaps h) wd_X7_flaps mw_1245 hQ hV va_S.rf (hP.sub [0, 1, 2, 3, 4, 5, 6, 7] rfl) rfl rfl rfl hl.1 rfl (Nat.le_of_ble_eq_true rfl) dX7_farthest_61 ⟨Nat.le_of_ble_eq_true rfl, Nat.le_of_ble_eq_true rfl, rfl, rfl⟩ ⟨Nat.le_of_ble_eq_true rfl, Nat.le_of_ble_eq_true rfl⟩) (fun r_13 h => ?_)
              try dsimp only at h
              refine vp_callSi (rd_wS (wc := ([] : va_W)) (As := [.int r_11, .int r_8, .int r_13]) (rest := []) hx hb hml hown ht (c2_X7_on h) wd_X7_on mw_1268 hQ hV va_S.rf (hP.sub [] rfl) rfl hl.1 rfl (Nat.le_of_ble_eq_true rfl) dX7_farthest_64 ⟨Nat.le_of_ble_eq_true rfl, Nat.le_of_ble_eq_true rfl, rfl, rfl⟩ ⟨Nat.le_of_ble_eq_true rfl, Nat.le_of_ble_eq_true rfl⟩) (fun r_15 h => ?_)
              try dsimp only at h
              refine lv_iload_n hx hb dX7_farthest_67 rfl (lv_at hl 3 rfl) ?_
              refine lv_icmp_gt (tgt := 74) hx hb dX7_farthest_68 (by decide) (fun c_17 => ?_) (fun c_17 => ?_)
              · replace h := h.1 c_17
                refine lv_aload_n hx hb dX7_farthest_74 rfl (lv_at hl 6 rfl) ?_
                refine lv_iload_n hx hb dX7_farthest_75 rfl (lv_at hl 1 rfl) ?_
                refine lv_iconst (v := 2) hx hb dX7_farthest_76 (by decide) ?_
                refine vp_callSi (rd_wV (wc := md_v a0 q s0) (As := [.int z1, .int 2]) (rest := []) hx hb hml hown ht (c2_X7_of h) wd_X7_of mw_1249 hQ hV va_S.rf (hP.sub [0, 1, 2, 3, 4, 5, 6, 7] rfl) rfl rfl rfl hl.1 rfl (Nat.le_of_ble_eq_true rfl) dX7_farthest_77 ⟨Nat.le_of_ble_eq_true rfl, Nat.le_of_ble_eq_true rfl, rfl, rfl⟩ ⟨Nat.le_of_ble_eq_true rfl, Nat.le_of_ble_eq_true rfl⟩) (fun r_18 h => ?_)
                try dsimp only at h
                refine lv_iload hx hb dX7_farthest_80 (lv_at hl 0 rfl) ?_
                refine lv_aload_n hx hb dX7_farthest_82 rfl (lv_at hl 6 rfl) ?_
                refine lv_iload_n hx hb dX7_farthest_83 rfl (lv_at hl 1 rfl) ?_
                refine vp_callSi (rd_wV (wc := md_v a0 q s0) (As := [.int z1]) (rest := [.int r_8, .int r_18]) hx hb hml hown ht (c2_X7_flaps h) wd_X7_flaps mw_1245 hQ hV va_S.rf (hP.sub [0, 1, 2, 3, 4, 5, 6, 7] rfl) rfl rfl rfl hl.1 rfl (Nat.le_of_ble_eq_true rfl) dX7_farthest_84 ⟨Nat.le_of_ble_eq_true rfl, Nat.le_of_ble_eq_true rfl, rfl, rfl⟩ ⟨Nat.le_of_ble_eq_true rfl, Nat.le_of_ble_eq_true rfl⟩) (fun r_20 h => ?_)
                try dsimp only at h
                refine vp_callSi (rd_wS (wc := ([] : va_W)) (As := [.int r_18, .int r_8, .int r_20]) (rest := []) hx hb hml hown ht (c2_X7_on h) wd_X7_on mw_1268 hQ hV va_S.rf (hP.sub [] rfl) rfl hl.1 rfl (Nat.le_of_ble_eq_true rfl) dX7_farthest_87 ⟨Nat.le_of_ble_eq_true rfl, Nat.le_of_ble_eq_true rfl, rfl, rfl⟩ ⟨Nat.le_of_ble_eq_true rfl, Nat.le_of_ble_eq_true rfl⟩) (fun r_22 h => ?_)
                try dsimp only at h
                refine lv_istore_n (lv' := [(3, .int r_22), (6, .int r_8), (1, .int z1), (2, .int z2), (4, .int z4), (5, .int z5), (0, .ref (a0 0))]) hx hb dX7_farthest_90 rfl hl (by decide) rfl (fun ls hl => ?_)
                refine lv_iload hx hb dX7_farthest_91 (lv_at hl 5 rfl) ?_
                refine lv_istore (lv' := [(4, .int z5), (3, .int r_22), (6, .int r_8), (1, .int z1), (2, .int z2), (5, .int z5), (0, .ref (a0 0))]) hx hb dX7_farthest_93 hl (by decide) rfl (fun ls hl => ?_)
                refine lv_iinc (v := (z5 + 1)) (lv' := [(5, .int (z5 + 1)), (4, .int z5), (3, .int r_22), (6, .int r_8), (1, .int z1), (2, .int z2), (0, .ref (a0 0))]) hx hb dX7_farthest_95 hl (k := 5) rfl rfl (by decide) rfl (fun ls hl => ?_)
                refine lv_goto (tgt := 29) hx hb dX7_farthest_98 (by decide) ?_
                exact ih _ _ _ _ _ ls h (lv_sub hl [4, 5, 2, 1, 0, 6] rfl)
              · replace h := h.2 c_17
                refine lv_goto (tgt := 95) hx hb dX7_farthest_71 (by decide) ?_
                refine lv_iinc (v := (z5 + 1)) (lv' := [(5, .int (z5 + 1)), (6, .int r_8), (1, .int z1), (2, .int z2), (3, .int z3), (4, .int z4), (0, .ref (a0 0))]) hx hb dX7_farthest_95 hl (k := 5) rfl rfl (by decide) rfl (fun ls hl => ?_)
                refine lv_goto (tgt := 29) hx hb dX7_farthest_98 (by decide) ?_
                exact ih _ _ _ _ _ ls h (lv_sub hl [2, 3, 4, 5, 0, 6] rfl)
      obtain ⟨n29, h⟩ := h
      refine lp29 _ ?_ n29 _ _ _ _ _ ls h (lv_sub hl [4, 5, 2, 1, 0, 3] rfl)
      · intro z1 z2 z3 z4 z5 ls h hl
        try dsimp only at h
        refine lv_iload_n hx hb dX7_farthest_101 rfl (lv_at hl 1 rfl) ?_
        refine lv_if_ne (tgt := 109) hx hb dX7_farthest_102 (by decide) (fun c_24 => ?_) (fun c_24 => ?_)
        · replace h := h.1 c_24
          refine lv_iload hx hb dX7_farthest_109 (lv_at hl 3 rfl) ?_
          exact rd_iret hx hb hr hk h dX7_farthest_111
        · replace h := h.2 c_24
          refine lv_iload_n hx hb dX7_farthest_105 rfl (lv_at hl 2 rfl) ?_
          refine lv_goto (tgt := 111) hx hb dX7_farthest_106 (by decide) ?_
          exact rd_iret hx hb hr hk h dX7_farthest_111
    · replace h := h.2 c_6
      refine lv_iconst (v := (-1)) hx hb dX7_farthest_18 (by decide) ?_
      exact rd_iret hx hb hr hk h dX7_farthest_19

def wp_X7_hasElsewhere_L2 (s0 : Md) (post : Int32 → Prop) (e32 : Int32 → Int32 → Int32 → Prop) : Nat → Int32 → Int32 → Int32 → Prop
  | 0, _, _, _ => False
  | n2 + 1, z1, z2, z3 => wp_X7_drums (fun r_1 => ((r_1 ≤ z3 → e32 z1 z2 z3) ∧ (¬ r_1 ≤ z3 → ((z3 = z1 → wp_X7_hasElsewhere_L2 s0 post e32 n2 z1 z2 (z3 + 1)) ∧ (¬ z3 = z1 → wp_X7_manyWith (fun r_5 => ((r_5 ≤ 0 → wp_X7_hasElsewhere_L2 s0 post e32 n2 z1 z2 (z3 + 1)) ∧ (¬ r_5 ≤ 0 → post 1))) s0 z3 z2))))) s0
def wp_X7_hasElsewhere (post : Int32 → Prop) (s0 : Md) (x1 : Int32) (x2 : Int32) : Prop := (∃ n2, wp_X7_hasElsewhere_L2 s0 post (fun z1 z2 z3 => post 0) n2 x1 x2 0)
set_option maxHeartbeats 4000000 in
set_option maxRecDepth 100000 in
theorem c2_X7_hasElsewhere {l : Launch} {D : va_G} {q : Nat → ClassId} {a0 : Nat → Nat} {s0 : Md} {x1 : Int32} {x2 : Int32} {post : Int32 → Prop} (h : wp_X7_hasElsewhere post s0 x1 x2) : Met l yX7_hasElsewhere (Cond.code yX7_hasElsewhere cX7_hasElsewhere 4 (some .boolean) :: w_all) ({ frames := 2, cells := 0, slots := 0, locals := 46 } : Room) (rd_P D q [.ref (a0 0), .int x1, .int x2] (md_v a0 q s0)) (vp_Si post) 0 0 (fun _ => False) := by
  refine rd_start (by decide) (Nat.le_of_ble_eq_true rfl) ?_
  intro p e s m below meth c ls hx hb hr hml hown ht hk hP hQ hV hl
  have hK := hQ.1
  have hown : s.vm.findClass RX7 = some m.cls := hown
  have hl : lv_has ls 4 [(0, .ref (a0 0)), (1, .int x1), (2, .int x2)] := hl
  have hP : va_P D vwCl [((a0 0), .inr (6, [.ref (a0 1), .ref (a0 2), .int (s0.1 0), .ref (a0 3), .ref (a0 5), .ref (a0 4), .long s0.2.1, .int (s0.1 1), .int (s0.1 2), .ref (a0 6), .int (s0.1 3), .int (s0.1 4), .ref (a0 7), .int (s0.1 5), .int (s0.1 6), .int (s0.1 7), .int (s0.1 8), .int (s0.1 9), .int (s0.1 10), .int (s0.1 11), .int (s0.1 12), .int (s0.1 13), .int (s0.1 14)])), ((a0 1), .inl (q 1, 6896, .inr (.inl (s0.2.2.1 0)))), ((a0 2), .inl (q 1, 68960, .inr (.inl (s0.2.2.1 1)))), ((a0 3), .inl (q 1, 13792, .inr (.inl (s0.2.2.1 2)))), ((a0 4), .inl (q 1, 6896, .inr (.inl (s0.2.2.1 3)))), ((a0 5), .inl (q 3, 2, .inl (s0.2.2.2 0))), ((a0 6), .inl (q 0, 40, .inl (s0.2.2.2 1))), ((a0 7), .inl (q 2, 400, .inl (s0.2.2.2 2)))] s.heap := hP
  unfold wp_X7_hasElsewhere at h
  refine lv_iconst (v := 0) hx hb dX7_hasElsewhere_0 (by decide) ?_
  refine lv_istore_n (lv' := [(3, .int 0), (0, .ref (a0 0)), (1, .int x1), (2, .int x2)]) hx hb dX7_hasElsewhere_1 rfl hl (by decide) rfl (fun ls hl => ?_)
  have lp2 : ∀ (e32 : Int32 → Int32 → Int32 → Prop) (k32 : ∀ (z1 : Int32) (z2 : Int32) (z3 : Int32) (ls : Array Slot), e32 z1 z2 z3 → lv_has ls 4 [(1, .int z1), (2, .int z2), (3, .int z3), (0, .ref (a0 0))] → W p l e ({ frames := 2, cells := 0, slots := 0, locals := 46 } : Room) s m [.ref (a0 0), .int x1, .int x2].toArray below meth c s.heap [] 0 0 (MQ below (vp_Si post) [.ref (a0 0), .int x1, .int x2].toArray s 0 0 (fun _ => False)) (F0 m 32 ls [])) (n : Nat) (z1 : Int32) (z2 : Int32) (z3 : Int32) (ls : Array Slot), wp_X7_hasElsewhere_L2 s0 post e32 n z1 z2 z3 → lv_has ls 4 [(1, .int z1), (2, .int z2), (3, .int z3), (0, .ref (a0 0))] → W p l e ({ frames := 2, cells := 0, slots := 0, locals := 46 } : Room) s m [.ref (a0 0), .int x1, .int x2].toArray below meth c s.heap [] 0 0 (MQ below (vp_Si post) [.ref (a0 0), .int x1, .int x2].toArray s 0 0 (fun _ => False)) (F0 m 2 ls []) := by
    intro e32 k32 n
    induction n with
    | zero =>
      intro z1 z2 z3 ls h
      exact h.elim
    | succ n ih =>
      intro z1 z2 z3 ls h hl
      unfold wp_X7_hasElsewhere_L2 at h
      refine lv_iload_n hx hb dX7_hasElsewhere_2 rfl (lv_at hl 2 rfl) ?_
      refine lv_aload_n hx hb dX7_hasElsewhere_3 rfl (lv_at hl 3 rfl) ?_
      refine vp_callSi (rd_wV (wc := md_v a0 q s0) (As := []) (rest := [.int z3]) hx hb hml hown ht (c2_X7_drums h) wd_X7_drums mw_1287 hQ hV va_S.rf (hP.sub [0, 1, 2, 3, 4, 5, 6, 7] rfl) rfl rfl rfl hl.1 rfl (Nat.le_of_ble_eq_true rfl) dX7_hasElsewhere_4 ⟨Nat.le_of_ble_eq_true rfl, Nat.le_of_ble_eq_true rfl, rfl, rfl⟩ ⟨Nat.le_of_ble_eq_true rfl, Nat.le_of_ble_eq_true rfl⟩) (fun r_1 h => ?_)
      try dsimp only at h
      refine lv_icmp_ge (tgt := 32) hx hb dX7_hasElsewhere_7 (by decide) (fun c_3 => ?_) (fun c_3 => ?_)
      · replace h := h.1 c_3
        exact k32 _ _ _ ls h (lv_sub hl [0, 1, 2, 3] rfl)
      · replace h := h.2 c_3
        refine lv_iload_n hx hb dX7_hasElsewhere_10 rfl (lv_at hl 2 rfl) ?_
        refine lv_iload_n hx hb dX7_hasElsewhere_11 rfl (lv_at hl 0 rfl) ?_
        refine lv_icmp_eq (tgt := 26) hx hb dX7_hasElsewhere_12 (by decide) (fun c_4 => ?_) (fun c_4 => ?_)
        · replace h := h.1 c_4
          refine lv_iinc (v := (z3 + 1)) (lv' := [(3, .int (z3 + 1)), (1, .int z1), (2, .int z2), (0, .ref (a0 0))]) hx hb dX7_hasElsewhere_26 hl (k := 2) rfl rfl (by decide) rfl (fun ls hl => ?_)
          refine lv_goto (tgt := 2) hx hb dX7_hasElsewhere_29 (by decide) ?_
          exact ih _ _ _ ls h (lv_sub hl [1, 2, 0, 3] rfl)
        · replace h := h.2 c_4
          refine lv_aload_n hx hb dX7_hasElsewhere_15 rfl (lv_at hl 3 rfl) ?_
          refine lv_iload_n hx hb dX7_hasElsewhere_16 rfl (lv_at hl 2 rfl) ?_
          refine lv_iload_n hx hb dX7_hasElsewhere_17 rfl (lv_at hl 1 rfl) ?_
          refine vp_callSi (rd_wV (wc := md_v a0 q s0) (As := [.int z3, .int z2]) (rest := []) hx hb hml hown ht (c2_X7_manyWith h) wd_X7_manyWith mw_1409 hQ hV va_S.rf (hP.sub [0, 1, 2, 3, 4, 5, 6, 7] rfl) rfl rfl rfl hl.1 rfl (Nat.le_of_ble_eq_true rfl) dX7_hasElsewhere_18 ⟨Nat.le_of_ble_eq_true rfl, Nat.le_of_ble_eq_true rfl, rfl, rfl⟩ ⟨Nat.le_of_ble_eq_true rfl, Nat.le_of_ble_eq_true rfl⟩) (fun r_5 h => ?_)
          try dsimp only at h
          refine lv_if_le (tgt := 26) hx hb dX7_hasElsewhere_21 (by decide) (fun c_7 => ?_) (fun c_7 => ?_)
          · replace h := h.1 c_7
            refine lv_iinc (v := (z3 + 1)) (lv' := [(3, .int (z3 + 1)), (1, .int z1), (2, .int z2), (0, .ref (a0 0))]) hx hb dX7_hasElsewhere_26 hl (k := 2) rfl rfl (by decide) rfl (fun ls hl => ?_)
            refine lv_goto (tgt := 2) hx hb dX7_hasElsewhere_29 (by decide) ?_
            exact ih _ _ _ ls h (lv_sub hl [1, 2, 0, 3] rfl)
          · replace h := h.2 c_7
            refine lv_iconst (v := 1) hx hb dX7_hasElsewhere_24 (by decide) ?_
            exact rd_zret hx hb hr hk rfl h dX7_hasElsewhere_25
  obtain ⟨n2, h⟩ := h
  refine lp2 _ ?_ n2 _ _ _ ls h (lv_sub hl [2, 3, 0, 1] rfl)
  · intro z1 z2 z3 ls h hl
    try dsimp only at h
    refine lv_iconst (v := 0) hx hb dX7_hasElsewhere_32 (by decide) ?_
    exact rd_zret hx hb hr hk rfl h dX7_hasElsewhere_33

def wp_X7_lacks_L26 (s0 : Md) (post : Int32 → Prop) (e117 : Int32 → Int32 → Int32 → Int32 → Prop) : Nat → Int32 → Int32 → Int32 → Int32 → Prop
  | 0, _, _, _, _ => False
  | n26 + 1, z1, z2, z3, z4 => ((127 ≤ z4 → e117 z1 z2 z3 z4) ∧ (¬ 127 ≤ z4 → wp_X7_of (fun r_8 => wp_X7_manyWith (fun r_10 => ((r_10 ≤ 0 → ((¬ z2 = 0 → wp_X7_of (fun r_14 => wp_X7_hasElsewhere (fun r_16 => ((r_16 = 0 → wp_X7_lacks_L26 s0 post e117 n26 z1 z2 (z3 + 0) (z4 + 1)) ∧ (¬ r_16 = 0 → wp_X7_lacks_L26 s0 post e117 n26 z1 z2 (z3 + 1) (z4 + 1)))) s0 r_14 z4) s0 z1 (0 : Int32)) ∧ (z2 = 0 → wp_X7_lacks_L26 s0 post e117 n26 z1 z2 (z3 + 0) (z4 + 1)))) ∧ (¬ r_10 ≤ 0 → ((¬ z2 = 0 → wp_X7_lacks_L26 s0 post e117 n26 z1 z2 (z3 + 0) (z4 + 1)) ∧ (z2 = 0 → wp_X7_flapFor (fun r_20 => ((¬ r_20 = (-1) → wp_X7_lacks_L26 s0 post e117 n26 z1 z2 (z3 + 0) (z4 + 1)) ∧ (r_20 = (-1) → wp_X7_lacks_L26 s0 post e117 n26 z1 z2 (z3 + 1) (z4 + 1)))) s0 z1 z4))))) s0 r_8 z4) s0 z1 (0 : Int32)))
def wp_X7_lacks (post : Int32 → Prop) (s0 : Md) (x1 : Int32) (x2 : Int32) : Prop := wp_X7_isCell (fun r_1 => ((r_1 = 0 → post (-1)) ∧ (¬ r_1 = 0 → wp_X7_in (fun r_4 => ((¬ r_4 = 0 → (∃ n26, wp_X7_lacks_L26 s0 post (fun z1 z2 z3 z4 => post z3) n26 x1 x2 0 32)) ∧ (r_4 = 0 → post (-1)))) (Int32.toInt64 x2) (0 : Int64) (1 : Int64)))) s0 x1
set_option maxHeartbeats 4000000 in
set_option maxRecDepth 100000 in
theorem c2_X7_lacks {l : Launch} {D : va_G} {q : Nat → ClassId} {a0 : Nat → Nat} {s0 : Md} {x1 : Int32} {x2 : Int32} {post : Int32 → Prop} (h : wp_X7_lacks post s0 x1 x2) : Met l yX7_lacks (Cond.code yX7_lacks cX7_lacks 6 (some .int) :: w_all) ({ frames := 3, cells := 0, slots := 0, locals := 69 } : Room) (rd_P D q [.ref (a0 0), .int x1, .int x2] (md_v a0 q s0)) (vp_Si post) 0 0 (fun _ => False) := by
  refine rd_start (by decide) (Nat.le_of_ble_eq_true rfl) ?_
  intro p e s m below meth c ls hx hb hr hml hown ht hk hP hQ hV hl
  have hK := hQ.1
  have hown : s.vm.findClass RX7 = some m.cls := hown
  have hl : lv_has ls 6 [(0, .ref (a0 0)), (1, .int x1), (2, .int x2)] := hl
  have hP : va_P D vwCl [((a0 0), .inr (6, [.ref (a0 1), .ref (a0 2), .int (s0.1 0), .ref (a0 3), .ref (a0 5), .ref (a0 4), .long s0.2.1, .int (s0.1 1), .int (s0.1 2), .ref (a0 6), .int (s0.1 3), .int (s0.1 4), .ref (a0 7), .int (s0.1 5), .int (s0.1 6), .int (s0.1 7), .int (s0.1 8), .int (s0.1 9), .int (s0.1 10), .int (s0.1 11), .int (s0.1 12), .int (s0.1 13), .int (s0.1 14)])), ((a0 1), .inl (q 1, 6896, .inr (.inl (s0.2.2.1 0)))), ((a0 2), .inl (q 1, 68960, .inr (.inl (s0.2.2.1 1)))), ((a0 3), .inl (q 1, 13792, .inr (.inl (s0.2.2.1 2)))), ((a0 4), .inl (q 1, 6896, .inr (.inl (s0.2.2.1 3)))), ((a0 5), .inl (q 3, 2, .inl (s0.2.2.2 0))), ((a0 6), .inl (q 0, 40, .inl (s0.2.2.2 1))), ((a0 7), .inl (q 2, 400, .inl (s0.2.2.2 2)))] s.heap := hP
  unfold wp_X7_lacks at h
  refine lv_aload_n hx hb dX7_lacks_0 rfl (lv_at hl 0 rfl) ?_
  refine lv_iload_n hx hb dX7_lacks_1 rfl (lv_at hl 1 rfl) ?_
  refine vp_callSi (rd_wV (wc := md_v a0 q s0) (As := [.int x1]) (rest := []) hx hb hml hown ht (c2_X7_isCell h) wd_X7_isCell mw_1340 hQ hV va_S.rf (hP.sub [0, 1, 2, 3, 4, 5, 6, 7] rfl) rfl rfl rfl hl.1 rfl (Nat.le_of_ble_eq_true rfl) dX7_lacks_2 ⟨Nat.le_of_ble_eq_true rfl, Nat.le_of_ble_eq_true rfl, rfl, rfl⟩ ⟨Nat.le_of_ble_eq_true rfl, Nat.le_of_ble_eq_true rfl⟩) (fun r_1 h => ?_)
  try dsimp only at h
  refine lv_if_eq (tgt := 18) hx hb dX7_lacks_5 (by decide) (fun c_3 => ?_) (fun c_3 => ?_)
  · replace h := h.1 c_3
    refine lv_iconst (v := (-1)) hx hb dX7_lacks_18 (by decide) ?_
    exact rd_iret hx hb hr hk h dX7_lacks_19
  · replace h := h.2 c_3
    refine lv_iload_n hx hb dX7_lacks_8 rfl (lv_at hl 2 rfl) ?_
    refine lv_i2l (v := (Int32.toInt64 x2)) hx hb dX7_lacks_9 rfl ?_
    refine lv_lconst (v := 0) hx hb dX7_lacks_10 (by decide) ?_
    refine lv_lconst (v := 1) hx hb dX7_lacks_11 (by decide) ?_
    refine vp_callSi (rd_wS (wc := ([] : va_W)) (As := [.long (Int32.toInt64 x2), .long 0, .long 1]) (rest := []) hx hb hml hown ht (c2_X7_in h) wd_X7_in mw_1213 hQ hV va_S.rf (hP.sub [] rfl) rfl hl.1 rfl (Nat.le_of_ble_eq_true rfl) dX7_lacks_12 ⟨Nat.le_of_ble_eq_true rfl, Nat.le_of_ble_eq_true rfl, rfl, rfl⟩ ⟨Nat.le_of_ble_eq_true rfl, Nat.le_of_ble_eq_true rfl⟩) (fun r_4 h => ?_)
    try dsimp only at h
    refine lv_if_ne (tgt := 20) hx hb dX7_lacks_15 (by decide) (fun c_6 => ?_) (fun c_6 => ?_)
    · replace h := h.1 c_6
      refine lv_iconst (v := 0) hx hb dX7_lacks_20 (by decide) ?_
      refine lv_istore_n (lv' := [(3, .int 0), (0, .ref (a0 0)), (1, .int x1), (2, .int x2)]) hx hb dX7_lacks_21 rfl hl (by decide) rfl (fun ls hl => ?_)
      refine lv_bipush (v := 32) hx hb dX7_lacks_22 (by decide) ?_
      refine lv_istore (lv' := [(4, .int 32), (3, .int 0), (0, .ref (a0 0)), (1, .int x1), (2, .int x2)]) hx hb dX7_lacks_24 hl (by decide) rfl (fun ls hl => ?_)
      have lp26 : ∀ (e117 : Int32 → Int32 → Int32 → Int32 → Prop) (k117 : ∀ (z1 : Int32) (z2 : Int32) (z3 : Int32) (z4 : Int32) (ls : Array Slot), e117 z1 z2 z3 z4 → lv_has ls 6 [(1, .int z1), (2, .int z2), (3, .int z3), (4, .int z4), (0, .ref (a0 0))] → W p l e ({ frames := 3, cells := 0, slots := 0, locals := 69 } : Room) s m [.ref (a0 0), .int x1, .int x2].toArray below meth c s.heap [] 0 0 (MQ below (vp_Si post) [.ref (a0 0), .int x1, .int x2].toArray s 0 0 (fun _ => False)) (F0 m 117 ls [])) (n : Nat) (z1 : Int32) (z2 : Int32) (z3 : Int32) (z4 : Int32) (ls : Array Slot), wp_X7_lacks_L26 s0 post e117 n z1 z2 z3 z4 → lv_has ls 6 [(1, .int z1), (2, .int z2), (3, .int z3), (4, .int z4), (0, .ref (a0 0))] → W p l e ({ frames := 3, cells := 0, slots := 0, locals := 69 } : Room) s m [.ref (a0 0), .int x1, .int x2].toArray below meth c s.heap [] 0 0 (MQ below (vp_Si post) [.ref (a0 0), .int x1, .int x2].toArray s 0 0 (fun _ => False)) (F0 m 26 ls []) := by
        intro e117 k117 n
        induction n with
        | zero =>
          intro z1 z2 z3 z4 ls h
          exact h.elim
        | succ n ih =>
          intro z1 z2 z3 z4 ls h hl
          unfold wp_X7_lacks_L26 at h
          refine lv_iload hx hb dX7_lacks_26 (lv_at hl 3 rfl) ?_
          refine lv_bipush (v := 127) hx hb dX7_lacks_28 (by decide) ?_
          refine lv_icmp_ge (tgt := 117) hx hb dX7_lacks_30 (by decide) (fun c_7 => ?_) (fun c_7 => ?_)
          · replace h := h.1 c_7
            exact k117 _ _ _ _ ls h (lv_sub hl [0, 1, 2, 3, 4] rfl)
          · replace h := h.2 c_7
            refine lv_aload_n hx hb dX7_lacks_33 rfl (lv_at hl 4 rfl) ?_
            refine lv_aload_n hx hb dX7_lacks_34 rfl (lv_at hl 4 rfl) ?_
            refine lv_iload_n hx hb dX7_lacks_35 rfl (lv_at hl 0 rfl) ?_
            refine lv_iconst (v := 0) hx hb dX7_lacks_36 (by decide) ?_
            refine vp_callSi (rd_wV (wc := md_v a0 q s0) (As := [.int z1, .int 0]) (rest := [.ref (a0 0)]) hx hb hml hown ht (c2_X7_of h) wd_X7_of mw_1249 hQ hV va_S.rf (hP.sub [0, 1, 2, 3, 4, 5, 6, 7] rfl) rfl rfl rfl hl.1 rfl (Nat.le_of_ble_eq_true rfl) dX7_lacks_37 ⟨Nat.le_of_ble_eq_true rfl, Nat.le_of_ble_eq_true rfl, rfl, rfl⟩ ⟨Nat.le_of_ble_eq_true rfl, Nat.le_of_ble_eq_true rfl⟩) (fun r_8 h => ?_)
            try dsimp only at h
            refine lv_iload hx hb dX7_lacks_40 (lv_at hl 3 rfl) ?_
            refine vp_callSi (rd_wV (wc := md_v a0 q s0) (As := [.int r_8, .int z4]) (rest := []) hx hb hml hown ht (c2_X7_manyWith h) wd_X7_manyWith mw_1409 hQ hV va_S.rf (hP.sub [0, 1, 2, 3, 4, 5, 6, 7] rfl) rfl rfl rfl hl.1 rfl (Nat.le_of_ble_eq_true rfl) dX7_lacks_42 ⟨Nat.le_of_ble_eq_true rfl, Nat.le_of_ble_eq_true rfl, rfl, rfl⟩ ⟨Nat.le_of_ble_eq_true rfl, Nat.le_of_ble_eq_true rfl⟩) (fun r_10 h => ?_)
            try dsimp only at h
            refine lv_if_le (tgt := 52) hx hb dX7_lacks_45 (by decide) (fun c_12 => ?_) (fun c_12 => ?_)
            · replace h := h.1 c_12
              refine lv_iconst (v := 0) hx hb dX7_lacks_52 (by decide) ?_
              refine lv_istore (lv' := [(5, .int 0), (1, .int z1), (2, .int z2), (3, .int z3), (4, .int z4), (0, .ref (a0 0))]) hx hb dX7_lacks_53 hl (by decide) rfl (fun ls hl => ?_)
              refine lv_iload_n hx hb dX7_lacks_55 rfl (lv_at hl 3 rfl) ?_
              refine lv_iload_n hx hb dX7_lacks_56 rfl (lv_at hl 2 rfl) ?_
              refine lv_if_ne (tgt := 84) hx hb dX7_lacks_57 (by decide) (fun c_13 => ?_) (fun c_13 => ?_)
              · replace h := h.1 c_13
                refine lv_iload hx hb dX7_lacks_84 (lv_at hl 0 rfl) ?_
                refine lv_if_ne (tgt := 108) hx hb dX7_lacks_86 (by decide) (fun c9 => absurd c9 (by decide)) (fun _ => ?_)
                refine lv_aload_n hx hb dX7_lacks_89 rfl (lv_at hl 5 rfl) ?_
                refine lv_aload_n hx hb dX7_lacks_90 rfl (lv_at hl 5 rfl) ?_
                refine lv_iload_n hx hb dX7_lacks_91 rfl (lv_at hl 1 rfl) ?_
                refine lv_iconst (v := 0) hx hb dX7_lacks_92 (by decide) ?_
                refine vp_callSi (rd_wV (wc := md_v a0 q s0) (As := [.int z1, .int 0]) (rest := [.ref (a0 0), .int z3]) hx hb hml hown ht (c2_X7_of h) wd_X7_of mw_1249 hQ hV va_S.rf (hP.sub [0, 1, 2, 3, 4, 5, 6, 7] rfl) rfl rfl rfl hl.1 rfl (Nat.le_of_ble_eq_true rfl) dX7_lacks_93 ⟨Nat.le_of_ble_eq_true rfl, Nat.le_of_ble_eq_true rfl, rfl, rfl⟩ ⟨Nat.le_of_ble_eq_true rfl, Nat.le_of_ble_eq_true rfl⟩) (fun r_14 h => ?_)
                try dsimp only at h
                refine lv_iload hx hb dX7_lacks_96 (lv_at hl 4 rfl) ?_
                refine vp_callSi (rd_wV (wc := md_v a0 q s0) (As := [.int r_14, .int z4]) (rest := [.int z3]) hx hb hml hown ht (c2_X7_hasElsewhere h) wd_X7_hasElsewhere mw_1542 hQ hV va_S.rf (hP.sub [0, 1, 2, 3, 4, 5, 6, 7] rfl) rfl rfl rfl hl.1 rfl (Nat.le_of_ble_eq_true rfl) dX7_lacks_98 ⟨Nat.le_of_ble_eq_true rfl, Nat.le_of_ble_eq_true rfl, rfl, rfl⟩ ⟨Nat.le_of_ble_eq_true rfl, Nat.le_of_ble_eq_true rfl⟩) (fun r_16 h => ?_)
                try dsimp only at h
                refine lv_if_eq (tgt := 108) hx hb dX7_lacks_101 (by decide) (fun c_18 => ?_) (fun c_18 => ?_)
                · replace h := h.1 c_18
                  refine lv_iconst (v := 0) hx hb dX7_lacks_108 (by decide) ?_
                  refine lv_iadd hx hb dX7_lacks_109 ?_
                  refine lv_istore_n (lv' := [(3, .int (z3 + 0)), (5, .int 0), (1, .int z1), (2, .int z2), (4, .int z4), (0, .ref (a0 0))]) hx hb dX7_lacks_110 rfl hl (by decide) rfl (fun ls hl => ?_)
                  refine lv_iinc (v := (z4 + 1)) (lv' := [(4, .int (z4 + 1)), (3, .int (z3 + 0)), (5, .int 0), (1, .int z1), (2, .int z2), (0, .ref (a0 0))]) hx hb dX7_lacks_111 hl (k := 4) rfl rfl (by decide) rfl (fun ls hl => ?_)
                  refine lv_goto (tgt := 26) hx hb dX7_lacks_114 (by decide) ?_
                  exact ih _ _ _ _ ls h (lv_sub hl [3, 4, 1, 0, 5] rfl)
                · replace h := h.2 c_18
                  refine lv_iconst (v := 1) hx hb dX7_lacks_104 (by decide) ?_
                  refine lv_goto (tgt := 109) hx hb dX7_lacks_105 (by decide) ?_
                  refine lv_iadd hx hb dX7_lacks_109 ?_
                  refine lv_istore_n (lv' := [(3, .int (z3 + 1)), (5, .int 0), (1, .int z1), (2, .int z2), (4, .int z4), (0, .ref (a0 0))]) hx hb dX7_lacks_110 rfl hl (by decide) rfl (fun ls hl => ?_)
                  refine lv_iinc (v := (z4 + 1)) (lv' := [(4, .int (z4 + 1)), (3, .int (z3 + 1)), (5, .int 0), (1, .int z1), (2, .int z2), (0, .ref (a0 0))]) hx hb dX7_lacks_111 hl (k := 4) rfl rfl (by decide) rfl (fun ls hl => ?_)
                  refine lv_goto (tgt := 26) hx hb dX7_lacks_114 (by decide) ?_
                  exact ih _ _ _ _ ls h (lv_sub hl [3, 4, 1, 0, 5] rfl)
              · replace h := h.2 c_13
                refine lv_iload hx hb dX7_lacks_60 (lv_at hl 0 rfl) ?_
                refine lv_if_eq (tgt := 80) hx hb dX7_lacks_62 (by decide) (fun _ => ?_) (fun c9 => absurd (by decide) c9)
                refine lv_iconst (v := 0) hx hb dX7_lacks_80 (by decide) ?_
                refine lv_goto (tgt := 109) hx hb dX7_lacks_81 (by decide) ?_
                refine lv_iadd hx hb dX7_lacks_109 ?_
                refine lv_istore_n (lv' := [(3, .int (z3 + 0)), (5, .int 0), (1, .int z1), (2, .int z2), (4, .int z4), (0, .ref (a0 0))]) hx hb dX7_lacks_110 rfl hl (by decide) rfl (fun ls hl => ?_)
                refine lv_iinc (v := (z4 + 1)) (lv' := [(4, .int (z4 + 1)), (3, .int (z3 + 0)), (5, .int 0), (1, .int z1), (2, .int z2), (0, .ref (a0 0))]) hx hb dX7_lacks_111 hl (k := 4) rfl rfl (by decide) rfl (fun ls hl => ?_)
                refine lv_goto (tgt := 26) hx hb dX7_lacks_114 (by decide) ?_
                exact ih _ _ _ _ ls h (lv_sub hl [3, 4, 1, 0, 5] rfl)
            · replace h := h.2 c_12
              refine lv_iconst (v := 1) hx hb dX7_lacks_48 (by decide) ?_
              refine lv_goto (tgt := 53) hx hb dX7_lacks_49 (by decide) ?_
              refine lv_istore (lv' := [(5, .int 1), (1, .int z1), (2, .int z2), (3, .int z3), (4, .int z4), (0, .ref (a0 0))]) hx hb dX7_lacks_53 hl (by decide) rfl (fun ls hl => ?_)
              refine lv_iload_n hx hb dX7_lacks_55 rfl (lv_at hl 3 rfl) ?_
              refine lv_iload_n hx hb dX7_lacks_56 rfl (lv_at hl 2 rfl) ?_
              refine lv_if_ne (tgt := 84) hx hb dX7_lacks_57 (by decide) (fun c_19 => ?_) (fun c_19 => ?_)
              · replace h := h.1 c_19
                refine lv_iload hx hb dX7_lacks_84 (lv_at hl 0 rfl) ?_
                refine lv_if_ne (tgt := 108) hx hb dX7_lacks_86 (by decide) (fun _ => ?_) (fun c9 => absurd c9 (by decide))
                refine lv_iconst (v := 0) hx hb dX7_lacks_108 (by decide) ?_
                refine lv_iadd hx hb dX7_lacks_109 ?_
                refine lv_istore_n (lv' := [(3, .int (z3 + 0)), (5, .int 1), (1, .int z1), (2, .int z2), (4, .int z4), (0, .ref (a0 0))]) hx hb dX7_lacks_110 rfl hl (by decide) rfl (fun ls hl => ?_)
                refine lv_iinc (v := (z4 + 1)) (lv' := [(4, .int (z4 + 1)), (3, .int (z3 + 0)), (5, .int 1), (1, .int z1), (2, .int z2), (0, .ref (a0 0))]) hx hb dX7_lacks_111 hl (k := 4) rfl rfl (by decide) rfl (fun ls hl => ?_)
                refine lv_goto (tgt := 26) hx hb dX7_lacks_114 (by decide) ?_
                exact ih _ _ _ _ ls h (lv_sub hl [3, 4, 1, 0, 5] rfl)
              · replace h := h.2 c_19
                refine lv_iload hx hb dX7_lacks_60 (lv_at hl 0 rfl) ?_
                refine lv_if_eq (tgt := 80) hx hb dX7_lacks_62 (by decide) (fun c9 => absurd c9 (by decide)) (fun _ => ?_)
                refine lv_aload_n hx hb dX7_lacks_65 rfl (lv_at hl 5 rfl) ?_
                refine lv_iload_n hx hb dX7_lacks_66 rfl (lv_at hl 1 rfl) ?_
                refine lv_iload hx hb dX7_lacks_67 (lv_at hl 4 rfl) ?_
                refine vp_callSi (rd_wV (wc := md_v a0 q s0) (As := [.int z1, .int z4]) (rest := [.int z3]) hx hb hml hown ht (c2_X7_flapFor h) wd_X7_flapFor mw_1241 hQ hV va_S.rf (hP.sub [0, 1, 2, 3, 4, 5, 6, 7] rfl) rfl rfl rfl hl.1 rfl (Nat.le_of_ble_eq_true rfl) dX7_lacks_69 ⟨Nat.le_of_ble_eq_true rfl, Nat.le_of_ble_eq_true rfl, rfl, rfl⟩ ⟨Nat.le_of_ble_eq_true rfl, Nat.le_of_ble_eq_true rfl⟩) (fun r_20 h => ?_)
                try dsimp only at h
                refine lv_iconst (v := (-1)) hx hb dX7_lacks_72 (by decide) ?_
                refine lv_icmp_ne (tgt := 80) hx hb dX7_lacks_73 (by decide) (fun c_22 => ?_) (fun c_22 => ?_)
                · replace h := h.1 c_22
                  refine lv_iconst (v := 0) hx hb dX7_lacks_80 (by decide) ?_
                  refine lv_goto (tgt := 109) hx hb dX7_lacks_81 (by decide) ?_
                  refine lv_iadd hx hb dX7_lacks_109 ?_
                  refine lv_istore_n (lv' := [(3, .int (z3 + 0)), (5, .int 1), (1, .int z1), (2, .int z2), (4, .int z4), (0, .ref (a0 0))]) hx hb dX7_lacks_110 rfl hl (by decide) rfl (fun ls hl => ?_)
                  refine lv_iinc (v := (z4 + 1)) (lv' := [(4, .int (z4 + 1)), (3, .int (z3 + 0)), (5, .int 1), (1, .int z1), (2, .int z2), (0, .ref (a0 0))]) hx hb dX7_lacks_111 hl (k := 4) rfl rfl (by decide) rfl (fun ls hl => ?_)
                  refine lv_goto (tgt := 26) hx hb dX7_lacks_114 (by decide) ?_
                  exact ih _ _ _ _ ls h (lv_sub hl [3, 4, 1, 0, 5] rfl)
                · replace h := h.2 c_22
                  refine lv_iconst (v := 1) hx hb dX7_lacks_76 (by decide) ?_
                  refine lv_goto (tgt := 109) hx hb dX7_lacks_77 (by decide) ?_
                  refine lv_iadd hx hb dX7_lacks_109 ?_
                  refine lv_istore_n (lv' := [(3, .int (z3 + 1)), (5, .int 1), (1, .int z1), (2, .int z2), (4, .int z4), (0, .ref (a0 0))]) hx hb dX7_lacks_110 rfl hl (by decide) rfl (fun ls hl => ?_)
                  refine lv_iinc (v := (z4 + 1)) (lv' := [(4, .int (z4 + 1)), (3, .int (z3 + 1)), (5, .int 1), (1, .int z1), (2, .int z2), (0, .ref (a0 0))]) hx hb dX7_lacks_111 hl (k := 4) rfl rfl (by decide) rfl (fun ls hl => ?_)
                  refine lv_goto (tgt := 26) hx hb dX7_lacks_114 (by decide) ?_
                  exact ih _ _ _ _ ls h (lv_sub hl [3, 4, 1, 0, 5] rfl)
      obtain ⟨n26, h⟩ := h
      refine lp26 _ ?_ n26 _ _ _ _ ls h (lv_sub hl [3, 4, 1, 0, 2] rfl)
      · intro z1 z2 z3 z4 ls h hl
        try dsimp only at h
        refine lv_iload_n hx hb dX7_lacks_117 rfl (lv_at hl 2 rfl) ?_
        exact rd_iret hx hb hr hk h dX7_lacks_118
    · replace h := h.2 c_6
      refine lv_iconst (v := (-1)) hx hb dX7_lacks_18 (by decide) ?_
      exact rd_iret hx hb hr hk h dX7_lacks_19

def wp_X7_lays_L3 (post : Md → Prop) (e36 : Md → Int32 → Int32 → Prop) : Nat → Md → Int32 → Int32 → Prop
  | 0, _, _, _ => False
  | n3 + 1, t0, z1, z2 => ((z2 < 0 → e36 t0 z1 z2) ∧ (¬ z2 < 0 → vp_in (t0.1 5) 400 ∧ wp_X7_lays_L3 post e36 n3 ((va_up t0.1 5 ((t0.1 5) + 1)), t0.2.1, t0.2.2.1, (va_up t0.2.2.2 2 (upd (t0.2.2.2 2) (Int32.toNatClampNeg (t0.1 5)) (vp_nar .byte (Int8.toInt32 (Int32.toInt8 (z1 >>> (z2 &&& 31)))))))) z1 (z2 + (-8))))
def wp_X7_lays (post : Md → Prop) (s0 : Md) (x1 : Int32) : Prop := (∃ n3, wp_X7_lays_L3 post (fun t0 z1 z2 => post t0) n3 s0 x1 24)
set_option maxHeartbeats 4000000 in
set_option maxRecDepth 100000 in
theorem c2_X7_lays {l : Launch} {D : va_G} {q : Nat → ClassId} {sz : Nat} {a0 : Nat → Nat} {s0 : Md} {x1 : Int32} {post : Md → Prop} (h : wp_X7_lays post s0 x1) : Met l yX7_lays (Cond.code yX7_lays cX7_lays 3 none :: w_all) ({ frames := 0, cells := 0, slots := 0, locals := 0 } : Room) (mt_P D q [.ref (a0 0), .int x1] (md_v a0 q s0) sz) (va_Qv (fun u : Md => post u) (mt_B D (md_v a0 q s0) sz (fun u : Md => md_v a0 q u)) (va_A (md_v a0 q s0) sz)) 0 0 (va_A (md_v a0 q s0) sz) := by
  refine mt_start (by decide) (Nat.le_of_ble_eq_true rfl) ?_
  intro p e s m below meth c ls hx hb hr hml hown ht hk hin hP hQ hD hA hS hV hl
  have hK := hQ.1
  have hown : s.vm.findClass RX7 = some m.cls := hown
  have hl : lv_has ls 3 [(0, .ref (a0 0)), (1, .int x1)] := hl
  have hP : va_P D vwCl [((a0 0), .inr (6, [.ref (a0 1), .ref (a0 2), .int (s0.1 0), .ref (a0 3), .ref (a0 5), .ref (a0 4), .long s0.2.1, .int (s0.1 1), .int (s0.1 2), .ref (a0 6), .int (s0.1 3), .int (s0.1 4), .ref (a0 7), .int (s0.1 5), .int (s0.1 6), .int (s0.1 7), .int (s0.1 8), .int (s0.1 9), .int (s0.1 10), .int (s0.1 11), .int (s0.1 12), .int (s0.1 13), .int (s0.1 14)])), ((a0 1), .inl (q 1, 6896, .inr (.inl (s0.2.2.1 0)))), ((a0 2), .inl (q 1, 68960, .inr (.inl (s0.2.2.1 1)))), ((a0 3), .inl (q 1, 13792, .inr (.inl (s0.2.2.1 2)))), ((a0 4), .inl (q 1, 6896, .inr (.inl (s0.2.2.1 3)))), ((a0 5), .inl (q 3, 2, .inl (s0.2.2.2 0))), ((a0 6), .inl (q 0, 40, .inl (s0.2.2.2 1))), ((a0 7), .inl (q 2, 400, .inl (s0.2.2.2 2)))] s.heap := hP
  have hD : va_D _ [((a0 0), .inr (6, [.ref (a0 1), .ref (a0 2), .int (s0.1 0), .ref (a0 3), .ref (a0 5), .ref (a0 4), .long s0.2.1, .int (s0.1 1), .int (s0.1 2), .ref (a0 6), .int (s0.1 3), .int (s0.1 4), .ref (a0 7), .int (s0.1 5), .int (s0.1 6), .int (s0.1 7), .int (s0.1 8), .int (s0.1 9), .int (s0.1 10), .int (s0.1 11), .int (s0.1 12), .int (s0.1 13), .int (s0.1 14)])), ((a0 1), .inl (q 1, 6896, .inr (.inl (s0.2.2.1 0)))), ((a0 2), .inl (q 1, 68960, .inr (.inl (s0.2.2.1 1)))), ((a0 3), .inl (q 1, 13792, .inr (.inl (s0.2.2.1 2)))), ((a0 4), .inl (q 1, 6896, .inr (.inl (s0.2.2.1 3)))), ((a0 5), .inl (q 3, 2, .inl (s0.2.2.2 0))), ((a0 6), .inl (q 0, 40, .inl (s0.2.2.2 1))), ((a0 7), .inl (q 2, 400, .inl (s0.2.2.2 2)))] := hD
  unfold wp_X7_lays at h
  refine lv_bipush (v := 24) hx hb dX7_lays_0 (by decide) ?_
  refine lv_istore_n (lv' := [(2, .int 24), (0, .ref (a0 0)), (1, .int x1)]) hx hb dX7_lays_2 rfl hl (by decide) rfl (fun ls hl => ?_)
  have lp3 : ∀ (e36 : Md → Int32 → Int32 → Prop) (k36 : ∀ (t0 : Md) (z1 : Int32) (z2 : Int32) (H : Heap) (locs : List Loc) (ls : Array Slot), e36 t0 z1 z2 → va_P D vwCl (md_v a0 q t0) H → va_D (va_A (md_v a0 q s0) sz) (md_v a0 q t0) → va_S (va_A (md_v a0 q s0) sz) s.heap H locs → lv_has ls 3 [(1, .int z1), (2, .int z2), (0, .ref (a0 0))] → W p l e ({ frames := 0, cells := 0, slots := 0, locals := 0 } : Room) s m [.ref (a0 0), .int x1].toArray below meth c H locs 0 0 (MQ below (va_Qv (fun u : Md => post u) (mt_B D (md_v a0 q s0) sz (fun u : Md => md_v a0 q u)) (va_A (md_v a0 q s0) sz)) [.ref (a0 0), .int x1].toArray s 0 0 (va_A (md_v a0 q s0) sz)) (F0 m 36 ls [])) (n : Nat) (t0 : Md) (z1 : Int32) (z2 : Int32) (H : Heap) (locs : List Loc) (ls : Array Slot), wp_X7_lays_L3 post e36 n t0 z1 z2 → va_P D vwCl (md_v a0 q t0) H → va_D (va_A (md_v a0 q s0) sz) (md_v a0 q t0) → va_S (va_A (md_v a0 q s0) sz) s.heap H locs → lv_has ls 3 [(1, .int z1), (2, .int z2), (0, .ref (a0 0))] → W p l e ({ frames := 0, cells := 0, slots := 0, locals := 0 } : Room) s m [.ref (a0 0), .int x1].toArray below meth c H locs 0 0 (MQ below (va_Qv (fun u : Md => post u) (mt_B D (md_v a0 q s0) sz (fun u : Md => md_v a0 q u)) (va_A (md_v a0 q s0) sz)) [.ref (a0 0), .int x1].toArray s 0 0 (va_A (md_v a0 q s0) sz)) (F0 m 3 ls []) := by
    intro e36 k36 n
    induction n with
    | zero =>
      intro t0 z1 z2 H locs ls h
      exact h.elim
    | succ n ih =>
      intro t0 z1 z2 H locs ls h hP hD hS hl
      have hP : va_P D vwCl [((a0 0), .inr (6, [.ref (a0 1), .ref (a0 2), .int (t0.1 0), .ref (a0 3), .ref (a0 5), .ref (a0 4), .long t0.2.1, .int (t0.1 1), .int (t0.1 2), .ref (a0 6), .int (t0.1 3), .int (t0.1 4), .ref (a0 7), .int (t0.1 5), .int (t0.1 6), .int (t0.1 7), .int (t0.1 8), .int (t0.1 9), .int (t0.1 10), .int (t0.1 11), .int (t0.1 12), .int (t0.1 13), .int (t0.1 14)])), ((a0 1), .inl (q 1, 6896, .inr (.inl (t0.2.2.1 0)))), ((a0 2), .inl (q 1, 68960, .inr (.inl (t0.2.2.1 1)))), ((a0 3), .inl (q 1, 13792, .inr (.inl (t0.2.2.1 2)))), ((a0 4), .inl (q 1, 6896, .inr (.inl (t0.2.2.1 3)))), ((a0 5), .inl (q 3, 2, .inl (t0.2.2.2 0))), ((a0 6), .inl (q 0, 40, .inl (t0.2.2.2 1))), ((a0 7), .inl (q 2, 400, .inl (t0.2.2.2 2)))] H := hP
      have hD : va_D _ [((a0 0), .inr (6, [.ref (a0 1), .ref (a0 2), .int (t0.1 0), .ref (a0 3), .ref (a0 5), .ref (a0 4), .long t0.2.1, .int (t0.1 1), .int (t0.1 2), .ref (a0 6), .int (t0.1 3), .int (t0.1 4), .ref (a0 7), .int (t0.1 5), .int (t0.1 6), .int (t0.1 7), .int (t0.1 8), .int (t0.1 9), .int (t0.1 10), .int (t0.1 11), .int (t0.1 12), .int (t0.1 13), .int (t0.1 14)])), ((a0 1), .inl (q 1, 6896, .inr (.inl (t0.2.2.1 0)))), ((a0 2), .inl (q 1, 68960, .inr (.inl (t0.2.2.1 1)))), ((a0 3), .inl (q 1, 13792, .inr (.inl (t0.2.2.1 2)))), ((a0 4), .inl (q 1, 6896, .inr (.inl (t0.2.2.1 3)))), ((a0 5), .inl (q 3, 2, .inl (t0.2.2.2 0))), ((a0 6), .inl (q 0, 40, .inl (t0.2.2.2 1))), ((a0 7), .inl (q 2, 400, .inl (t0.2.2.2 2)))] := hD
      unfold wp_X7_lays_L3 at h
      refine lv_iload_n hx hb dX7_lays_3 rfl (lv_at hl 1 rfl) ?_
      refine lv_if_lt (tgt := 36) hx hb dX7_lays_4 (by decide) (fun c_1 => ?_) (fun c_1 => ?_)
      · replace h := h.1 c_1
        exact k36 _ _ _ _ _ ls h (hP.sub (ws' := md_v a0 q t0) [0, 1, 2, 3, 4, 5, 6, 7] rfl) (hD.sub (ws' := md_v a0 q t0) [0, 1, 2, 3, 4, 5, 6, 7] (by decide) rfl) hS (lv_sub hl [0, 1, 2] rfl)
      · replace h := h.2 c_1
        refine lv_aload_n hx hb dX7_lays_7 rfl (lv_at hl 2 rfl) ?_
        refine fl_get (C := RX7) (T := TX7) (N := 23) (ci := 6) (v := .ref (a0 7)) hx hb ht in_X7 hown hK hP 0 rfl rfl 12 (by decide) mw_1142 rfl dX7_lays_8 ?_
        refine lv_aload_n hx hb dX7_lays_11 rfl (lv_at hl 2 rfl) ?_
        refine fl_get (C := RX7) (T := TX7) (N := 23) (ci := 6) (v := .int (t0.1 5)) hx hb ht in_X7 hown hK hP 0 rfl rfl 13 (by decide) mw_1143 rfl dX7_lays_12 ?_
        refine lv_iload_n hx hb dX7_lays_15 rfl (lv_at hl 0 rfl) ?_
        refine lv_iload_n hx hb dX7_lays_16 rfl (lv_at hl 1 rfl) ?_
        refine lv_ishr hx hb dX7_lays_17 ?_
        refine lv_i2b (v := (Int8.toInt32 (Int32.toInt8 (z1 >>> (z2 &&& 31))))) hx hb dX7_lays_18 rfl ?_
        obtain ⟨g_2, h⟩ := h
        refine va_bast hx hb hK hP hD hS 7 2 rfl rfl g_2 dX7_lays_19 (fun H locs hP hD hS => ?_)
        have hP : va_P D vwCl [((a0 0), .inr (6, [.ref (a0 1), .ref (a0 2), .int (t0.1 0), .ref (a0 3), .ref (a0 5), .ref (a0 4), .long t0.2.1, .int (t0.1 1), .int (t0.1 2), .ref (a0 6), .int (t0.1 3), .int (t0.1 4), .ref (a0 7), .int (t0.1 5), .int (t0.1 6), .int (t0.1 7), .int (t0.1 8), .int (t0.1 9), .int (t0.1 10), .int (t0.1 11), .int (t0.1 12), .int (t0.1 13), .int (t0.1 14)])), ((a0 1), .inl (q 1, 6896, .inr (.inl (t0.2.2.1 0)))), ((a0 2), .inl (q 1, 68960, .inr (.inl (t0.2.2.1 1)))), ((a0 3), .inl (q 1, 13792, .inr (.inl (t0.2.2.1 2)))), ((a0 4), .inl (q 1, 6896, .inr (.inl (t0.2.2.1 3)))), ((a0 5), .inl (q 3, 2, .inl (t0.2.2.2 0))), ((a0 6), .inl (q 0, 40, .inl (t0.2.2.2 1))), ((a0 7), .inl (q 2, 400, .inl (upd (t0.2.2.2 2) (Int32.toNatClampNeg (t0.1 5)) (vp_nar .byte (Int8.toInt32 (Int32.toInt8 (z1 >>> (z2 &&& 31))))))))] H := hP
        have hD : va_D _ [((a0 0), .inr (6, [.ref (a0 1), .ref (a0 2), .int (t0.1 0), .ref (a0 3), .ref (a0 5), .ref (a0 4), .long t0.2.1, .int (t0.1 1), .int (t0.1 2), .ref (a0 6), .int (t0.1 3), .int (t0.1 4), .ref (a0 7), .int (t0.1 5), .int (t0.1 6), .int (t0.1 7), .int (t0.1 8), .int (t0.1 9), .int (t0.1 10), .int (t0.1 11), .int (t0.1 12), .int (t0.1 13), .int (t0.1 14)])), ((a0 1), .inl (q 1, 6896, .inr (.inl (t0.2.2.1 0)))), ((a0 2), .inl (q 1, 68960, .inr (.inl (t0.2.2.1 1)))), ((a0 3), .inl (q 1, 13792, .inr (.inl (t0.2.2.1 2)))), ((a0 4), .inl (q 1, 6896, .inr (.inl (t0.2.2.1 3)))), ((a0 5), .inl (q 3, 2, .inl (t0.2.2.2 0))), ((a0 6), .inl (q 0, 40, .inl (t0.2.2.2 1))), ((a0 7), .inl (q 2, 400, .inl (upd (t0.2.2.2 2) (Int32.toNatClampNeg (t0.1 5)) (vp_nar .byte (Int8.toInt32 (Int32.toInt8 (z1 >>> (z2 &&& 31))))))))] := hD
        refine lv_aload_n hx hb dX7_lays_20 rfl (lv_at hl 2 rfl) ?_
        refine lv_dup hx hb dX7_lays_21 rfl ?_
        refine fl_get (C := RX7) (T := TX7) (N := 23) (ci := 6) (v := .int (t0.1 5)) hx hb ht in_X7 hown hK hP 0 rfl rfl 13 (by decide) mw_1143 rfl dX7_lays_22 ?_
        refine lv_iconst (v := 1) hx hb dX7_lays_25 (by decide) ?_
        refine lv_iadd hx hb dX7_lays_26 ?_
        refine fl_put (C := RX7) (T := TX7) (N := 23) (ci := 6) (v := .int ((t0.1 5) + 1)) (ws2 := [((a0 0), .inr (6, [.ref (a0 1), .ref (a0 2), .int (t0.1 0), .ref (a0 3), .ref (a0 5), .ref (a0 4), .long t0.2.1, .int (t0.1 1), .int (t0.1 2), .ref (a0 6), .int (t0.1 3), .int (t0.1 4), .ref (a0 7), .int ((t0.1 5) + 1), .int (t0.1 6), .int (t0.1 7), .int (t0.1 8), .int (t0.1 9), .int (t0.1 10), .int (t0.1 11), .int (t0.1 12), .int (t0.1 13), .int (t0.1 14)])), ((a0 1), .inl (q 1, 6896, .inr (.inl (t0.2.2.1 0)))), ((a0 2), .inl (q 1, 68960, .inr (.inl (t0.2.2.1 1)))), ((a0 3), .inl (q 1, 13792, .inr (.inl (t0.2.2.1 2)))), ((a0 4), .inl (q 1, 6896, .inr (.inl (t0.2.2.1 3)))), ((a0 5), .inl (q 3, 2, .inl (t0.2.2.2 0))), ((a0 6), .inl (q 0, 40, .inl (t0.2.2.2 1))), ((a0 7), .inl (q 2, 400, .inl (upd (t0.2.2.2 2) (Int32.toNatClampNeg (t0.1 5)) (vp_nar .byte (Int8.toInt32 (Int32.toInt8 (z1 >>> (z2 &&& 31))))))))]) hx hb ht in_X7 tyX7_ok nmX7 hown hK hP hD hS 0 rfl rfl 13 (by decide) mw_1143 rfl rfl rfl (Nat.le_of_ble_eq_true rfl) dX7_lays_27 rfl (fun H locs hP hD hS => ?_)
        refine lv_iinc (v := (z2 + (-8))) (lv' := [(2, .int (z2 + (-8))), (1, .int z1), (0, .ref (a0 0))]) hx hb dX7_lays_30 hl (k := 1) rfl rfl (by decide) rfl (fun ls hl => ?_)
        refine lv_goto (tgt := 3) hx hb dX7_lays_33 (by decide) ?_
        exact ih _ _ _ _ _ ls h (hP.sub (ws' := md_v a0 q ((va_up t0.1 5 ((t0.1 5) + 1)), t0.2.1, t0.2.2.1, (va_up t0.2.2.2 2 (upd (t0.2.2.2 2) (Int32.toNatClampNeg (t0.1 5)) (vp_nar .byte (Int8.toInt32 (Int32.toInt8 (z1 >>> (z2 &&& 31))))))))) [0, 1, 2, 3, 4, 5, 6, 7] rfl) (hD.sub (ws' := md_v a0 q ((va_up t0.1 5 ((t0.1 5) + 1)), t0.2.1, t0.2.2.1, (va_up t0.2.2.2 2 (upd (t0.2.2.2 2) (Int32.toNatClampNeg (t0.1 5)) (vp_nar .byte (Int8.toInt32 (Int32.toInt8 (z1 >>> (z2 &&& 31))))))))) [0, 1, 2, 3, 4, 5, 6, 7] (by decide) rfl) hS (lv_sub hl [1, 0, 2] rfl)
  obtain ⟨n3, h⟩ := h
  refine lp3 _ ?_ n3 _ _ _ _ _ ls h (hP.sub (ws' := md_v a0 q s0) [0, 1, 2, 3, 4, 5, 6, 7] rfl) (hD.sub (ws' := md_v a0 q s0) [0, 1, 2, 3, 4, 5, 6, 7] (by decide) rfl) hS (lv_sub hl [2, 0, 1] rfl)
  · intro t0 z1 z2 H locs ls h hP hD hS hl
    try dsimp only at h
    have hP : va_P D vwCl [((a0 0), .inr (6, [.ref (a0 1), .ref (a0 2), .int (t0.1 0), .ref (a0 3), .ref (a0 5), .ref (a0 4), .long t0.2.1, .int (t0.1 1), .int (t0.1 2), .ref (a0 6), .int (t0.1 3), .int (t0.1 4), .ref (a0 7), .int (t0.1 5), .int (t0.1 6), .int (t0.1 7), .int (t0.1 8), .int (t0.1 9), .int (t0.1 10), .int (t0.1 11), .int (t0.1 12), .int (t0.1 13), .int (t0.1 14)])), ((a0 1), .inl (q 1, 6896, .inr (.inl (t0.2.2.1 0)))), ((a0 2), .inl (q 1, 68960, .inr (.inl (t0.2.2.1 1)))), ((a0 3), .inl (q 1, 13792, .inr (.inl (t0.2.2.1 2)))), ((a0 4), .inl (q 1, 6896, .inr (.inl (t0.2.2.1 3)))), ((a0 5), .inl (q 3, 2, .inl (t0.2.2.2 0))), ((a0 6), .inl (q 0, 40, .inl (t0.2.2.2 1))), ((a0 7), .inl (q 2, 400, .inl (t0.2.2.2 2)))] H := hP
    have hD : va_D _ [((a0 0), .inr (6, [.ref (a0 1), .ref (a0 2), .int (t0.1 0), .ref (a0 3), .ref (a0 5), .ref (a0 4), .long t0.2.1, .int (t0.1 1), .int (t0.1 2), .ref (a0 6), .int (t0.1 3), .int (t0.1 4), .ref (a0 7), .int (t0.1 5), .int (t0.1 6), .int (t0.1 7), .int (t0.1 8), .int (t0.1 9), .int (t0.1 10), .int (t0.1 11), .int (t0.1 12), .int (t0.1 13), .int (t0.1 14)])), ((a0 1), .inl (q 1, 6896, .inr (.inl (t0.2.2.1 0)))), ((a0 2), .inl (q 1, 68960, .inr (.inl (t0.2.2.1 1)))), ((a0 3), .inl (q 1, 13792, .inr (.inl (t0.2.2.1 2)))), ((a0 4), .inl (q 1, 6896, .inr (.inl (t0.2.2.1 3)))), ((a0 5), .inl (q 3, 2, .inl (t0.2.2.2 0))), ((a0 6), .inl (q 0, 40, .inl (t0.2.2.2 1))), ((a0 7), .inl (q 2, 400, .inl (t0.2.2.2 2)))] := hD
    exact mt_vret t0 hx hb hr hk h (hP.sub (ws' := md_v a0 q t0) [0, 1, 2, 3, 4, 5, 6, 7] rfl) (hD.sub (ws' := md_v a0 q t0) [0, 1, 2, 3, 4, 5, 6, 7] (by decide) rfl) hS dX7_lays_36

def wp_X7_feed (post : Int32 → Md → Prop) (s0 : Md) (x1 : Int32) (x2 : Int32) (x3 : Int32) (x4 : Int32) (x5 : Int32) : Prop := (((s0.1 5) ≤ 380 → wp_X7_lays (fun u_3 => wp_X7_lays (fun u_5 => wp_X7_lays (fun u_7 => wp_X7_lays (fun u_9 => wp_X7_lays (fun u_11 => post (u_11.1 5) u_11) u_9 x5) u_7 x4) u_5 x3) u_3 x2) s0 x1) ∧ (¬ (s0.1 5) ≤ 380 → post (-1) s0))
set_option maxHeartbeats 4000000 in
set_option maxRecDepth 100000 in
theorem c2_X7_feed {l : Launch} {D : va_G} {q : Nat → ClassId} {sz : Nat} {a0 : Nat → Nat} {s0 : Md} {x1 : Int32} {x2 : Int32} {x3 : Int32} {x4 : Int32} {x5 : Int32} {post : Int32 → Md → Prop} (h : wp_X7_feed post s0 x1 x2 x3 x4 x5) : Met l yX7_feed (Cond.code yX7_feed cX7_feed 6 (some .int) :: w_all) ({ frames := 1, cells := 0, slots := 0, locals := 22 } : Room) (mt_P D q [.ref (a0 0), .int x1, .int x2, .int x3, .int x4, .int x5] (md_v a0 q s0) sz) (va_Qi (fun r (u : Md) => post r u) (mt_B D (md_v a0 q s0) sz (fun u : Md => md_v a0 q u)) (va_A (md_v a0 q s0) sz)) 0 0 (va_A (md_v a0 q s0) sz) := by
  refine mt_start (by decide) (Nat.le_of_ble_eq_true rfl) ?_
  intro p e s m below meth c ls hx hb hr hml hown ht hk hin hP hQ hD hA hS hV hl
  have hK := hQ.1
  have hown : s.vm.findClass RX7 = some m.cls := hown
  have hl : lv_has ls 6 [(0, .ref (a0 0)), (1, .int x1), (2, .int x2), (3, .int x3), (4, .int x4), (5, .int x5)] := hl
  have hP : va_P D vwCl [((a0 0), .inr (6, [.ref (a0 1), .ref (a0 2), .int (s0.1 0), .ref (a0 3), .ref (a0 5), .ref (a0 4), .long s0.2.1, .int (s0.1 1), .int (s0.1 2), .ref (a0 6), .int (s0.1 3), .int (s0.1 4), .ref (a0 7), .int (s0.1 5), .int (s0.1 6), .int (s0.1 7), .int (s0.1 8), .int (s0.1 9), .int (s0.1 10), .int (s0.1 11), .int (s0.1 12), .int (s0.1 13), .int (s0.1 14)])), ((a0 1), .inl (q 1, 6896, .inr (.inl (s0.2.2.1 0)))), ((a0 2), .inl (q 1, 68960, .inr (.inl (s0.2.2.1 1)))), ((a0 3), .inl (q 1, 13792, .inr (.inl (s0.2.2.1 2)))), ((a0 4), .inl (q 1, 6896, .inr (.inl (s0.2.2.1 3)))), ((a0 5), .inl (q 3, 2, .inl (s0.2.2.2 0))), ((a0 6), .inl (q 0, 40, .inl (s0.2.2.2 1))), ((a0 7), .inl (q 2, 400, .inl (s0.2.2.2 2)))] s.heap := hP
  have hD : va_D _ [((a0 0), .inr (6, [.ref (a0 1), .ref (a0 2), .int (s0.1 0), .ref (a0 3), .ref (a0 5), .ref (a0 4), .long s0.2.1, .int (s0.1 1), .int (s0.1 2), .ref (a0 6), .int (s0.1 3), .int (s0.1 4), .ref (a0 7), .int (s0.1 5), .int (s0.1 6), .int (s0.1 7), .int (s0.1 8), .int (s0.1 9), .int (s0.1 10), .int (s0.1 11), .int (s0.1 12), .int (s0.1 13), .int (s0.1 14)])), ((a0 1), .inl (q 1, 6896, .inr (.inl (s0.2.2.1 0)))), ((a0 2), .inl (q 1, 68960, .inr (.inl (s0.2.2.1 1)))), ((a0 3), .inl (q 1, 13792, .inr (.inl (s0.2.2.1 2)))), ((a0 4), .inl (q 1, 6896, .inr (.inl (s0.2.2.1 3)))), ((a0 5), .inl (q 3, 2, .inl (s0.2.2.2 0))), ((a0 6), .inl (q 0, 40, .inl (s0.2.2.2 1))), ((a0 7), .inl (q 2, 400, .inl (s0.2.2.2 2)))] := hD
  unfold wp_X7_feed at h
  refine lv_aload_n hx hb dX7_feed_0 rfl (lv_at hl 0 rfl) ?_
  refine fl_get (C := RX7) (T := TX7) (N := 23) (ci := 6) (v := .int (s0.1 5)) hx hb ht in_X7 hown hK hP 0 rfl rfl 13 (by decide) mw_1143 rfl dX7_feed_1 ?_
  refine lv_sipush (v := 380) hx hb dX7_feed_4 (by decide) ?_
  refine lv_icmp_le (tgt := 12) hx hb dX7_feed_7 (by decide) (fun c_1 => ?_) (fun c_1 => ?_)
  · replace h := h.1 c_1
    refine lv_aload_n hx hb dX7_feed_12 rfl (lv_at hl 0 rfl) ?_
    refine lv_iload_n hx hb dX7_feed_13 rfl (lv_at hl 1 rfl) ?_
    refine mt_gov (mt_wV (wc := md_v a0 q s0) (As := [.int x1]) (rest := []) hx hb hml hown ht (c2_X7_lays h) wd_X7_lays mw_1550 hQ hV hS hA (hP.sub [0, 1, 2, 3, 4, 5, 6, 7] rfl) (hD.sub [0, 1, 2, 3, 4, 5, 6, 7] (by decide) rfl) rfl rfl rfl hl.1 rfl (Nat.le_of_ble_eq_true rfl) dX7_feed_14 ⟨Nat.le_of_ble_eq_true rfl, Nat.le_of_ble_eq_true rfl, rfl, rfl⟩ ⟨Nat.le_of_ble_eq_true rfl, Nat.le_of_ble_eq_true rfl⟩) (wr := []) hP hD hS hA [0, 1, 2, 3, 4, 5, 6, 7] [] rfl rfl (by decide) (by decide) (fun u_3 H locs h hP hD hS => ?_)
    try dsimp only at h
    have hP : va_P D vwCl [((a0 0), .inr (6, [.ref (a0 1), .ref (a0 2), .int (u_3.1 0), .ref (a0 3), .ref (a0 5), .ref (a0 4), .long u_3.2.1, .int (u_3.1 1), .int (u_3.1 2), .ref (a0 6), .int (u_3.1 3), .int (u_3.1 4), .ref (a0 7), .int (u_3.1 5), .int (u_3.1 6), .int (u_3.1 7), .int (u_3.1 8), .int (u_3.1 9), .int (u_3.1 10), .int (u_3.1 11), .int (u_3.1 12), .int (u_3.1 13), .int (u_3.1 14)])), ((a0 1), .inl (q 1, 6896, .inr (.inl (u_3.2.2.1 0)))), ((a0 2), .inl (q 1, 68960, .inr (.inl (u_3.2.2.1 1)))), ((a0 3), .inl (q 1, 13792, .inr (.inl (u_3.2.2.1 2)))), ((a0 4), .inl (q 1, 6896, .inr (.inl (u_3.2.2.1 3)))), ((a0 5), .inl (q 3, 2, .inl (u_3.2.2.2 0))), ((a0 6), .inl (q 0, 40, .inl (u_3.2.2.2 1))), ((a0 7), .inl (q 2, 400, .inl (u_3.2.2.2 2)))] H := hP
    have hD : va_D _ [((a0 0), .inr (6, [.ref (a0 1), .ref (a0 2), .int (u_3.1 0), .ref (a0 3), .ref (a0 5), .ref (a0 4), .long u_3.2.1, .int (u_3.1 1), .int (u_3.1 2), .ref (a0 6), .int (u_3.1 3), .int (u_3.1 4), .ref (a0 7), .int (u_3.1 5), .int (u_3.1 6), .int (u_3.1 7), .int (u_3.1 8), .int (u_3.1 9), .int (u_3.1 10), .int (u_3.1 11), .int (u_3.1 12), .int (u_3.1 13), .int (u_3.1 14)])), ((a0 1), .inl (q 1, 6896, .inr (.inl (u_3.2.2.1 0)))), ((a0 2), .inl (q 1, 68960, .inr (.inl (u_3.2.2.1 1)))), ((a0 3), .inl (q 1, 13792, .inr (.inl (u_3.2.2.1 2)))), ((a0 4), .inl (q 1, 6896, .inr (.inl (u_3.2.2.1 3)))), ((a0 5), .inl (q 3, 2, .inl (u_3.2.2.2 0))), ((a0 6), .inl (q 0, 40, .inl (u_3.2.2.2 1))), ((a0 7), .inl (q 2, 400, .inl (u_3.2.2.2 2)))] := hD
    refine lv_aload_n hx hb dX7_feed_17 rfl (lv_at hl 0 rfl) ?_
    refine lv_iload_n hx hb dX7_feed_18 rfl (lv_at hl 2 rfl) ?_
    refine mt_gov (mt_wV (wc := md_v a0 q u_3) (As := [.int x2]) (rest := []) hx hb hml hown ht (c2_X7_lays h) wd_X7_lays mw_1550 hQ hV hS hA (hP.sub [0, 1, 2, 3, 4, 5, 6, 7] rfl) (hD.sub [0, 1, 2, 3, 4, 5, 6, 7] (by decide) rfl) rfl rfl rfl hl.1 rfl (Nat.le_of_ble_eq_true rfl) dX7_feed_19 ⟨Nat.le_of_ble_eq_true rfl, Nat.le_of_ble_eq_true rfl, rfl, rfl⟩ ⟨Nat.le_of_ble_eq_true rfl, Nat.le_of_ble_eq_true rfl⟩) (wr := []) hP hD hS hA [0, 1, 2, 3, 4, 5, 6, 7] [] rfl rfl (by decide) (by decide) (fun u_5 H locs h hP hD hS => ?_)
    try dsimp only at h
    have hP : va_P D vwCl [((a0 0), .inr (6, [.ref (a0 1), .ref (a0 2), .int (u_5.1 0), .ref (a0 3), .ref (a0 5), .ref (a0 4), .long u_5.2.1, .int (u_5.1 1), .int (u_5.1 2), .ref (a0 6), .int (u_5.1 3), .int (u_5.1 4), .ref (a0 7), .int (u_5.1 5), .int (u_5.1 6), .int (u_5.1 7), .int (u_5.1 8), .int (u_5.1 9), .int (u_5.1 10), .int (u_5.1 11), .int (u_5.1 12), .int (u_5.1 13), .int (u_5.1 14)])), ((a0 1), .inl (q 1, 6896, .inr (.inl (u_5.2.2.1 0)))), ((a0 2), .inl (q 1, 68960, .inr (.inl (u_5.2.2.1 1)))), ((a0 3), .inl (q 1, 13792, .inr (.inl (u_5.2.2.1 2)))), ((a0 4), .inl (q 1, 6896, .inr (.inl (u_5.2.2.1 3)))), ((a0 5), .inl (q 3, 2, .inl (u_5.2.2.2 0))), ((a0 6), .inl (q 0, 40, .inl (u_5.2.2.2 1))), ((a0 7), .inl (q 2, 400, .inl (u_5.2.2.2 2)))] H := hP
    have hD : va_D _ [((a0 0), .inr (6, [.ref (a0 1), .ref (a0 2), .int (u_5.1 0), .ref (a0 3), .ref (a0 5), .ref (a0 4), .long u_5.2.1, .int (u_5.1 1), .int (u_5.1 2), .ref (a0 6), .int (u_5.1 3), .int (u_5.1 4), .ref (a0 7), .int (u_5.1 5), .int (u_5.1 6), .int (u_5.1 7), .int (u_5.1 8), .int (u_5.1 9), .int (u_5.1 10), .int (u_5.1 11), .int (u_5.1 12), .int (u_5.1 13), .int (u_5.1 14)])), ((a0 1), .inl (q 1, 6896, .inr (.inl (u_5.2.2.1 0)))), ((a0 2), .inl (q 1, 68960, .inr (.inl (u_5.2.2.1 1)))), ((a0 3), .inl (q 1, 13792, .inr (.inl (u_5.2.2.1 2)))), ((a0 4), .inl (q 1, 6896, .inr (.inl (u_5.2.2.1 3)))), ((a0 5), .inl (q 3, 2, .inl (u_5.2.2.2 0))), ((a0 6), .inl (q 0, 40, .inl (u_5.2.2.2 1))), ((a0 7), .inl (q 2, 400, .inl (u_5.2.2.2 2)))] := hD
    refine lv_aload_n hx hb dX7_feed_22 rfl (lv_at hl 0 rfl) ?_
    refine lv_iload_n hx hb dX7_feed_23 rfl (lv_at hl 3 rfl) ?_
    refine mt_gov (mt_wV (wc := md_v a0 q u_5) (As := [.int x3]) (rest := []) hx hb hml hown ht (c2_X7_lays h) wd_X7_lays mw_1550 hQ hV hS hA (hP.sub [0, 1, 2, 3, 4, 5, 6, 7] rfl) (hD.sub [0, 1, 2, 3, 4, 5, 6, 7] (by decide) rfl) rfl rfl rfl hl.1 rfl (Nat.le_of_ble_eq_true rfl) dX7_feed_24 ⟨Nat.le_of_ble_eq_true rfl, Nat.le_of_ble_eq_true rfl, rfl, rfl⟩ ⟨Nat.le_of_ble_eq_true rfl, Nat.le_of_ble_eq_true rfl⟩) (wr := []) hP hD hS hA [0, 1, 2, 3, 4, 5, 6, 7] [] rfl rfl (by decide) (by decide) (fun u_7 H locs h hP hD hS => ?_)
    try dsimp only at h
    have hP : va_P D vwCl [((a0 0), .inr (6, [.ref (a0 1), .ref (a0 2), .int (u_7.1 0), .ref (a0 3), .ref (a0 5), .ref (a0 4), .long u_7.2.1, .int (u_7.1 1), .int (u_7.1 2), .ref (a0 6), .int (u_7.1 3), .int (u_7.1 4), .ref (a0 7), .int (u_7.1 5), .int (u_7.1 6), .int (u_7.1 7), .int (u_7.1 8), .int (u_7.1 9), .int (u_7.1 10), .int (u_7.1 11), .int (u_7.1 12), .int (u_7.1 13), .int (u_7.1 14)])), ((a0 1), .inl (q 1, 6896, .inr (.inl (u_7.2.2.1 0)))), ((a0 2), .inl (q 1, 68960, .inr (.inl (u_7.2.2.1 1)))), ((a0 3), .inl (q 1, 13792, .inr (.inl (u_7.2.2.1 2)))), ((a0 4), .inl (q 1, 6896, .inr (.inl (u_7.2.2.1 3)))), ((a0 5), .inl (q 3, 2, .inl (u_7.2.2.2 0))), ((a0 6), .inl (q 0, 40, .inl (u_7.2.2.2 1))), ((a0 7), .inl (q 2, 400, .inl (u_7.2.2.2 2)))] H := hP
    have hD : va_D _ [((a0 0), .inr (6, [.ref (a0 1), .ref (a0 2), .int (u_7.1 0), .ref (a0 3), .ref (a0 5), .ref (a0 4), .long u_7.2.1, .int (u_7.1 1), .int (u_7.1 2), .ref (a0 6), .int (u_7.1 3), .int (u_7.1 4), .ref (a0 7), .int (u_7.1 5), .int (u_7.1 6), .int (u_7.1 7), .int (u_7.1 8), .int (u_7.1 9), .int (u_7.1 10), .int (u_7.1 11), .int (u_7.1 12), .int (u_7.1 13), .int (u_7.1 14)])), ((a0 1), .inl (q 1, 6896, .inr (.inl (u_7.2.2.1 0)))), ((a0 2), .inl (q 1, 68960, .inr (.inl (u_7.2.2.1 1)))), ((a0 3), .inl (q 1, 13792, .inr (.inl (u_7.2.2.1 2)))), ((a0 4), .inl (q 1, 6896, .inr (.inl (u_7.2.2.1 3)))), ((a0 5), .inl (q 3, 2, .inl (u_7.2.2.2 0))), ((a0 6), .inl (q 0, 40, .inl (u_7.2.2.2 1))), ((a0 7), .inl (q 2, 400, .inl (u_7.2.2.2 2)))] := hD
    refine lv_aload_n hx hb dX7_feed_27 rfl (lv_at hl 0 rfl) ?_
    refine lv_iload hx hb dX7_feed_28 (lv_at hl 4 rfl) ?_
    refine mt_gov (mt_wV (wc := md_v a0 q u_7) (As := [.int x4]) (rest := []) hx hb hml hown ht (c2_X7_lays h) wd_X7_lays mw_1550 hQ hV hS hA (hP.sub [0, 1, 2, 3, 4, 5, 6, 7] rfl) (hD.sub [0, 1, 2, 3, 4, 5, 6, 7] (by decide) rfl) rfl rfl rfl hl.1 rfl (Nat.le_of_ble_eq_true rfl) dX7_feed_30 ⟨Nat.le_of_ble_eq_true rfl, Nat.le_of_ble_eq_true rfl, rfl, rfl⟩ ⟨Nat.le_of_ble_eq_true rfl, Nat.le_of_ble_eq_true rfl⟩) (wr := []) hP hD hS hA [0, 1, 2, 3, 4, 5, 6, 7] [] rfl rfl (by decide) (by decide) (fun u_9 H locs h hP hD hS => ?_)
    try dsimp only at h
    have hP : va_P D vwCl [((a0 0), .inr (6, [.ref (a0 1), .ref (a0 2), .int (u_9.1 0), .ref (a0 3), .ref (a0 5), .ref (a0 4), .long u_9.2.1, .int (u_9.1 1), .int (u_9.1 2), .ref (a0 6), .int (u_9.1 3), .int (u_9.1 4), .ref (a0 7), .int (u_9.1 5), .int (u_9.1 6), .int (u_9.1 7), .int (u_9.1 8), .int (u_9.1 9), .int (u_9.1 10), .int (u_9.1 11), .int (u_9.1 12), .int (u_9.1 13), .int (u_9.1 14)])), ((a0 1), .inl (q 1, 6896, .inr (.inl (u_9.2.2.1 0)))), ((a0 2), .inl (q 1, 68960, .inr (.inl (u_9.2.2.1 1)))), ((a0 3), .inl (q 1, 13792, .inr (.inl (u_9.2.2.1 2)))), ((a0 4), .inl (q 1, 6896, .inr (.inl (u_9.2.2.1 3)))), ((a0 5), .inl (q 3, 2, .inl (u_9.2.2.2 0))), ((a0 6), .inl (q 0, 40, .inl (u_9.2.2.2 1))), ((a0 7), .inl (q 2, 400, .inl (u_9.2.2.2 2)))] H := hP
    have hD : va_D _ [((a0 0), .inr (6, [.ref (a0 1), .ref (a0 2), .int (u_9.1 0), .ref (a0 3), .ref (a0 5), .ref (a0 4), .long u_9.2.1, .int (u_9.1 1), .int (u_9.1 2), .ref (a0 6), .int (u_9.1 3), .int (u_9.1 4), .ref (a0 7), .int (u_9.1 5), .int (u_9.1 6), .int (u_9.1 7), .int (u_9.1 8), .int (u_9.1 9), .int (u_9.1 10), .int (u_9.1 11), .int (u_9.1 12), .int (u_9.1 13), .int (u_9.1 14)])), ((a0 1), .inl (q 1, 6896, .inr (.inl (u_9.2.2.1 0)))), ((a0 2), .inl (q 1, 68960, .inr (.inl (u_9.2.2.1 1)))), ((a0 3), .inl (q 1, 13792, .inr (.inl (u_9.2.2.1 2)))), ((a0 4), .inl (q 1, 6896, .inr (.inl (u_9.2.2.1 3)))), ((a0 5), .inl (q 3, 2, .inl (u_9.2.2.2 0))), ((a0 6), .inl (q 0, 40, .inl (u_9.2.2.2 1))), ((a0 7), .inl (q 2, 400, .inl (u_9.2.2.2 2)))] := hD
    refine lv_aload_n hx hb dX7_feed_33 rfl (lv_at hl 0 rfl) ?_
    refine lv_iload hx hb dX7_feed_34 (lv_at hl 5 rfl) ?_
    refine mt_gov (mt_wV (wc := md_v a0 q u_9) (As := [.int x5]) (rest := []) hx hb hml hown ht (c2_X7_lays h) wd_X7_lays mw_1550 hQ hV hS hA (hP.sub [0, 1, 2, 3, 4, 5, 6, 7] rfl) (hD.sub [0, 1, 2, 3, 4, 5, 6, 7] (by decide) rfl) rfl rfl rfl hl.1 rfl (Nat.le_of_ble_eq_true rfl) dX7_feed_36 ⟨Nat.le_of_ble_eq_true rfl, Nat.le_of_ble_eq_true rfl, rfl, rfl⟩ ⟨Nat.le_of_ble_eq_true rfl, Nat.le_of_ble_eq_true rfl⟩) (wr := []) hP hD hS hA [0, 1, 2, 3, 4, 5, 6, 7] [] rfl rfl (by decide) (by decide) (fun u_11 H locs h hP hD hS => ?_)
    try dsimp only at h
    have hP : va_P D vwCl [((a0 0), .inr (6, [.ref (a0 1), .ref (a0 2), .int (u_11.1 0), .ref (a0 3), .ref (a0 5), .ref (a0 4), .long u_11.2.1, .int (u_11.1 1), .int (u_11.1 2), .ref (a0 6), .int (u_11.1 3), .int (u_11.1 4), .ref (a0 7), .int (u_11.1 5), .int (u_11.1 6), .int (u_11.1 7), .int (u_11.1 8), .int (u_11.1 9), .int (u_11.1 10), .int (u_11.1 11), .int (u_11.1 12), .int (u_11.1 13), .int (u_11.1 14)])), ((a0 1), .inl (q 1, 6896, .inr (.inl (u_11.2.2.1 0)))), ((a0 2), .inl (q 1, 68960, .inr (.inl (u_11.2.2.1 1)))), ((a0 3), .inl (q 1, 13792, .inr (.inl (u_11.2.2.1 2)))), ((a0 4), .inl (q 1, 6896, .inr (.inl (u_11.2.2.1 3)))), ((a0 5), .inl (q 3, 2, .inl (u_11.2.2.2 0))), ((a0 6), .inl (q 0, 40, .inl (u_11.2.2.2 1))), ((a0 7), .inl (q 2, 400, .inl (u_11.2.2.2 2)))] H := hP
    have hD : va_D _ [((a0 0), .inr (6, [.ref (a0 1), .ref (a0 2), .int (u_11.1 0), .ref (a0 3), .ref (a0 5), .ref (a0 4), .long u_11.2.1, .int (u_11.1 1), .int (u_11.1 2), .ref (a0 6), .int (u_11.1 3), .int (u_11.1 4), .ref (a0 7), .int (u_11.1 5), .int (u_11.1 6), .int (u_11.1 7), .int (u_11.1 8), .int (u_11.1 9), .int (u_11.1 10), .int (u_11.1 11), .int (u_11.1 12), .int (u_11.1 13), .int (u_11.1 14)])), ((a0 1), .inl (q 1, 6896, .inr (.inl (u_11.2.2.1 0)))), ((a0 2), .inl (q 1, 68960, .inr (.inl (u_11.2.2.1 1)))), ((a0 3), .inl (q 1, 13792, .inr (.inl (u_11.2.2.1 2)))), ((a0 4), .inl (q 1, 6896, .inr (.inl (u_11.2.2.1 3)))), ((a0 5), .inl (q 3, 2, .inl (u_11.2.2.2 0))), ((a0 6), .inl (q 0, 40, .inl (u_11.2.2.2 1))), ((a0 7), .inl (q 2, 400, .inl (u_11.2.2.2 2)))] := hD
    refine lv_aload_n hx hb dX7_feed_39 rfl (lv_at hl 0 rfl) ?_
    refine fl_get (C := RX7) (T := TX7) (N := 23) (ci := 6) (v := .int (u_11.1 5)) hx hb ht in_X7 hown hK hP 0 rfl rfl 13 (by decide) mw_1143 rfl dX7_feed_40 ?_
    exact mt_iret u_11 hx hb hr hk h (hP.sub (ws' := md_v a0 q u_11) [0, 1, 2, 3, 4, 5, 6, 7] rfl) (hD.sub (ws' := md_v a0 q u_11) [0, 1, 2, 3, 4, 5, 6, 7] (by decide) rfl) hS dX7_feed_43
  · replace h := h.2 c_1
    refine lv_iconst (v := (-1)) hx hb dX7_feed_10 (by decide) ?_
    exact mt_iret s0 hx hb hr hk h (hP.sub (ws' := md_v a0 q s0) [0, 1, 2, 3, 4, 5, 6, 7] rfl) (hD.sub (ws' := md_v a0 q s0) [0, 1, 2, 3, 4, 5, 6, 7] (by decide) rfl) hS dX7_feed_11

def wp_X7_end (post : Int32 → Md → Prop) (s0 : Md) (x1 : Int32) : Prop := wp_X7_in (fun r_1 => ((¬ r_1 = 0 → post x1 ((va_up s0.1 5 x1), s0.2.1, s0.2.2.1, s0.2.2.2)) ∧ (r_1 = 0 → post (-1) s0))) (Int32.toInt64 x1) (0 : Int64) (Int32.toInt64 (s0.1 5))
set_option maxHeartbeats 4000000 in
set_option maxRecDepth 100000 in
theorem c2_X7_end {l : Launch} {D : va_G} {q : Nat → ClassId} {sz : Nat} {a0 : Nat → Nat} {s0 : Md} {x1 : Int32} {post : Int32 → Md → Prop} (h : wp_X7_end post s0 x1) : Met l yX7_end (Cond.code yX7_end cX7_end 2 (some .int) :: w_all) ({ frames := 1, cells := 0, slots := 0, locals := 25 } : Room) (mt_P D q [.ref (a0 0), .int x1] (md_v a0 q s0) sz) (va_Qi (fun r (u : Md) => post r u) (mt_B D (md_v a0 q s0) sz (fun u : Md => md_v a0 q u)) (va_A (md_v a0 q s0) sz)) 0 0 (va_A (md_v a0 q s0) sz) := by
  refine mt_start (by decide) (Nat.le_of_ble_eq_true rfl) ?_
  intro p e s m below meth c ls hx hb hr hml hown ht hk hin hP hQ hD hA hS hV hl
  have hK := hQ.1
  have hown : s.vm.findClass RX7 = some m.cls := hown
  have hl : lv_has ls 2 [(0, .ref (a0 0)), (1, .int x1)] := hl
  have hP : va_P D vwCl [((a0 0), .inr (6, [.ref (a0 1), .ref (a0 2), .int (s0.1 0), .ref (a0 3), .ref (a0 5), .ref (a0 4), .long s0.2.1, .int (s0.1 1), .int (s0.1 2), .ref (a0 6), .int (s0.1 3), .int (s0.1 4), .ref (a0 7), .int (s0.1 5), .int (s0.1 6), .int (s0.1 7), .int (s0.1 8), .int (s0.1 9), .int (s0.1 10), .int (s0.1 11), .int (s0.1 12), .int (s0.1 13), .int (s0.1 14)])), ((a0 1), .inl (q 1, 6896, .inr (.inl (s0.2.2.1 0)))), ((a0 2), .inl (q 1, 68960, .inr (.inl (s0.2.2.1 1)))), ((a0 3), .inl (q 1, 13792, .inr (.inl (s0.2.2.1 2)))), ((a0 4), .inl (q 1, 6896, .inr (.inl (s0.2.2.1 3)))), ((a0 5), .inl (q 3, 2, .inl (s0.2.2.2 0))), ((a0 6), .inl (q 0, 40, .inl (s0.2.2.2 1))), ((a0 7), .inl (q 2, 400, .inl (s0.2.2.2 2)))] s.heap := hP
  have hD : va_D _ [((a0 0), .inr (6, [.ref (a0 1), .ref (a0 2), .int (s0.1 0), .ref (a0 3), .ref (a0 5), .ref (a0 4), .long s0.2.1, .int (s0.1 1), .int (s0.1 2), .ref (a0 6), .int (s0.1 3), .int (s0.1 4), .ref (a0 7), .int (s0.1 5), .int (s0.1 6), .int (s0.1 7), .int (s0.1 8), .int (s0.1 9), .int (s0.1 10), .int (s0.1 11), .int (s0.1 12), .int (s0.1 13), .int (s0.1 14)])), ((a0 1), .inl (q 1, 6896, .inr (.inl (s0.2.2.1 0)))), ((a0 2), .inl (q 1, 68960, .inr (.inl (s0.2.2.1 1)))), ((a0 3), .inl (q 1, 13792, .inr (.inl (s0.2.2.1 2)))), ((a0 4), .inl (q 1, 6896, .inr (.inl (s0.2.2.1 3)))), ((a0 5), .inl (q 3, 2, .inl (s0.2.2.2 0))), ((a0 6), .inl (q 0, 40, .inl (s0.2.2.2 1))), ((a0 7), .inl (q 2, 400, .inl (s0.2.2.2 2)))] := hD
  unfold wp_X7_end at h
  refine lv_iload_n hx hb dX7_end_0 rfl (lv_at hl 1 rfl) ?_
  refine lv_i2l (v := (Int32.toInt64 x1)) hx hb dX7_end_1 rfl ?_
  refine lv_lconst (v := 0) hx hb dX7_end_2 (by decide) ?_
  refine lv_aload_n hx hb dX7_end_3 rfl (lv_at hl 0 rfl) ?_
  refine fl_get (C := RX7) (T := TX7) (N := 23) (ci := 6) (v := .int (s0.1 5)) hx hb ht in_X7 hown hK hP 0 rfl rfl 13 (by decide) mw_1143 rfl dX7_end_4 ?_
  refine lv_i2l (v := (Int32.toInt64 (s0.1 5))) hx hb dX7_end_7 rfl ?_
  refine vp_callSi (rd_wS (wc := ([] : va_W)) (As := [.long (Int32.toInt64 x1), .long 0, .long (Int32.toInt64 (s0.1 5))]) (rest := []) hx hb hml hown ht (c2_X7_in h) wd_X7_in mw_1213 hQ hV hS (hP.sub [] rfl) rfl hl.1 rfl (Nat.le_of_ble_eq_true rfl) dX7_end_8 ⟨Nat.le_of_ble_eq_true rfl, Nat.le_of_ble_eq_true rfl, rfl, rfl⟩ ⟨Nat.le_of_ble_eq_true rfl, Nat.le_of_ble_eq_true rfl⟩) (fun r_1 h => ?_)
  try dsimp only at h
  refine lv_if_ne (tgt := 16) hx hb dX7_end_11 (by decide) (fun c_3 => ?_) (fun c_3 => ?_)
  · replace h := h.1 c_3
    refine lv_aload_n hx hb dX7_end_16 rfl (lv_at hl 0 rfl) ?_
    refine lv_iload_n hx hb dX7_end_17 rfl (lv_at hl 1 rfl) ?_
    refine fl_put (C := RX7) (T := TX7) (N := 23) (ci := 6) (v := .int x1) (ws2 := [((a0 0), .inr (6, [.ref (a0 1), .ref (a0 2), .int (s0.1 0), .ref (a0 3), .ref (a0 5), .ref (a0 4), .long s0.2.1, .int (s0.1 1), .int (s0.1 2), .ref (a0 6), .int (s0.1 3), .int (s0.1 4), .ref (a0 7), .int x1, .int (s0.1 6), .int (s0.1 7), .int (s0.1 8), .int (s0.1 9), .int (s0.1 10), .int (s0.1 11), .int (s0.1 12), .int (s0.1 13), .int (s0.1 14)])), ((a0 1), .inl (q 1, 6896, .inr (.inl (s0.2.2.1 0)))), ((a0 2), .inl (q 1, 68960, .inr (.inl (s0.2.2.1 1)))), ((a0 3), .inl (q 1, 13792, .inr (.inl (s0.2.2.1 2)))), ((a0 4), .inl (q 1, 6896, .inr (.inl (s0.2.2.1 3)))), ((a0 5), .inl (q 3, 2, .inl (s0.2.2.2 0))), ((a0 6), .inl (q 0, 40, .inl (s0.2.2.2 1))), ((a0 7), .inl (q 2, 400, .inl (s0.2.2.2 2)))]) hx hb ht in_X7 tyX7_ok nmX7 hown hK hP hD hS 0 rfl rfl 13 (by decide) mw_1143 rfl rfl rfl (Nat.le_of_ble_eq_true rfl) dX7_end_18 rfl (fun H locs hP hD hS => ?_)
    refine lv_iload_n hx hb dX7_end_21 rfl (lv_at hl 1 rfl) ?_
    exact mt_iret ((va_up s0.1 5 x1), s0.2.1, s0.2.2.1, s0.2.2.2) hx hb hr hk h (hP.sub (ws' := md_v a0 q ((va_up s0.1 5 x1), s0.2.1, s0.2.2.1, s0.2.2.2)) [0, 1, 2, 3, 4, 5, 6, 7] rfl) (hD.sub (ws' := md_v a0 q ((va_up s0.1 5 x1), s0.2.1, s0.2.2.1, s0.2.2.2)) [0, 1, 2, 3, 4, 5, 6, 7] (by decide) rfl) hS dX7_end_22
  · replace h := h.2 c_3
    refine lv_iconst (v := (-1)) hx hb dX7_end_14 (by decide) ?_
    exact mt_iret s0 hx hb hr hk h (hP.sub (ws' := md_v a0 q s0) [0, 1, 2, 3, 4, 5, 6, 7] rfl) (hD.sub (ws' := md_v a0 q s0) [0, 1, 2, 3, 4, 5, 6, 7] (by decide) rfl) hS dX7_end_15

def wp_X7_byteAt (post : Int32 → Prop) (s0 : Md) (x1 : Int32) : Prop := (((s0.1 5) ≤ x1 → post (-1)) ∧ (¬ (s0.1 5) ≤ x1 → vp_in x1 400 ∧ post (((s0.2.2.2 2) (Int32.toNatClampNeg x1)) &&& 255)))
set_option maxHeartbeats 4000000 in
set_option maxRecDepth 100000 in
theorem c2_X7_byteAt {l : Launch} {D : va_G} {q : Nat → ClassId} {a0 : Nat → Nat} {s0 : Md} {x1 : Int32} {post : Int32 → Prop} (h : wp_X7_byteAt post s0 x1) : Met l yX7_byteAt (Cond.code yX7_byteAt cX7_byteAt 2 (some .int) :: w_all) ({ frames := 0, cells := 0, slots := 0, locals := 0 } : Room) (rd_P D q [.ref (a0 0), .int x1] (md_v a0 q s0)) (vp_Si post) 0 0 (fun _ => False) := by
  refine rd_start (by decide) (Nat.le_of_ble_eq_true rfl) ?_
  intro p e s m below meth c ls hx hb hr hml hown ht hk hP hQ hV hl
  have hK := hQ.1
  have hown : s.vm.findClass RX7 = some m.cls := hown
  have hl : lv_has ls 2 [(0, .ref (a0 0)), (1, .int x1)] := hl
  have hP : va_P D vwCl [((a0 0), .inr (6, [.ref (a0 1), .ref (a0 2), .int (s0.1 0), .ref (a0 3), .ref (a0 5), .ref (a0 4), .long s0.2.1, .int (s0.1 1), .int (s0.1 2), .ref (a0 6), .int (s0.1 3), .int (s0.1 4), .ref (a0 7), .int (s0.1 5), .int (s0.1 6), .int (s0.1 7), .int (s0.1 8), .int (s0.1 9), .int (s0.1 10), .int (s0.1 11), .int (s0.1 12), .int (s0.1 13), .int (s0.1 14)])), ((a0 1), .inl (q 1, 6896, .inr (.inl (s0.2.2.1 0)))), ((a0 2), .inl (q 1, 68960, .inr (.inl (s0.2.2.1 1)))), ((a0 3), .inl (q 1, 13792, .inr (.inl (s0.2.2.1 2)))), ((a0 4), .inl (q 1, 6896, .inr (.inl (s0.2.2.1 3)))), ((a0 5), .inl (q 3, 2, .inl (s0.2.2.2 0))), ((a0 6), .inl (q 0, 40, .inl (s0.2.2.2 1))), ((a0 7), .inl (q 2, 400, .inl (s0.2.2.2 2)))] s.heap := hP
  unfold wp_X7_byteAt at h
  refine lv_iload_n hx hb dX7_byteAt_0 rfl (lv_at hl 1 rfl) ?_
  refine lv_aload_n hx hb dX7_byteAt_1 rfl (lv_at hl 0 rfl) ?_
  refine fl_get (C := RX7) (T := TX7) (N := 23) (ci := 6) (v := .int (s0.1 5)) hx hb ht in_X7 hown hK hP 0 rfl rfl 13 (by decide) mw_1143 rfl dX7_byteAt_2 ?_
  refine lv_icmp_ge (tgt := 21) hx hb dX7_byteAt_5 (by decide) (fun c_1 => ?_) (fun c_1 => ?_)
  · replace h := h.1 c_1
    refine lv_iconst (v := (-1)) hx hb dX7_byteAt_21 (by decide) ?_
    exact rd_iret hx hb hr hk h dX7_byteAt_22
  · replace h := h.2 c_1
    refine lv_aload_n hx hb dX7_byteAt_8 rfl (lv_at hl 0 rfl) ?_
    refine fl_get (C := RX7) (T := TX7) (N := 23) (ci := 6) (v := .ref (a0 7)) hx hb ht in_X7 hown hK hP 0 rfl rfl 12 (by decide) mw_1142 rfl dX7_byteAt_9 ?_
    refine lv_iload_n hx hb dX7_byteAt_12 rfl (lv_at hl 1 rfl) ?_
    obtain ⟨g_2, h⟩ := h
    refine va_bald hx hb hK hP 7 2 rfl rfl g_2 dX7_byteAt_13 ?_
    refine lv_sipush (v := 255) hx hb dX7_byteAt_14 (by decide) ?_
    refine lv_iand hx hb dX7_byteAt_17 ?_
    refine lv_goto (tgt := 22) hx hb dX7_byteAt_18 (by decide) ?_
    exact rd_iret hx hb hr hk h dX7_byteAt_22

def wp_X7_nextByte_L0 (post : Int32 → Md → Prop) (e26 : Md → Prop) : Nat → Md → Prop
  | 0, _ => False
  | n0 + 1, t0 => wp_X7_byteAt (fun r_1 => ((¬ r_1 = 32 → e26 t0) ∧ (r_1 = 32 → wp_X7_nextByte_L0 post e26 n0 ((va_up t0.1 6 ((t0.1 6) + 1)), t0.2.1, t0.2.2.1, t0.2.2.2)))) t0 (t0.1 6)
def wp_X7_nextByte (post : Int32 → Md → Prop) (s0 : Md) : Prop := (∃ n0, wp_X7_nextByte_L0 post (fun t0 => wp_X7_byteAt (fun r_4 => post r_4 t0) t0 (t0.1 6)) n0 s0)
set_option maxHeartbeats 4000000 in
set_option maxRecDepth 100000 in
theorem c2_X7_nextByte {l : Launch} {D : va_G} {q : Nat → ClassId} {sz : Nat} {a0 : Nat → Nat} {s0 : Md} {post : Int32 → Md → Prop} (h : wp_X7_nextByte post s0) : Met l yX7_nextByte (Cond.code yX7_nextByte cX7_nextByte 1 (some .int) :: w_all) ({ frames := 1, cells := 0, slots := 0, locals := 21 } : Room) (mt_P D q [.ref (a0 0)] (md_v a0 q s0) sz) (va_Qi (fun r (u : Md) => post r u) (mt_B D (md_v a0 q s0) sz (fun u : Md => md_v a0 q u)) (va_A (md_v a0 q s0) sz)) 0 0 (va_A (md_v a0 q s0) sz) := by
  refine mt_start (by decide) (Nat.le_of_ble_eq_true rfl) ?_
  intro p e s m below meth c ls hx hb hr hml hown ht hk hin hP hQ hD hA hS hV hl
  have hK := hQ.1
  have hown : s.vm.findClass RX7 = some m.cls := hown
  have hl : lv_has ls 1 [(0, .ref (a0 0))] := hl
  have hP : va_P D vwCl [((a0 0), .inr (6, [.ref (a0 1), .ref (a0 2), .int (s0.1 0), .ref (a0 3), .ref (a0 5), .ref (a0 4), .long s0.2.1, .int (s0.1 1), .int (s0.1 2), .ref (a0 6), .int (s0.1 3), .int (s0.1 4), .ref (a0 7), .int (s0.1 5), .int (s0.1 6), .int (s0.1 7), .int (s0.1 8), .int (s0.1 9), .int (s0.1 10), .int (s0.1 11), .int (s0.1 12), .int (s0.1 13), .int (s0.1 14)])), ((a0 1), .inl (q 1, 6896, .inr (.inl (s0.2.2.1 0)))), ((a0 2), .inl (q 1, 68960, .inr (.inl (s0.2.2.1 1)))), ((a0 3), .inl (q 1, 13792, .inr (.inl (s0.2.2.1 2)))), ((a0 4), .inl (q 1, 6896, .inr (.inl (s0.2.2.1 3)))), ((a0 5), .inl (q 3, 2, .inl (s0.2.2.2 0))), ((a0 6), .inl (q 0, 40, .inl (s0.2.2.2 1))), ((a0 7), .inl (q 2, 400, .inl (s0.2.2.2 2)))] s.heap := hP
  have hD : va_D _ [((a0 0), .inr (6, [.ref (a0 1), .ref (a0 2), .int (s0.1 0), .ref (a0 3), .ref (a0 5), .ref (a0 4), .long s0.2.1, .int (s0.1 1), .int (s0.1 2), .ref (a0 6), .int (s0.1 3), .int (s0.1 4), .ref (a0 7), .int (s0.1 5), .int (s0.1 6), .int (s0.1 7), .int (s0.1 8), .int (s0.1 9), .int (s0.1 10), .int (s0.1 11), .int (s0.1 12), .int (s0.1 13), .int (s0.1 14)])), ((a0 1), .inl (q 1, 6896, .inr (.inl (s0.2.2.1 0)))), ((a0 2), .inl (q 1, 68960, .inr (.inl (s0.2.2.1 1)))), ((a0 3), .inl (q 1, 13792, .inr (.inl (s0.2.2.1 2)))), ((a0 4), .inl (q 1, 6896, .inr (.inl (s0.2.2.1 3)))), ((a0 5), .inl (q 3, 2, .inl (s0.2.2.2 0))), ((a0 6), .inl (q 0, 40, .inl (s0.2.2.2 1))), ((a0 7), .inl (q 2, 400, .inl (s0.2.2.2 2)))] := hD
  unfold wp_X7_nextByte at h
  have lp0 : ∀ (e26 : Md → Prop) (k26 : ∀ (t0 : Md) (H : Heap) (locs : List Loc) (ls : Array Slot), e26 t0 → va_P D vwCl (md_v a0 q t0) H → va_D (va_A (md_v a0 q s0) sz) (md_v a0 q t0) → va_S (va_A (md_v a0 q s0) sz) s.heap H locs → lv_has ls 1 [(0, .ref (a0 0))] → W p l e ({ frames := 1, cells := 0, slots := 0, locals := 21 } : Room) s m [.ref (a0 0)].toArray below meth c H locs 0 0 (MQ below (va_Qi (fun r (u : Md) => post r u) (mt_B D (md_v a0 q s0) sz (fun u : Md => md_v a0 q u)) (va_A (md_v a0 q s0) sz)) [.ref (a0 0)].toArray s 0 0 (va_A (md_v a0 q s0) sz)) (F0 m 26 ls [])) (n : Nat) (t0 : Md) (H : Heap) (locs : List Loc) (ls : Array Slot), wp_X7_nextByte_L0 post e26 n t0 → va_P D vwCl (md_v a0 q t0) H → va_D (va_A (md_v a0 q s0) sz) (md_v a0 q t0) → va_S (va_A (md_v a0 q s0) sz) s.heap H locs → lv_has ls 1 [(0, .ref (a0 0))] → W p l e ({ frames := 1, cells := 0, slots := 0, locals := 21 } : Room) s m [.ref (a0 0)].toArray below meth c H locs 0 0 (MQ below (va_Qi (fun r (u : Md) => post r u) (mt_B D (md_v a0 q s0) sz (fun u : Md => md_v a0 q u)) (va_A (md_v a0 q s0) sz)) [.ref (a0 0)].toArray s 0 0 (va_A (md_v a0 q s0) sz)) (F0 m 0 ls []) := by
    intro e26 k26 n
    induction n with
    | zero =>
      intro t0 H locs ls h
      exact h.elim
    | succ n ih =>
      intro t0 H locs ls h hP hD hS hl
      have hP : va_P D vwCl [((a0 0), .inr (6, [.ref (a0 1), .ref (a0 2), .int (t0.1 0), .ref (a0 3), .ref (a0 5), .ref (a0 4), .long t0.2.1, .int (t0.1 1), .int (t0.1 2), .ref (a0 6), .int (t0.1 3), .int (t0.1 4), .ref (a0 7), .int (t0.1 5), .int (t0.1 6), .int (t0.1 7), .int (t0.1 8), .int (t0.1 9), .int (t0.1 10), .int (t0.1 11), .int (t0.1 12), .int (t0.1 13), .int (t0.1 14)])), ((a0 1), .inl (q 1, 6896, .inr (.inl (t0.2.2.1 0)))), ((a0 2), .inl (q 1, 68960, .inr (.inl (t0.2.2.1 1)))), ((a0 3), .inl (q 1, 13792, .inr (.inl (t0.2.2.1 2)))), ((a0 4), .inl (q 1, 6896, .inr (.inl (t0.2.2.1 3)))), ((a0 5), .inl (q 3, 2, .inl (t0.2.2.2 0))), ((a0 6), .inl (q 0, 40, .inl (t0.2.2.2 1))), ((a0 7), .inl (q 2, 400, .inl (t0.2.2.2 2)))] H := hP
      have hD : va_D _ [((a0 0), .inr (6, [.ref (a0 1), .ref (a0 2), .int (t0.1 0), .ref (a0 3), .ref (a0 5), .ref (a0 4), .long t0.2.1, .int (t0.1 1), .int (t0.1 2), .ref (a0 6), .int (t0.1 3), .int (t0.1 4), .ref (a0 7), .int (t0.1 5), .int (t0.1 6), .int (t0.1 7), .int (t0.1 8), .int (t0.1 9), .int (t0.1 10), .int (t0.1 11), .int (t0.1 12), .int (t0.1 13), .int (t0.1 14)])), ((a0 1), .inl (q 1, 6896, .inr (.inl (t0.2.2.1 0)))), ((a0 2), .inl (q 1, 68960, .inr (.inl (t0.2.2.1 1)))), ((a0 3), .inl (q 1, 13792, .inr (.inl (t0.2.2.1 2)))), ((a0 4), .inl (q 1, 6896, .inr (.inl (t0.2.2.1 3)))), ((a0 5), .inl (q 3, 2, .inl (t0.2.2.2 0))), ((a0 6), .inl (q 0, 40, .inl (t0.2.2.2 1))), ((a0 7), .inl (q 2, 400, .inl (t0.2.2.2 2)))] := hD
      unfold wp_X7_nextByte_L0 at h
      refine lv_aload_n hx hb dX7_nextByte_0 rfl (lv_at hl 0 rfl) ?_
      refine lv_aload_n hx hb dX7_nextByte_1 rfl (lv_at hl 0 rfl) ?_
      refine fl_get (C := RX7) (T := TX7) (N := 23) (ci := 6) (v := .int (t0.1 6)) hx hb ht in_X7 hown hK hP 0 rfl rfl 14 (by decide) mw_1144 rfl dX7_nextByte_2 ?_
      refine vp_callSi (rd_wV (wc := md_v a0 q t0) (As := [.int (t0.1 6)]) (rest := []) hx hb hml hown ht (c2_X7_byteAt h) wd_X7_byteAt mw_1583 hQ hV hS (hP.sub [0, 1, 2, 3, 4, 5, 6, 7] rfl) rfl rfl rfl hl.1 rfl (Nat.le_of_ble_eq_true rfl) dX7_nextByte_5 ⟨Nat.le_of_ble_eq_true rfl, Nat.le_of_ble_eq_true rfl, rfl, rfl⟩ ⟨Nat.le_of_ble_eq_true rfl, Nat.le_of_ble_eq_true rfl⟩) (fun r_1 h => ?_)
      try dsimp only at h
      refine lv_bipush (v := 32) hx hb dX7_nextByte_8 (by decide) ?_
      refine lv_icmp_ne (tgt := 26) hx hb dX7_nextByte_10 (by decide) (fun c_3 => ?_) (fun c_3 => ?_)
      · replace h := h.1 c_3
        exact k26 _ _ _ ls h (hP.sub (ws' := md_v a0 q t0) [0, 1, 2, 3, 4, 5, 6, 7] rfl) (hD.sub (ws' := md_v a0 q t0) [0, 1, 2, 3, 4, 5, 6, 7] (by decide) rfl) hS (lv_sub hl [0] rfl)
      · replace h := h.2 c_3
        refine lv_aload_n hx hb dX7_nextByte_13 rfl (lv_at hl 0 rfl) ?_
        refine lv_dup hx hb dX7_nextByte_14 rfl ?_
        refine fl_get (C := RX7) (T := TX7) (N := 23) (ci := 6) (v := .int (t0.1 6)) hx hb ht in_X7 hown hK hP 0 rfl rfl 14 (by decide) mw_1144 rfl dX7_nextByte_15 ?_
        refine lv_iconst (v := 1) hx hb dX7_nextByte_18 (by decide) ?_
        refine lv_iadd hx hb dX7_nextByte_19 ?_
        refine fl_put (C := RX7) (T := TX7) (N := 23) (ci := 6) (v := .int ((t0.1 6) + 1)) (ws2 := [((a0 0), .inr (6, [.ref (a0 1), .ref (a0 2), .int (t0.1 0), .ref (a0 3), .ref (a0 5), .ref (a0 4), .long t0.2.1, .int (t0.1 1), .int (t0.1 2), .ref (a0 6), .int (t0.1 3), .int (t0.1 4), .ref (a0 7), .int (t0.1 5), .int ((t0.1 6) + 1), .int (t0.1 7), .int (t0.1 8), .int (t0.1 9), .int (t0.1 10), .int (t0.1 11), .int (t0.1 12), .int (t0.1 13), .int (t0.1 14)])), ((a0 1), .inl (q 1, 6896, .inr (.inl (t0.2.2.1 0)))), ((a0 2), .inl (q 1, 68960, .inr (.inl (t0.2.2.1 1)))), ((a0 3), .inl (q 1, 13792, .inr (.inl (t0.2.2.1 2)))), ((a0 4), .inl (q 1, 6896, .inr (.inl (t0.2.2.1 3)))), ((a0 5), .inl (q 3, 2, .inl (t0.2.2.2 0))), ((a0 6), .inl (q 0, 40, .inl (t0.2.2.2 1))), ((a0 7), .inl (q 2, 400, .inl (t0.2.2.2 2)))]) hx hb ht in_X7 tyX7_ok nmX7 hown hK hP hD hS 0 rfl rfl 14 (by decide) mw_1144 rfl rfl rfl (Nat.le_of_ble_eq_true rfl) dX7_nextByte_20 rfl (fun H locs hP hD hS => ?_)
        refine lv_goto (tgt := 0) hx hb dX7_nextByte_23 (by decide) ?_
        exact ih _ _ _ ls h (hP.sub (ws' := md_v a0 q ((va_up t0.1 6 ((t0.1 6) + 1)), t0.2.1, t0.2.2.1, t0.2.2.2)) [0, 1, 2, 3, 4, 5, 6, 7] rfl) (hD.sub (ws' := md_v a0 q ((va_up t0.1 6 ((t0.1 6) + 1)), t0.2.1, t0.2.2.1, t0.2.2.2)) [0, 1, 2, 3, 4, 5, 6, 7] (by decide) rfl) hS (lv_sub hl [0] rfl)
  obtain ⟨n0, h⟩ := h
  refine lp0 _ ?_ n0 _ _ _ ls h (hP.sub (ws' := md_v a0 q s0) [0, 1, 2, 3, 4, 5, 6, 7] rfl) (hD.sub (ws' := md_v a0 q s0) [0, 1, 2, 3, 4, 5, 6, 7] (by decide) rfl) hS (lv_sub hl [0] rfl)
  · intro t0 H locs ls h hP hD hS hl
    try dsimp only at h
    have hP : va_P D vwCl [((a0 0), .inr (6, [.ref (a0 1), .ref (a0 2), .int (t0.1 0), .ref (a0 3), .ref (a0 5), .ref (a0 4), .long t0.2.1, .int (t0.1 1), .int (t0.1 2), .ref (a0 6), .int (t0.1 3), .int (t0.1 4), .ref (a0 7), .int (t0.1 5), .int (t0.1 6), .int (t0.1 7), .int (t0.1 8), .int (t0.1 9), .int (t0.1 10), .int (t0.1 11), .int (t0.1 12), .int (t0.1 13), .int (t0.1 14)])), ((a0 1), .inl (q 1, 6896, .inr (.inl (t0.2.2.1 0)))), ((a0 2), .inl (q 1, 68960, .inr (.inl (t0.2.2.1 1)))), ((a0 3), .inl (q 1, 13792, .inr (.inl (t0.2.2.1 2)))), ((a0 4), .inl (q 1, 6896, .inr (.inl (t0.2.2.1 3)))), ((a0 5), .inl (q 3, 2, .inl (t0.2.2.2 0))), ((a0 6), .inl (q 0, 40, .inl (t0.2.2.2 1))), ((a0 7), .inl (q 2, 400, .inl (t0.2.2.2 2)))] H := hP
    have hD : va_D _ [((a0 0), .inr (6, [.ref (a0 1), .ref (a0 2), .int (t0.1 0), .ref (a0 3), .ref (a0 5), .ref (a0 4), .long t0.2.1, .int (t0.1 1), .int (t0.1 2), .ref (a0 6), .int (t0.1 3), .int (t0.1 4), .ref (a0 7), .int (t0.1 5), .int (t0.1 6), .int (t0.1 7), .int (t0.1 8), .int (t0.1 9), .int (t0.1 10), .int (t0.1 11), .int (t0.1 12), .int (t0.1 13), .int (t0.1 14)])), ((a0 1), .inl (q 1, 6896, .inr (.inl (t0.2.2.1 0)))), ((a0 2), .inl (q 1, 68960, .inr (.inl (t0.2.2.1 1)))), ((a0 3), .inl (q 1, 13792, .inr (.inl (t0.2.2.1 2)))), ((a0 4), .inl (q 1, 6896, .inr (.inl (t0.2.2.1 3)))), ((a0 5), .inl (q 3, 2, .inl (t0.2.2.2 0))), ((a0 6), .inl (q 0, 40, .inl (t0.2.2.2 1))), ((a0 7), .inl (q 2, 400, .inl (t0.2.2.2 2)))] := hD
    refine lv_aload_n hx hb dX7_nextByte_26 rfl (lv_at hl 0 rfl) ?_
    refine lv_aload_n hx hb dX7_nextByte_27 rfl (lv_at hl 0 rfl) ?_
    refine fl_get (C := RX7) (T := TX7) (N := 23) (ci := 6) (v := .int (t0.1 6)) hx hb ht in_X7 hown hK hP 0 rfl rfl 14 (by decide) mw_1144 rfl dX7_nextByte_28 ?_
    refine vp_callSi (rd_wV (wc := md_v a0 q t0) (As := [.int (t0.1 6)]) (rest := []) hx hb hml hown ht (c2_X7_byteAt h) wd_X7_byteAt mw_1583 hQ hV hS (hP.sub [0, 1, 2, 3, 4, 5, 6, 7] rfl) rfl rfl rfl hl.1 rfl (Nat.le_of_ble_eq_true rfl) dX7_nextByte_31 ⟨Nat.le_of_ble_eq_true rfl, Nat.le_of_ble_eq_true rfl, rfl, rfl⟩ ⟨Nat.le_of_ble_eq_true rfl, Nat.le_of_ble_eq_true rfl⟩) (fun r_4 h => ?_)
    try dsimp only at h
    exact mt_iret t0 hx hb hr hk h (hP.sub (ws' := md_v a0 q t0) [0, 1, 2, 3, 4, 5, 6, 7] rfl) (hD.sub (ws' := md_v a0 q t0) [0, 1, 2, 3, 4, 5, 6, 7] (by decide) rfl) hS dX7_nextByte_34

def wp_X7_fails (post : Int32 → Md → Prop) (s0 : Md) (x1 : Int32) (x2 : Int32) : Prop := post 0 ((va_up s0.1 7 ((8 * x2) + x1)), s0.2.1, s0.2.2.1, s0.2.2.2)
set_option maxHeartbeats 4000000 in
set_option maxRecDepth 100000 in
theorem c2_X7_fails {l : Launch} {D : va_G} {q : Nat → ClassId} {sz : Nat} {a0 : Nat → Nat} {s0 : Md} {x1 : Int32} {x2 : Int32} {post : Int32 → Md → Prop} (h : wp_X7_fails post s0 x1 x2) : Met l yX7_fails (Cond.code yX7_fails cX7_fails 3 (some .boolean) :: w_all) ({ frames := 0, cells := 0, slots := 0, locals := 0 } : Room) (mt_P D q [.ref (a0 0), .int x1, .int x2] (md_v a0 q s0) sz) (va_Qi (fun r (u : Md) => post r u) (mt_B D (md_v a0 q s0) sz (fun u : Md => md_v a0 q u)) (va_A (md_v a0 q s0) sz)) 0 0 (va_A (md_v a0 q s0) sz) := by
  refine mt_start (by decide) (Nat.le_of_ble_eq_true rfl) ?_
  intro p e s m below meth c ls hx hb hr hml hown ht hk hin hP hQ hD hA hS hV hl
  have hK := hQ.1
  have hown : s.vm.findClass RX7 = some m.cls := hown
  have hl : lv_has ls 3 [(0, .ref (a0 0)), (1, .int x1), (2, .int x2)] := hl
  have hP : va_P D vwCl [((a0 0), .inr (6, [.ref (a0 1), .ref (a0 2), .int (s0.1 0), .ref (a0 3), .ref (a0 5), .ref (a0 4), .long s0.2.1, .int (s0.1 1), .int (s0.1 2), .ref (a0 6), .int (s0.1 3), .int (s0.1 4), .ref (a0 7), .int (s0.1 5), .int (s0.1 6), .int (s0.1 7), .int (s0.1 8), .int (s0.1 9), .int (s0.1 10), .int (s0.1 11), .int (s0.1 12), .int (s0.1 13), .int (s0.1 14)])), ((a0 1), .inl (q 1, 6896, .inr (.inl (s0.2.2.1 0)))), ((a0 2), .inl (q 1, 68960, .inr (.inl (s0.2.2.1 1)))), ((a0 3), .inl (q 1, 13792, .inr (.inl (s0.2.2.1 2)))), ((a0 4), .inl (q 1, 6896, .inr (.inl (s0.2.2.1 3)))), ((a0 5), .inl (q 3, 2, .inl (s0.2.2.2 0))), ((a0 6), .inl (q 0, 40, .inl (s0.2.2.2 1))), ((a0 7), .inl (q 2, 400, .inl (s0.2.2.2 2)))] s.heap := hP
  have hD : va_D _ [((a0 0), .inr (6, [.ref (a0 1), .ref (a0 2), .int (s0.1 0), .ref (a0 3), .ref (a0 5), .ref (a0 4), .long s0.2.1, .int (s0.1 1), .int (s0.1 2), .ref (a0 6), .int (s0.1 3), .int (s0.1 4), .ref (a0 7), .int (s0.1 5), .int (s0.1 6), .int (s0.1 7), .int (s0.1 8), .int (s0.1 9), .int (s0.1 10), .int (s0.1 11), .int (s0.1 12), .int (s0.1 13), .int (s0.1 14)])), ((a0 1), .inl (q 1, 6896, .inr (.inl (s0.2.2.1 0)))), ((a0 2), .inl (q 1, 68960, .inr (.inl (s0.2.2.1 1)))), ((a0 3), .inl (q 1, 13792, .inr (.inl (s0.2.2.1 2)))), ((a0 4), .inl (q 1, 6896, .inr (.inl (s0.2.2.1 3)))), ((a0 5), .inl (q 3, 2, .inl (s0.2.2.2 0))), ((a0 6), .inl (q 0, 40, .inl (s0.2.2.2 1))), ((a0 7), .inl (q 2, 400, .inl (s0.2.2.2 2)))] := hD
  unfold wp_X7_fails at h
  refine lv_aload_n hx hb dX7_fails_0 rfl (lv_at hl 0 rfl) ?_
  refine lv_bipush (v := 8) hx hb dX7_fails_1 (by decide) ?_
  refine lv_iload_n hx hb dX7_fails_3 rfl (lv_at hl 2 rfl) ?_
  refine lv_imul hx hb dX7_fails_4 ?_
  refine lv_iload_n hx hb dX7_fails_5 rfl (lv_at hl 1 rfl) ?_
  refine lv_iadd hx hb dX7_fails_6 ?_
  refine fl_put (C := RX7) (T := TX7) (N := 23) (ci := 6) (v := .int ((8 * x2) + x1)) (ws2 := [((a0 0), .inr (6, [.ref (a0 1), .ref (a0 2), .int (s0.1 0), .ref (a0 3), .ref (a0 5), .ref (a0 4), .long s0.2.1, .int (s0.1 1), .int (s0.1 2), .ref (a0 6), .int (s0.1 3), .int (s0.1 4), .ref (a0 7), .int (s0.1 5), .int (s0.1 6), .int ((8 * x2) + x1), .int (s0.1 8), .int (s0.1 9), .int (s0.1 10), .int (s0.1 11), .int (s0.1 12), .int (s0.1 13), .int (s0.1 14)])), ((a0 1), .inl (q 1, 6896, .inr (.inl (s0.2.2.1 0)))), ((a0 2), .inl (q 1, 68960, .inr (.inl (s0.2.2.1 1)))), ((a0 3), .inl (q 1, 13792, .inr (.inl (s0.2.2.1 2)))), ((a0 4), .inl (q 1, 6896, .inr (.inl (s0.2.2.1 3)))), ((a0 5), .inl (q 3, 2, .inl (s0.2.2.2 0))), ((a0 6), .inl (q 0, 40, .inl (s0.2.2.2 1))), ((a0 7), .inl (q 2, 400, .inl (s0.2.2.2 2)))]) hx hb ht in_X7 tyX7_ok nmX7 hown hK hP hD hS 0 rfl rfl 15 (by decide) mw_1145 rfl rfl rfl (Nat.le_of_ble_eq_true rfl) dX7_fails_7 rfl (fun H locs hP hD hS => ?_)
  refine lv_iconst (v := 0) hx hb dX7_fails_10 (by decide) ?_
  exact mt_zret ((va_up s0.1 7 ((8 * x2) + x1)), s0.2.1, s0.2.2.1, s0.2.2.2) hx hb hr hk rfl h (hP.sub (ws' := md_v a0 q ((va_up s0.1 7 ((8 * x2) + x1)), s0.2.1, s0.2.2.1, s0.2.2.2)) [0, 1, 2, 3, 4, 5, 6, 7] rfl) (hD.sub (ws' := md_v a0 q ((va_up s0.1 7 ((8 * x2) + x1)), s0.2.1, s0.2.2.1, s0.2.2.2)) [0, 1, 2, 3, 4, 5, 6, 7] (by decide) rfl) hS dX7_fails_11
