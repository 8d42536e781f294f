def wp_X7_keepsAct_L53 (post : Md → Prop) (e87 : Md → Int32 → Prop) : Nat → Md → Int32 → Prop
  | 0, _, _ => False
  | n53 + 1, t0, z1 => ((6896 ≤ z1 → e87 t0 z1) ∧ (¬ 6896 ≤ z1 → vp_in z1 6896 ∧ vp_in ((6896 * (t0.1 0)) + z1) 68960 ∧ wp_X7_keepsAct_L53 post e87 n53 (t0.1, t0.2.1, (va_up t0.2.2.1 1 (vp_updL (t0.2.2.1 1) (Int32.toNatClampNeg ((6896 * (t0.1 0)) + z1)) ((t0.2.2.1 0) (Int32.toNatClampNeg z1)))), t0.2.2.2) (z1 + 1)))
def wp_X7_keepsAct_L13 (post : Md → Prop) (e41 : Md → Int32 → Prop) : Nat → Md → Int32 → Prop
  | 0, _, _ => False
  | n13 + 1, t0, z1 => ((68960 ≤ z1 → e41 t0 z1) ∧ (¬ 68960 ≤ z1 → vp_in z1 68960 ∧ vp_in (z1 - 6896) 68960 ∧ wp_X7_keepsAct_L13 post e41 n13 (t0.1, t0.2.1, (va_up t0.2.2.1 1 (vp_updL (t0.2.2.1 1) (Int32.toNatClampNeg (z1 - 6896)) ((t0.2.2.1 1) (Int32.toNatClampNeg z1)))), t0.2.2.2) (z1 + 1)))
def wp_X7_keepsAct (post : Md → Prop) (s0 : Md) : Prop := ((¬ (s0.1 0) = 10 → (∃ n53, wp_X7_keepsAct_L53 post (fun t0 z1 => post ((va_up t0.1 0 ((t0.1 0) + 1)), t0.2.1, t0.2.2.1, t0.2.2.2)) n53 s0 0)) ∧ ((s0.1 0) = 10 → (∃ n13, wp_X7_keepsAct_L13 post (fun t0 z1 => (∃ n53, wp_X7_keepsAct_L53 post (fun t0 z1 => post ((va_up t0.1 0 ((t0.1 0) + 1)), t0.2.1, t0.2.2.1, t0.2.2.2)) n53 ((va_up t0.1 0 ((t0.1 0) - 1)), t0.2.1, t0.2.2.1, t0.2.2.2) 0)) n13 s0 6896)))
set_option maxHeartbeats 4000000 in
set_option maxRecDepth 100000 in
theorem c2_X7_keepsAct {l : Launch} {D : va_G} {q : Nat → ClassId} {sz : Nat} {a0 : Nat → Nat} {s0 : Md} {post : Md → Prop} (h : wp_X7_keepsAct post s0) : Met l yX7_keepsAct (Cond.code yX7_keepsAct cX7_keepsAct 2 none :: w_all) ({ frames := 0, cells := 0, slots := 0, locals := 0 } : Room) (mt_P D q [.ref (a0 0)] (md_v a0 q s0) sz) (va_Qv (fun u : Md => post u) (mt_B D (md_v a0 q s0) sz (fun u : Md => md_v a0 q u)) (va_A (md_v a0 q s0) sz)) 0 0 (va_A (md_v a0 q s0) sz) := by
  refine mt_start (by decide) (Nat.le_of_ble_eq_true rfl) ?_
  intro p e s m below meth c ls hx hb hr hml hown ht hk hin hP hQ hD hA hS hV hl
  have hK := hQ.1
  have hown : s.vm.findClass RX7 = some m.cls := hown
  have hl : lv_has ls 2 [(0, .ref (a0 0))] := hl
  have hP : va_P D vwCl [((a0 0), .inr (6, [.ref (a0 1), .ref (a0 2), .int (s0.1 0), .ref (a0 3), .ref (a0 5), .ref (a0 4), .long s0.2.1, .int (s0.1 1), .int (s0.1 2), .ref (a0 6), .int (s0.1 3), .int (s0.1 4), .ref (a0 7), .int (s0.1 5), .int (s0.1 6), .int (s0.1 7), .int (s0.1 8), .int (s0.1 9), .int (s0.1 10), .int (s0.1 11), .int (s0.1 12), .int (s0.1 13), .int (s0.1 14)])), ((a0 1), .inl (q 1, 6896, .inr (.inl (s0.2.2.1 0)))), ((a0 2), .inl (q 1, 68960, .inr (.inl (s0.2.2.1 1)))), ((a0 3), .inl (q 1, 13792, .inr (.inl (s0.2.2.1 2)))), ((a0 4), .inl (q 1, 6896, .inr (.inl (s0.2.2.1 3)))), ((a0 5), .inl (q 3, 2, .inl (s0.2.2.2 0))), ((a0 6), .inl (q 0, 40, .inl (s0.2.2.2 1))), ((a0 7), .inl (q 2, 400, .inl (s0.2.2.2 2)))] s.heap := hP
  have hD : va_D _ [((a0 0), .inr (6, [.ref (a0 1), .ref (a0 2), .int (s0.1 0), .ref (a0 3), .ref (a0 5), .ref (a0 4), .long s0.2.1, .int (s0.1 1), .int (s0.1 2), .ref (a0 6), .int (s0.1 3), .int (s0.1 4), .ref (a0 7), .int (s0.1 5), .int (s0.1 6), .int (s0.1 7), .int (s0.1 8), .int (s0.1 9), .int (s0.1 10), .int (s0.1 11), .int (s0.1 12), .int (s0.1 13), .int (s0.1 14)])), ((a0 1), .inl (q 1, 6896, .inr (.inl (s0.2.2.1 0)))), ((a0 2), .inl (q 1, 68960, .inr (.inl (s0.2.2.1 1)))), ((a0 3), .inl (q 1, 13792, .inr (.inl (s0.2.2.1 2)))), ((a0 4), .inl (q 1, 6896, .inr (.inl (s0.2.2.1 3)))), ((a0 5), .inl (q 3, 2, .inl (s0.2.2.2 0))), ((a0 6), .inl (q 0, 40, .inl (s0.2.2.2 1))), ((a0 7), .inl (q 2, 400, .inl (s0.2.2.2 2)))] := hD
  unfold wp_X7_keepsAct at h
  refine lv_aload_n hx hb dX7_keepsAct_0 rfl (lv_at hl 0 rfl) ?_
  refine fl_get (C := RX7) (T := TX7) (N := 23) (ci := 6) (v := .int (s0.1 0)) hx hb ht in_X7 hown hK hP 0 rfl rfl 2 (by decide) mw_1132 rfl dX7_keepsAct_1 ?_
  refine lv_bipush (v := 10) hx hb dX7_keepsAct_4 (by decide) ?_
  refine lv_icmp_ne (tgt := 51) hx hb dX7_keepsAct_6 (by decide) (fun c_1 => ?_) (fun c_1 => ?_)
  · replace h := h.1 c_1
    refine lv_iconst (v := 0) hx hb dX7_keepsAct_51 (by decide) ?_
    refine lv_istore_n (lv' := [(1, .int 0), (0, .ref (a0 0))]) hx hb dX7_keepsAct_52 rfl hl (by decide) rfl (fun ls hl => ?_)
    have lp53 : ∀ (e87 : Md → Int32 → Prop) (k87 : ∀ (t0 : Md) (z1 : Int32) (H : Heap) (locs : List Loc) (ls : Array Slot), e87 t0 z1 → va_P D vwCl (md_v a0 q t0) H → va_D (va_A (md_v a0 q s0) sz) (md_v a0 q t0) → va_S (va_A (md_v a0 q s0) sz) s.heap H locs → lv_has ls 2 [(1, .int z1), (0, .ref (a0 0))] → W p l e ({ frames := 0, cells := 0, slots := 0, locals := 0 } : Room) s m [.ref (a0 0)].toArray below meth c H locs 0 0 (MQ below (va_Qv (fun u : Md => post u) (mt_B D (md_v a0 q s0) sz (fun u : Md => md_v a0 q u)) (va_A (md_v a0 q s0) sz)) [.ref (a0 0)].toArray s 0 0 (va_A (md_v a0 q s0) sz)) (F0 m 87 ls [])) (n : Nat) (t0 : Md) (z1 : Int32) (H : Heap) (locs : List Loc) (ls : Array Slot), wp_X7_keepsAct_L53 post e87 n t0 z1 → va_P D vwCl (md_v a0 q t0) H → va_D (va_A (md_v a0 q s0) sz) (md_v a0 q t0) → va_S (va_A (md_v a0 q s0) sz) s.heap H locs → lv_has ls 2 [(1, .int z1), (0, .ref (a0 0))] → W p l e ({ frames := 0, cells := 0, slots := 0, locals := 0 } : Room) s m [.ref (a0 0)].toArray below meth c H locs 0 0 (MQ below (va_Qv (fun u : Md => post u) (mt_B D (md_v a0 q s0) sz (fun u : Md => md_v a0 q u)) (va_A (md_v a0 q s0) sz)) [.ref (a0 0)].toArray s 0 0 (va_A (md_v a0 q s0) sz)) (F0 m 53 ls []) := by
      intro e87 k87 n
      induction n with
      | zero =>
        intro t0 z1 H locs ls h
        exact h.elim
      | succ n ih =>
        intro t0 z1 H locs ls h hP hD hS hl
        have hP : va_P D vwCl [((a0 0), .inr (6, [.ref (a0 1), .ref (a0 2), .int (t0.1 0), .ref (a0 3), .ref (a0 5), .ref (a0 4), .long t0.2.1, .int (t0.1 1), .int (t0.1 2), .ref (a0 6), .int (t0.1 3), .int (t0.1 4), .ref (a0 7), .int (t0.1 5), .int (t0.1 6), .int (t0.1 7), .int (t0.1 8), .int (t0.1 9), .int (t0.1 10), .int (t0.1 11), .int (t0.1 12), .int (t0.1 13), .int (t0.1 14)])), ((a0 1), .inl (q 1, 6896, .inr (.inl (t0.2.2.1 0)))), ((a0 2), .inl (q 1, 68960, .inr (.inl (t0.2.2.1 1)))), ((a0 3), .inl (q 1, 13792, .inr (.inl (t0.2.2.1 2)))), ((a0 4), .inl (q 1, 6896, .inr (.inl (t0.2.2.1 3)))), ((a0 5), .inl (q 3, 2, .inl (t0.2.2.2 0))), ((a0 6), .inl (q 0, 40, .inl (t0.2.2.2 1))), ((a0 7), .inl (q 2, 400, .inl (t0.2.2.2 2)))] H := hP
        have hD : va_D _ [((a0 0), .inr (6, [.ref (a0 1), .ref (a0 2), .int (t0.1 0), .ref (a0 3), .ref (a0 5), .ref (a0 4), .long t0.2.1, .int (t0.1 1), .int (t0.1 2), .ref (a0 6), .int (t0.1 3), .int (t0.1 4), .ref (a0 7), .int (t0.1 5), .int (t0.1 6), .int (t0.1 7), .int (t0.1 8), .int (t0.1 9), .int (t0.1 10), .int (t0.1 11), .int (t0.1 12), .int (t0.1 13), .int (t0.1 14)])), ((a0 1), .inl (q 1, 6896, .inr (.inl (t0.2.2.1 0)))), ((a0 2), .inl (q 1, 68960, .inr (.inl (t0.2.2.1 1)))), ((a0 3), .inl (q 1, 13792, .inr (.inl (t0.2.2.1 2)))), ((a0 4), .inl (q 1, 6896, .inr (.inl (t0.2.2.1 3)))), ((a0 5), .inl (q 3, 2, .inl (t0.2.2.2 0))), ((a0 6), .inl (q 0, 40, .inl (t0.2.2.2 1))), ((a0 7), .inl (q 2, 400, .inl (t0.2.2.2 2)))] := hD
        unfold wp_X7_keepsAct_L53 at h
        refine lv_iload_n hx hb dX7_keepsAct_53 rfl (lv_at hl 0 rfl) ?_
        refine lv_sipush (v := 6896) hx hb dX7_keepsAct_54 (by decide) ?_
        refine lv_icmp_ge (tgt := 87) hx hb dX7_keepsAct_57 (by decide) (fun c_2 => ?_) (fun c_2 => ?_)
        · replace h := h.1 c_2
          exact k87 _ _ _ _ ls h (hP.sub (ws' := md_v a0 q t0) [0, 1, 2, 3, 4, 5, 6, 7] rfl) (hD.sub (ws' := md_v a0 q t0) [0, 1, 2, 3, 4, 5, 6, 7] (by decide) rfl) hS (lv_sub hl [0, 1] rfl)
        · replace h := h.2 c_2
          refine lv_aload_n hx hb dX7_keepsAct_60 rfl (lv_at hl 1 rfl) ?_
          refine fl_get (C := RX7) (T := TX7) (N := 23) (ci := 6) (v := .ref (a0 2)) hx hb ht in_X7 hown hK hP 0 rfl rfl 1 (by decide) mw_1131 rfl dX7_keepsAct_61 ?_
          refine lv_sipush (v := 6896) hx hb dX7_keepsAct_64 (by decide) ?_
          refine lv_aload_n hx hb dX7_keepsAct_67 rfl (lv_at hl 1 rfl) ?_
          refine fl_get (C := RX7) (T := TX7) (N := 23) (ci := 6) (v := .int (t0.1 0)) hx hb ht in_X7 hown hK hP 0 rfl rfl 2 (by decide) mw_1132 rfl dX7_keepsAct_68 ?_
          refine lv_imul hx hb dX7_keepsAct_71 ?_
          refine lv_iload_n hx hb dX7_keepsAct_72 rfl (lv_at hl 0 rfl) ?_
          refine lv_iadd hx hb dX7_keepsAct_73 ?_
          refine lv_aload_n hx hb dX7_keepsAct_74 rfl (lv_at hl 1 rfl) ?_
          refine fl_get (C := RX7) (T := TX7) (N := 23) (ci := 6) (v := .ref (a0 1)) hx hb ht in_X7 hown hK hP 0 rfl rfl 0 (by decide) mw_1130 rfl dX7_keepsAct_75 ?_
          refine lv_iload_n hx hb dX7_keepsAct_78 rfl (lv_at hl 0 rfl) ?_
          obtain ⟨g_3, h⟩ := h
          refine va_lald hx hb hK hP 1 1 rfl rfl g_3 dX7_keepsAct_79 ?_
          obtain ⟨g_4, h⟩ := h
          refine va_last hx hb hK hP hD hS 2 1 rfl rfl g_4 dX7_keepsAct_80 (fun H locs hP hD hS => ?_)
          have hP : va_P D vwCl [((a0 0), .inr (6, [.ref (a0 1), .ref (a0 2), .int (t0.1 0), .ref (a0 3), .ref (a0 5), .ref (a0 4), .long t0.2.1, .int (t0.1 1), .int (t0.1 2), .ref (a0 6), .int (t0.1 3), .int (t0.1 4), .ref (a0 7), .int (t0.1 5), .int (t0.1 6), .int (t0.1 7), .int (t0.1 8), .int (t0.1 9), .int (t0.1 10), .int (t0.1 11), .int (t0.1 12), .int (t0.1 13), .int (t0.1 14)])), ((a0 1), .inl (q 1, 6896, .inr (.inl (t0.2.2.1 0)))), ((a0 2), .inl (q 1, 68960, .inr (.inl (vp_updL (t0.2.2.1 1) (Int32.toNatClampNeg ((6896 * (t0.1 0)) + z1)) ((t0.2.2.1 0) (Int32.toNatClampNeg z1)))))), ((a0 3), .inl (q 1, 13792, .inr (.inl (t0.2.2.1 2)))), ((a0 4), .inl (q 1, 6896, .inr (.inl (t0.2.2.1 3)))), ((a0 5), .inl (q 3, 2, .inl (t0.2.2.2 0))), ((a0 6), .inl (q 0, 40, .inl (t0.2.2.2 1))), ((a0 7), .inl (q 2, 400, .inl (t0.2.2.2 2)))] H := hP
          have hD : va_D _ [((a0 0), .inr (6, [.ref (a0 1), .ref (a0 2), .int (t0.1 0), .ref (a0 3), .ref (a0 5), .ref (a0 4), .long t0.2.1, .int (t0.1 1), .int (t0.1 2), .ref (a0 6), .int (t0.1 3), .int (t0.1 4), .ref (a0 7), .int (t0.1 5), .int (t0.1 6), .int (t0.1 7), .int (t0.1 8), .int (t0.1 9), .int (t0.1 10), .int (t0.1 11), .int (t0.1 12), .int (t0.1 13), .int (t0.1 14)])), ((a0 1), .inl (q 1, 6896, .inr (.inl (t0.2.2.1 0)))), ((a0 2), .inl (q 1, 68960, .inr (.inl (vp_updL (t0.2.2.1 1) (Int32.toNatClampNeg ((6896 * (t0.1 0)) + z1)) ((t0.2.2.1 0) (Int32.toNatClampNeg z1)))))), ((a0 3), .inl (q 1, 13792, .inr (.inl (t0.2.2.1 2)))), ((a0 4), .inl (q 1, 6896, .inr (.inl (t0.2.2.1 3)))), ((a0 5), .inl (q 3, 2, .inl (t0.2.2.2 0))), ((a0 6), .inl (q 0, 40, .inl (t0.2.2.2 1))), ((a0 7), .inl (q 2, 400, .inl (t0.2.2.2 2)))] := hD
          refine lv_iinc (v := (z1 + 1)) (lv' := [(1, .int (z1 + 1)), (0, .ref (a0 0))]) hx hb dX7_keepsAct_81 hl (k := 0) rfl rfl (by decide) rfl (fun ls hl => ?_)
          refine lv_goto (tgt := 53) hx hb dX7_keepsAct_84 (by decide) ?_
          exact ih _ _ _ _ ls h (hP.sub (ws' := md_v a0 q (t0.1, t0.2.1, (va_up t0.2.2.1 1 (vp_updL (t0.2.2.1 1) (Int32.toNatClampNeg ((6896 * (t0.1 0)) + z1)) ((t0.2.2.1 0) (Int32.toNatClampNeg z1)))), t0.2.2.2)) [0, 1, 2, 3, 4, 5, 6, 7] rfl) (hD.sub (ws' := md_v a0 q (t0.1, t0.2.1, (va_up t0.2.2.1 1 (vp_updL (t0.2.2.1 1) (Int32.toNatClampNeg ((6896 * (t0.1 0)) + z1)) ((t0.2.2.1 0) (Int32.toNatClampNeg z1)))), t0.2.2.2)) [0, 1, 2, 3, 4, 5, 6, 7] (by decide) rfl) hS (lv_sub hl [0, 1] rfl)
    obtain ⟨n53, h⟩ := h
    refine lp53 _ ?_ n53 _ _ _ _ ls h (hP.sub (ws' := md_v a0 q s0) [0, 1, 2, 3, 4, 5, 6, 7] rfl) (hD.sub (ws' := md_v a0 q s0) [0, 1, 2, 3, 4, 5, 6, 7] (by decide) rfl) hS (lv_sub hl [0, 1] rfl)
    · intro t0 z1 H locs ls h hP hD hS hl
      try dsimp only at h
      have hP : va_P D vwCl [((a0 0), .inr (6, [.ref (a0 1), .ref (a0 2), .int (t0.1 0), .ref (a0 3), .ref (a0 5), .ref (a0 4), .long t0.2.1, .int (t0.1 1), .int (t0.1 2), .ref (a0 6), .int (t0.1 3), .int (t0.1 4), .ref (a0 7), .int (t0.1 5), .int (t0.1 6), .int (t0.1 7), .int (t0.1 8), .int (t0.1 9), .int (t0.1 10), .int (t0.1 11), .int (t0.1 12), .int (t0.1 13), .int (t0.1 14)])), ((a0 1), .inl (q 1, 6896, .inr (.inl (t0.2.2.1 0)))), ((a0 2), .inl (q 1, 68960, .inr (.inl (t0.2.2.1 1)))), ((a0 3), .inl (q 1, 13792, .inr (.inl (t0.2.2.1 2)))), ((a0 4), .inl (q 1, 6896, .inr (.inl (t0.2.2.1 3)))), ((a0 5), .inl (q 3, 2, .inl (t0.2.2.2 0))), ((a0 6), .inl (q 0, 40, .inl (t0.2.2.2 1))), ((a0 7), .inl (q 2, 400, .inl (t0.2.2.2 2)))] H := hP
      have hD : va_D _ [((a0 0), .inr (6, [.ref (a0 1), .ref (a0 2), .int (t0.1 0), .ref (a0 3), .ref (a0 5), .ref (a0 4), .long t0.2.1, .int (t0.1 1), .int (t0.1 2), .ref (a0 6), .int (t0.1 3), .int (t0.1 4), .ref (a0 7), .int (t0.1 5), .int (t0.1 6), .int (t0.1 7), .int (t0.1 8), .int (t0.1 9), .int (t0.1 10), .int (t0.1 11), .int (t0.1 12), .int (t0.1 13), .int (t0.1 14)])), ((a0 1), .inl (q 1, 6896, .inr (.inl (t0.2.2.1 0)))), ((a0 2), .inl (q 1, 68960, .inr (.inl (t0.2.2.1 1)))), ((a0 3), .inl (q 1, 13792, .inr (.inl (t0.2.2.1 2)))), ((a0 4), .inl (q 1, 6896, .inr (.inl (t0.2.2.1 3)))), ((a0 5), .inl (q 3, 2, .inl (t0.2.2.2 0))), ((a0 6), .inl (q 0, 40, .inl (t0.2.2.2 1))), ((a0 7), .inl (q 2, 400, .inl (t0.2.2.2 2)))] := hD
      refine lv_aload_n hx hb dX7_keepsAct_87 rfl (lv_at hl 1 rfl) ?_
      refine lv_dup hx hb dX7_keepsAct_88 rfl ?_
      refine fl_get (C := RX7) (T := TX7) (N := 23) (ci := 6) (v := .int (t0.1 0)) hx hb ht in_X7 hown hK hP 0 rfl rfl 2 (by decide) mw_1132 rfl dX7_keepsAct_89 ?_
      refine lv_iconst (v := 1) hx hb dX7_keepsAct_92 (by decide) ?_
      refine lv_iadd hx hb dX7_keepsAct_93 ?_
      refine fl_put (C := RX7) (T := TX7) (N := 23) (ci := 6) (v := .int ((t0.1 0) + 1)) (ws2 := [((a0 0), .inr (6, [.ref (a0 1), .ref (a0 2), .int ((t0.1 0) + 1), .ref (a0 3), .ref (a0 5), .ref (a0 4), .long t0.2.1, .int (t0.1 1), .int (t0.1 2), .ref (a0 6), .int (t0.1 3), .int (t0.1 4), .ref (a0 7), .int (t0.1 5), .int (t0.1 6), .int (t0.1 7), .int (t0.1 8), .int (t0.1 9), .int (t0.1 10), .int (t0.1 11), .int (t0.1 12), .int (t0.1 13), .int (t0.1 14)])), ((a0 1), .inl (q 1, 6896, .inr (.inl (t0.2.2.1 0)))), ((a0 2), .inl (q 1, 68960, .inr (.inl (t0.2.2.1 1)))), ((a0 3), .inl (q 1, 13792, .inr (.inl (t0.2.2.1 2)))), ((a0 4), .inl (q 1, 6896, .inr (.inl (t0.2.2.1 3)))), ((a0 5), .inl (q 3, 2, .inl (t0.2.2.2 0))), ((a0 6), .inl (q 0, 40, .inl (t0.2.2.2 1))), ((a0 7), .inl (q 2, 400, .inl (t0.2.2.2 2)))]) hx hb ht in_X7 tyX7_ok nmX7 hown hK hP hD hS 0 rfl rfl 2 (by decide) mw_1132 rfl rfl rfl (Nat.le_of_ble_eq_true rfl) dX7_keepsAct_94 rfl (fun H locs hP hD hS => ?_)
      exact mt_vret ((va_up t0.1 0 ((t0.1 0) + 1)), t0.2.1, t0.2.2.1, t0.2.2.2) hx hb hr hk h (hP.sub (ws' := md_v a0 q ((va_up t0.1 0 ((t0.1 0) + 1)), t0.2.1, t0.2.2.1, t0.2.2.2)) [0, 1, 2, 3, 4, 5, 6, 7] rfl) (hD.sub (ws' := md_v a0 q ((va_up t0.1 0 ((t0.1 0) + 1)), t0.2.1, t0.2.2.1, t0.2.2.2)) [0, 1, 2, 3, 4, 5, 6, 7] (by decide) rfl) hS dX7_keepsAct_97
  · replace h := h.2 c_1
    refine lv_sipush (v := 6896) hx hb dX7_keepsAct_9 (by decide) ?_
    refine lv_istore_n (lv' := [(1, .int 6896), (0, .ref (a0 0))]) hx hb dX7_keepsAct_12 rfl hl (by decide) rfl (fun ls hl => ?_)
    have lp13 : ∀ (e41 : Md → Int32 → Prop) (k41 : ∀ (t0 : Md) (z1 : Int32) (H : Heap) (locs : List Loc) (ls : Array Slot), e41 t0 z1 → va_P D vwCl (md_v a0 q t0) H → va_D (va_A (md_v a0 q s0) sz) (md_v a0 q t0) → va_S (va_A (md_v a0 q s0) sz) s.heap H locs → lv_has ls 2 [(1, .int z1), (0, .ref (a0 0))] → W p l e ({ frames := 0, cells := 0, slots := 0, locals := 0 } : Room) s m [.ref (a0 0)].toArray below meth c H locs 0 0 (MQ below (va_Qv (fun u : Md => post u) (mt_B D (md_v a0 q s0) sz (fun u : Md => md_v a0 q u)) (va_A (md_v a0 q s0) sz)) [.ref (a0 0)].toArray s 0 0 (va_A (md_v a0 q s0) sz)) (F0 m 41 ls [])) (n : Nat) (t0 : Md) (z1 : Int32) (H : Heap) (locs : List Loc) (ls : Array Slot), wp_X7_keepsAct_L13 post e41 n t0 z1 → va_P D vwCl (md_v a0 q t0) H → va_D (va_A (md_v a0 q s0) sz) (md_v a0 q t0) → va_S (va_A (md_v a0 q s0) sz) s.heap H locs → lv_has ls 2 [(1, .int z1), (0, .ref (a0 0))] → W p l e ({ frames := 0, cells := 0, slots := 0, locals := 0 } : Room) s m [.ref (a0 0)].toArray below meth c H locs 0 0 (MQ below (va_Qv (fun u : Md => post u) (mt_B D (md_v a0 q s0) sz (fun u : Md => md_v a0 q u)) (va_A (md_v a0 q s0) sz)) [.ref (a0 0)].toArray s 0 0 (va_A (md_v a0 q s0) sz)) (F0 m 13 ls []) := by
      intro e41 k41 n
      induction n with
      | zero =>
        intro t0 z1 H locs ls h
        exact h.elim
      | succ n ih =>
        intro t0 z1 H locs ls h hP hD hS hl
        have hP : va_P D vwCl [((a0 0), .inr (6, [.ref (a0 1), .ref (a0 2), .int (t0.1 0), .ref (a0 3), .ref (a0 5), .ref (a0 4), .long t0.2.1, .int (t0.1 1), .int (t0.1 2), .ref (a0 6), .int (t0.1 3), .int (t0.1 4), .ref (a0 7), .int (t0.1 5), .int (t0.1 6), .int (t0.1 7), .int (t0.1 8), .int (t0.1 9), .int (t0.1 10), .int (t0.1 11), .int (t0.1 12), .int (t0.1 13), .int (t0.1 14)])), ((a0 1), .inl (q 1, 6896, .inr (.inl (t0.2.2.1 0)))), ((a0 2), .inl (q 1, 68960, .inr (.inl (t0.2.2.1 1)))), ((a0 3), .inl (q 1, 13792, .inr (.inl (t0.2.2.1 2)))), ((a0 4), .inl (q 1, 6896, .inr (.inl (t0.2.2.1 3)))), ((a0 5), .inl (q 3, 2, .inl (t0.2.2.2 0))), ((a0 6), .inl (q 0, 40, .inl (t0.2.2.2 1))), ((a0 7), .inl (q 2, 400, .inl (t0.2.2.2 2)))] H := hP
        have hD : va_D _ [((a0 0), .inr (6, [.ref (a0 1), .ref (a0 2), .int (t0.1 0), .ref (a0 3), .ref (a0 5), .ref (a0 4), .long t0.2.1, .int (t0.1 1), .int (t0.1 2), .ref (a0 6), .int (t0.1 3), .int (t0.1 4), .ref (a0 7), .int (t0.1 5), .int (t0.1 6), .int (t0.1 7), .int (t0.1 8), .int (t0.1 9), .int (t0.1 10), .int (t0.1 11), .int (t0.1 12), .int (t0.1 13), .int (t0.1 14)])), ((a0 1), .inl (q 1, 6896, .inr (.inl (t0.2.2.1 0)))), ((a0 2), .inl (q 1, 68960, .inr (.inl (t0.2.2.1 1)))), ((a0 3), .inl (q 1, 13792, .inr (.inl (t0.2.2.1 2)))), ((a0 4), .inl (q 1, 6896, .inr (.inl (t0.2.2.1 3)))), ((a0 5), .inl (q 3, 2, .inl (t0.2.2.2 0))), ((a0 6), .inl (q 0, 40, .inl (t0.2.2.2 1))), ((a0 7), .inl (q 2, 400, .inl (t0.2.2.2 2)))] := hD
        unfold wp_X7_keepsAct_L13 at h
        refine lv_iload_n hx hb dX7_keepsAct_13 rfl (lv_at hl 0 rfl) ?_
        refine lv_ldc (v := 68960) hx hb hown (ht _ mw_1129) dX7_keepsAct_14 ?_
        refine lv_icmp_ge (tgt := 41) hx hb dX7_keepsAct_16 (by decide) (fun c_5 => ?_) (fun c_5 => ?_)
        · replace h := h.1 c_5
          exact k41 _ _ _ _ ls h (hP.sub (ws' := md_v a0 q t0) [0, 1, 2, 3, 4, 5, 6, 7] rfl) (hD.sub (ws' := md_v a0 q t0) [0, 1, 2, 3, 4, 5, 6, 7] (by decide) rfl) hS (lv_sub hl [0, 1] rfl)
        · replace h := h.2 c_5
          refine lv_aload_n hx hb dX7_keepsAct_19 rfl (lv_at hl 1 rfl) ?_
          refine fl_get (C := RX7) (T := TX7) (N := 23) (ci := 6) (v := .ref (a0 2)) hx hb ht in_X7 hown hK hP 0 rfl rfl 1 (by decide) mw_1131 rfl dX7_keepsAct_20 ?_
          refine lv_iload_n hx hb dX7_keepsAct_23 rfl (lv_at hl 0 rfl) ?_
          refine lv_sipush (v := 6896) hx hb dX7_keepsAct_24 (by decide) ?_
          refine lv_isub hx hb dX7_keepsAct_27 ?_
          refine lv_aload_n hx hb dX7_keepsAct_28 rfl (lv_at hl 1 rfl) ?_
          refine fl_get (C := RX7) (T := TX7) (N := 23) (ci := 6) (v := .ref (a0 2)) hx hb ht in_X7 hown hK hP 0 rfl rfl 1 (by decide) mw_1131 rfl dX7_keepsAct_29 ?_
          refine lv_iload_n hx hb dX7_keepsAct_32 rfl (lv_at hl 0 rfl) ?_
          obtain ⟨g_6, h⟩ := h
          refine va_lald hx hb hK hP 2 1 rfl rfl g_6 dX7_keepsAct_33 ?_
          obtain ⟨g_7, h⟩ := h
          refine va_last hx hb hK hP hD hS 2 1 rfl rfl g_7 dX7_keepsAct_34 (fun H locs hP hD hS => ?_)
          have hP : va_P D vwCl [((a0 0), .inr (6, [.ref (a0 1), .ref (a0 2), .int (t0.1 0), .ref (a0 3), .ref (a0 5), .ref (a0 4), .long t0.2.1, .int (t0.1 1), .int (t0.1 2), .ref (a0 6), .int (t0.1 3), .int (t0.1 4), .ref (a0 7), .int (t0.1 5), .int (t0.1 6), .int (t0.1 7), .int (t0.1 8), .int (t0.1 9), .int (t0.1 10), .int (t0.1 11), .int (t0.1 12), .int (t0.1 13), .int (t0.1 14)])), ((a0 1), .inl (q 1, 6896, .inr (.inl (t0.2.2.1 0)))), ((a0 2), .inl (q 1, 68960, .inr (.inl (vp_updL (t0.2.2.1 1) (Int32.toNatClampNeg (z1 - 6896)) ((t0.2.2.1 1) (Int32.toNatClampNeg z1)))))), ((a0 3), .inl (q 1, 13792, .inr (.inl (t0.2.2.1 2)))), ((a0 4), .inl (q 1, 6896, .inr (.inl (t0.2.2.1 3)))), ((a0 5), .inl (q 3, 2, .inl (t0.2.2.2 0))), ((a0 6), .inl (q 0, 40, .inl (t0.2.2.2 1))), ((a0 7), .inl (q 2, 400, .inl (t0.2.2.2 2)))] H := hP
          have hD : va_D _ [((a0 0), .inr (6, [.ref (a0 1), .ref (a0 2), .int (t0.1 0), .ref (a0 3), .ref (a0 5), .ref (a0 4), .long t0.2.1, .int (t0.1 1), .int (t0.1 2), .ref (a0 6), .int (t0.1 3), .int (t0.1 4), .ref (a0 7), .int (t0.1 5), .int (t0.1 6), .int (t0.1 7), .int (t0.1 8), .int (t0.1 9), .int (t0.1 10), .int (t0.1 11), .int (t0.1 12), .int (t0.1 13), .int (t0.1 14)])), ((a0 1), .inl (q 1, 6896, .inr (.inl (t0.2.2.1 0)))), ((a0 2), .inl (q 1, 68960, .inr (.inl (vp_updL (t0.2.2.1 1) (Int32.toNatClampNeg (z1 - 6896)) ((t0.2.2.1 1) (Int32.toNatClampNeg z1)))))), ((a0 3), .inl (q 1, 13792, .inr (.inl (t0.2.2.1 2)))), ((a0 4), .inl (q 1, 6896, .inr (.inl (t0.2.2.1 3)))), ((a0 5), .inl (q 3, 2, .inl (t0.2.2.2 0))), ((a0 6), .inl (q 0, 40, .inl (t0.2.2.2 1))), ((a0 7), .inl (q 2, 400, .inl (t0.2.2.2 2)))] := hD
          refine lv_iinc (v := (z1 + 1)) (lv' := [(1, .int (z1 + 1)), (0, .ref (a0 0))]) hx hb dX7_keepsAct_35 hl (k := 0) rfl rfl (by decide) rfl (fun ls hl => ?_)
          refine lv_goto (tgt := 13) hx hb dX7_keepsAct_38 (by decide) ?_
          exact ih _ _ _ _ ls h (hP.sub (ws' := md_v a0 q (t0.1, t0.2.1, (va_up t0.2.2.1 1 (vp_updL (t0.2.2.1 1) (Int32.toNatClampNeg (z1 - 6896)) ((t0.2.2.1 1) (Int32.toNatClampNeg z1)))), t0.2.2.2)) [0, 1, 2, 3, 4, 5, 6, 7] rfl) (hD.sub (ws' := md_v a0 q (t0.1, t0.2.1, (va_up t0.2.2.1 1 (vp_updL (t0.2.2.1 1) (Int32.toNatClampNeg (z1 - 6896)) ((t0.2.2.1 1) (Int32.toNatClampNeg z1)))), t0.2.2.2)) [0, 1, 2, 3, 4, 5, 6, 7] (by decide) rfl) hS (lv_sub hl [0, 1] rfl)
    obtain ⟨n13, h⟩ := h
    refine lp13 _ ?_ n13 _ _ _ _ ls h (hP.sub (ws' := md_v a0 q s0) [0, 1, 2, 3, 4, 5, 6, 7] rfl) (hD.sub (ws' := md_v a0 q s0) [0, 1, 2, 3, 4, 5, 6, 7] (by decide) rfl) hS (lv_sub hl [0, 1] rfl)
    · intro t0 z1 H locs ls h hP hD hS hl
      try dsimp only at h
      have hP : va_P D vwCl [((a0 0), .inr (6, [.ref (a0 1), .ref (a0 2), .int (t0.1 0), .ref (a0 3), .ref (a0 5), .ref (a0 4), .long t0.2.1, .int (t0.1 1), .int (t0.1 2), .ref (a0 6), .int (t0.1 3), .int (t0.1 4), .ref (a0 7), .int (t0.1 5), .int (t0.1 6), .int (t0.1 7), .int (t0.1 8), .int (t0.1 9), .int (t0.1 10), .int (t0.1 11), .int (t0.1 12), .int (t0.1 13), .int (t0.1 14)])), ((a0 1), .inl (q 1, 6896, .inr (.inl (t0.2.2.1 0)))), ((a0 2), .inl (q 1, 68960, .inr (.inl (t0.2.2.1 1)))), ((a0 3), .inl (q 1, 13792, .inr (.inl (t0.2.2.1 2)))), ((a0 4), .inl (q 1, 6896, .inr (.inl (t0.2.2.1 3)))), ((a0 5), .inl (q 3, 2, .inl (t0.2.2.2 0))), ((a0 6), .inl (q 0, 40, .inl (t0.2.2.2 1))), ((a0 7), .inl (q 2, 400, .inl (t0.2.2.2 2)))] H := hP
      have hD : va_D _ [((a0 0), .inr (6, [.ref (a0 1), .ref (a0 2), .int (t0.1 0), .ref (a0 3), .ref (a0 5), .ref (a0 4), .long t0.2.1, .int (t0.1 1), .int (t0.1 2), .ref (a0 6), .int (t0.1 3), .int (t0.1 4), .ref (a0 7), .int (t0.1 5), .int (t0.1 6), .int (t0.1 7), .int (t0.1 8), .int (t0.1 9), .int (t0.1 10), .int (t0.1 11), .int (t0.1 12), .int (t0.1 13), .int (t0.1 14)])), ((a0 1), .inl (q 1, 6896, .inr (.inl (t0.2.2.1 0)))), ((a0 2), .inl (q 1, 68960, .inr (.inl (t0.2.2.1 1)))), ((a0 3), .inl (q 1, 13792, .inr (.inl (t0.2.2.1 2)))), ((a0 4), .inl (q 1, 6896, .inr (.inl (t0.2.2.1 3)))), ((a0 5), .inl (q 3, 2, .inl (t0.2.2.2 0))), ((a0 6), .inl (q 0, 40, .inl (t0.2.2.2 1))), ((a0 7), .inl (q 2, 400, .inl (t0.2.2.2 2)))] := hD
      refine lv_aload_n hx hb dX7_keepsAct_41 rfl (lv_at hl 1 rfl) ?_
      refine lv_dup hx hb dX7_keepsAct_42 rfl ?_
      refine fl_get (C := RX7) (T := TX7) (N := 23) (ci := 6) (v := .int (t0.1 0)) hx hb ht in_X7 hown hK hP 0 rfl rfl 2 (by decide) mw_1132 rfl dX7_keepsAct_43 ?_
      refine lv_iconst (v := 1) hx hb dX7_keepsAct_46 (by decide) ?_
      refine lv_isub hx hb dX7_keepsAct_47 ?_
      refine fl_put (C := RX7) (T := TX7) (N := 23) (ci := 6) (v := .int ((t0.1 0) - 1)) (ws2 := [((a0 0), .inr (6, [.ref (a0 1), .ref (a0 2), .int ((t0.1 0) - 1), .ref (a0 3), .ref (a0 5), .ref (a0 4), .long t0.2.1, .int (t0.1 1), .int (t0.1 2), .ref (a0 6), .int (t0.1 3), .int (t0.1 4), .ref (a0 7), .int (t0.1 5), .int (t0.1 6), .int (t0.1 7), .int (t0.1 8), .int (t0.1 9), .int (t0.1 10), .int (t0.1 11), .int (t0.1 12), .int (t0.1 13), .int (t0.1 14)])), ((a0 1), .inl (q 1, 6896, .inr (.inl (t0.2.2.1 0)))), ((a0 2), .inl (q 1, 68960, .inr (.inl (t0.2.2.1 1)))), ((a0 3), .inl (q 1, 13792, .inr (.inl (t0.2.2.1 2)))), ((a0 4), .inl (q 1, 6896, .inr (.inl (t0.2.2.1 3)))), ((a0 5), .inl (q 3, 2, .inl (t0.2.2.2 0))), ((a0 6), .inl (q 0, 40, .inl (t0.2.2.2 1))), ((a0 7), .inl (q 2, 400, .inl (t0.2.2.2 2)))]) hx hb ht in_X7 tyX7_ok nmX7 hown hK hP hD hS 0 rfl rfl 2 (by decide) mw_1132 rfl rfl rfl (Nat.le_of_ble_eq_true rfl) dX7_keepsAct_48 rfl (fun H locs hP hD hS => ?_)
      refine lv_iconst (v := 0) hx hb dX7_keepsAct_51 (by decide) ?_
      refine lv_istore_n (lv' := [(1, .int 0), (0, .ref (a0 0))]) hx hb dX7_keepsAct_52 rfl hl (by decide) rfl (fun ls hl => ?_)
      have lp53 : ∀ (e87 : Md → Int32 → Prop) (k87 : ∀ (t0 : Md) (z1 : Int32) (H : Heap) (locs : List Loc) (ls : Array Slot), e87 t0 z1 → va_P D vwCl (md_v a0 q t0) H → va_D (va_A (md_v a0 q s0) sz) (md_v a0 q t0) → va_S (va_A (md_v a0 q s0) sz) s.heap H locs → lv_has ls 2 [(1, .int z1), (0, .ref (a0 0))] → W p l e ({ frames := 0, cells := 0, slots := 0, locals := 0 } : Room) s m [.ref (a0 0)].toArray below meth c H locs 0 0 (MQ below (va_Qv (fun u : Md => post u) (mt_B D (md_v a0 q s0) sz (fun u : Md => md_v a0 q u)) (va_A (md_v a0 q s0) sz)) [.ref (a0 0)].toArray s 0 0 (va_A (md_v a0 q s0) sz)) (F0 m 87 ls [])) (n : Nat) (t0 : Md) (z1 : Int32) (H : Heap) (locs : List Loc) (ls : Array Slot), wp_X7_keepsAct_L53 post e87 n t0 z1 → va_P D vwCl (md_v a0 q t0) H → va_D (va_A (md_v a0 q s0) sz) (md_v a0 q t0) → va_S (va_A (md_v a0 q s0) sz) s.heap H locs → lv_has ls 2 [(1, .int z1), (0, .ref (a0 0))] → W p l e ({ frames := 0, cells := 0, slots := 0, locals := 0 } : Room) s m [.ref (a0 0)].toArray below meth c H locs 0 0 (MQ below (va_Qv (fun u : Md => post u) (mt_B D (md_v a0 q s0) sz (fun u : Md => md_v a0 q u)) (va_A (md_v a0 q s0) sz)) [.ref (a0 0)].toArray s 0 0 (va_A (md_v a0 q s0) sz)) (F0 m 53 ls []) := by
        intro e87 k87 n
        induction n with
        | zero =>
          intro t0 z1 H locs ls h
          exact h.elim
        | succ n ih =>
          intro t0 z1 H locs ls h hP hD hS hl
          have hP : va_P D vwCl [((a0 0), .inr (6, [.ref (a0 1), .ref (a0 2), .int (t0.1 0), .ref (a0 3), .ref (a0 5), .ref (a0 4), .long t0.2.1, .int (t0.1 1), .int (t0.1 2), .ref (a0 6), .int (t0.1 3), .int (t0.1 4), .ref (a0 7), .int (t0.1 5), .int (t0.1 6), .int (t0.1 7), .int (t0.1 8), .int (t0.1 9), .int (t0.1 10), .int (t0.1 11), .int (t0.1 12), .int (t0.1 13), .int (t0.1 14)])), ((a0 1), .inl (q 1, 6896, .inr (.inl (t0.2.2.1 0)))), ((a0 2), .inl (q 1, 68960, .inr (.inl (t0.2.2.1 1)))), ((a0 3), .inl (q 1, 13792, .inr (.inl (t0.2.2.1 2)))), ((a0 4), .inl (q 1, 6896, .inr (.inl (t0.2.2.1 3)))), ((a0 5), .inl (q 3, 2, .inl (t0.2.2.2 0))), ((a0 6), .inl (q 0, 40, .inl (t0.2.2.2 1))), ((a0 7), .inl (q 2, 400, .inl (t0.2.2.2 2)))] H := hP
          have hD : va_D _ [((a0 0), .inr (6, [.ref (a0 1), .ref (a0 2), .int (t0.1 0), .ref (a0 3), .ref (a0 5), .ref (a0 4), .long t0.2.1, .int (t0.1 1), .int (t0.1 2), .ref (a0 6), .int (t0.1 3), .int (t0.1 4), .ref (a0 7), .int (t0.1 5), .int (t0.1 6), .int (t0.1 7), .int (t0.1 8), .int (t0.1 9), .int (t0.1 10), .int (t0.1 11), .int (t0.1 12), .int (t0.1 13), .int (t0.1 14)])), ((a0 1), .inl (q 1, 6896, .inr (.inl (t0.2.2.1 0)))), ((a0 2), .inl (q 1, 68960, .inr (.inl (t0.2.2.1 1)))), ((a0 3), .inl (q 1, 13792, .inr (.inl (t0.2.2.1 2)))), ((a0 4), .inl (q 1, 6896, .inr (.inl (t0.2.2.1 3)))), ((a0 5), .inl (q 3, 2, .inl (t0.2.2.2 0))), ((a0 6), .inl (q 0, 40, .inl (t0.2.2.2 1))), ((a0 7), .inl (q 2, 400, .inl (t0.2.2.2 2)))] := hD
          unfold wp_X7_keepsAct_L53 at h
          refine lv_iload_n hx hb dX7_keepsAct_53 rfl (lv_at hl 0 rfl) ?_
          refine lv_sipush (v := 6896) hx hb dX7_keepsAct_54 (by decide) ?_
          refine lv_icmp_ge (tgt := 87) hx hb dX7_keepsAct_57 (by decide) (fun c_8 => ?_) (fun c_8 => ?_)
          · replace h := h.1 c_8
            exact k87 _ _ _ _ ls h (hP.sub (ws' := md_v a0 q t0) [0, 1, 2, 3, 4, 5, 6, 7] rfl) (hD.sub (ws' := md_v a0 q t0) [0, 1, 2, 3, 4, 5, 6, 7] (by decide) rfl) hS (lv_sub hl [0, 1] rfl)
          · replace h := h.2 c_8
            refine lv_aload_n hx hb dX7_keepsAct_60 rfl (lv_at hl 1 rfl) ?_
            refine fl_get (C := RX7) (T := TX7) (N := 23) (ci := 6) (v := .ref (a0 2)) hx hb ht in_X7 hown hK hP 0 rfl rfl 1 (by decide) mw_1131 rfl dX7_keepsAct_61 ?_
            refine lv_sipush (v := 6896) hx hb dX7_keepsAct_64 (by decide) ?_
            refine lv_aload_n hx hb dX7_keepsAct_67 rfl (lv_at hl 1 rfl) ?_
            refine fl_get (C := RX7) (T := TX7) (N := 23) (ci := 6) (v := .int (t0.1 0)) hx hb ht in_X7 hown hK hP 0 rfl rfl 2 (by decide) mw_1132 rfl dX7_keepsAct_68 ?_
            refine lv_imul hx hb dX7_keepsAct_71 ?_
            refine lv_iload_n hx hb dX7_keepsAct_72 rfl (lv_at hl 0 rfl) ?_
            refine lv_iadd hx hb dX7_keepsAct_73 ?_
            refine lv_aload_n hx hb dX7_keepsAct_74 rfl (lv_at hl 1 rfl) ?_
            refine fl_get (C := RX7) (T := TX7) (N := 23) (ci := 6) (v := .ref (a0 1)) hx hb ht in_X7 hown hK hP 0 rfl rfl 0 (by decide) mw_1130 rfl dX7_keepsAct_75 ?_
            refine lv_iload_n hx hb dX7_keepsAct_78 rfl (lv_at hl 0 rfl) ?_
            obtain ⟨g_9, h⟩ := h
            refine va_lald hx hb hK hP 1 1 rfl rfl g_9 dX7_keepsAct_79 ?_
            obtain ⟨g_10, h⟩ := h
            refine va_last hx hb hK hP hD hS 2 1 rfl rfl g_10 dX7_keepsAct_80 (fun H locs hP hD hS => ?_)
            have hP : va_P D vwCl [((a0 0), .inr (6, [.ref (a0 1), .ref (a0 2), .int (t0.1 0), .ref (a0 3), .ref (a0 5), .ref (a0 4), .long t0.2.1, .int (t0.1 1), .int (t0.1 2), .ref (a0 6), .int (t0.1 3), .int (t0.1 4), .ref (a0 7), .int (t0.1 5), .int (t0.1 6), .int (t0.1 7), .int (t0.1 8), .int (t0.1 9), .int (t0.1 10), .int (t0.1 11), .int (t0.1 12), .int (t0.1 13), .int (t0.1 14)])), ((a0 1), .inl (q 1, 6896, .inr (.inl (t0.2.2.1 0)))), ((a0 2), .inl (q 1, 68960, .inr (.inl (vp_updL (t0.2.2.1 1) (Int32.toNatClampNeg ((6896 * (t0.1 0)) + z1)) ((t0.2.2.1 0) (Int32.toNatClampNeg z1)))))), ((a0 3), .inl (q 1, 13792, .inr (.inl (t0.2.2.1 2)))), ((a0 4), .inl (q 1, 6896, .inr (.inl (t0.2.2.1 3)))), ((a0 5), .inl (q 3, 2, .inl (t0.2.2.2 0))), ((a0 6), .inl (q 0, 40, .inl (t0.2.2.2 1))), ((a0 7), .inl (q 2, 400, .inl (t0.2.2.2 2)))] H := hP
            have hD : va_D _ [((a0 0), .inr (6, [.ref (a0 1), .ref (a0 2), .int (t0.1 0), .ref (a0 3), .ref (a0 5), .ref (a0 4), .long t0.2.1, .int (t0.1 1), .int (t0.1 2), .ref (a0 6), .int (t0.1 3), .int (t0.1 4), .ref (a0 7), .int (t0.1 5), .int (t0.1 6), .int (t0.1 7), .int (t0.1 8), .int (t0.1 9), .int (t0.1 10), .int (t0.1 11), .int (t0.1 12), .int (t0.1 13), .int (t0.1 14)])), ((a0 1), .inl (q 1, 6896, .inr (.inl (t0.2.2.1 0)))), ((a0 2), .inl (q 1, 68960, .inr (.inl (vp_updL (t0.2.2.1 1) (Int32.toNatClampNeg ((6896 * (t0.1 0)) + z1)) ((t0.2.2.1 0) (Int32.toNatClampNeg z1)))))), ((a0 3), .inl (q 1, 13792, .inr (.inl (t0.2.2.1 2)))), ((a0 4), .inl (q 1, 6896, .inr (.inl (t0.2.2.1 3)))), ((a0 5), .inl (q 3, 2, .inl (t0.2.2.2 0))), ((a0 6), .inl (q 0, 40, .inl (t0.2.2.2 1))), ((a0 7), .inl (q 2, 400, .inl (t0.2.2.2 2)))] := hD
            refine lv_iinc (v := (z1 + 1)) (lv' := [(1, .int (z1 + 1)), (0, .ref (a0 0))]) hx hb dX7_keepsAct_81 hl (k := 0) rfl rfl (by decide) rfl (fun ls hl => ?_)
            refine lv_goto (tgt := 53) hx hb dX7_keepsAct_84 (by decide) ?_
            exact ih _ _ _ _ ls h (hP.sub (ws' := md_v a0 q (t0.1, t0.2.1, (va_up t0.2.2.1 1 (vp_updL (t0.2.2.1 1) (Int32.toNatClampNeg ((6896 * (t0.1 0)) + z1)) ((t0.2.2.1 0) (Int32.toNatClampNeg z1)))), t0.2.2.2)) [0, 1, 2, 3, 4, 5, 6, 7] rfl) (hD.sub (ws' := md_v a0 q (t0.1, t0.2.1, (va_up t0.2.2.1 1 (vp_updL (t0.2.2.1 1) (Int32.toNatClampNeg ((6896 * (t0.1 0)) + z1)) ((t0.2.2.1 0) (Int32.toNatClampNeg z1)))), t0.2.2.2)) [0, 1, 2, 3, 4, 5, 6, 7] (by decide) rfl) hS (lv_sub hl [0, 1] rfl)
      obtain ⟨n53, h⟩ := h
      refine lp53 _ ?_ n53 _ _ _ _ ls h (hP.sub (ws' := md_v a0 q ((va_up t0.1 0 ((t0.1 0) - 1)), t0.2.1, t0.2.2.1, t0.2.2.2)) [0, 1, 2, 3, 4, 5, 6, 7] rfl) (hD.sub (ws' := md_v a0 q ((va_up t0.1 0 ((t0.1 0) - 1)), t0.2.1, t0.2.2.1, t0.2.2.2)) [0, 1, 2, 3, 4, 5, 6, 7] (by decide) rfl) hS (lv_sub hl [0, 1] rfl)
      · intro t0 z1 H locs ls h hP hD hS hl
        try dsimp only at h
        have hP : va_P D vwCl [((a0 0), .inr (6, [.ref (a0 1), .ref (a0 2), .int (t0.1 0), .ref (a0 3), .ref (a0 5), .ref (a0 4), .long t0.2.1, .int (t0.1 1), .int (t0.1 2), .ref (a0 6), .int (t0.1 3), .int (t0.1 4), .ref (a0 7), .int (t0.1 5), .int (t0.1 6), .int (t0.1 7), .int (t0.1 8), .int (t0.1 9), .int (t0.1 10), .int (t0.1 11), .int (t0.1 12), .int (t0.1 13), .int (t0.1 14)])), ((a0 1), .inl (q 1, 6896, .inr (.inl (t0.2.2.1 0)))), ((a0 2), .inl (q 1, 68960, .inr (.inl (t0.2.2.1 1)))), ((a0 3), .inl (q 1, 13792, .inr (.inl (t0.2.2.1 2)))), ((a0 4), .inl (q 1, 6896, .inr (.inl (t0.2.2.1 3)))), ((a0 5), .inl (q 3, 2, .inl (t0.2.2.2 0))), ((a0 6), .inl (q 0, 40, .inl (t0.2.2.2 1))), ((a0 7), .inl (q 2, 400, .inl (t0.2.2.2 2)))] H := hP
        have hD : va_D _ [((a0 0), .inr (6, [.ref (a0 1), .ref (a0 2), .int (t0.1 0), .ref (a0 3), .ref (a0 5), .ref (a0 4), .long t0.2.1, .int (t0.1 1), .int (t0.1 2), .ref (a0 6), .int (t0.1 3), .int (t0.1 4), .ref (a0 7), .int (t0.1 5), .int (t0.1 6), .int (t0.1 7), .int (t0.1 8), .int (t0.1 9), .int (t0.1 10), .int (t0.1 11), .int (t0.1 12), .int (t0.1 13), .int (t0.1 14)])), ((a0 1), .inl (q 1, 6896, .inr (.inl (t0.2.2.1 0)))), ((a0 2), .inl (q 1, 68960, .inr (.inl (t0.2.2.1 1)))), ((a0 3), .inl (q 1, 13792, .inr (.inl (t0.2.2.1 2)))), ((a0 4), .inl (q 1, 6896, .inr (.inl (t0.2.2.1 3)))), ((a0 5), .inl (q 3, 2, .inl (t0.2.2.2 0))), ((a0 6), .inl (q 0, 40, .inl (t0.2.2.2 1))), ((a0 7), .inl (q 2, 400, .inl (t0.2.2.2 2)))] := hD
        refine lv_aload_n hx hb dX7_keepsAct_87 rfl (lv_at hl 1 rfl) ?_
        refine lv_dup hx hb dX7_keepsAct_88 rfl ?_
        refine fl_get (C := RX7) (T := TX7) (N := 23) (ci := 6) (v := .int (t0.1 0)) hx hb ht in_X7 hown hK hP 0 rfl rfl 2 (by decide) mw_1132 rfl dX7_keepsAct_89 ?_
        refine lv_iconst (v := 1) hx hb dX7_keepsAct_92 (by decide) ?_
        refine lv_iadd hx hb dX7_keepsAct_93 ?_
        refine fl_put (C := RX7) (T := TX7) (N := 23) (ci := 6) (v := .int ((t0.1 0) + 1)) (ws2 := [((a0 0), .inr (6, [.ref (a0 1), .ref (a0 2), .int ((t0.1 0) + 1), .ref (a0 3), .ref (a0 5), .ref (a0 4), .long t0.2.1, .int (t0.1 1), .int (t0.1 2), .ref (a0 6), .int (t0.1 3), .int (t0.1 4), .ref (a0 7), .int (t0.1 5), .int (t0.1 6), .int (t0.1 7), .int (t0.1 8), .int (t0.1 9), .int (t0.1 10), .int (t0.1 11), .int (t0.1 12), .int (t0.1 13), .int (t0.1 14)])), ((a0 1), .inl (q 1, 6896, .inr (.inl (t0.2.2.1 0)))), ((a0 2), .inl (q 1, 68960, .inr (.inl (t0.2.2.1 1)))), ((a0 3), .inl (q 1, 13792, .inr (.inl (t0.2.2.1 2)))), ((a0 4), .inl (q 1, 6896, .inr (.inl (t0.2.2.1 3)))), ((a0 5), .inl (q 3, 2, .inl (t0.2.2.2 0))), ((a0 6), .inl (q 0, 40, .inl (t0.2.2.2 1))), ((a0 7), .inl (q 2, 400, .inl (t0.2.2.2 2)))]) hx hb ht in_X7 tyX7_ok nmX7 hown hK hP hD hS 0 rfl rfl 2 (by decide) mw_1132 rfl rfl rfl (Nat.le_of_ble_eq_true rfl) dX7_keepsAct_94 rfl (fun H locs hP hD hS => ?_)
        exact mt_vret ((va_up t0.1 0 ((t0.1 0) + 1)), t0.2.1, t0.2.2.1, t0.2.2.2) hx hb hr hk h (hP.sub (ws' := md_v a0 q ((va_up t0.1 0 ((t0.1 0) + 1)), t0.2.1, t0.2.2.1, t0.2.2.2)) [0, 1, 2, 3, 4, 5, 6, 7] rfl) (hD.sub (ws' := md_v a0 q ((va_up t0.1 0 ((t0.1 0) + 1)), t0.2.1, t0.2.2.1, t0.2.2.2)) [0, 1, 2, 3, 4, 5, 6, 7] (by decide) rfl) hS dX7_keepsAct_97

def wp_X7_areSigns_L2 (s0 : Md) (post : Int32 → Prop) (e29 : Int32 → Int32 → Int32 → Prop) : Nat → Int32 → Int32 → Int32 → Prop
  | 0, _, _, _ => False
  | n2 + 1, z1, z2, z3 => ((z2 ≤ z3 → e29 z1 z2 z3) ∧ (¬ z2 ≤ z3 → vp_in (z1 + z3) 400 ∧ wp_X7_isSign (fun r_3 => ((¬ r_3 = 0 → wp_X7_areSigns_L2 s0 post e29 n2 z1 z2 (z3 + 1)) ∧ (r_3 = 0 → post 0))) ((s0.2.2.2 2) (Int32.toNatClampNeg (z1 + z3)))))
def wp_X7_areSigns (post : Int32 → Prop) (s0 : Md) (x1 : Int32) (x2 : Int32) : Prop := (∃ n2, wp_X7_areSigns_L2 s0 post (fun z1 z2 z3 => post 1) n2 x1 x2 0)
set_option maxHeartbeats 4000000 in
set_option maxRecDepth 100000 in
theorem c2_X7_areSigns {l : Launch} {D : va_G} {q : Nat → ClassId} {a0 : Nat → Nat} {s0 : Md} {x1 : Int32} {x2 : Int32} {post : Int32 → Prop} (h : wp_X7_areSigns post s0 x1 x2) : Met l yX7_areSigns (Cond.code yX7_areSigns cX7_areSigns 4 (some .boolean) :: w_all) ({ frames := 2, cells := 0, slots := 0, locals := 45 } : Room) (rd_P D q [.ref (a0 0), .int x1, .int x2] (md_v a0 q s0)) (vp_Si post) 0 0 (fun _ => False) := by
  refine rd_start (by decide) (Nat.le_of_ble_eq_true rfl) ?_
  intro p e s m below meth c ls hx hb hr hml hown ht hk hP hQ hV hl
  have hK := hQ.1
  have hown : s.vm.findClass RX7 = some m.cls := hown
  have hl : lv_has ls 4 [(0, .ref (a0 0)), (1, .int x1), (2, .int x2)] := hl
  have hP : va_P D vwCl [((a0 0), .inr (6, [.ref (a0 1), .ref (a0 2), .int (s0.1 0), .ref (a0 3), .ref (a0 5), .ref (a0 4), .long s0.2.1, .int (s0.1 1), .int (s0.1 2), .ref (a0 6), .int (s0.1 3), .int (s0.1 4), .ref (a0 7), .int (s0.1 5), .int (s0.1 6), .int (s0.1 7), .int (s0.1 8), .int (s0.1 9), .int (s0.1 10), .int (s0.1 11), .int (s0.1 12), .int (s0.1 13), .int (s0.1 14)])), ((a0 1), .inl (q 1, 6896, .inr (.inl (s0.2.2.1 0)))), ((a0 2), .inl (q 1, 68960, .inr (.inl (s0.2.2.1 1)))), ((a0 3), .inl (q 1, 13792, .inr (.inl (s0.2.2.1 2)))), ((a0 4), .inl (q 1, 6896, .inr (.inl (s0.2.2.1 3)))), ((a0 5), .inl (q 3, 2, .inl (s0.2.2.2 0))), ((a0 6), .inl (q 0, 40, .inl (s0.2.2.2 1))), ((a0 7), .inl (q 2, 400, .inl (s0.2.2.2 2)))] s.heap := hP
  unfold wp_X7_areSigns at h
  refine lv_iconst (v := 0) hx hb dX7_areSigns_0 (by decide) ?_
  refine lv_istore_n (lv' := [(3, .int 0), (0, .ref (a0 0)), (1, .int x1), (2, .int x2)]) hx hb dX7_areSigns_1 rfl hl (by decide) rfl (fun ls hl => ?_)
  have lp2 : ∀ (e29 : Int32 → Int32 → Int32 → Prop) (k29 : ∀ (z1 : Int32) (z2 : Int32) (z3 : Int32) (ls : Array Slot), e29 z1 z2 z3 → lv_has ls 4 [(1, .int z1), (2, .int z2), (3, .int z3), (0, .ref (a0 0))] → W p l e ({ frames := 2, cells := 0, slots := 0, locals := 45 } : Room) s m [.ref (a0 0), .int x1, .int x2].toArray below meth c s.heap [] 0 0 (MQ below (vp_Si post) [.ref (a0 0), .int x1, .int x2].toArray s 0 0 (fun _ => False)) (F0 m 29 ls [])) (n : Nat) (z1 : Int32) (z2 : Int32) (z3 : Int32) (ls : Array Slot), wp_X7_areSigns_L2 s0 post e29 n z1 z2 z3 → lv_has ls 4 [(1, .int z1), (2, .int z2), (3, .int z3), (0, .ref (a0 0))] → W p l e ({ frames := 2, cells := 0, slots := 0, locals := 45 } : Room) s m [.ref (a0 0), .int x1, .int x2].toArray below meth c s.heap [] 0 0 (MQ below (vp_Si post) [.ref (a0 0), .int x1, .int x2].toArray s 0 0 (fun _ => False)) (F0 m 2 ls []) := by
    intro e29 k29 n
    induction n with
    | zero =>
      intro z1 z2 z3 ls h
      exact h.elim
    | succ n ih =>
      intro z1 z2 z3 ls h hl
      unfold wp_X7_areSigns_L2 at h
      refine lv_iload_n hx hb dX7_areSigns_2 rfl (lv_at hl 2 rfl) ?_
      refine lv_iload_n hx hb dX7_areSigns_3 rfl (lv_at hl 1 rfl) ?_
      refine lv_icmp_ge (tgt := 29) hx hb dX7_areSigns_4 (by decide) (fun c_1 => ?_) (fun c_1 => ?_)
      · replace h := h.1 c_1
        exact k29 _ _ _ ls h (lv_sub hl [0, 1, 2, 3] rfl)
      · replace h := h.2 c_1
        refine lv_aload_n hx hb dX7_areSigns_7 rfl (lv_at hl 3 rfl) ?_
        refine fl_get (C := RX7) (T := TX7) (N := 23) (ci := 6) (v := .ref (a0 7)) hx hb ht in_X7 hown hK hP 0 rfl rfl 12 (by decide) mw_1142 rfl dX7_areSigns_8 ?_
        refine lv_iload_n hx hb dX7_areSigns_11 rfl (lv_at hl 0 rfl) ?_
        refine lv_iload_n hx hb dX7_areSigns_12 rfl (lv_at hl 2 rfl) ?_
        refine lv_iadd hx hb dX7_areSigns_13 ?_
        obtain ⟨g_2, h⟩ := h
        refine va_bald hx hb hK hP 7 2 rfl rfl g_2 dX7_areSigns_14 ?_
        refine vp_callSi (rd_wS (wc := ([] : va_W)) (As := [.int ((s0.2.2.2 2) (Int32.toNatClampNeg (z1 + z3)))]) (rest := []) hx hb hml hown ht (c2_X7_isSign h) wd_X7_isSign mw_1228 hQ hV va_S.rf (hP.sub [] rfl) rfl hl.1 rfl (Nat.le_of_ble_eq_true rfl) dX7_areSigns_15 ⟨Nat.le_of_ble_eq_true rfl, Nat.le_of_ble_eq_true rfl, rfl, rfl⟩ ⟨Nat.le_of_ble_eq_true rfl, Nat.le_of_ble_eq_true rfl⟩) (fun r_3 h => ?_)
        try dsimp only at h
        refine lv_if_ne (tgt := 23) hx hb dX7_areSigns_18 (by decide) (fun c_5 => ?_) (fun c_5 => ?_)
        · replace h := h.1 c_5
          refine lv_iinc (v := (z3 + 1)) (lv' := [(3, .int (z3 + 1)), (1, .int z1), (2, .int z2), (0, .ref (a0 0))]) hx hb dX7_areSigns_23 hl (k := 2) rfl rfl (by decide) rfl (fun ls hl => ?_)
          refine lv_goto (tgt := 2) hx hb dX7_areSigns_26 (by decide) ?_
          exact ih _ _ _ ls h (lv_sub hl [1, 2, 0, 3] rfl)
        · replace h := h.2 c_5
          refine lv_iconst (v := 0) hx hb dX7_areSigns_21 (by decide) ?_
          exact rd_zret hx hb hr hk rfl h dX7_areSigns_22
  obtain ⟨n2, h⟩ := h
  refine lp2 _ ?_ n2 _ _ _ ls h (lv_sub hl [2, 3, 0, 1] rfl)
  · intro z1 z2 z3 ls h hl
    try dsimp only at h
    refine lv_iconst (v := 1) hx hb dX7_areSigns_29 (by decide) ?_
    exact rd_zret hx hb hr hk rfl h dX7_areSigns_30

def wp_X7_isRowText (post : Int32 → Prop) (s0 : Md) (x1 : Int32) : Prop := wp_X7_wide (fun r_1 => ((r_1 < x1 → post 0) ∧ (¬ r_1 < x1 → wp_X7_areSigns (fun r_4 => ((r_4 = 0 → post 0) ∧ (¬ r_4 = 0 → post 1))) s0 (0 : Int32) x1))) s0
set_option maxHeartbeats 4000000 in
set_option maxRecDepth 100000 in
theorem c2_X7_isRowText {l : Launch} {D : va_G} {q : Nat → ClassId} {a0 : Nat → Nat} {s0 : Md} {x1 : Int32} {post : Int32 → Prop} (h : wp_X7_isRowText post s0 x1) : Met l yX7_isRowText (Cond.code yX7_isRowText cX7_isRowText 2 (some .boolean) :: w_all) ({ frames := 3, cells := 0, slots := 0, locals := 68 } : Room) (rd_P D q [.ref (a0 0), .int x1] (md_v a0 q s0)) (vp_Si post) 0 0 (fun _ => False) := by
  refine rd_start (by decide) (Nat.le_of_ble_eq_true rfl) ?_
  intro p e s m below meth c ls hx hb hr hml hown ht hk hP hQ hV hl
  have hK := hQ.1
  have hown : s.vm.findClass RX7 = some m.cls := hown
  have hl : lv_has ls 2 [(0, .ref (a0 0)), (1, .int x1)] := hl
  have hP : va_P D vwCl [((a0 0), .inr (6, [.ref (a0 1), .ref (a0 2), .int (s0.1 0), .ref (a0 3), .ref (a0 5), .ref (a0 4), .long s0.2.1, .int (s0.1 1), .int (s0.1 2), .ref (a0 6), .int (s0.1 3), .int (s0.1 4), .ref (a0 7), .int (s0.1 5), .int (s0.1 6), .int (s0.1 7), .int (s0.1 8), .int (s0.1 9), .int (s0.1 10), .int (s0.1 11), .int (s0.1 12), .int (s0.1 13), .int (s0.1 14)])), ((a0 1), .inl (q 1, 6896, .inr (.inl (s0.2.2.1 0)))), ((a0 2), .inl (q 1, 68960, .inr (.inl (s0.2.2.1 1)))), ((a0 3), .inl (q 1, 13792, .inr (.inl (s0.2.2.1 2)))), ((a0 4), .inl (q 1, 6896, .inr (.inl (s0.2.2.1 3)))), ((a0 5), .inl (q 3, 2, .inl (s0.2.2.2 0))), ((a0 6), .inl (q 0, 40, .inl (s0.2.2.2 1))), ((a0 7), .inl (q 2, 400, .inl (s0.2.2.2 2)))] s.heap := hP
  unfold wp_X7_isRowText at h
  refine lv_iload_n hx hb dX7_isRowText_0 rfl (lv_at hl 1 rfl) ?_
  refine lv_aload_n hx hb dX7_isRowText_1 rfl (lv_at hl 0 rfl) ?_
  refine vp_callSi (rd_wV (wc := md_v a0 q s0) (As := []) (rest := [.int x1]) hx hb hml hown ht (c2_X7_wide h) wd_X7_wide mw_1220 hQ hV va_S.rf (hP.sub [0, 1, 2, 3, 4, 5, 6, 7] rfl) rfl rfl rfl hl.1 rfl (Nat.le_of_ble_eq_true rfl) dX7_isRowText_2 ⟨Nat.le_of_ble_eq_true rfl, Nat.le_of_ble_eq_true rfl, rfl, rfl⟩ ⟨Nat.le_of_ble_eq_true rfl, Nat.le_of_ble_eq_true rfl⟩) (fun r_1 h => ?_)
  try dsimp only at h
  refine lv_icmp_gt (tgt := 21) hx hb dX7_isRowText_5 (by decide) (fun c_3 => ?_) (fun c_3 => ?_)
  · replace h := h.1 c_3
    refine lv_iconst (v := 0) hx hb dX7_isRowText_21 (by decide) ?_
    exact rd_zret hx hb hr hk rfl h dX7_isRowText_22
  · replace h := h.2 c_3
    refine lv_aload_n hx hb dX7_isRowText_8 rfl (lv_at hl 0 rfl) ?_
    refine lv_iconst (v := 0) hx hb dX7_isRowText_9 (by decide) ?_
    refine lv_iload_n hx hb dX7_isRowText_10 rfl (lv_at hl 1 rfl) ?_
    refine vp_callSi (rd_wV (wc := md_v a0 q s0) (As := [.int 0, .int x1]) (rest := []) hx hb hml hown ht (c2_X7_areSigns h) wd_X7_areSigns mw_1224 hQ hV va_S.rf (hP.sub [0, 1, 2, 3, 4, 5, 6, 7] rfl) rfl rfl rfl hl.1 rfl (Nat.le_of_ble_eq_true rfl) dX7_isRowText_11 ⟨Nat.le_of_ble_eq_true rfl, Nat.le_of_ble_eq_true rfl, rfl, rfl⟩ ⟨Nat.le_of_ble_eq_true rfl, Nat.le_of_ble_eq_true rfl⟩) (fun r_4 h => ?_)
    try dsimp only at h
    refine lv_if_eq (tgt := 21) hx hb dX7_isRowText_14 (by decide) (fun c_6 => ?_) (fun c_6 => ?_)
    · replace h := h.1 c_6
      refine lv_iconst (v := 0) hx hb dX7_isRowText_21 (by decide) ?_
      exact rd_zret hx hb hr hk rfl h dX7_isRowText_22
    · replace h := h.2 c_6
      refine lv_iconst (v := 1) hx hb dX7_isRowText_17 (by decide) ?_
      refine lv_goto (tgt := 22) hx hb dX7_isRowText_18 (by decide) ?_
      exact rd_zret hx hb hr hk rfl h dX7_isRowText_22

def wp_X7_row (post : Int32 → Md → Prop) (s0 : Md) (x1 : Int32) : Prop := wp_X7_isRow (fun r_1 => ((¬ r_1 = 0 → wp_X7_isRowText (fun r_4 => ((¬ r_4 = 0 → wp_X7_keepsAct (fun u_8 => wp_X7_wantsSigns (fun r_9 u_10 => post r_9 u_10) u_8 x1 (0 : Int32) (s0.1 5) (1 : Int32)) ((va_up s0.1 5 0), s0.2.1, s0.2.2.1, s0.2.2.2)) ∧ (r_4 = 0 → post (-2) ((va_up s0.1 5 0), s0.2.1, s0.2.2.1, s0.2.2.2)))) ((va_up s0.1 5 0), s0.2.1, s0.2.2.1, s0.2.2.2) (s0.1 5)) ∧ (r_1 = 0 → post (-1) ((va_up s0.1 5 0), s0.2.1, s0.2.2.1, s0.2.2.2)))) ((va_up s0.1 5 0), s0.2.1, s0.2.2.1, s0.2.2.2) x1
set_option maxHeartbeats 4000000 in
set_option maxRecDepth 100000 in
theorem c2_X7_row {l : Launch} {D : va_G} {q : Nat → ClassId} {sz : Nat} {a0 : Nat → Nat} {s0 : Md} {x1 : Int32} {post : Int32 → Md → Prop} (h : wp_X7_row post s0 x1) : Met l yX7_row (Cond.code yX7_row cX7_row 3 (some .int) :: w_all) ({ frames := 4, cells := 0, slots := 0, locals := 95 } : Room) (mt_P D q [.ref (a0 0), .int x1] (md_v a0 q s0) sz) (va_Qi (fun r (u : Md) => post r u) (mt_B D (md_v a0 q s0) sz (fun u : Md => md_v a0 q u)) (va_A (md_v a0 q s0) sz)) 0 0 (va_A (md_v a0 q s0) sz) := by
  refine mt_start (by decide) (Nat.le_of_ble_eq_true rfl) ?_
  intro p e s m below meth c ls hx hb hr hml hown ht hk hin hP hQ hD hA hS hV hl
  have hK := hQ.1
  have hown : s.vm.findClass RX7 = some m.cls := hown
  have hl : lv_has ls 3 [(0, .ref (a0 0)), (1, .int x1)] := hl
  have hP : va_P D vwCl [((a0 0), .inr (6, [.ref (a0 1), .ref (a0 2), .int (s0.1 0), .ref (a0 3), .ref (a0 5), .ref (a0 4), .long s0.2.1, .int (s0.1 1), .int (s0.1 2), .ref (a0 6), .int (s0.1 3), .int (s0.1 4), .ref (a0 7), .int (s0.1 5), .int (s0.1 6), .int (s0.1 7), .int (s0.1 8), .int (s0.1 9), .int (s0.1 10), .int (s0.1 11), .int (s0.1 12), .int (s0.1 13), .int (s0.1 14)])), ((a0 1), .inl (q 1, 6896, .inr (.inl (s0.2.2.1 0)))), ((a0 2), .inl (q 1, 68960, .inr (.inl (s0.2.2.1 1)))), ((a0 3), .inl (q 1, 13792, .inr (.inl (s0.2.2.1 2)))), ((a0 4), .inl (q 1, 6896, .inr (.inl (s0.2.2.1 3)))), ((a0 5), .inl (q 3, 2, .inl (s0.2.2.2 0))), ((a0 6), .inl (q 0, 40, .inl (s0.2.2.2 1))), ((a0 7), .inl (q 2, 400, .inl (s0.2.2.2 2)))] s.heap := hP
  have hD : va_D _ [((a0 0), .inr (6, [.ref (a0 1), .ref (a0 2), .int (s0.1 0), .ref (a0 3), .ref (a0 5), .ref (a0 4), .long s0.2.1, .int (s0.1 1), .int (s0.1 2), .ref (a0 6), .int (s0.1 3), .int (s0.1 4), .ref (a0 7), .int (s0.1 5), .int (s0.1 6), .int (s0.1 7), .int (s0.1 8), .int (s0.1 9), .int (s0.1 10), .int (s0.1 11), .int (s0.1 12), .int (s0.1 13), .int (s0.1 14)])), ((a0 1), .inl (q 1, 6896, .inr (.inl (s0.2.2.1 0)))), ((a0 2), .inl (q 1, 68960, .inr (.inl (s0.2.2.1 1)))), ((a0 3), .inl (q 1, 13792, .inr (.inl (s0.2.2.1 2)))), ((a0 4), .inl (q 1, 6896, .inr (.inl (s0.2.2.1 3)))), ((a0 5), .inl (q 3, 2, .inl (s0.2.2.2 0))), ((a0 6), .inl (q 0, 40, .inl (s0.2.2.2 1))), ((a0 7), .inl (q 2, 400, .inl (s0.2.2.2 2)))] := hD
  unfold wp_X7_row at h
  refine lv_aload_n hx hb dX7_row_0 rfl (lv_at hl 0 rfl) ?_
  refine fl_get (C := RX7) (T := TX7) (N := 23) (ci := 6) (v := .int (s0.1 5)) hx hb ht in_X7 hown hK hP 0 rfl rfl 13 (by decide) mw_1143 rfl dX7_row_1 ?_
  refine lv_istore_n (lv' := [(2, .int (s0.1 5)), (0, .ref (a0 0)), (1, .int x1)]) hx hb dX7_row_4 rfl hl (by decide) rfl (fun ls hl => ?_)
  refine lv_aload_n hx hb dX7_row_5 rfl (lv_at hl 1 rfl) ?_
  refine lv_iconst (v := 0) hx hb dX7_row_6 (by decide) ?_
  refine fl_put (C := RX7) (T := TX7) (N := 23) (ci := 6) (v := .int 0) (ws2 := [((a0 0), .inr (6, [.ref (a0 1), .ref (a0 2), .int (s0.1 0), .ref (a0 3), .ref (a0 5), .ref (a0 4), .long s0.2.1, .int (s0.1 1), .int (s0.1 2), .ref (a0 6), .int (s0.1 3), .int (s0.1 4), .ref (a0 7), .int 0, .int (s0.1 6), .int (s0.1 7), .int (s0.1 8), .int (s0.1 9), .int (s0.1 10), .int (s0.1 11), .int (s0.1 12), .int (s0.1 13), .int (s0.1 14)])), ((a0 1), .inl (q 1, 6896, .inr (.inl (s0.2.2.1 0)))), ((a0 2), .inl (q 1, 68960, .inr (.inl (s0.2.2.1 1)))), ((a0 3), .inl (q 1, 13792, .inr (.inl (s0.2.2.1 2)))), ((a0 4), .inl (q 1, 6896, .inr (.inl (s0.2.2.1 3)))), ((a0 5), .inl (q 3, 2, .inl (s0.2.2.2 0))), ((a0 6), .inl (q 0, 40, .inl (s0.2.2.2 1))), ((a0 7), .inl (q 2, 400, .inl (s0.2.2.2 2)))]) hx hb ht in_X7 tyX7_ok nmX7 hown hK hP hD hS 0 rfl rfl 13 (by decide) mw_1143 rfl rfl rfl (Nat.le_of_ble_eq_true rfl) dX7_row_7 rfl (fun H locs hP hD hS => ?_)
  refine lv_aload_n hx hb dX7_row_10 rfl (lv_at hl 1 rfl) ?_
  refine lv_iload_n hx hb dX7_row_11 rfl (lv_at hl 2 rfl) ?_
  refine vp_callSi (rd_wV (wc := md_v a0 q ((va_up s0.1 5 0), s0.2.1, s0.2.2.1, s0.2.2.2)) (As := [.int x1]) (rest := []) hx hb hml hown ht (c2_X7_isRow h) wd_X7_isRow mw_1205 hQ hV hS (hP.sub [0, 1, 2, 3, 4, 5, 6, 7] rfl) rfl rfl rfl hl.1 rfl (Nat.le_of_ble_eq_true rfl) dX7_row_12 ⟨Nat.le_of_ble_eq_true rfl, Nat.le_of_ble_eq_true rfl, rfl, rfl⟩ ⟨Nat.le_of_ble_eq_true rfl, Nat.le_of_ble_eq_true rfl⟩) (fun r_1 h => ?_)
  try dsimp only at h
  refine lv_if_ne (tgt := 20) hx hb dX7_row_15 (by decide) (fun c_3 => ?_) (fun c_3 => ?_)
  · replace h := h.1 c_3
    refine lv_aload_n hx hb dX7_row_20 rfl (lv_at hl 1 rfl) ?_
    refine lv_iload_n hx hb dX7_row_21 rfl (lv_at hl 0 rfl) ?_
    refine vp_callSi (rd_wV (wc := md_v a0 q ((va_up s0.1 5 0), s0.2.1, s0.2.2.1, s0.2.2.2)) (As := [.int (s0.1 5)]) (rest := []) hx hb hml hown ht (c2_X7_isRowText h) wd_X7_isRowText mw_1216 hQ hV hS (hP.sub [0, 1, 2, 3, 4, 5, 6, 7] rfl) rfl rfl rfl hl.1 rfl (Nat.le_of_ble_eq_true rfl) dX7_row_22 ⟨Nat.le_of_ble_eq_true rfl, Nat.le_of_ble_eq_true rfl, rfl, rfl⟩ ⟨Nat.le_of_ble_eq_true rfl, Nat.le_of_ble_eq_true rfl⟩) (fun r_4 h => ?_)
    try dsimp only at h
    refine lv_if_ne (tgt := 31) hx hb dX7_row_25 (by decide) (fun c_6 => ?_) (fun c_6 => ?_)
    · replace h := h.1 c_6
      refine lv_aload_n hx hb dX7_row_31 rfl (lv_at hl 1 rfl) ?_
      refine mt_gov (mt_wV (wc := md_v a0 q ((va_up s0.1 5 0), s0.2.1, s0.2.2.1, s0.2.2.2)) (As := []) (rest := []) hx hb hml hown ht (c2_X7_keepsAct h) wd_X7_keepsAct mw_1233 hQ hV hS hA (hP.sub [0, 1, 2, 3, 4, 5, 6, 7] rfl) (hD.sub [0, 1, 2, 3, 4, 5, 6, 7] (by decide) rfl) rfl rfl rfl hl.1 rfl (Nat.le_of_ble_eq_true rfl) dX7_row_32 ⟨Nat.le_of_ble_eq_true rfl, Nat.le_of_ble_eq_true rfl, rfl, rfl⟩ ⟨Nat.le_of_ble_eq_true rfl, Nat.le_of_ble_eq_true rfl⟩) (wr := []) hP hD hS hA [0, 1, 2, 3, 4, 5, 6, 7] [] rfl rfl (by decide) (by decide) (fun u_8 H locs h hP hD hS => ?_)
      try dsimp only at h
      have hP : va_P D vwCl [((a0 0), .inr (6, [.ref (a0 1), .ref (a0 2), .int (u_8.1 0), .ref (a0 3), .ref (a0 5), .ref (a0 4), .long u_8.2.1, .int (u_8.1 1), .int (u_8.1 2), .ref (a0 6), .int (u_8.1 3), .int (u_8.1 4), .ref (a0 7), .int (u_8.1 5), .int (u_8.1 6), .int (u_8.1 7), .int (u_8.1 8), .int (u_8.1 9), .int (u_8.1 10), .int (u_8.1 11), .int (u_8.1 12), .int (u_8.1 13), .int (u_8.1 14)])), ((a0 1), .inl (q 1, 6896, .inr (.inl (u_8.2.2.1 0)))), ((a0 2), .inl (q 1, 68960, .inr (.inl (u_8.2.2.1 1)))), ((a0 3), .inl (q 1, 13792, .inr (.inl (u_8.2.2.1 2)))), ((a0 4), .inl (q 1, 6896, .inr (.inl (u_8.2.2.1 3)))), ((a0 5), .inl (q 3, 2, .inl (u_8.2.2.2 0))), ((a0 6), .inl (q 0, 40, .inl (u_8.2.2.2 1))), ((a0 7), .inl (q 2, 400, .inl (u_8.2.2.2 2)))] H := hP
      have hD : va_D _ [((a0 0), .inr (6, [.ref (a0 1), .ref (a0 2), .int (u_8.1 0), .ref (a0 3), .ref (a0 5), .ref (a0 4), .long u_8.2.1, .int (u_8.1 1), .int (u_8.1 2), .ref (a0 6), .int (u_8.1 3), .int (u_8.1 4), .ref (a0 7), .int (u_8.1 5), .int (u_8.1 6), .int (u_8.1 7), .int (u_8.1 8), .int (u_8.1 9), .int (u_8.1 10), .int (u_8.1 11), .int (u_8.1 12), .int (u_8.1 13), .int (u_8.1 14)])), ((a0 1), .inl (q 1, 6896, .inr (.inl (u_8.2.2.1 0)))), ((a0 2), .inl (q 1, 68960, .inr (.inl (u_8.2.2.1 1)))), ((a0 3), .inl (q 1, 13792, .inr (.inl (u_8.2.2.1 2)))), ((a0 4), .inl (q 1, 6896, .inr (.inl (u_8.2.2.1 3)))), ((a0 5), .inl (q 3, 2, .inl (u_8.2.2.2 0))), ((a0 6), .inl (q 0, 40, .inl (u_8.2.2.2 1))), ((a0 7), .inl (q 2, 400, .inl (u_8.2.2.2 2)))] := hD
      refine lv_aload_n hx hb dX7_row_35 rfl (lv_at hl 1 rfl) ?_
      refine lv_iload_n hx hb dX7_row_36 rfl (lv_at hl 2 rfl) ?_
      refine lv_iconst (v := 0) hx hb dX7_row_37 (by decide) ?_
      refine lv_iload_n hx hb dX7_row_38 rfl (lv_at hl 0 rfl) ?_
      refine lv_iconst (v := 1) hx hb dX7_row_39 (by decide) ?_
      refine mt_goi (mt_wV (wc := md_v a0 q u_8) (As := [.int x1, .int 0, .int (s0.1 5), .int 1]) (rest := []) hx hb hml hown ht (c2_X7_wantsSigns h) wd_X7_wantsSigns mw_1237 hQ hV hS hA (hP.sub [0, 1, 2, 3, 4, 5, 6, 7] rfl) (hD.sub [0, 1, 2, 3, 4, 5, 6, 7] (by decide) rfl) rfl rfl rfl hl.1 rfl (Nat.le_of_ble_eq_true rfl) dX7_row_40 ⟨Nat.le_of_ble_eq_true rfl, Nat.le_of_ble_eq_true rfl, rfl, rfl⟩ ⟨Nat.le_of_ble_eq_true rfl, Nat.le_of_ble_eq_true rfl⟩) (wr := []) hP hD hS hA [0, 1, 2, 3, 4, 5, 6, 7] [] rfl rfl (by decide) (by decide) (fun r_9 u_10 H locs h hP hD hS => ?_)
      try dsimp only at h
      have hP : va_P D vwCl [((a0 0), .inr (6, [.ref (a0 1), .ref (a0 2), .int (u_10.1 0), .ref (a0 3), .ref (a0 5), .ref (a0 4), .long u_10.2.1, .int (u_10.1 1), .int (u_10.1 2), .ref (a0 6), .int (u_10.1 3), .int (u_10.1 4), .ref (a0 7), .int (u_10.1 5), .int (u_10.1 6), .int (u_10.1 7), .int (u_10.1 8), .int (u_10.1 9), .int (u_10.1 10), .int (u_10.1 11), .int (u_10.1 12), .int (u_10.1 13), .int (u_10.1 14)])), ((a0 1), .inl (q 1, 6896, .inr (.inl (u_10.2.2.1 0)))), ((a0 2), .inl (q 1, 68960, .inr (.inl (u_10.2.2.1 1)))), ((a0 3), .inl (q 1, 13792, .inr (.inl (u_10.2.2.1 2)))), ((a0 4), .inl (q 1, 6896, .inr (.inl (u_10.2.2.1 3)))), ((a0 5), .inl (q 3, 2, .inl (u_10.2.2.2 0))), ((a0 6), .inl (q 0, 40, .inl (u_10.2.2.2 1))), ((a0 7), .inl (q 2, 400, .inl (u_10.2.2.2 2)))] H := hP
      have hD : va_D _ [((a0 0), .inr (6, [.ref (a0 1), .ref (a0 2), .int (u_10.1 0), .ref (a0 3), .ref (a0 5), .ref (a0 4), .long u_10.2.1, .int (u_10.1 1), .int (u_10.1 2), .ref (a0 6), .int (u_10.1 3), .int (u_10.1 4), .ref (a0 7), .int (u_10.1 5), .int (u_10.1 6), .int (u_10.1 7), .int (u_10.1 8), .int (u_10.1 9), .int (u_10.1 10), .int (u_10.1 11), .int (u_10.1 12), .int (u_10.1 13), .int (u_10.1 14)])), ((a0 1), .inl (q 1, 6896, .inr (.inl (u_10.2.2.1 0)))), ((a0 2), .inl (q 1, 68960, .inr (.inl (u_10.2.2.1 1)))), ((a0 3), .inl (q 1, 13792, .inr (.inl (u_10.2.2.1 2)))), ((a0 4), .inl (q 1, 6896, .inr (.inl (u_10.2.2.1 3)))), ((a0 5), .inl (q 3, 2, .inl (u_10.2.2.2 0))), ((a0 6), .inl (q 0, 40, .inl (u_10.2.2.2 1))), ((a0 7), .inl (q 2, 400, .inl (u_10.2.2.2 2)))] := hD
      exact mt_iret u_10 hx hb hr hk h (hP.sub (ws' := md_v a0 q u_10) [0, 1, 2, 3, 4, 5, 6, 7] rfl) (hD.sub (ws' := md_v a0 q u_10) [0, 1, 2, 3, 4, 5, 6, 7] (by decide) rfl) hS dX7_row_43
    · replace h := h.2 c_6
      refine lv_bipush (v := (-2)) hx hb dX7_row_28 (by decide) ?_
      exact mt_iret ((va_up s0.1 5 0), s0.2.1, s0.2.2.1, s0.2.2.2) hx hb hr hk h (hP.sub (ws' := md_v a0 q ((va_up s0.1 5 0), s0.2.1, s0.2.2.1, s0.2.2.2)) [0, 1, 2, 3, 4, 5, 6, 7] rfl) (hD.sub (ws' := md_v a0 q ((va_up s0.1 5 0), s0.2.1, s0.2.2.1, s0.2.2.2)) [0, 1, 2, 3, 4, 5, 6, 7] (by decide) rfl) hS dX7_row_30
  · replace h := h.2 c_3
    refine lv_iconst (v := (-1)) hx hb dX7_row_18 (by decide) ?_
    exact mt_iret ((va_up s0.1 5 0), s0.2.1, s0.2.2.1, s0.2.2.2) hx hb hr hk h (hP.sub (ws' := md_v a0 q ((va_up s0.1 5 0), s0.2.1, s0.2.2.1, s0.2.2.2)) [0, 1, 2, 3, 4, 5, 6, 7] rfl) (hD.sub (ws' := md_v a0 q ((va_up s0.1 5 0), s0.2.1, s0.2.2.1, s0.2.2.2)) [0, 1, 2, 3, 4, 5, 6, 7] (by decide) rfl) hS dX7_row_19

def wp_X7_scroll (post : Int32 → Md → Prop) (s0 : Md) : Prop := wp_X7_isBoard (fun r_1 => ((¬ r_1 = 0 → wp_X7_isRowText (fun r_4 => ((¬ r_4 = 0 → wp_X7_keepsAct (fun u_8 => wp_X7_scrolls (fun r_9 u_10 => post r_9 u_10) u_8 (0 : Int32) (s0.1 5)) ((va_up s0.1 5 0), s0.2.1, s0.2.2.1, s0.2.2.2)) ∧ (r_4 = 0 → post (-2) ((va_up s0.1 5 0), s0.2.1, s0.2.2.1, s0.2.2.2)))) ((va_up s0.1 5 0), s0.2.1, s0.2.2.1, s0.2.2.2) (s0.1 5)) ∧ (r_1 = 0 → post (-1) ((va_up s0.1 5 0), s0.2.1, s0.2.2.1, s0.2.2.2)))) ((va_up s0.1 5 0), s0.2.1, s0.2.2.1, s0.2.2.2)
set_option maxHeartbeats 4000000 in
set_option maxRecDepth 100000 in
theorem c2_X7_scroll {l : Launch} {D : va_G} {q : Nat → ClassId} {sz : Nat} {a0 : Nat → Nat} {s0 : Md} {post : Int32 → Md → Prop} (h : wp_X7_scroll post s0) : Met l yX7_scroll (Cond.code yX7_scroll cX7_scroll 2 (some .int) :: w_all) ({ frames := 5, cells := 0, slots := 0, locals := 120 } : Room) (mt_P D q [.ref (a0 0)] (md_v a0 q s0) sz) (va_Qi (fun r (u : Md) => post r u) (mt_B D (md_v a0 q s0) sz (fun u : Md => md_v a0 q u)) (va_A (md_v a0 q s0) sz)) 0 0 (va_A (md_v a0 q s0) sz) := by
  refine mt_start (by decide) (Nat.le_of_ble_eq_true rfl) ?_
  intro p e s m below meth c ls hx hb hr hml hown ht hk hin hP hQ hD hA hS hV hl
  have hK := hQ.1
  have hown : s.vm.findClass RX7 = some m.cls := hown
  have hl : lv_has ls 2 [(0, .ref (a0 0))] := hl
  have hP : va_P D vwCl [((a0 0), .inr (6, [.ref (a0 1), .ref (a0 2), .int (s0.1 0), .ref (a0 3), .ref (a0 5), .ref (a0 4), .long s0.2.1, .int (s0.1 1), .int (s0.1 2), .ref (a0 6), .int (s0.1 3), .int (s0.1 4), .ref (a0 7), .int (s0.1 5), .int (s0.1 6), .int (s0.1 7), .int (s0.1 8), .int (s0.1 9), .int (s0.1 10), .int (s0.1 11), .int (s0.1 12), .int (s0.1 13), .int (s0.1 14)])), ((a0 1), .inl (q 1, 6896, .inr (.inl (s0.2.2.1 0)))), ((a0 2), .inl (q 1, 68960, .inr (.inl (s0.2.2.1 1)))), ((a0 3), .inl (q 1, 13792, .inr (.inl (s0.2.2.1 2)))), ((a0 4), .inl (q 1, 6896, .inr (.inl (s0.2.2.1 3)))), ((a0 5), .inl (q 3, 2, .inl (s0.2.2.2 0))), ((a0 6), .inl (q 0, 40, .inl (s0.2.2.2 1))), ((a0 7), .inl (q 2, 400, .inl (s0.2.2.2 2)))] s.heap := hP
  have hD : va_D _ [((a0 0), .inr (6, [.ref (a0 1), .ref (a0 2), .int (s0.1 0), .ref (a0 3), .ref (a0 5), .ref (a0 4), .long s0.2.1, .int (s0.1 1), .int (s0.1 2), .ref (a0 6), .int (s0.1 3), .int (s0.1 4), .ref (a0 7), .int (s0.1 5), .int (s0.1 6), .int (s0.1 7), .int (s0.1 8), .int (s0.1 9), .int (s0.1 10), .int (s0.1 11), .int (s0.1 12), .int (s0.1 13), .int (s0.1 14)])), ((a0 1), .inl (q 1, 6896, .inr (.inl (s0.2.2.1 0)))), ((a0 2), .inl (q 1, 68960, .inr (.inl (s0.2.2.1 1)))), ((a0 3), .inl (q 1, 13792, .inr (.inl (s0.2.2.1 2)))), ((a0 4), .inl (q 1, 6896, .inr (.inl (s0.2.2.1 3)))), ((a0 5), .inl (q 3, 2, .inl (s0.2.2.2 0))), ((a0 6), .inl (q 0, 40, .inl (s0.2.2.2 1))), ((a0 7), .inl (q 2, 400, .inl (s0.2.2.2 2)))] := hD
  unfold wp_X7_scroll at h
  refine lv_aload_n hx hb dX7_scroll_0 rfl (lv_at hl 0 rfl) ?_
  refine fl_get (C := RX7) (T := TX7) (N := 23) (ci := 6) (v := .int (s0.1 5)) hx hb ht in_X7 hown hK hP 0 rfl rfl 13 (by decide) mw_1143 rfl dX7_scroll_1 ?_
  refine lv_istore_n (lv' := [(1, .int (s0.1 5)), (0, .ref (a0 0))]) hx hb dX7_scroll_4 rfl hl (by decide) rfl (fun ls hl => ?_)
  refine lv_aload_n hx hb dX7_scroll_5 rfl (lv_at hl 1 rfl) ?_
  refine lv_iconst (v := 0) hx hb dX7_scroll_6 (by decide) ?_
  refine fl_put (C := RX7) (T := TX7) (N := 23) (ci := 6) (v := .int 0) (ws2 := [((a0 0), .inr (6, [.ref (a0 1), .ref (a0 2), .int (s0.1 0), .ref (a0 3), .ref (a0 5), .ref (a0 4), .long s0.2.1, .int (s0.1 1), .int (s0.1 2), .ref (a0 6), .int (s0.1 3), .int (s0.1 4), .ref (a0 7), .int 0, .int (s0.1 6), .int (s0.1 7), .int (s0.1 8), .int (s0.1 9), .int (s0.1 10), .int (s0.1 11), .int (s0.1 12), .int (s0.1 13), .int (s0.1 14)])), ((a0 1), .inl (q 1, 6896, .inr (.inl (s0.2.2.1 0)))), ((a0 2), .inl (q 1, 68960, .inr (.inl (s0.2.2.1 1)))), ((a0 3), .inl (q 1, 13792, .inr (.inl (s0.2.2.1 2)))), ((a0 4), .inl (q 1, 6896, .inr (.inl (s0.2.2.1 3)))), ((a0 5), .inl (q 3, 2, .inl (s0.2.2.2 0))), ((a0 6), .inl (q 0, 40, .inl (s0.2.2.2 1))), ((a0 7), .inl (q 2, 400, .inl (s0.2.2.2 2)))]) hx hb ht in_X7 tyX7_ok nmX7 hown hK hP hD hS 0 rfl rfl 13 (by decide) mw_1143 rfl rfl rfl (Nat.le_of_ble_eq_true rfl) dX7_scroll_7 rfl (fun H locs hP hD hS => ?_)
  refine lv_aload_n hx hb dX7_scroll_10 rfl (lv_at hl 1 rfl) ?_
  refine vp_callSi (rd_wV (wc := md_v a0 q ((va_up s0.1 5 0), s0.2.1, s0.2.2.1, s0.2.2.2)) (As := []) (rest := []) hx hb hml hown ht (c2_X7_isBoard h) wd_X7_isBoard mw_1283 hQ hV hS (hP.sub [0, 1, 2, 3, 4, 5, 6, 7] rfl) rfl rfl rfl hl.1 rfl (Nat.le_of_ble_eq_true rfl) dX7_scroll_11 ⟨Nat.le_of_ble_eq_true rfl, Nat.le_of_ble_eq_true rfl, rfl, rfl⟩ ⟨Nat.le_of_ble_eq_true rfl, Nat.le_of_ble_eq_true rfl⟩) (fun r_1 h => ?_)
  try dsimp only at h
  refine lv_if_ne (tgt := 19) hx hb dX7_scroll_14 (by decide) (fun c_3 => ?_) (fun c_3 => ?_)
  · replace h := h.1 c_3
    refine lv_aload_n hx hb dX7_scroll_19 rfl (lv_at hl 1 rfl) ?_
    refine lv_iload_n hx hb dX7_scroll_20 rfl (lv_at hl 0 rfl) ?_
    refine vp_callSi (rd_wV (wc := md_v a0 q ((va_up s0.1 5 0), s0.2.1, s0.2.2.1, s0.2.2.2)) (As := [.int (s0.1 5)]) (rest := []) hx hb hml hown ht (c2_X7_isRowText h) wd_X7_isRowText mw_1216 hQ hV hS (hP.sub [0, 1, 2, 3, 4, 5, 6, 7] rfl) rfl rfl rfl hl.1 rfl (Nat.le_of_ble_eq_true rfl) dX7_scroll_21 ⟨Nat.le_of_ble_eq_true rfl, Nat.le_of_ble_eq_true rfl, rfl, rfl⟩ ⟨Nat.le_of_ble_eq_true rfl, Nat.le_of_ble_eq_true rfl⟩) (fun r_4 h => ?_)
    try dsimp only at h
    refine lv_if_ne (tgt := 30) hx hb dX7_scroll_24 (by decide) (fun c_6 => ?_) (fun c_6 => ?_)
    · replace h := h.1 c_6
      refine lv_aload_n hx hb dX7_scroll_30 rfl (lv_at hl 1 rfl) ?_
      refine mt_gov (mt_wV (wc := md_v a0 q ((va_up s0.1 5 0), s0.2.1, s0.2.2.1, s0.2.2.2)) (As := []) (rest := []) hx hb hml hown ht (c2_X7_keepsAct h) wd_X7_keepsAct mw_1233 hQ hV hS hA (hP.sub [0, 1, 2, 3, 4, 5, 6, 7] rfl) (hD.sub [0, 1, 2, 3, 4, 5, 6, 7] (by decide) rfl) rfl rfl rfl hl.1 rfl (Nat.le_of_ble_eq_true rfl) dX7_scroll_31 ⟨Nat.le_of_ble_eq_true rfl, Nat.le_of_ble_eq_true rfl, rfl, rfl⟩ ⟨Nat.le_of_ble_eq_true rfl, Nat.le_of_ble_eq_true rfl⟩) (wr := []) hP hD hS hA [0, 1, 2, 3, 4, 5, 6, 7] [] rfl rfl (by decide) (by decide) (fun u_8 H locs h hP hD hS => ?_)
      try dsimp only at h
      have hP : va_P D vwCl [((a0 0), .inr (6, [.ref (a0 1), .ref (a0 2), .int (u_8.1 0), .ref (a0 3), .ref (a0 5), .ref (a0 4), .long u_8.2.1, .int (u_8.1 1), .int (u_8.1 2), .ref (a0 6), .int (u_8.1 3), .int (u_8.1 4), .ref (a0 7), .int (u_8.1 5), .int (u_8.1 6), .int (u_8.1 7), .int (u_8.1 8), .int (u_8.1 9), .int (u_8.1 10), .int (u_8.1 11), .int (u_8.1 12), .int (u_8.1 13), .int (u_8.1 14)])), ((a0 1), .inl (q 1, 6896, .inr (.inl (u_8.2.2.1 0)))), ((a0 2), .inl (q 1, 68960, .inr (.inl (u_8.2.2.1 1)))), ((a0 3), .inl (q 1, 13792, .inr (.inl (u_8.2.2.1 2)))), ((a0 4), .inl (q 1, 6896, .inr (.inl (u_8.2.2.1 3)))), ((a0 5), .inl (q 3, 2, .inl (u_8.2.2.2 0))), ((a0 6), .inl (q 0, 40, .inl (u_8.2.2.2 1))), ((a0 7), .inl (q 2, 400, .inl (u_8.2.2.2 2)))] H := hP
      have hD : va_D _ [((a0 0), .inr (6, [.ref (a0 1), .ref (a0 2), .int (u_8.1 0), .ref (a0 3), .ref (a0 5), .ref (a0 4), .long u_8.2.1, .int (u_8.1 1), .int (u_8.1 2), .ref (a0 6), .int (u_8.1 3), .int (u_8.1 4), .ref (a0 7), .int (u_8.1 5), .int (u_8.1 6), .int (u_8.1 7), .int (u_8.1 8), .int (u_8.1 9), .int (u_8.1 10), .int (u_8.1 11), .int (u_8.1 12), .int (u_8.1 13), .int (u_8.1 14)])), ((a0 1), .inl (q 1, 6896, .inr (.inl (u_8.2.2.1 0)))), ((a0 2), .inl (q 1, 68960, .inr (.inl (u_8.2.2.1 1)))), ((a0 3), .inl (q 1, 13792, .inr (.inl (u_8.2.2.1 2)))), ((a0 4), .inl (q 1, 6896, .inr (.inl (u_8.2.2.1 3)))), ((a0 5), .inl (q 3, 2, .inl (u_8.2.2.2 0))), ((a0 6), .inl (q 0, 40, .inl (u_8.2.2.2 1))), ((a0 7), .inl (q 2, 400, .inl (u_8.2.2.2 2)))] := hD
      refine lv_aload_n hx hb dX7_scroll_34 rfl (lv_at hl 1 rfl) ?_
      refine lv_iconst (v := 0) hx hb dX7_scroll_35 (by decide) ?_
      refine lv_iload_n hx hb dX7_scroll_36 rfl (lv_at hl 0 rfl) ?_
      refine mt_goi (mt_wV (wc := md_v a0 q u_8) (As := [.int 0, .int (s0.1 5)]) (rest := []) hx hb hml hown ht (c2_X7_scrolls h) wd_X7_scrolls mw_1291 hQ hV hS hA (hP.sub [0, 1, 2, 3, 4, 5, 6, 7] rfl) (hD.sub [0, 1, 2, 3, 4, 5, 6, 7] (by decide) rfl) rfl rfl rfl hl.1 rfl (Nat.le_of_ble_eq_true rfl) dX7_scroll_37 ⟨Nat.le_of_ble_eq_true rfl, Nat.le_of_ble_eq_true rfl, rfl, rfl⟩ ⟨Nat.le_of_ble_eq_true rfl, Nat.le_of_ble_eq_true rfl⟩) (wr := []) hP hD hS hA [0, 1, 2, 3, 4, 5, 6, 7] [] rfl rfl (by decide) (by decide) (fun r_9 u_10 H locs h hP hD hS => ?_)
      try dsimp only at h
      have hP : va_P D vwCl [((a0 0), .inr (6, [.ref (a0 1), .ref (a0 2), .int (u_10.1 0), .ref (a0 3), .ref (a0 5), .ref (a0 4), .long u_10.2.1, .int (u_10.1 1), .int (u_10.1 2), .ref (a0 6), .int (u_10.1 3), .int (u_10.1 4), .ref (a0 7), .int (u_10.1 5), .int (u_10.1 6), .int (u_10.1 7), .int (u_10.1 8), .int (u_10.1 9), .int (u_10.1 10), .int (u_10.1 11), .int (u_10.1 12), .int (u_10.1 13), .int (u_10.1 14)])), ((a0 1), .inl (q 1, 6896, .inr (.inl (u_10.2.2.1 0)))), ((a0 2), .inl (q 1, 68960, .inr (.inl (u_10.2.2.1 1)))), ((a0 3), .inl (q 1, 13792, .inr (.inl (u_10.2.2.1 2)))), ((a0 4), .inl (q 1, 6896, .inr (.inl (u_10.2.2.1 3)))), ((a0 5), .inl (q 3, 2, .inl (u_10.2.2.2 0))), ((a0 6), .inl (q 0, 40, .inl (u_10.2.2.2 1))), ((a0 7), .inl (q 2, 400, .inl (u_10.2.2.2 2)))] H := hP
      have hD : va_D _ [((a0 0), .inr (6, [.ref (a0 1), .ref (a0 2), .int (u_10.1 0), .ref (a0 3), .ref (a0 5), .ref (a0 4), .long u_10.2.1, .int (u_10.1 1), .int (u_10.1 2), .ref (a0 6), .int (u_10.1 3), .int (u_10.1 4), .ref (a0 7), .int (u_10.1 5), .int (u_10.1 6), .int (u_10.1 7), .int (u_10.1 8), .int (u_10.1 9), .int (u_10.1 10), .int (u_10.1 11), .int (u_10.1 12), .int (u_10.1 13), .int (u_10.1 14)])), ((a0 1), .inl (q 1, 6896, .inr (.inl (u_10.2.2.1 0)))), ((a0 2), .inl (q 1, 68960, .inr (.inl (u_10.2.2.1 1)))), ((a0 3), .inl (q 1, 13792, .inr (.inl (u_10.2.2.1 2)))), ((a0 4), .inl (q 1, 6896, .inr (.inl (u_10.2.2.1 3)))), ((a0 5), .inl (q 3, 2, .inl (u_10.2.2.2 0))), ((a0 6), .inl (q 0, 40, .inl (u_10.2.2.2 1))), ((a0 7), .inl (q 2, 400, .inl (u_10.2.2.2 2)))] := hD
      exact mt_iret u_10 hx hb hr hk h (hP.sub (ws' := md_v a0 q u_10) [0, 1, 2, 3, 4, 5, 6, 7] rfl) (hD.sub (ws' := md_v a0 q u_10) [0, 1, 2, 3, 4, 5, 6, 7] (by decide) rfl) hS dX7_scroll_40
    · replace h := h.2 c_6
      refine lv_bipush (v := (-2)) hx hb dX7_scroll_27 (by decide) ?_
      exact mt_iret ((va_up s0.1 5 0), s0.2.1, s0.2.2.1, s0.2.2.2) hx hb hr hk h (hP.sub (ws' := md_v a0 q ((va_up s0.1 5 0), s0.2.1, s0.2.2.1, s0.2.2.2)) [0, 1, 2, 3, 4, 5, 6, 7] rfl) (hD.sub (ws' := md_v a0 q ((va_up s0.1 5 0), s0.2.1, s0.2.2.1, s0.2.2.2)) [0, 1, 2, 3, 4, 5, 6, 7] (by decide) rfl) hS dX7_scroll_29
  · replace h := h.2 c_3
    refine lv_iconst (v := (-1)) hx hb dX7_scroll_17 (by decide) ?_
    exact mt_iret ((va_up s0.1 5 0), s0.2.1, s0.2.2.1, s0.2.2.2) hx hb hr hk h (hP.sub (ws' := md_v a0 q ((va_up s0.1 5 0), s0.2.1, s0.2.2.1, s0.2.2.2)) [0, 1, 2, 3, 4, 5, 6, 7] rfl) (hD.sub (ws' := md_v a0 q ((va_up s0.1 5 0), s0.2.1, s0.2.2.1, s0.2.2.2)) [0, 1, 2, 3, 4, 5, 6, 7] (by decide) rfl) hS dX7_scroll_18

def wp_X7_tick_L29 (post : Int32 → Md → Prop) (e47 : Md → Int32 → Int32 → Int32 → Prop) : Nat → Md → Int32 → Int32 → Int32 → Prop
  | 0, _, _, _, _ => False
  | n29 + 1, t0, z1, z2, z3 => ((z1 ≤ z3 → e47 t0 z1 z2 z3) ∧ (¬ z1 ≤ z3 → wp_X7_ticks (fun r_10 u_11 => wp_X7_tick_L29 post e47 n29 u_11 z1 (z2 + r_10) (z3 + 1)) t0))
def wp_X7_tick (post : Int32 → Md → Prop) (s0 : Md) (x1 : Int32) : Prop := wp_X7_isBoard (fun r_1 => ((r_1 = 0 → post (-1) s0) ∧ (¬ r_1 = 0 → wp_X7_in (fun r_4 => ((¬ r_4 = 0 → wp_X7_keepsAct (fun u_8 => (∃ n29, wp_X7_tick_L29 post (fun t0 z1 z2 z3 => post z2 t0) n29 u_8 x1 0 0)) s0) ∧ (r_4 = 0 → post (-1) s0))) (Int32.toInt64 x1) (1 : Int64) (99 : Int64)))) s0
set_option maxHeartbeats 4000000 in
set_option maxRecDepth 100000 in
theorem c2_X7_tick {l : Launch} {D : va_G} {q : Nat → ClassId} {sz : Nat} {a0 : Nat → Nat} {s0 : Md} {x1 : Int32} {post : Int32 → Md → Prop} (h : wp_X7_tick post s0 x1) : Met l yX7_tick (Cond.code yX7_tick cX7_tick 4 (some .int) :: w_all) ({ frames := 5, cells := 0, slots := 0, locals := 110 } : Room) (mt_P D q [.ref (a0 0), .int x1] (md_v a0 q s0) sz) (va_Qi (fun r (u : Md) => post r u) (mt_B D (md_v a0 q s0) sz (fun u : Md => md_v a0 q u)) (va_A (md_v a0 q s0) sz)) 0 0 (va_A (md_v a0 q s0) sz) := by
  refine mt_start (by decide) (Nat.le_of_ble_eq_true rfl) ?_
  intro p e s m below meth c ls hx hb hr hml hown ht hk hin hP hQ hD hA hS hV hl
  have hK := hQ.1
  have hown : s.vm.findClass RX7 = some m.cls := hown
  have hl : lv_has ls 4 [(0, .ref (a0 0)), (1, .int x1)] := hl
  have hP : va_P D vwCl [((a0 0), .inr (6, [.ref (a0 1), .ref (a0 2), .int (s0.1 0), .ref (a0 3), .ref (a0 5), .ref (a0 4), .long s0.2.1, .int (s0.1 1), .int (s0.1 2), .ref (a0 6), .int (s0.1 3), .int (s0.1 4), .ref (a0 7), .int (s0.1 5), .int (s0.1 6), .int (s0.1 7), .int (s0.1 8), .int (s0.1 9), .int (s0.1 10), .int (s0.1 11), .int (s0.1 12), .int (s0.1 13), .int (s0.1 14)])), ((a0 1), .inl (q 1, 6896, .inr (.inl (s0.2.2.1 0)))), ((a0 2), .inl (q 1, 68960, .inr (.inl (s0.2.2.1 1)))), ((a0 3), .inl (q 1, 13792, .inr (.inl (s0.2.2.1 2)))), ((a0 4), .inl (q 1, 6896, .inr (.inl (s0.2.2.1 3)))), ((a0 5), .inl (q 3, 2, .inl (s0.2.2.2 0))), ((a0 6), .inl (q 0, 40, .inl (s0.2.2.2 1))), ((a0 7), .inl (q 2, 400, .inl (s0.2.2.2 2)))] s.heap := hP
  have hD : va_D _ [((a0 0), .inr (6, [.ref (a0 1), .ref (a0 2), .int (s0.1 0), .ref (a0 3), .ref (a0 5), .ref (a0 4), .long s0.2.1, .int (s0.1 1), .int (s0.1 2), .ref (a0 6), .int (s0.1 3), .int (s0.1 4), .ref (a0 7), .int (s0.1 5), .int (s0.1 6), .int (s0.1 7), .int (s0.1 8), .int (s0.1 9), .int (s0.1 10), .int (s0.1 11), .int (s0.1 12), .int (s0.1 13), .int (s0.1 14)])), ((a0 1), .inl (q 1, 6896, .inr (.inl (s0.2.2.1 0)))), ((a0 2), .inl (q 1, 68960, .inr (.inl (s0.2.2.1 1)))), ((a0 3), .inl (q 1, 13792, .inr (.inl (s0.2.2.1 2)))), ((a0 4), .inl (q 1, 6896, .inr (.inl (s0.2.2.1 3)))), ((a0 5), .inl (q 3, 2, .inl (s0.2.2.2 0))), ((a0 6), .inl (q 0, 40, .inl (s0.2.2.2 1))), ((a0 7), .inl (q 2, 400, .inl (s0.2.2.2 2)))] := hD
  unfold wp_X7_tick at h
  refine lv_aload_n hx hb dX7_tick_0 rfl (lv_at hl 0 rfl) ?_
  refine vp_callSi (rd_wV (wc := md_v a0 q s0) (As := []) (rest := []) hx hb hml hown ht (c2_X7_isBoard h) wd_X7_isBoard mw_1283 hQ hV hS (hP.sub [0, 1, 2, 3, 4, 5, 6, 7] rfl) rfl rfl rfl hl.1 rfl (Nat.le_of_ble_eq_true rfl) dX7_tick_1 ⟨Nat.le_of_ble_eq_true rfl, Nat.le_of_ble_eq_true rfl, rfl, rfl⟩ ⟨Nat.le_of_ble_eq_true rfl, Nat.le_of_ble_eq_true rfl⟩) (fun r_1 h => ?_)
  try dsimp only at h
  refine lv_if_eq (tgt := 19) hx hb dX7_tick_4 (by decide) (fun c_3 => ?_) (fun c_3 => ?_)
  · replace h := h.1 c_3
    refine lv_iconst (v := (-1)) hx hb dX7_tick_19 (by decide) ?_
    exact mt_iret s0 hx hb hr hk h (hP.sub (ws' := md_v a0 q s0) [0, 1, 2, 3, 4, 5, 6, 7] rfl) (hD.sub (ws' := md_v a0 q s0) [0, 1, 2, 3, 4, 5, 6, 7] (by decide) rfl) hS dX7_tick_20
  · replace h := h.2 c_3
    refine lv_iload_n hx hb dX7_tick_7 rfl (lv_at hl 1 rfl) ?_
    refine lv_i2l (v := (Int32.toInt64 x1)) hx hb dX7_tick_8 rfl ?_
    refine lv_lconst (v := 1) hx hb dX7_tick_9 (by decide) ?_
    refine lv_ldc2 (v := 99) hx hb hown (ht _ mw_1303) dX7_tick_10 ?_
    refine vp_callSi (rd_wS (wc := ([] : va_W)) (As := [.long (Int32.toInt64 x1), .long 1, .long 99]) (rest := []) hx hb hml hown ht (c2_X7_in h) wd_X7_in mw_1213 hQ hV hS (hP.sub [] rfl) rfl hl.1 rfl (Nat.le_of_ble_eq_true rfl) dX7_tick_13 ⟨Nat.le_of_ble_eq_true rfl, Nat.le_of_ble_eq_true rfl, rfl, rfl⟩ ⟨Nat.le_of_ble_eq_true rfl, Nat.le_of_ble_eq_true rfl⟩) (fun r_4 h => ?_)
    try dsimp only at h
    refine lv_if_ne (tgt := 21) hx hb dX7_tick_16 (by decide) (fun c_6 => ?_) (fun c_6 => ?_)
    · replace h := h.1 c_6
      refine lv_aload_n hx hb dX7_tick_21 rfl (lv_at hl 0 rfl) ?_
      refine mt_gov (mt_wV (wc := md_v a0 q s0) (As := []) (rest := []) hx hb hml hown ht (c2_X7_keepsAct h) wd_X7_keepsAct mw_1233 hQ hV hS hA (hP.sub [0, 1, 2, 3, 4, 5, 6, 7] rfl) (hD.sub [0, 1, 2, 3, 4, 5, 6, 7] (by decide) rfl) rfl rfl rfl hl.1 rfl (Nat.le_of_ble_eq_true rfl) dX7_tick_22 ⟨Nat.le_of_ble_eq_true rfl, Nat.le_of_ble_eq_true rfl, rfl, rfl⟩ ⟨Nat.le_of_ble_eq_true rfl, Nat.le_of_ble_eq_true rfl⟩) (wr := []) hP hD hS hA [0, 1, 2, 3, 4, 5, 6, 7] [] rfl rfl (by decide) (by decide) (fun u_8 H locs h hP hD hS => ?_)
      try dsimp only at h
      have hP : va_P D vwCl [((a0 0), .inr (6, [.ref (a0 1), .ref (a0 2), .int (u_8.1 0), .ref (a0 3), .ref (a0 5), .ref (a0 4), .long u_8.2.1, .int (u_8.1 1), .int (u_8.1 2), .ref (a0 6), .int (u_8.1 3), .int (u_8.1 4), .ref (a0 7), .int (u_8.1 5), .int (u_8.1 6), .int (u_8.1 7), .int (u_8.1 8), .int (u_8.1 9), .int (u_8.1 10), .int (u_8.1 11), .int (u_8.1 12), .int (u_8.1 13), .int (u_8.1 14)])), ((a0 1), .inl (q 1, 6896, .inr (.inl (u_8.2.2.1 0)))), ((a0 2), .inl (q 1, 68960, .inr (.inl (u_8.2.2.1 1)))), ((a0 3), .inl (q 1, 13792, .inr (.inl (u_8.2.2.1 2)))), ((a0 4), .inl (q 1, 6896, .inr (.inl (u_8.2.2.1 3)))), ((a0 5), .inl (q 3, 2, .inl (u_8.2.2.2 0))), ((a0 6), .inl (q 0, 40, .inl (u_8.2.2.2 1))), ((a0 7), .inl (q 2, 400, .inl (u_8.2.2.2 2)))] H := hP
      have hD : va_D _ [((a0 0), .inr (6, [.ref (a0 1), .ref (a0 2), .int (u_8.1 0), .ref (a0 3), .ref (a0 5), .ref (a0 4), .long u_8.2.1, .int (u_8.1 1), .int (u_8.1 2), .ref (a0 6), .int (u_8.1 3), .int (u_8.1 4), .ref (a0 7), .int (u_8.1 5), .int (u_8.1 6), .int (u_8.1 7), .int (u_8.1 8), .int (u_8.1 9), .int (u_8.1 10), .int (u_8.1 11), .int (u_8.1 12), .int (u_8.1 13), .int (u_8.1 14)])), ((a0 1), .inl (q 1, 6896, .inr (.inl (u_8.2.2.1 0)))), ((a0 2), .inl (q 1, 68960, .inr (.inl (u_8.2.2.1 1)))), ((a0 3), .inl (q 1, 13792, .inr (.inl (u_8.2.2.1 2)))), ((a0 4), .inl (q 1, 6896, .inr (.inl (u_8.2.2.1 3)))), ((a0 5), .inl (q 3, 2, .inl (u_8.2.2.2 0))), ((a0 6), .inl (q 0, 40, .inl (u_8.2.2.2 1))), ((a0 7), .inl (q 2, 400, .inl (u_8.2.2.2 2)))] := hD
      refine lv_iconst (v := 0) hx hb dX7_tick_25 (by decide) ?_
      refine lv_istore_n (lv' := [(2, .int 0), (0, .ref (a0 0)), (1, .int x1)]) hx hb dX7_tick_26 rfl hl (by decide) rfl (fun ls hl => ?_)
      refine lv_iconst (v := 0) hx hb dX7_tick_27 (by decide) ?_
      refine lv_istore_n (lv' := [(3, .int 0), (2, .int 0), (0, .ref (a0 0)), (1, .int x1)]) hx hb dX7_tick_28 rfl hl (by decide) rfl (fun ls hl => ?_)
      have lp29 : ∀ (e47 : Md → Int32 → Int32 → Int32 → Prop) (k47 : ∀ (t0 : Md) (z1 : Int32) (z2 : Int32) (z3 : Int32) (H : Heap) (locs : List Loc) (ls : Array Slot), e47 t0 z1 z2 z3 → va_P D vwCl (md_v a0 q t0) H → va_D (va_A (md_v a0 q s0) sz) (md_v a0 q t0) → va_S (va_A (md_v a0 q s0) sz) s.heap H locs → lv_has ls 4 [(1, .int z1), (2, .int z2), (3, .int z3), (0, .ref (a0 0))] → W p l e ({ frames := 5, cells := 0, slots := 0, locals := 110 } : Room) s m [.ref (a0 0), .int x1].toArray below meth c H locs 0 0 (MQ below (va_Qi (fun r (u : Md) => post r u) (mt_B D (md_v a0 q s0) sz (fun u : Md => md_v a0 q u)) (va_A (md_v a0 q s0) sz)) [.ref (a0 0), .int x1].toArray s 0 0 (va_A (md_v a0 q s0) sz)) (F0 m 47 ls [])) (n : Nat) (t0 : Md) (z1 : Int32) (z2 : Int32) (z3 : Int32) (H : Heap) (locs : List Loc) (ls : Array Slot), wp_X7_tick_L29 post e47 n t0 z1 z2 z3 → va_P D vwCl (md_v a0 q t0) H → va_D (va_A (md_v a0 q s0) sz) (md_v a0 q t0) → va_S (va_A (md_v a0 q s0) sz) s.heap H locs → lv_has ls 4 [(1, .int z1), (2, .int z2), (3, .int z3), (0, .ref (a0 0))] → W p l e ({ frames := 5, cells := 0, slots := 0, locals := 110 } : Room) s m [.ref (a0 0), .int x1].toArray below meth c H locs 0 0 (MQ below (va_Qi (fun r (u : Md) => post r u) (mt_B D (md_v a0 q s0) sz (fun u : Md => md_v a0 q u)) (va_A (md_v a0 q s0) sz)) [.ref (a0 0), .int x1].toArray s 0 0 (va_A (md_v a0 q s0) sz)) (F0 m 29 ls []) := by
        intro e47 k47 n
        induction n with
        | zero =>
          intro t0 z1 z2 z3 H locs ls h
          exact h.elim
        | succ n ih =>
          intro t0 z1 z2 z3 H locs ls h hP hD hS hl
          have hP : va_P D vwCl [((a0 0), .inr (6, [.ref (a0 1), .ref (a0 2), .int (t0.1 0), .ref (a0 3), .ref (a0 5), .ref (a0 4), .long t0.2.1, .int (t0.1 1), .int (t0.1 2), .ref (a0 6), .int (t0.1 3), .int (t0.1 4), .ref (a0 7), .int (t0.1 5), .int (t0.1 6), .int (t0.1 7), .int (t0.1 8), .int (t0.1 9), .int (t0.1 10), .int (t0.1 11), .int (t0.1 12), .int (t0.1 13), .int (t0.1 14)])), ((a0 1), .inl (q 1, 6896, .inr (.inl (t0.2.2.1 0)))), ((a0 2), .inl (q 1, 68960, .inr (.inl (t0.2.2.1 1)))), ((a0 3), .inl (q 1, 13792, .inr (.inl (t0.2.2.1 2)))), ((a0 4), .inl (q 1, 6896, .inr (.inl (t0.2.2.1 3)))), ((a0 5), .inl (q 3, 2, .inl (t0.2.2.2 0))), ((a0 6), .inl (q 0, 40, .inl (t0.2.2.2 1))), ((a0 7), .inl (q 2, 400, .inl (t0.2.2.2 2)))] H := hP
          have hD : va_D _ [((a0 0), .inr (6, [.ref (a0 1), .ref (a0 2), .int (t0.1 0), .ref (a0 3), .ref (a0 5), .ref (a0 4), .long t0.2.1, .int (t0.1 1), .int (t0.1 2), .ref (a0 6), .int (t0.1 3), .int (t0.1 4), .ref (a0 7), .int (t0.1 5), .int (t0.1 6), .int (t0.1 7), .int (t0.1 8), .int (t0.1 9), .int (t0.1 10), .int (t0.1 11), .int (t0.1 12), .int (t0.1 13), .int (t0.1 14)])), ((a0 1), .inl (q 1, 6896, .inr (.inl (t0.2.2.1 0)))), ((a0 2), .inl (q 1, 68960, .inr (.inl (t0.2.2.1 1)))), ((a0 3), .inl (q 1, 13792, .inr (.inl (t0.2.2.1 2)))), ((a0 4), .inl (q 1, 6896, .inr (.inl (t0.2.2.1 3)))), ((a0 5), .inl (q 3, 2, .inl (t0.2.2.2 0))), ((a0 6), .inl (q 0, 40, .inl (t0.2.2.2 1))), ((a0 7), .inl (q 2, 400, .inl (t0.2.2.2 2)))] := hD
          unfold wp_X7_tick_L29 at h
          refine lv_iload_n hx hb dX7_tick_29 rfl (lv_at hl 2 rfl) ?_
          refine lv_iload_n hx hb dX7_tick_30 rfl (lv_at hl 0 rfl) ?_
          refine lv_icmp_ge (tgt := 47) hx hb dX7_tick_31 (by decide) (fun c_9 => ?_) (fun c_9 => ?_)
          · replace h := h.1 c_9
            exact k47 _ _ _ _ _ _ ls h (hP.sub (ws' := md_v a0 q t0) [0, 1, 2, 3, 4, 5, 6, 7] rfl) (hD.sub (ws' := md_v a0 q t0) [0, 1, 2, 3, 4, 5, 6, 7] (by decide) rfl) hS (lv_sub hl [0, 1, 2, 3] rfl)
          · replace h := h.2 c_9
            refine lv_iload_n hx hb dX7_tick_34 rfl (lv_at hl 1 rfl) ?_
            refine lv_aload_n hx hb dX7_tick_35 rfl (lv_at hl 3 rfl) ?_
            refine mt_goi (mt_wV (wc := md_v a0 q t0) (As := []) (rest := [.int z2]) hx hb hml hown ht (c2_X7_ticks h) wd_X7_ticks mw_1304 hQ hV hS hA (hP.sub [0, 1, 2, 3, 4, 5, 6, 7] rfl) (hD.sub [0, 1, 2, 3, 4, 5, 6, 7] (by decide) rfl) rfl rfl rfl hl.1 rfl (Nat.le_of_ble_eq_true rfl) dX7_tick_36 ⟨Nat.le_of_ble_eq_true rfl, Nat.le_of_ble_eq_true rfl, rfl, rfl⟩ ⟨Nat.le_of_ble_eq_true rfl, Nat.le_of_ble_eq_true rfl⟩) (wr := []) hP hD hS hA [0, 1, 2, 3, 4, 5, 6, 7] [] rfl rfl (by decide) (by decide) (fun r_10 u_11 H locs h hP hD hS => ?_)
            try dsimp only at h
            have hP : va_P D vwCl [((a0 0), .inr (6, [.ref (a0 1), .ref (a0 2), .int (u_11.1 0), .ref (a0 3), .ref (a0 5), .ref (a0 4), .long u_11.2.1, .int (u_11.1 1), .int (u_11.1 2), .ref (a0 6), .int (u_11.1 3), .int (u_11.1 4), .ref (a0 7), .int (u_11.1 5), .int (u_11.1 6), .int (u_11.1 7), .int (u_11.1 8), .int (u_11.1 9), .int (u_11.1 10), .int (u_11.1 11), .int (u_11.1 12), .int (u_11.1 13), .int (u_11.1 14)])), ((a0 1), .inl (q 1, 6896, .inr (.inl (u_11.2.2.1 0)))), ((a0 2), .inl (q 1, 68960, .inr (.inl (u_11.2.2.1 1)))), ((a0 3), .inl (q 1, 13792, .inr (.inl (u_11.2.2.1 2)))), ((a0 4), .inl (q 1, 6896, .inr (.inl (u_11.2.2.1 3)))), ((a0 5), .inl (q 3, 2, .inl (u_11.2.2.2 0))), ((a0 6), .inl (q 0, 40, .inl (u_11.2.2.2 1))), ((a0 7), .inl (q 2, 400, .inl (u_11.2.2.2 2)))] H := hP
            have hD : va_D _ [((a0 0), .inr (6, [.ref (a0 1), .ref (a0 2), .int (u_11.1 0), .ref (a0 3), .ref (a0 5), .ref (a0 4), .long u_11.2.1, .int (u_11.1 1), .int (u_11.1 2), .ref (a0 6), .int (u_11.1 3), .int (u_11.1 4), .ref (a0 7), .int (u_11.1 5), .int (u_11.1 6), .int (u_11.1 7), .int (u_11.1 8), .int (u_11.1 9), .int (u_11.1 10), .int (u_11.1 11), .int (u_11.1 12), .int (u_11.1 13), .int (u_11.1 14)])), ((a0 1), .inl (q 1, 6896, .inr (.inl (u_11.2.2.1 0)))), ((a0 2), .inl (q 1, 68960, .inr (.inl (u_11.2.2.1 1)))), ((a0 3), .inl (q 1, 13792, .inr (.inl (u_11.2.2.1 2)))), ((a0 4), .inl (q 1, 6896, .inr (.inl (u_11.2.2.1 3)))), ((a0 5), .inl (q 3, 2, .inl (u_11.2.2.2 0))), ((a0 6), .inl (q 0, 40, .inl (u_11.2.2.2 1))), ((a0 7), .inl (q 2, 400, .inl (u_11.2.2.2 2)))] := hD
            refine lv_iadd hx hb dX7_tick_39 ?_
            refine lv_istore_n (lv' := [(2, .int (z2 + r_10)), (1, .int z1), (3, .int z3), (0, .ref (a0 0))]) hx hb dX7_tick_40 rfl hl (by decide) rfl (fun ls hl => ?_)
            refine lv_iinc (v := (z3 + 1)) (lv' := [(3, .int (z3 + 1)), (2, .int (z2 + r_10)), (1, .int z1), (0, .ref (a0 0))]) hx hb dX7_tick_41 hl (k := 2) rfl rfl (by decide) rfl (fun ls hl => ?_)
            refine lv_goto (tgt := 29) hx hb dX7_tick_44 (by decide) ?_
            exact ih _ _ _ _ _ _ ls h (hP.sub (ws' := md_v a0 q u_11) [0, 1, 2, 3, 4, 5, 6, 7] rfl) (hD.sub (ws' := md_v a0 q u_11) [0, 1, 2, 3, 4, 5, 6, 7] (by decide) rfl) hS (lv_sub hl [2, 1, 0, 3] rfl)
      obtain ⟨n29, h⟩ := h
      refine lp29 _ ?_ n29 _ _ _ _ _ _ ls h (hP.sub (ws' := md_v a0 q u_8) [0, 1, 2, 3, 4, 5, 6, 7] rfl) (hD.sub (ws' := md_v a0 q u_8) [0, 1, 2, 3, 4, 5, 6, 7] (by decide) rfl) hS (lv_sub hl [3, 1, 0, 2] rfl)
      · intro t0 z1 z2 z3 H locs ls h hP hD hS hl
        try dsimp only at h
        have hP : va_P D vwCl [((a0 0), .inr (6, [.ref (a0 1), .ref (a0 2), .int (t0.1 0), .ref (a0 3), .ref (a0 5), .ref (a0 4), .long t0.2.1, .int (t0.1 1), .int (t0.1 2), .ref (a0 6), .int (t0.1 3), .int (t0.1 4), .ref (a0 7), .int (t0.1 5), .int (t0.1 6), .int (t0.1 7), .int (t0.1 8), .int (t0.1 9), .int (t0.1 10), .int (t0.1 11), .int (t0.1 12), .int (t0.1 13), .int (t0.1 14)])), ((a0 1), .inl (q 1, 6896, .inr (.inl (t0.2.2.1 0)))), ((a0 2), .inl (q 1, 68960, .inr (.inl (t0.2.2.1 1)))), ((a0 3), .inl (q 1, 13792, .inr (.inl (t0.2.2.1 2)))), ((a0 4), .inl (q 1, 6896, .inr (.inl (t0.2.2.1 3)))), ((a0 5), .inl (q 3, 2, .inl (t0.2.2.2 0))), ((a0 6), .inl (q 0, 40, .inl (t0.2.2.2 1))), ((a0 7), .inl (q 2, 400, .inl (t0.2.2.2 2)))] H := hP
        have hD : va_D _ [((a0 0), .inr (6, [.ref (a0 1), .ref (a0 2), .int (t0.1 0), .ref (a0 3), .ref (a0 5), .ref (a0 4), .long t0.2.1, .int (t0.1 1), .int (t0.1 2), .ref (a0 6), .int (t0.1 3), .int (t0.1 4), .ref (a0 7), .int (t0.1 5), .int (t0.1 6), .int (t0.1 7), .int (t0.1 8), .int (t0.1 9), .int (t0.1 10), .int (t0.1 11), .int (t0.1 12), .int (t0.1 13), .int (t0.1 14)])), ((a0 1), .inl (q 1, 6896, .inr (.inl (t0.2.2.1 0)))), ((a0 2), .inl (q 1, 68960, .inr (.inl (t0.2.2.1 1)))), ((a0 3), .inl (q 1, 13792, .inr (.inl (t0.2.2.1 2)))), ((a0 4), .inl (q 1, 6896, .inr (.inl (t0.2.2.1 3)))), ((a0 5), .inl (q 3, 2, .inl (t0.2.2.2 0))), ((a0 6), .inl (q 0, 40, .inl (t0.2.2.2 1))), ((a0 7), .inl (q 2, 400, .inl (t0.2.2.2 2)))] := hD
        refine lv_iload_n hx hb dX7_tick_47 rfl (lv_at hl 1 rfl) ?_
        exact mt_iret t0 hx hb hr hk h (hP.sub (ws' := md_v a0 q t0) [0, 1, 2, 3, 4, 5, 6, 7] rfl) (hD.sub (ws' := md_v a0 q t0) [0, 1, 2, 3, 4, 5, 6, 7] (by decide) rfl) hS dX7_tick_48
    · replace h := h.2 c_6
      refine lv_iconst (v := (-1)) hx hb dX7_tick_19 (by decide) ?_
      exact mt_iret s0 hx hb hr hk h (hP.sub (ws' := md_v a0 q s0) [0, 1, 2, 3, 4, 5, 6, 7] rfl) (hD.sub (ws' := md_v a0 q s0) [0, 1, 2, 3, 4, 5, 6, 7] (by decide) rfl) hS dX7_tick_20

def wp_X7_settles_L2 (post : Int32 → Md → Prop) (e15 : Md → Int32 → Prop) : Nat → Md → Int32 → Prop
  | 0, _, _ => False
  | n2 + 1, t0, z1 => wp_X7_ticks (fun r_1 u_2 => ((r_1 ≤ 0 → e15 u_2 z1) ∧ (¬ r_1 ≤ 0 → wp_X7_settles_L2 post e15 n2 u_2 (z1 + 1)))) t0
def wp_X7_settles (post : Int32 → Md → Prop) (s0 : Md) : Prop := (∃ n2, wp_X7_settles_L2 post (fun t0 z1 => post z1 t0) n2 s0 0)
set_option maxHeartbeats 4000000 in
set_option maxRecDepth 100000 in
theorem c2_X7_settles {l : Launch} {D : va_G} {q : Nat → ClassId} {sz : Nat} {a0 : Nat → Nat} {s0 : Md} {post : Int32 → Md → Prop} (h : wp_X7_settles post s0) : Met l yX7_settles (Cond.code yX7_settles cX7_settles 2 (some .int) :: w_all) ({ frames := 5, cells := 0, slots := 0, locals := 110 } : Room) (mt_P D q [.ref (a0 0)] (md_v a0 q s0) sz) (va_Qi (fun r (u : Md) => post r u) (mt_B D (md_v a0 q s0) sz (fun u : Md => md_v a0 q u)) (va_A (md_v a0 q s0) sz)) 0 0 (va_A (md_v a0 q s0) sz) := by
  refine mt_start (by decide) (Nat.le_of_ble_eq_true rfl) ?_
  intro p e s m below meth c ls hx hb hr hml hown ht hk hin hP hQ hD hA hS hV hl
  have hK := hQ.1
  have hown : s.vm.findClass RX7 = some m.cls := hown
  have hl : lv_has ls 2 [(0, .ref (a0 0))] := hl
  have hP : va_P D vwCl [((a0 0), .inr (6, [.ref (a0 1), .ref (a0 2), .int (s0.1 0), .ref (a0 3), .ref (a0 5), .ref (a0 4), .long s0.2.1, .int (s0.1 1), .int (s0.1 2), .ref (a0 6), .int (s0.1 3), .int (s0.1 4), .ref (a0 7), .int (s0.1 5), .int (s0.1 6), .int (s0.1 7), .int (s0.1 8), .int (s0.1 9), .int (s0.1 10), .int (s0.1 11), .int (s0.1 12), .int (s0.1 13), .int (s0.1 14)])), ((a0 1), .inl (q 1, 6896, .inr (.inl (s0.2.2.1 0)))), ((a0 2), .inl (q 1, 68960, .inr (.inl (s0.2.2.1 1)))), ((a0 3), .inl (q 1, 13792, .inr (.inl (s0.2.2.1 2)))), ((a0 4), .inl (q 1, 6896, .inr (.inl (s0.2.2.1 3)))), ((a0 5), .inl (q 3, 2, .inl (s0.2.2.2 0))), ((a0 6), .inl (q 0, 40, .inl (s0.2.2.2 1))), ((a0 7), .inl (q 2, 400, .inl (s0.2.2.2 2)))] s.heap := hP
  have hD : va_D _ [((a0 0), .inr (6, [.ref (a0 1), .ref (a0 2), .int (s0.1 0), .ref (a0 3), .ref (a0 5), .ref (a0 4), .long s0.2.1, .int (s0.1 1), .int (s0.1 2), .ref (a0 6), .int (s0.1 3), .int (s0.1 4), .ref (a0 7), .int (s0.1 5), .int (s0.1 6), .int (s0.1 7), .int (s0.1 8), .int (s0.1 9), .int (s0.1 10), .int (s0.1 11), .int (s0.1 12), .int (s0.1 13), .int (s0.1 14)])), ((a0 1), .inl (q 1, 6896, .inr (.inl (s0.2.2.1 0)))), ((a0 2), .inl (q 1, 68960, .inr (.inl (s0.2.2.1 1)))), ((a0 3), .inl (q 1, 13792, .inr (.inl (s0.2.2.1 2)))), ((a0 4), .inl (q 1, 6896, .inr (.inl (s0.2.2.1 3)))), ((a0 5), .inl (q 3, 2, .inl (s0.2.2.2 0))), ((a0 6), .inl (q 0, 40, .inl (s0.2.2.2 1))), ((a0 7), .inl (q 2, 400, .inl (s0.2.2.2 2)))] := hD
  unfold wp_X7_settles at h
  refine lv_iconst (v := 0) hx hb dX7_settles_0 (by decide) ?_
  refine lv_istore_n (lv' := [(1, .int 0), (0, .ref (a0 0))]) hx hb dX7_settles_1 rfl hl (by decide) rfl (fun ls hl => ?_)
  have lp2 : ∀ (e15 : Md → Int32 → Prop) (k15 : ∀ (t0 : Md) (z1 : Int32) (H : Heap) (locs : List Loc) (ls : Array Slot), e15 t0 z1 → va_P D vwCl (md_v a0 q t0) H → va_D (va_A (md_v a0 q s0) sz) (md_v a0 q t0) → va_S (va_A (md_v a0 q s0) sz) s.heap H locs → lv_has ls 2 [(1, .int z1), (0, .ref (a0 0))] → W p l e ({ frames := 5, cells := 0, slots := 0, locals := 110 } : Room) s m [.ref (a0 0)].toArray below meth c H locs 0 0 (MQ below (va_Qi (fun r (u : Md) => post r u) (mt_B D (md_v a0 q s0) sz (fun u : Md => md_v a0 q u)) (va_A (md_v a0 q s0) sz)) [.ref (a0 0)].toArray s 0 0 (va_A (md_v a0 q s0) sz)) (F0 m 15 ls [])) (n : Nat) (t0 : Md) (z1 : Int32) (H : Heap) (locs : List Loc) (ls : Array Slot), wp_X7_settles_L2 post e15 n t0 z1 → va_P D vwCl (md_v a0 q t0) H → va_D (va_A (md_v a0 q s0) sz) (md_v a0 q t0) → va_S (va_A (md_v a0 q s0) sz) s.heap H locs → lv_has ls 2 [(1, .int z1), (0, .ref (a0 0))] → W p l e ({ frames := 5, cells := 0, slots := 0, locals := 110 } : Room) s m [.ref (a0 0)].toArray below meth c H locs 0 0 (MQ below (va_Qi (fun r (u : Md) => post r u) (mt_B D (md_v a0 q s0) sz (fun u : Md => md_v a0 q u)) (va_A (md_v a0 q s0) sz)) [.ref (a0 0)].toArray s 0 0 (va_A (md_v a0 q s0) sz)) (F0 m 2 ls []) := by
    intro e15 k15 n
    induction n with
    | zero =>
      intro t0 z1 H locs ls h
      exact h.elim
    | succ n ih =>
      intro t0 z1 H locs ls h hP hD hS hl
      have hP : va_P D vwCl [((a0 0), .inr (6, [.ref (a0 1), .ref (a0 2), .int (t0.1 0), .ref (a0 3), .ref (a0 5), .ref (a0 4), .long t0.2.1, .int (t0.1 1), .int (t0.1 2), .ref (a0 6), .int (t0.1 3), .int (t0.1 4), .ref (a0 7), .int (t0.1 5), .int (t0.1 6), .int (t0.1 7), .int (t0.1 8), .int (t0.1 9), .int (t0.1 10), .int (t0.1 11), .int (t0.1 12), .int (t0.1 13), .int (t0.1 14)])), ((a0 1), .inl (q 1, 6896, .inr (.inl (t0.2.2.1 0)))), ((a0 2), .inl (q 1, 68960, .inr (.inl (t0.2.2.1 1)))), ((a0 3), .inl (q 1, 13792, .inr (.inl (t0.2.2.1 2)))), ((a0 4), .inl (q 1, 6896, .inr (.inl (t0.2.2.1 3)))), ((a0 5), .inl (q 3, 2, .inl (t0.2.2.2 0))), ((a0 6), .inl (q 0, 40, .inl (t0.2.2.2 1))), ((a0 7), .inl (q 2, 400, .inl (t0.2.2.2 2)))] H := hP
      have hD : va_D _ [((a0 0), .inr (6, [.ref (a0 1), .ref (a0 2), .int (t0.1 0), .ref (a0 3), .ref (a0 5), .ref (a0 4), .long t0.2.1, .int (t0.1 1), .int (t0.1 2), .ref (a0 6), .int (t0.1 3), .int (t0.1 4), .ref (a0 7), .int (t0.1 5), .int (t0.1 6), .int (t0.1 7), .int (t0.1 8), .int (t0.1 9), .int (t0.1 10), .int (t0.1 11), .int (t0.1 12), .int (t0.1 13), .int (t0.1 14)])), ((a0 1), .inl (q 1, 6896, .inr (.inl (t0.2.2.1 0)))), ((a0 2), .inl (q 1, 68960, .inr (.inl (t0.2.2.1 1)))), ((a0 3), .inl (q 1, 13792, .inr (.inl (t0.2.2.1 2)))), ((a0 4), .inl (q 1, 6896, .inr (.inl (t0.2.2.1 3)))), ((a0 5), .inl (q 3, 2, .inl (t0.2.2.2 0))), ((a0 6), .inl (q 0, 40, .inl (t0.2.2.2 1))), ((a0 7), .inl (q 2, 400, .inl (t0.2.2.2 2)))] := hD
      unfold wp_X7_settles_L2 at h
      refine lv_aload_n hx hb dX7_settles_2 rfl (lv_at hl 1 rfl) ?_
      refine mt_goi (mt_wV (wc := md_v a0 q t0) (As := []) (rest := []) hx hb hml hown ht (c2_X7_ticks h) wd_X7_ticks mw_1304 hQ hV hS hA (hP.sub [0, 1, 2, 3, 4, 5, 6, 7] rfl) (hD.sub [0, 1, 2, 3, 4, 5, 6, 7] (by decide) rfl) rfl rfl rfl hl.1 rfl (Nat.le_of_ble_eq_true rfl) dX7_settles_3 ⟨Nat.le_of_ble_eq_true rfl, Nat.le_of_ble_eq_true rfl, rfl, rfl⟩ ⟨Nat.le_of_ble_eq_true rfl, Nat.le_of_ble_eq_true rfl⟩) (wr := []) hP hD hS hA [0, 1, 2, 3, 4, 5, 6, 7] [] rfl rfl (by decide) (by decide) (fun r_1 u_2 H locs h hP hD hS => ?_)
      try dsimp only at h
      have hP : va_P D vwCl [((a0 0), .inr (6, [.ref (a0 1), .ref (a0 2), .int (u_2.1 0), .ref (a0 3), .ref (a0 5), .ref (a0 4), .long u_2.2.1, .int (u_2.1 1), .int (u_2.1 2), .ref (a0 6), .int (u_2.1 3), .int (u_2.1 4), .ref (a0 7), .int (u_2.1 5), .int (u_2.1 6), .int (u_2.1 7), .int (u_2.1 8), .int (u_2.1 9), .int (u_2.1 10), .int (u_2.1 11), .int (u_2.1 12), .int (u_2.1 13), .int (u_2.1 14)])), ((a0 1), .inl (q 1, 6896, .inr (.inl (u_2.2.2.1 0)))), ((a0 2), .inl (q 1, 68960, .inr (.inl (u_2.2.2.1 1)))), ((a0 3), .inl (q 1, 13792, .inr (.inl (u_2.2.2.1 2)))), ((a0 4), .inl (q 1, 6896, .inr (.inl (u_2.2.2.1 3)))), ((a0 5), .inl (q 3, 2, .inl (u_2.2.2.2 0))), ((a0 6), .inl (q 0, 40, .inl (u_2.2.2.2 1))), ((a0 7), .inl (q 2, 400, .inl (u_2.2.2.2 2)))] H := hP
      have hD : va_D _ [((a0 0), .inr (6, [.ref (a0 1), .ref (a0 2), .int (u_2.1 0), .ref (a0 3), .ref (a0 5), .ref (a0 4), .long u_2.2.1, .int (u_2.1 1), .int (u_2.1 2), .ref (a0 6), .int (u_2.1 3), .int (u_2.1 4), .ref (a0 7), .int (u_2.1 5), .int (u_2.1 6), .int (u_2.1 7), .int (u_2.1 8), .int (u_2.1 9), .int (u_2.1 10), .int (u_2.1 11), .int (u_2.1 12), .int (u_2.1 13), .int (u_2.1 14)])), ((a0 1), .inl (q 1, 6896, .inr (.inl (u_2.2.2.1 0)))), ((a0 2), .inl (q 1, 68960, .inr (.inl (u_2.2.2.1 1)))), ((a0 3), .inl (q 1, 13792, .inr (.inl (u_2.2.2.1 2)))), ((a0 4), .inl (q 1, 6896, .inr (.inl (u_2.2.2.1 3)))), ((a0 5), .inl (q 3, 2, .inl (u_2.2.2.2 0))), ((a0 6), .inl (q 0, 40, .inl (u_2.2.2.2 1))), ((a0 7), .inl (q 2, 400, .inl (u_2.2.2.2 2)))] := hD
      refine lv_if_le (tgt := 15) hx hb dX7_settles_6 (by decide) (fun c_3 => ?_) (fun c_3 => ?_)
      · replace h := h.1 c_3
        exact k15 _ _ _ _ ls h (hP.sub (ws' := md_v a0 q u_2) [0, 1, 2, 3, 4, 5, 6, 7] rfl) (hD.sub (ws' := md_v a0 q u_2) [0, 1, 2, 3, 4, 5, 6, 7] (by decide) rfl) hS (lv_sub hl [0, 1] rfl)
      · replace h := h.2 c_3
        refine lv_iinc (v := (z1 + 1)) (lv' := [(1, .int (z1 + 1)), (0, .ref (a0 0))]) hx hb dX7_settles_9 hl (k := 0) rfl rfl (by decide) rfl (fun ls hl => ?_)
        refine lv_goto (tgt := 2) hx hb dX7_settles_12 (by decide) ?_
        exact ih _ _ _ _ ls h (hP.sub (ws' := md_v a0 q u_2) [0, 1, 2, 3, 4, 5, 6, 7] rfl) (hD.sub (ws' := md_v a0 q u_2) [0, 1, 2, 3, 4, 5, 6, 7] (by decide) rfl) hS (lv_sub hl [0, 1] rfl)
  obtain ⟨n2, h⟩ := h
  refine lp2 _ ?_ n2 _ _ _ _ ls h (hP.sub (ws' := md_v a0 q s0) [0, 1, 2, 3, 4, 5, 6, 7] rfl) (hD.sub (ws' := md_v a0 q s0) [0, 1, 2, 3, 4, 5, 6, 7] (by decide) rfl) hS (lv_sub hl [0, 1] rfl)
  · intro t0 z1 H locs ls h hP hD hS hl
    try dsimp only at h
    have hP : va_P D vwCl [((a0 0), .inr (6, [.ref (a0 1), .ref (a0 2), .int (t0.1 0), .ref (a0 3), .ref (a0 5), .ref (a0 4), .long t0.2.1, .int (t0.1 1), .int (t0.1 2), .ref (a0 6), .int (t0.1 3), .int (t0.1 4), .ref (a0 7), .int (t0.1 5), .int (t0.1 6), .int (t0.1 7), .int (t0.1 8), .int (t0.1 9), .int (t0.1 10), .int (t0.1 11), .int (t0.1 12), .int (t0.1 13), .int (t0.1 14)])), ((a0 1), .inl (q 1, 6896, .inr (.inl (t0.2.2.1 0)))), ((a0 2), .inl (q 1, 68960, .inr (.inl (t0.2.2.1 1)))), ((a0 3), .inl (q 1, 13792, .inr (.inl (t0.2.2.1 2)))), ((a0 4), .inl (q 1, 6896, .inr (.inl (t0.2.2.1 3)))), ((a0 5), .inl (q 3, 2, .inl (t0.2.2.2 0))), ((a0 6), .inl (q 0, 40, .inl (t0.2.2.2 1))), ((a0 7), .inl (q 2, 400, .inl (t0.2.2.2 2)))] H := hP
    have hD : va_D _ [((a0 0), .inr (6, [.ref (a0 1), .ref (a0 2), .int (t0.1 0), .ref (a0 3), .ref (a0 5), .ref (a0 4), .long t0.2.1, .int (t0.1 1), .int (t0.1 2), .ref (a0 6), .int (t0.1 3), .int (t0.1 4), .ref (a0 7), .int (t0.1 5), .int (t0.1 6), .int (t0.1 7), .int (t0.1 8), .int (t0.1 9), .int (t0.1 10), .int (t0.1 11), .int (t0.1 12), .int (t0.1 13), .int (t0.1 14)])), ((a0 1), .inl (q 1, 6896, .inr (.inl (t0.2.2.1 0)))), ((a0 2), .inl (q 1, 68960, .inr (.inl (t0.2.2.1 1)))), ((a0 3), .inl (q 1, 13792, .inr (.inl (t0.2.2.1 2)))), ((a0 4), .inl (q 1, 6896, .inr (.inl (t0.2.2.1 3)))), ((a0 5), .inl (q 3, 2, .inl (t0.2.2.2 0))), ((a0 6), .inl (q 0, 40, .inl (t0.2.2.2 1))), ((a0 7), .inl (q 2, 400, .inl (t0.2.2.2 2)))] := hD
    refine lv_iload_n hx hb dX7_settles_15 rfl (lv_at hl 0 rfl) ?_
    exact mt_iret t0 hx hb hr hk h (hP.sub (ws' := md_v a0 q t0) [0, 1, 2, 3, 4, 5, 6, 7] rfl) (hD.sub (ws' := md_v a0 q t0) [0, 1, 2, 3, 4, 5, 6, 7] (by decide) rfl) hS dX7_settles_16
