def wp_X7_putsAside_L2 (post : Md → Prop) (e27 : Md → Int32 → Prop) : Nat → Md → Int32 → Prop
  | 0, _, _ => False
  | n2 + 1, t0, z1 => ((6896 ≤ z1 → e27 t0 z1) ∧ (¬ 6896 ≤ z1 → vp_in z1 6896 ∧ vp_in z1 6896 ∧ wp_X7_putsAside_L2 post e27 n2 (t0.1, t0.2.1, (va_up t0.2.2.1 3 (vp_updL (t0.2.2.1 3) (Int32.toNatClampNeg z1) ((t0.2.2.1 0) (Int32.toNatClampNeg z1)))), t0.2.2.2) (z1 + 1)))
def wp_X7_putsAside (post : Md → Prop) (s0 : Md) : Prop := (∃ n2, wp_X7_putsAside_L2 post (fun t0 z1 => post t0) n2 s0 0)
set_option maxHeartbeats 4000000 in
set_option maxRecDepth 100000 in
theorem c2_X7_putsAside {l : Launch} {D : va_G} {q : Nat → ClassId} {sz : Nat} {a0 : Nat → Nat} {s0 : Md} {post : Md → Prop} (h : wp_X7_putsAside post s0) : Met l yX7_putsAside (Cond.code yX7_putsAside cX7_putsAside 2 none :: w_all) ({ frames := 0, cells := 0, slots := 0, locals := 0 } : Room) (mt_P D q [.ref (a0 0)] (md_v a0 q s0) sz) (va_Qv (fun u : Md => post u) (mt_B D (md_v a0 q s0) sz (fun u : Md => md_v a0 q u)) (va_A (md_v a0 q s0) sz)) 0 0 (va_A (md_v a0 q s0) sz) := by
  refine mt_start (by decide) (Nat.le_of_ble_eq_true rfl) ?_
  intro p e s m below meth c ls hx hb hr hml hown ht hk hin hP hQ hD hA hS hV hl
  have hK := hQ.1
  have hown : s.vm.findClass RX7 = some m.cls := hown
  have hl : lv_has ls 2 [(0, .ref (a0 0))] := hl
  have hP : va_P D vwCl [((a0 0), .inr (6, [.ref (a0 1), .ref (a0 2), .int (s0.1 0), .ref (a0 3), .ref (a0 5), .ref (a0 4), .long s0.2.1, .int (s0.1 1), .int (s0.1 2), .ref (a0 6), .int (s0.1 3), .int (s0.1 4), .ref (a0 7), .int (s0.1 5), .int (s0.1 6), .int (s0.1 7), .int (s0.1 8), .int (s0.1 9), .int (s0.1 10), .int (s0.1 11), .int (s0.1 12), .int (s0.1 13), .int (s0.1 14)])), ((a0 1), .inl (q 1, 6896, .inr (.inl (s0.2.2.1 0)))), ((a0 2), .inl (q 1, 68960, .inr (.inl (s0.2.2.1 1)))), ((a0 3), .inl (q 1, 13792, .inr (.inl (s0.2.2.1 2)))), ((a0 4), .inl (q 1, 6896, .inr (.inl (s0.2.2.1 3)))), ((a0 5), .inl (q 3, 2, .inl (s0.2.2.2 0))), ((a0 6), .inl (q 0, 40, .inl (s0.2.2.2 1))), ((a0 7), .inl (q 2, 400, .inl (s0.2.2.2 2)))] s.heap := hP
  have hD : va_D _ [((a0 0), .inr (6, [.ref (a0 1), .ref (a0 2), .int (s0.1 0), .ref (a0 3), .ref (a0 5), .ref (a0 4), .long s0.2.1, .int (s0.1 1), .int (s0.1 2), .ref (a0 6), .int (s0.1 3), .int (s0.1 4), .ref (a0 7), .int (s0.1 5), .int (s0.1 6), .int (s0.1 7), .int (s0.1 8), .int (s0.1 9), .int (s0.1 10), .int (s0.1 11), .int (s0.1 12), .int (s0.1 13), .int (s0.1 14)])), ((a0 1), .inl (q 1, 6896, .inr (.inl (s0.2.2.1 0)))), ((a0 2), .inl (q 1, 68960, .inr (.inl (s0.2.2.1 1)))), ((a0 3), .inl (q 1, 13792, .inr (.inl (s0.2.2.1 2)))), ((a0 4), .inl (q 1, 6896, .inr (.inl (s0.2.2.1 3)))), ((a0 5), .inl (q 3, 2, .inl (s0.2.2.2 0))), ((a0 6), .inl (q 0, 40, .inl (s0.2.2.2 1))), ((a0 7), .inl (q 2, 400, .inl (s0.2.2.2 2)))] := hD
  unfold wp_X7_putsAside at h
  refine lv_iconst (v := 0) hx hb dX7_putsAside_0 (by decide) ?_
  refine lv_istore_n (lv' := [(1, .int 0), (0, .ref (a0 0))]) hx hb dX7_putsAside_1 rfl hl (by decide) rfl (fun ls hl => ?_)
  have lp2 : ∀ (e27 : Md → Int32 → Prop) (k27 : ∀ (t0 : Md) (z1 : Int32) (H : Heap) (locs : List Loc) (ls : Array Slot), e27 t0 z1 → va_P D vwCl (md_v a0 q t0) H → va_D (va_A (md_v a0 q s0) sz) (md_v a0 q t0) → va_S (va_A (md_v a0 q s0) sz) s.heap H locs → lv_has ls 2 [(1, .int z1), (0, .ref (a0 0))] → W p l e ({ frames := 0, cells := 0, slots := 0, locals := 0 } : Room) s m [.ref (a0 0)].toArray below meth c H locs 0 0 (MQ below (va_Qv (fun u : Md => post u) (mt_B D (md_v a0 q s0) sz (fun u : Md => md_v a0 q u)) (va_A (md_v a0 q s0) sz)) [.ref (a0 0)].toArray s 0 0 (va_A (md_v a0 q s0) sz)) (F0 m 27 ls [])) (n : Nat) (t0 : Md) (z1 : Int32) (H : Heap) (locs : List Loc) (ls : Array Slot), wp_X7_putsAside_L2 post e27 n t0 z1 → va_P D vwCl (md_v a0 q t0) H → va_D (va_A (md_v a0 q s0) sz) (md_v a0 q t0) → va_S (va_A (md_v a0 q s0) sz) s.heap H locs → lv_has ls 2 [(1, .int z1), (0, .ref (a0 0))] → W p l e ({ frames := 0, cells := 0, slots := 0, locals := 0 } : Room) s m [.ref (a0 0)].toArray below meth c H locs 0 0 (MQ below (va_Qv (fun u : Md => post u) (mt_B D (md_v a0 q s0) sz (fun u : Md => md_v a0 q u)) (va_A (md_v a0 q s0) sz)) [.ref (a0 0)].toArray s 0 0 (va_A (md_v a0 q s0) sz)) (F0 m 2 ls []) := by
    intro e27 k27 n
    induction n with
    | zero =>
      intro t0 z1 H locs ls h
      exact h.elim
    | succ n ih =>
      intro t0 z1 H locs ls h hP hD hS hl
      have hP : va_P D vwCl [((a0 0), .inr (6, [.ref (a0 1), .ref (a0 2), .int (t0.1 0), .ref (a0 3), .ref (a0 5), .ref (a0 4), .long t0.2.1, .int (t0.1 1), .int (t0.1 2), .ref (a0 6), .int (t0.1 3), .int (t0.1 4), .ref (a0 7), .int (t0.1 5), .int (t0.1 6), .int (t0.1 7), .int (t0.1 8), .int (t0.1 9), .int (t0.1 10), .int (t0.1 11), .int (t0.1 12), .int (t0.1 13), .int (t0.1 14)])), ((a0 1), .inl (q 1, 6896, .inr (.inl (t0.2.2.1 0)))), ((a0 2), .inl (q 1, 68960, .inr (.inl (t0.2.2.1 1)))), ((a0 3), .inl (q 1, 13792, .inr (.inl (t0.2.2.1 2)))), ((a0 4), .inl (q 1, 6896, .inr (.inl (t0.2.2.1 3)))), ((a0 5), .inl (q 3, 2, .inl (t0.2.2.2 0))), ((a0 6), .inl (q 0, 40, .inl (t0.2.2.2 1))), ((a0 7), .inl (q 2, 400, .inl (t0.2.2.2 2)))] H := hP
      have hD : va_D _ [((a0 0), .inr (6, [.ref (a0 1), .ref (a0 2), .int (t0.1 0), .ref (a0 3), .ref (a0 5), .ref (a0 4), .long t0.2.1, .int (t0.1 1), .int (t0.1 2), .ref (a0 6), .int (t0.1 3), .int (t0.1 4), .ref (a0 7), .int (t0.1 5), .int (t0.1 6), .int (t0.1 7), .int (t0.1 8), .int (t0.1 9), .int (t0.1 10), .int (t0.1 11), .int (t0.1 12), .int (t0.1 13), .int (t0.1 14)])), ((a0 1), .inl (q 1, 6896, .inr (.inl (t0.2.2.1 0)))), ((a0 2), .inl (q 1, 68960, .inr (.inl (t0.2.2.1 1)))), ((a0 3), .inl (q 1, 13792, .inr (.inl (t0.2.2.1 2)))), ((a0 4), .inl (q 1, 6896, .inr (.inl (t0.2.2.1 3)))), ((a0 5), .inl (q 3, 2, .inl (t0.2.2.2 0))), ((a0 6), .inl (q 0, 40, .inl (t0.2.2.2 1))), ((a0 7), .inl (q 2, 400, .inl (t0.2.2.2 2)))] := hD
      unfold wp_X7_putsAside_L2 at h
      refine lv_iload_n hx hb dX7_putsAside_2 rfl (lv_at hl 0 rfl) ?_
      refine lv_sipush (v := 6896) hx hb dX7_putsAside_3 (by decide) ?_
      refine lv_icmp_ge (tgt := 27) hx hb dX7_putsAside_6 (by decide) (fun c_1 => ?_) (fun c_1 => ?_)
      · replace h := h.1 c_1
        exact k27 _ _ _ _ ls h (hP.sub (ws' := md_v a0 q t0) [0, 1, 2, 3, 4, 5, 6, 7] rfl) (hD.sub (ws' := md_v a0 q t0) [0, 1, 2, 3, 4, 5, 6, 7] (by decide) rfl) hS (lv_sub hl [0, 1] rfl)
      · replace h := h.2 c_1
        refine lv_aload_n hx hb dX7_putsAside_9 rfl (lv_at hl 1 rfl) ?_
        refine fl_get (C := RX7) (T := TX7) (N := 23) (ci := 6) (v := .ref (a0 4)) hx hb ht in_X7 hown hK hP 0 rfl rfl 5 (by decide) mw_1135 rfl dX7_putsAside_10 ?_
        refine lv_iload_n hx hb dX7_putsAside_13 rfl (lv_at hl 0 rfl) ?_
        refine lv_aload_n hx hb dX7_putsAside_14 rfl (lv_at hl 1 rfl) ?_
        refine fl_get (C := RX7) (T := TX7) (N := 23) (ci := 6) (v := .ref (a0 1)) hx hb ht in_X7 hown hK hP 0 rfl rfl 0 (by decide) mw_1130 rfl dX7_putsAside_15 ?_
        refine lv_iload_n hx hb dX7_putsAside_18 rfl (lv_at hl 0 rfl) ?_
        obtain ⟨g_2, h⟩ := h
        refine va_lald hx hb hK hP 1 1 rfl rfl g_2 dX7_putsAside_19 ?_
        obtain ⟨g_3, h⟩ := h
        refine va_last hx hb hK hP hD hS 4 1 rfl rfl g_3 dX7_putsAside_20 (fun H locs hP hD hS => ?_)
        have hP : va_P D vwCl [((a0 0), .inr (6, [.ref (a0 1), .ref (a0 2), .int (t0.1 0), .ref (a0 3), .ref (a0 5), .ref (a0 4), .long t0.2.1, .int (t0.1 1), .int (t0.1 2), .ref (a0 6), .int (t0.1 3), .int (t0.1 4), .ref (a0 7), .int (t0.1 5), .int (t0.1 6), .int (t0.1 7), .int (t0.1 8), .int (t0.1 9), .int (t0.1 10), .int (t0.1 11), .int (t0.1 12), .int (t0.1 13), .int (t0.1 14)])), ((a0 1), .inl (q 1, 6896, .inr (.inl (t0.2.2.1 0)))), ((a0 2), .inl (q 1, 68960, .inr (.inl (t0.2.2.1 1)))), ((a0 3), .inl (q 1, 13792, .inr (.inl (t0.2.2.1 2)))), ((a0 4), .inl (q 1, 6896, .inr (.inl (vp_updL (t0.2.2.1 3) (Int32.toNatClampNeg z1) ((t0.2.2.1 0) (Int32.toNatClampNeg z1)))))), ((a0 5), .inl (q 3, 2, .inl (t0.2.2.2 0))), ((a0 6), .inl (q 0, 40, .inl (t0.2.2.2 1))), ((a0 7), .inl (q 2, 400, .inl (t0.2.2.2 2)))] H := hP
        have hD : va_D _ [((a0 0), .inr (6, [.ref (a0 1), .ref (a0 2), .int (t0.1 0), .ref (a0 3), .ref (a0 5), .ref (a0 4), .long t0.2.1, .int (t0.1 1), .int (t0.1 2), .ref (a0 6), .int (t0.1 3), .int (t0.1 4), .ref (a0 7), .int (t0.1 5), .int (t0.1 6), .int (t0.1 7), .int (t0.1 8), .int (t0.1 9), .int (t0.1 10), .int (t0.1 11), .int (t0.1 12), .int (t0.1 13), .int (t0.1 14)])), ((a0 1), .inl (q 1, 6896, .inr (.inl (t0.2.2.1 0)))), ((a0 2), .inl (q 1, 68960, .inr (.inl (t0.2.2.1 1)))), ((a0 3), .inl (q 1, 13792, .inr (.inl (t0.2.2.1 2)))), ((a0 4), .inl (q 1, 6896, .inr (.inl (vp_updL (t0.2.2.1 3) (Int32.toNatClampNeg z1) ((t0.2.2.1 0) (Int32.toNatClampNeg z1)))))), ((a0 5), .inl (q 3, 2, .inl (t0.2.2.2 0))), ((a0 6), .inl (q 0, 40, .inl (t0.2.2.2 1))), ((a0 7), .inl (q 2, 400, .inl (t0.2.2.2 2)))] := hD
        refine lv_iinc (v := (z1 + 1)) (lv' := [(1, .int (z1 + 1)), (0, .ref (a0 0))]) hx hb dX7_putsAside_21 hl (k := 0) rfl rfl (by decide) rfl (fun ls hl => ?_)
        refine lv_goto (tgt := 2) hx hb dX7_putsAside_24 (by decide) ?_
        exact ih _ _ _ _ ls h (hP.sub (ws' := md_v a0 q (t0.1, t0.2.1, (va_up t0.2.2.1 3 (vp_updL (t0.2.2.1 3) (Int32.toNatClampNeg z1) ((t0.2.2.1 0) (Int32.toNatClampNeg z1)))), t0.2.2.2)) [0, 1, 2, 3, 4, 5, 6, 7] rfl) (hD.sub (ws' := md_v a0 q (t0.1, t0.2.1, (va_up t0.2.2.1 3 (vp_updL (t0.2.2.1 3) (Int32.toNatClampNeg z1) ((t0.2.2.1 0) (Int32.toNatClampNeg z1)))), t0.2.2.2)) [0, 1, 2, 3, 4, 5, 6, 7] (by decide) rfl) hS (lv_sub hl [0, 1] rfl)
  obtain ⟨n2, h⟩ := h
  refine lp2 _ ?_ n2 _ _ _ _ ls h (hP.sub (ws' := md_v a0 q s0) [0, 1, 2, 3, 4, 5, 6, 7] rfl) (hD.sub (ws' := md_v a0 q s0) [0, 1, 2, 3, 4, 5, 6, 7] (by decide) rfl) hS (lv_sub hl [0, 1] rfl)
  · intro t0 z1 H locs ls h hP hD hS hl
    try dsimp only at h
    have hP : va_P D vwCl [((a0 0), .inr (6, [.ref (a0 1), .ref (a0 2), .int (t0.1 0), .ref (a0 3), .ref (a0 5), .ref (a0 4), .long t0.2.1, .int (t0.1 1), .int (t0.1 2), .ref (a0 6), .int (t0.1 3), .int (t0.1 4), .ref (a0 7), .int (t0.1 5), .int (t0.1 6), .int (t0.1 7), .int (t0.1 8), .int (t0.1 9), .int (t0.1 10), .int (t0.1 11), .int (t0.1 12), .int (t0.1 13), .int (t0.1 14)])), ((a0 1), .inl (q 1, 6896, .inr (.inl (t0.2.2.1 0)))), ((a0 2), .inl (q 1, 68960, .inr (.inl (t0.2.2.1 1)))), ((a0 3), .inl (q 1, 13792, .inr (.inl (t0.2.2.1 2)))), ((a0 4), .inl (q 1, 6896, .inr (.inl (t0.2.2.1 3)))), ((a0 5), .inl (q 3, 2, .inl (t0.2.2.2 0))), ((a0 6), .inl (q 0, 40, .inl (t0.2.2.2 1))), ((a0 7), .inl (q 2, 400, .inl (t0.2.2.2 2)))] H := hP
    have hD : va_D _ [((a0 0), .inr (6, [.ref (a0 1), .ref (a0 2), .int (t0.1 0), .ref (a0 3), .ref (a0 5), .ref (a0 4), .long t0.2.1, .int (t0.1 1), .int (t0.1 2), .ref (a0 6), .int (t0.1 3), .int (t0.1 4), .ref (a0 7), .int (t0.1 5), .int (t0.1 6), .int (t0.1 7), .int (t0.1 8), .int (t0.1 9), .int (t0.1 10), .int (t0.1 11), .int (t0.1 12), .int (t0.1 13), .int (t0.1 14)])), ((a0 1), .inl (q 1, 6896, .inr (.inl (t0.2.2.1 0)))), ((a0 2), .inl (q 1, 68960, .inr (.inl (t0.2.2.1 1)))), ((a0 3), .inl (q 1, 13792, .inr (.inl (t0.2.2.1 2)))), ((a0 4), .inl (q 1, 6896, .inr (.inl (t0.2.2.1 3)))), ((a0 5), .inl (q 3, 2, .inl (t0.2.2.2 0))), ((a0 6), .inl (q 0, 40, .inl (t0.2.2.2 1))), ((a0 7), .inl (q 2, 400, .inl (t0.2.2.2 2)))] := hD
    exact mt_vret t0 hx hb hr hk h (hP.sub (ws' := md_v a0 q t0) [0, 1, 2, 3, 4, 5, 6, 7] rfl) (hD.sub (ws' := md_v a0 q t0) [0, 1, 2, 3, 4, 5, 6, 7] (by decide) rfl) hS dX7_putsAside_27

def wp_X7_takesBack_L2 (post : Md → Prop) (e27 : Md → Int32 → Prop) : Nat → Md → Int32 → Prop
  | 0, _, _ => False
  | n2 + 1, t0, z1 => ((6896 ≤ z1 → e27 t0 z1) ∧ (¬ 6896 ≤ z1 → vp_in z1 6896 ∧ vp_in z1 6896 ∧ wp_X7_takesBack_L2 post e27 n2 (t0.1, t0.2.1, (va_up t0.2.2.1 0 (vp_updL (t0.2.2.1 0) (Int32.toNatClampNeg z1) ((t0.2.2.1 3) (Int32.toNatClampNeg z1)))), t0.2.2.2) (z1 + 1)))
def wp_X7_takesBack (post : Md → Prop) (s0 : Md) : Prop := (∃ n2, wp_X7_takesBack_L2 post (fun t0 z1 => post t0) n2 s0 0)
set_option maxHeartbeats 4000000 in
set_option maxRecDepth 100000 in
theorem c2_X7_takesBack {l : Launch} {D : va_G} {q : Nat → ClassId} {sz : Nat} {a0 : Nat → Nat} {s0 : Md} {post : Md → Prop} (h : wp_X7_takesBack post s0) : Met l yX7_takesBack (Cond.code yX7_takesBack cX7_takesBack 2 none :: w_all) ({ frames := 0, cells := 0, slots := 0, locals := 0 } : Room) (mt_P D q [.ref (a0 0)] (md_v a0 q s0) sz) (va_Qv (fun u : Md => post u) (mt_B D (md_v a0 q s0) sz (fun u : Md => md_v a0 q u)) (va_A (md_v a0 q s0) sz)) 0 0 (va_A (md_v a0 q s0) sz) := by
  refine mt_start (by decide) (Nat.le_of_ble_eq_true rfl) ?_
  intro p e s m below meth c ls hx hb hr hml hown ht hk hin hP hQ hD hA hS hV hl
  have hK := hQ.1
  have hown : s.vm.findClass RX7 = some m.cls := hown
  have hl : lv_has ls 2 [(0, .ref (a0 0))] := hl
  have hP : va_P D vwCl [((a0 0), .inr (6, [.ref (a0 1), .ref (a0 2), .int (s0.1 0), .ref (a0 3), .ref (a0 5), .ref (a0 4), .long s0.2.1, .int (s0.1 1), .int (s0.1 2), .ref (a0 6), .int (s0.1 3), .int (s0.1 4), .ref (a0 7), .int (s0.1 5), .int (s0.1 6), .int (s0.1 7), .int (s0.1 8), .int (s0.1 9), .int (s0.1 10), .int (s0.1 11), .int (s0.1 12), .int (s0.1 13), .int (s0.1 14)])), ((a0 1), .inl (q 1, 6896, .inr (.inl (s0.2.2.1 0)))), ((a0 2), .inl (q 1, 68960, .inr (.inl (s0.2.2.1 1)))), ((a0 3), .inl (q 1, 13792, .inr (.inl (s0.2.2.1 2)))), ((a0 4), .inl (q 1, 6896, .inr (.inl (s0.2.2.1 3)))), ((a0 5), .inl (q 3, 2, .inl (s0.2.2.2 0))), ((a0 6), .inl (q 0, 40, .inl (s0.2.2.2 1))), ((a0 7), .inl (q 2, 400, .inl (s0.2.2.2 2)))] s.heap := hP
  have hD : va_D _ [((a0 0), .inr (6, [.ref (a0 1), .ref (a0 2), .int (s0.1 0), .ref (a0 3), .ref (a0 5), .ref (a0 4), .long s0.2.1, .int (s0.1 1), .int (s0.1 2), .ref (a0 6), .int (s0.1 3), .int (s0.1 4), .ref (a0 7), .int (s0.1 5), .int (s0.1 6), .int (s0.1 7), .int (s0.1 8), .int (s0.1 9), .int (s0.1 10), .int (s0.1 11), .int (s0.1 12), .int (s0.1 13), .int (s0.1 14)])), ((a0 1), .inl (q 1, 6896, .inr (.inl (s0.2.2.1 0)))), ((a0 2), .inl (q 1, 68960, .inr (.inl (s0.2.2.1 1)))), ((a0 3), .inl (q 1, 13792, .inr (.inl (s0.2.2.1 2)))), ((a0 4), .inl (q 1, 6896, .inr (.inl (s0.2.2.1 3)))), ((a0 5), .inl (q 3, 2, .inl (s0.2.2.2 0))), ((a0 6), .inl (q 0, 40, .inl (s0.2.2.2 1))), ((a0 7), .inl (q 2, 400, .inl (s0.2.2.2 2)))] := hD
  unfold wp_X7_takesBack at h
  refine lv_iconst (v := 0) hx hb dX7_takesBack_0 (by decide) ?_
  refine lv_istore_n (lv' := [(1, .int 0), (0, .ref (a0 0))]) hx hb dX7_takesBack_1 rfl hl (by decide) rfl (fun ls hl => ?_)
  have lp2 : ∀ (e27 : Md → Int32 → Prop) (k27 : ∀ (t0 : Md) (z1 : Int32) (H : Heap) (locs : List Loc) (ls : Array Slot), e27 t0 z1 → va_P D vwCl (md_v a0 q t0) H → va_D (va_A (md_v a0 q s0) sz) (md_v a0 q t0) → va_S (va_A (md_v a0 q s0) sz) s.heap H locs → lv_has ls 2 [(1, .int z1), (0, .ref (a0 0))] → W p l e ({ frames := 0, cells := 0, slots := 0, locals := 0 } : Room) s m [.ref (a0 0)].toArray below meth c H locs 0 0 (MQ below (va_Qv (fun u : Md => post u) (mt_B D (md_v a0 q s0) sz (fun u : Md => md_v a0 q u)) (va_A (md_v a0 q s0) sz)) [.ref (a0 0)].toArray s 0 0 (va_A (md_v a0 q s0) sz)) (F0 m 27 ls [])) (n : Nat) (t0 : Md) (z1 : Int32) (H : Heap) (locs : List Loc) (ls : Array Slot), wp_X7_takesBack_L2 post e27 n t0 z1 → va_P D vwCl (md_v a0 q t0) H → va_D (va_A (md_v a0 q s0) sz) (md_v a0 q t0) → va_S (va_A (md_v a0 q s0) sz) s.heap H locs → lv_has ls 2 [(1, .int z1), (0, .ref (a0 0))] → W p l e ({ frames := 0, cells := 0, slots := 0, locals := 0 } : Room) s m [.ref (a0 0)].toArray below meth c H locs 0 0 (MQ below (va_Qv (fun u : Md => post u) (mt_B D (md_v a0 q s0) sz (fun u : Md => md_v a0 q u)) (va_A (md_v a0 q s0) sz)) [.ref (a0 0)].toArray s 0 0 (va_A (md_v a0 q s0) sz)) (F0 m 2 ls []) := by
    intro e27 k27 n
    induction n with
    | zero =>
      intro t0 z1 H locs ls h
      exact h.elim
    | succ n ih =>
      intro t0 z1 H locs ls h hP hD hS hl
      have hP : va_P D vwCl [((a0 0), .inr (6, [.ref (a0 1), .ref (a0 2), .int (t0.1 0), .ref (a0 3), .ref (a0 5), .ref (a0 4), .long t0.2.1, .int (t0.1 1), .int (t0.1 2), .ref (a0 6), .int (t0.1 3), .int (t0.1 4), .ref (a0 7), .int (t0.1 5), .int (t0.1 6), .int (t0.1 7), .int (t0.1 8), .int (t0.1 9), .int (t0.1 10), .int (t0.1 11), .int (t0.1 12), .int (t0.1 13), .int (t0.1 14)])), ((a0 1), .inl (q 1, 6896, .inr (.inl (t0.2.2.1 0)))), ((a0 2), .inl (q 1, 68960, .inr (.inl (t0.2.2.1 1)))), ((a0 3), .inl (q 1, 13792, .inr (.inl (t0.2.2.1 2)))), ((a0 4), .inl (q 1, 6896, .inr (.inl (t0.2.2.1 3)))), ((a0 5), .inl (q 3, 2, .inl (t0.2.2.2 0))), ((a0 6), .inl (q 0, 40, .inl (t0.2.2.2 1))), ((a0 7), .inl (q 2, 400, .inl (t0.2.2.2 2)))] H := hP
      have hD : va_D _ [((a0 0), .inr (6, [.ref (a0 1), .ref (a0 2), .int (t0.1 0), .ref (a0 3), .ref (a0 5), .ref (a0 4), .long t0.2.1, .int (t0.1 1), .int (t0.1 2), .ref (a0 6), .int (t0.1 3), .int (t0.1 4), .ref (a0 7), .int (t0.1 5), .int (t0.1 6), .int (t0.1 7), .int (t0.1 8), .int (t0.1 9), .int (t0.1 10), .int (t0.1 11), .int (t0.1 12), .int (t0.1 13), .int (t0.1 14)])), ((a0 1), .inl (q 1, 6896, .inr (.inl (t0.2.2.1 0)))), ((a0 2), .inl (q 1, 68960, .inr (.inl (t0.2.2.1 1)))), ((a0 3), .inl (q 1, 13792, .inr (.inl (t0.2.2.1 2)))), ((a0 4), .inl (q 1, 6896, .inr (.inl (t0.2.2.1 3)))), ((a0 5), .inl (q 3, 2, .inl (t0.2.2.2 0))), ((a0 6), .inl (q 0, 40, .inl (t0.2.2.2 1))), ((a0 7), .inl (q 2, 400, .inl (t0.2.2.2 2)))] := hD
      unfold wp_X7_takesBack_L2 at h
      refine lv_iload_n hx hb dX7_takesBack_2 rfl (lv_at hl 0 rfl) ?_
      refine lv_sipush (v := 6896) hx hb dX7_takesBack_3 (by decide) ?_
      refine lv_icmp_ge (tgt := 27) hx hb dX7_takesBack_6 (by decide) (fun c_1 => ?_) (fun c_1 => ?_)
      · replace h := h.1 c_1
        exact k27 _ _ _ _ ls h (hP.sub (ws' := md_v a0 q t0) [0, 1, 2, 3, 4, 5, 6, 7] rfl) (hD.sub (ws' := md_v a0 q t0) [0, 1, 2, 3, 4, 5, 6, 7] (by decide) rfl) hS (lv_sub hl [0, 1] rfl)
      · replace h := h.2 c_1
        refine lv_aload_n hx hb dX7_takesBack_9 rfl (lv_at hl 1 rfl) ?_
        refine fl_get (C := RX7) (T := TX7) (N := 23) (ci := 6) (v := .ref (a0 1)) hx hb ht in_X7 hown hK hP 0 rfl rfl 0 (by decide) mw_1130 rfl dX7_takesBack_10 ?_
        refine lv_iload_n hx hb dX7_takesBack_13 rfl (lv_at hl 0 rfl) ?_
        refine lv_aload_n hx hb dX7_takesBack_14 rfl (lv_at hl 1 rfl) ?_
        refine fl_get (C := RX7) (T := TX7) (N := 23) (ci := 6) (v := .ref (a0 4)) hx hb ht in_X7 hown hK hP 0 rfl rfl 5 (by decide) mw_1135 rfl dX7_takesBack_15 ?_
        refine lv_iload_n hx hb dX7_takesBack_18 rfl (lv_at hl 0 rfl) ?_
        obtain ⟨g_2, h⟩ := h
        refine va_lald hx hb hK hP 4 1 rfl rfl g_2 dX7_takesBack_19 ?_
        obtain ⟨g_3, h⟩ := h
        refine va_last hx hb hK hP hD hS 1 1 rfl rfl g_3 dX7_takesBack_20 (fun H locs hP hD hS => ?_)
        have hP : va_P D vwCl [((a0 0), .inr (6, [.ref (a0 1), .ref (a0 2), .int (t0.1 0), .ref (a0 3), .ref (a0 5), .ref (a0 4), .long t0.2.1, .int (t0.1 1), .int (t0.1 2), .ref (a0 6), .int (t0.1 3), .int (t0.1 4), .ref (a0 7), .int (t0.1 5), .int (t0.1 6), .int (t0.1 7), .int (t0.1 8), .int (t0.1 9), .int (t0.1 10), .int (t0.1 11), .int (t0.1 12), .int (t0.1 13), .int (t0.1 14)])), ((a0 1), .inl (q 1, 6896, .inr (.inl (vp_updL (t0.2.2.1 0) (Int32.toNatClampNeg z1) ((t0.2.2.1 3) (Int32.toNatClampNeg z1)))))), ((a0 2), .inl (q 1, 68960, .inr (.inl (t0.2.2.1 1)))), ((a0 3), .inl (q 1, 13792, .inr (.inl (t0.2.2.1 2)))), ((a0 4), .inl (q 1, 6896, .inr (.inl (t0.2.2.1 3)))), ((a0 5), .inl (q 3, 2, .inl (t0.2.2.2 0))), ((a0 6), .inl (q 0, 40, .inl (t0.2.2.2 1))), ((a0 7), .inl (q 2, 400, .inl (t0.2.2.2 2)))] H := hP
        have hD : va_D _ [((a0 0), .inr (6, [.ref (a0 1), .ref (a0 2), .int (t0.1 0), .ref (a0 3), .ref (a0 5), .ref (a0 4), .long t0.2.1, .int (t0.1 1), .int (t0.1 2), .ref (a0 6), .int (t0.1 3), .int (t0.1 4), .ref (a0 7), .int (t0.1 5), .int (t0.1 6), .int (t0.1 7), .int (t0.1 8), .int (t0.1 9), .int (t0.1 10), .int (t0.1 11), .int (t0.1 12), .int (t0.1 13), .int (t0.1 14)])), ((a0 1), .inl (q 1, 6896, .inr (.inl (vp_updL (t0.2.2.1 0) (Int32.toNatClampNeg z1) ((t0.2.2.1 3) (Int32.toNatClampNeg z1)))))), ((a0 2), .inl (q 1, 68960, .inr (.inl (t0.2.2.1 1)))), ((a0 3), .inl (q 1, 13792, .inr (.inl (t0.2.2.1 2)))), ((a0 4), .inl (q 1, 6896, .inr (.inl (t0.2.2.1 3)))), ((a0 5), .inl (q 3, 2, .inl (t0.2.2.2 0))), ((a0 6), .inl (q 0, 40, .inl (t0.2.2.2 1))), ((a0 7), .inl (q 2, 400, .inl (t0.2.2.2 2)))] := hD
        refine lv_iinc (v := (z1 + 1)) (lv' := [(1, .int (z1 + 1)), (0, .ref (a0 0))]) hx hb dX7_takesBack_21 hl (k := 0) rfl rfl (by decide) rfl (fun ls hl => ?_)
        refine lv_goto (tgt := 2) hx hb dX7_takesBack_24 (by decide) ?_
        exact ih _ _ _ _ ls h (hP.sub (ws' := md_v a0 q (t0.1, t0.2.1, (va_up t0.2.2.1 0 (vp_updL (t0.2.2.1 0) (Int32.toNatClampNeg z1) ((t0.2.2.1 3) (Int32.toNatClampNeg z1)))), t0.2.2.2)) [0, 1, 2, 3, 4, 5, 6, 7] rfl) (hD.sub (ws' := md_v a0 q (t0.1, t0.2.1, (va_up t0.2.2.1 0 (vp_updL (t0.2.2.1 0) (Int32.toNatClampNeg z1) ((t0.2.2.1 3) (Int32.toNatClampNeg z1)))), t0.2.2.2)) [0, 1, 2, 3, 4, 5, 6, 7] (by decide) rfl) hS (lv_sub hl [0, 1] rfl)
  obtain ⟨n2, h⟩ := h
  refine lp2 _ ?_ n2 _ _ _ _ ls h (hP.sub (ws' := md_v a0 q s0) [0, 1, 2, 3, 4, 5, 6, 7] rfl) (hD.sub (ws' := md_v a0 q s0) [0, 1, 2, 3, 4, 5, 6, 7] (by decide) rfl) hS (lv_sub hl [0, 1] rfl)
  · intro t0 z1 H locs ls h hP hD hS hl
    try dsimp only at h
    have hP : va_P D vwCl [((a0 0), .inr (6, [.ref (a0 1), .ref (a0 2), .int (t0.1 0), .ref (a0 3), .ref (a0 5), .ref (a0 4), .long t0.2.1, .int (t0.1 1), .int (t0.1 2), .ref (a0 6), .int (t0.1 3), .int (t0.1 4), .ref (a0 7), .int (t0.1 5), .int (t0.1 6), .int (t0.1 7), .int (t0.1 8), .int (t0.1 9), .int (t0.1 10), .int (t0.1 11), .int (t0.1 12), .int (t0.1 13), .int (t0.1 14)])), ((a0 1), .inl (q 1, 6896, .inr (.inl (t0.2.2.1 0)))), ((a0 2), .inl (q 1, 68960, .inr (.inl (t0.2.2.1 1)))), ((a0 3), .inl (q 1, 13792, .inr (.inl (t0.2.2.1 2)))), ((a0 4), .inl (q 1, 6896, .inr (.inl (t0.2.2.1 3)))), ((a0 5), .inl (q 3, 2, .inl (t0.2.2.2 0))), ((a0 6), .inl (q 0, 40, .inl (t0.2.2.2 1))), ((a0 7), .inl (q 2, 400, .inl (t0.2.2.2 2)))] H := hP
    have hD : va_D _ [((a0 0), .inr (6, [.ref (a0 1), .ref (a0 2), .int (t0.1 0), .ref (a0 3), .ref (a0 5), .ref (a0 4), .long t0.2.1, .int (t0.1 1), .int (t0.1 2), .ref (a0 6), .int (t0.1 3), .int (t0.1 4), .ref (a0 7), .int (t0.1 5), .int (t0.1 6), .int (t0.1 7), .int (t0.1 8), .int (t0.1 9), .int (t0.1 10), .int (t0.1 11), .int (t0.1 12), .int (t0.1 13), .int (t0.1 14)])), ((a0 1), .inl (q 1, 6896, .inr (.inl (t0.2.2.1 0)))), ((a0 2), .inl (q 1, 68960, .inr (.inl (t0.2.2.1 1)))), ((a0 3), .inl (q 1, 13792, .inr (.inl (t0.2.2.1 2)))), ((a0 4), .inl (q 1, 6896, .inr (.inl (t0.2.2.1 3)))), ((a0 5), .inl (q 3, 2, .inl (t0.2.2.2 0))), ((a0 6), .inl (q 0, 40, .inl (t0.2.2.2 1))), ((a0 7), .inl (q 2, 400, .inl (t0.2.2.2 2)))] := hD
    exact mt_vret t0 hx hb hr hk h (hP.sub (ws' := md_v a0 q t0) [0, 1, 2, 3, 4, 5, 6, 7] rfl) (hD.sub (ws' := md_v a0 q t0) [0, 1, 2, 3, 4, 5, 6, 7] (by decide) rfl) hS dX7_takesBack_27

def wp_X7_others_L4 (s0 : Md) (post : Int32 → Prop) (e34 : Int32 → Int32 → Prop) : Nat → Int32 → Int32 → Prop
  | 0, _, _ => False
  | n4 + 1, z1, z2 => wp_X7_cells (fun r_1 => ((r_1 ≤ z2 → e34 z1 z2) ∧ (¬ r_1 ≤ z2 → wp_X7_isOther (fun r_4 => ((r_4 = 0 → wp_X7_others_L4 s0 post e34 n4 (z1 + 0) (z2 + 1)) ∧ (¬ r_4 = 0 → wp_X7_others_L4 s0 post e34 n4 (z1 + 1) (z2 + 1)))) s0 z2))) s0
def wp_X7_others (post : Int32 → Prop) (s0 : Md) : Prop := (∃ n4, wp_X7_others_L4 s0 post (fun z1 z2 => post z1) n4 0 0)
set_option maxHeartbeats 4000000 in
set_option maxRecDepth 100000 in
theorem c2_X7_others {l : Launch} {D : va_G} {q : Nat → ClassId} {a0 : Nat → Nat} {s0 : Md} {post : Int32 → Prop} (h : wp_X7_others post s0) : Met l yX7_others (Cond.code yX7_others cX7_others 3 (some .int) :: w_all) ({ frames := 3, cells := 0, slots := 0, locals := 65 } : Room) (rd_P D q [.ref (a0 0)] (md_v a0 q s0)) (vp_Si post) 0 0 (fun _ => False) := by
  refine rd_start (by decide) (Nat.le_of_ble_eq_true rfl) ?_
  intro p e s m below meth c ls hx hb hr hml hown ht hk hP hQ hV hl
  have hK := hQ.1
  have hown : s.vm.findClass RX7 = some m.cls := hown
  have hl : lv_has ls 3 [(0, .ref (a0 0))] := hl
  have hP : va_P D vwCl [((a0 0), .inr (6, [.ref (a0 1), .ref (a0 2), .int (s0.1 0), .ref (a0 3), .ref (a0 5), .ref (a0 4), .long s0.2.1, .int (s0.1 1), .int (s0.1 2), .ref (a0 6), .int (s0.1 3), .int (s0.1 4), .ref (a0 7), .int (s0.1 5), .int (s0.1 6), .int (s0.1 7), .int (s0.1 8), .int (s0.1 9), .int (s0.1 10), .int (s0.1 11), .int (s0.1 12), .int (s0.1 13), .int (s0.1 14)])), ((a0 1), .inl (q 1, 6896, .inr (.inl (s0.2.2.1 0)))), ((a0 2), .inl (q 1, 68960, .inr (.inl (s0.2.2.1 1)))), ((a0 3), .inl (q 1, 13792, .inr (.inl (s0.2.2.1 2)))), ((a0 4), .inl (q 1, 6896, .inr (.inl (s0.2.2.1 3)))), ((a0 5), .inl (q 3, 2, .inl (s0.2.2.2 0))), ((a0 6), .inl (q 0, 40, .inl (s0.2.2.2 1))), ((a0 7), .inl (q 2, 400, .inl (s0.2.2.2 2)))] s.heap := hP
  unfold wp_X7_others at h
  refine lv_iconst (v := 0) hx hb dX7_others_0 (by decide) ?_
  refine lv_istore_n (lv' := [(1, .int 0), (0, .ref (a0 0))]) hx hb dX7_others_1 rfl hl (by decide) rfl (fun ls hl => ?_)
  refine lv_iconst (v := 0) hx hb dX7_others_2 (by decide) ?_
  refine lv_istore_n (lv' := [(2, .int 0), (1, .int 0), (0, .ref (a0 0))]) hx hb dX7_others_3 rfl hl (by decide) rfl (fun ls hl => ?_)
  have lp4 : ∀ (e34 : Int32 → Int32 → Prop) (k34 : ∀ (z1 : Int32) (z2 : Int32) (ls : Array Slot), e34 z1 z2 → lv_has ls 3 [(1, .int z1), (2, .int z2), (0, .ref (a0 0))] → W p l e ({ frames := 3, cells := 0, slots := 0, locals := 65 } : Room) s m [.ref (a0 0)].toArray below meth c s.heap [] 0 0 (MQ below (vp_Si post) [.ref (a0 0)].toArray s 0 0 (fun _ => False)) (F0 m 34 ls [])) (n : Nat) (z1 : Int32) (z2 : Int32) (ls : Array Slot), wp_X7_others_L4 s0 post e34 n z1 z2 → lv_has ls 3 [(1, .int z1), (2, .int z2), (0, .ref (a0 0))] → W p l e ({ frames := 3, cells := 0, slots := 0, locals := 65 } : Room) s m [.ref (a0 0)].toArray below meth c s.heap [] 0 0 (MQ below (vp_Si post) [.ref (a0 0)].toArray s 0 0 (fun _ => False)) (F0 m 4 ls []) := by
    intro e34 k34 n
    induction n with
    | zero =>
      intro z1 z2 ls h
      exact h.elim
    | succ n ih =>
      intro z1 z2 ls h hl
      unfold wp_X7_others_L4 at h
      refine lv_iload_n hx hb dX7_others_4 rfl (lv_at hl 1 rfl) ?_
      refine lv_aload_n hx hb dX7_others_5 rfl (lv_at hl 2 rfl) ?_
      refine vp_callSi (rd_wV (wc := md_v a0 q s0) (As := []) (rest := [.int z2]) hx hb hml hown ht (c2_X7_cells h) wd_X7_cells mw_1295 hQ hV va_S.rf (hP.sub [0, 1, 2, 3, 4, 5, 6, 7] rfl) rfl rfl rfl hl.1 rfl (Nat.le_of_ble_eq_true rfl) dX7_others_6 ⟨Nat.le_of_ble_eq_true rfl, Nat.le_of_ble_eq_true rfl, rfl, rfl⟩ ⟨Nat.le_of_ble_eq_true rfl, Nat.le_of_ble_eq_true rfl⟩) (fun r_1 h => ?_)
      try dsimp only at h
      refine lv_icmp_ge (tgt := 34) hx hb dX7_others_9 (by decide) (fun c_3 => ?_) (fun c_3 => ?_)
      · replace h := h.1 c_3
        exact k34 _ _ ls h (lv_sub hl [0, 1, 2] rfl)
      · replace h := h.2 c_3
        refine lv_iload_n hx hb dX7_others_12 rfl (lv_at hl 0 rfl) ?_
        refine lv_aload_n hx hb dX7_others_13 rfl (lv_at hl 2 rfl) ?_
        refine lv_iload_n hx hb dX7_others_14 rfl (lv_at hl 1 rfl) ?_
        refine vp_callSi (rd_wV (wc := md_v a0 q s0) (As := [.int z2]) (rest := [.int z1]) hx hb hml hown ht (c2_X7_isOther h) wd_X7_isOther mw_1435 hQ hV va_S.rf (hP.sub [0, 1, 2, 3, 4, 5, 6, 7] rfl) rfl rfl rfl hl.1 rfl (Nat.le_of_ble_eq_true rfl) dX7_others_15 ⟨Nat.le_of_ble_eq_true rfl, Nat.le_of_ble_eq_true rfl, rfl, rfl⟩ ⟨Nat.le_of_ble_eq_true rfl, Nat.le_of_ble_eq_true rfl⟩) (fun r_4 h => ?_)
        try dsimp only at h
        refine lv_if_eq (tgt := 25) hx hb dX7_others_18 (by decide) (fun c_6 => ?_) (fun c_6 => ?_)
        · replace h := h.1 c_6
          refine lv_iconst (v := 0) hx hb dX7_others_25 (by decide) ?_
          refine lv_iadd hx hb dX7_others_26 ?_
          refine lv_istore_n (lv' := [(1, .int (z1 + 0)), (2, .int z2), (0, .ref (a0 0))]) hx hb dX7_others_27 rfl hl (by decide) rfl (fun ls hl => ?_)
          refine lv_iinc (v := (z2 + 1)) (lv' := [(2, .int (z2 + 1)), (1, .int (z1 + 0)), (0, .ref (a0 0))]) hx hb dX7_others_28 hl (k := 1) rfl rfl (by decide) rfl (fun ls hl => ?_)
          refine lv_goto (tgt := 4) hx hb dX7_others_31 (by decide) ?_
          exact ih _ _ ls h (lv_sub hl [1, 0, 2] rfl)
        · replace h := h.2 c_6
          refine lv_iconst (v := 1) hx hb dX7_others_21 (by decide) ?_
          refine lv_goto (tgt := 26) hx hb dX7_others_22 (by decide) ?_
          refine lv_iadd hx hb dX7_others_26 ?_
          refine lv_istore_n (lv' := [(1, .int (z1 + 1)), (2, .int z2), (0, .ref (a0 0))]) hx hb dX7_others_27 rfl hl (by decide) rfl (fun ls hl => ?_)
          refine lv_iinc (v := (z2 + 1)) (lv' := [(2, .int (z2 + 1)), (1, .int (z1 + 1)), (0, .ref (a0 0))]) hx hb dX7_others_28 hl (k := 1) rfl rfl (by decide) rfl (fun ls hl => ?_)
          refine lv_goto (tgt := 4) hx hb dX7_others_31 (by decide) ?_
          exact ih _ _ ls h (lv_sub hl [1, 0, 2] rfl)
  obtain ⟨n4, h⟩ := h
  refine lp4 _ ?_ n4 _ _ ls h (lv_sub hl [1, 0, 2] rfl)
  · intro z1 z2 ls h hl
    try dsimp only at h
    refine lv_iload_n hx hb dX7_others_34 rfl (lv_at hl 0 rfl) ?_
    exact rd_iret hx hb hr hk h dX7_others_35

def wp_X7_when_L32 (post : Int32 → Md → Prop) (e72 : Md → Int32 → Int32 → Int32 → Int32 → Prop) : Nat → Md → Int32 → Int32 → Int32 → Int32 → Prop
  | 0, _, _, _, _, _ => False
  | n32 + 1, t0, z1, z2, z3, z4 => wp_X7_ticks (fun r_9 u_10 => ((r_9 ≤ 0 → e72 u_10 z1 z2 z3 z4) ∧ (¬ r_9 ≤ 0 → (((u_10.1 2) ≤ z4 → wp_X7_when_L32 post e72 n32 u_10 z1 (z2 + 1) (z3 + ((u_10.1 1) * (u_10.1 1))) z4) ∧ (¬ (u_10.1 2) ≤ z4 → wp_X7_when_L32 post e72 n32 u_10 z1 (z2 + 1) (z3 + ((u_10.1 1) * (u_10.1 1))) (u_10.1 2)))))) t0
def wp_X7_when (post : Int32 → Md → Prop) (s0 : Md) (x1 : Int32) : Prop := wp_X7_isBoard (fun r_1 => ((r_1 = 0 → post (-1) s0) ∧ (¬ r_1 = 0 → wp_X7_in (fun r_4 => ((¬ r_4 = 0 → wp_X7_putsAside (fun u_8 => (∃ n32, wp_X7_when_L32 post (fun t0 z1 z2 z3 z4 => wp_X7_others (fun r_13 => wp_X7_takesBack (fun u_16 => ((z1 = 0 → post z2 u_16) ∧ (¬ z1 = 0 → ((z1 = 1 → post (Int64.toInt32 (((t0.2.2.1 0) (Int32.toNatClampNeg 6)) - ((t0.2.2.1 3) (Int32.toNatClampNeg 6)))) u_16) ∧ (¬ z1 = 1 → ((z1 = 2 → post z3 u_16) ∧ (¬ z1 = 2 → ((z1 = 3 → post z4 u_16) ∧ (¬ z1 = 3 → ((z1 = 4 → post r_13 u_16) ∧ (¬ z1 = 4 → post (Int64.toInt32 (((t0.2.2.1 0) (Int32.toNatClampNeg 7)) - ((t0.2.2.1 3) (Int32.toNatClampNeg 7)))) u_16))))))))))) t0) t0) n32 u_8 x1 0 0 0)) s0) ∧ (r_4 = 0 → post (-1) s0))) (Int32.toInt64 x1) (0 : Int64) (5 : Int64)))) s0
set_option maxHeartbeats 4000000 in
set_option maxRecDepth 100000 in
theorem c2_X7_when {l : Launch} {D : va_G} {q : Nat → ClassId} {sz : Nat} {a0 : Nat → Nat} {s0 : Md} {x1 : Int32} {post : Int32 → Md → Prop} (h : wp_X7_when post s0 x1) : Met l yX7_when (Cond.code yX7_when cX7_when 8 (some .int) :: w_all) ({ frames := 5, cells := 0, slots := 0, locals := 110 } : Room) (mt_P D q [.ref (a0 0), .int x1] (md_v a0 q s0) sz) (va_Qi (fun r (u : Md) => post r u) (mt_B D (md_v a0 q s0) sz (fun u : Md => md_v a0 q u)) (va_A (md_v a0 q s0) sz)) 0 0 (va_A (md_v a0 q s0) sz) := by
  refine mt_start (by decide) (Nat.le_of_ble_eq_true rfl) ?_
  intro p e s m below meth c ls hx hb hr hml hown ht hk hin hP hQ hD hA hS hV hl
  have hK := hQ.1
  have hown : s.vm.findClass RX7 = some m.cls := hown
  have hl : lv_has ls 8 [(0, .ref (a0 0)), (1, .int x1)] := hl
  have hP : va_P D vwCl [((a0 0), .inr (6, [.ref (a0 1), .ref (a0 2), .int (s0.1 0), .ref (a0 3), .ref (a0 5), .ref (a0 4), .long s0.2.1, .int (s0.1 1), .int (s0.1 2), .ref (a0 6), .int (s0.1 3), .int (s0.1 4), .ref (a0 7), .int (s0.1 5), .int (s0.1 6), .int (s0.1 7), .int (s0.1 8), .int (s0.1 9), .int (s0.1 10), .int (s0.1 11), .int (s0.1 12), .int (s0.1 13), .int (s0.1 14)])), ((a0 1), .inl (q 1, 6896, .inr (.inl (s0.2.2.1 0)))), ((a0 2), .inl (q 1, 68960, .inr (.inl (s0.2.2.1 1)))), ((a0 3), .inl (q 1, 13792, .inr (.inl (s0.2.2.1 2)))), ((a0 4), .inl (q 1, 6896, .inr (.inl (s0.2.2.1 3)))), ((a0 5), .inl (q 3, 2, .inl (s0.2.2.2 0))), ((a0 6), .inl (q 0, 40, .inl (s0.2.2.2 1))), ((a0 7), .inl (q 2, 400, .inl (s0.2.2.2 2)))] s.heap := hP
  have hD : va_D _ [((a0 0), .inr (6, [.ref (a0 1), .ref (a0 2), .int (s0.1 0), .ref (a0 3), .ref (a0 5), .ref (a0 4), .long s0.2.1, .int (s0.1 1), .int (s0.1 2), .ref (a0 6), .int (s0.1 3), .int (s0.1 4), .ref (a0 7), .int (s0.1 5), .int (s0.1 6), .int (s0.1 7), .int (s0.1 8), .int (s0.1 9), .int (s0.1 10), .int (s0.1 11), .int (s0.1 12), .int (s0.1 13), .int (s0.1 14)])), ((a0 1), .inl (q 1, 6896, .inr (.inl (s0.2.2.1 0)))), ((a0 2), .inl (q 1, 68960, .inr (.inl (s0.2.2.1 1)))), ((a0 3), .inl (q 1, 13792, .inr (.inl (s0.2.2.1 2)))), ((a0 4), .inl (q 1, 6896, .inr (.inl (s0.2.2.1 3)))), ((a0 5), .inl (q 3, 2, .inl (s0.2.2.2 0))), ((a0 6), .inl (q 0, 40, .inl (s0.2.2.2 1))), ((a0 7), .inl (q 2, 400, .inl (s0.2.2.2 2)))] := hD
  unfold wp_X7_when at h
  refine lv_aload_n hx hb dX7_when_0 rfl (lv_at hl 0 rfl) ?_
  refine vp_callSi (rd_wV (wc := md_v a0 q s0) (As := []) (rest := []) hx hb hml hown ht (c2_X7_isBoard h) wd_X7_isBoard mw_1283 hQ hV hS (hP.sub [0, 1, 2, 3, 4, 5, 6, 7] rfl) rfl rfl rfl hl.1 rfl (Nat.le_of_ble_eq_true rfl) dX7_when_1 ⟨Nat.le_of_ble_eq_true rfl, Nat.le_of_ble_eq_true rfl, rfl, rfl⟩ ⟨Nat.le_of_ble_eq_true rfl, Nat.le_of_ble_eq_true rfl⟩) (fun r_1 h => ?_)
  try dsimp only at h
  refine lv_if_eq (tgt := 19) hx hb dX7_when_4 (by decide) (fun c_3 => ?_) (fun c_3 => ?_)
  · replace h := h.1 c_3
    refine lv_iconst (v := (-1)) hx hb dX7_when_19 (by decide) ?_
    exact mt_iret s0 hx hb hr hk h (hP.sub (ws' := md_v a0 q s0) [0, 1, 2, 3, 4, 5, 6, 7] rfl) (hD.sub (ws' := md_v a0 q s0) [0, 1, 2, 3, 4, 5, 6, 7] (by decide) rfl) hS dX7_when_20
  · replace h := h.2 c_3
    refine lv_iload_n hx hb dX7_when_7 rfl (lv_at hl 1 rfl) ?_
    refine lv_i2l (v := (Int32.toInt64 x1)) hx hb dX7_when_8 rfl ?_
    refine lv_lconst (v := 0) hx hb dX7_when_9 (by decide) ?_
    refine lv_ldc2 (v := 5) hx hb hown (ht _ mw_1448) dX7_when_10 ?_
    refine vp_callSi (rd_wS (wc := ([] : va_W)) (As := [.long (Int32.toInt64 x1), .long 0, .long 5]) (rest := []) hx hb hml hown ht (c2_X7_in h) wd_X7_in mw_1213 hQ hV hS (hP.sub [] rfl) rfl hl.1 rfl (Nat.le_of_ble_eq_true rfl) dX7_when_13 ⟨Nat.le_of_ble_eq_true rfl, Nat.le_of_ble_eq_true rfl, rfl, rfl⟩ ⟨Nat.le_of_ble_eq_true rfl, Nat.le_of_ble_eq_true rfl⟩) (fun r_4 h => ?_)
    try dsimp only at h
    refine lv_if_ne (tgt := 21) hx hb dX7_when_16 (by decide) (fun c_6 => ?_) (fun c_6 => ?_)
    · replace h := h.1 c_6
      refine lv_aload_n hx hb dX7_when_21 rfl (lv_at hl 0 rfl) ?_
      refine mt_gov (mt_wV (wc := md_v a0 q s0) (As := []) (rest := []) hx hb hml hown ht (c2_X7_putsAside h) wd_X7_putsAside mw_1449 hQ hV hS hA (hP.sub [0, 1, 2, 3, 4, 5, 6, 7] rfl) (hD.sub [0, 1, 2, 3, 4, 5, 6, 7] (by decide) rfl) rfl rfl rfl hl.1 rfl (Nat.le_of_ble_eq_true rfl) dX7_when_22 ⟨Nat.le_of_ble_eq_true rfl, Nat.le_of_ble_eq_true rfl, rfl, rfl⟩ ⟨Nat.le_of_ble_eq_true rfl, Nat.le_of_ble_eq_true rfl⟩) (wr := []) hP hD hS hA [0, 1, 2, 3, 4, 5, 6, 7] [] rfl rfl (by decide) (by decide) (fun u_8 H locs h hP hD hS => ?_)
      try dsimp only at h
      have hP : va_P D vwCl [((a0 0), .inr (6, [.ref (a0 1), .ref (a0 2), .int (u_8.1 0), .ref (a0 3), .ref (a0 5), .ref (a0 4), .long u_8.2.1, .int (u_8.1 1), .int (u_8.1 2), .ref (a0 6), .int (u_8.1 3), .int (u_8.1 4), .ref (a0 7), .int (u_8.1 5), .int (u_8.1 6), .int (u_8.1 7), .int (u_8.1 8), .int (u_8.1 9), .int (u_8.1 10), .int (u_8.1 11), .int (u_8.1 12), .int (u_8.1 13), .int (u_8.1 14)])), ((a0 1), .inl (q 1, 6896, .inr (.inl (u_8.2.2.1 0)))), ((a0 2), .inl (q 1, 68960, .inr (.inl (u_8.2.2.1 1)))), ((a0 3), .inl (q 1, 13792, .inr (.inl (u_8.2.2.1 2)))), ((a0 4), .inl (q 1, 6896, .inr (.inl (u_8.2.2.1 3)))), ((a0 5), .inl (q 3, 2, .inl (u_8.2.2.2 0))), ((a0 6), .inl (q 0, 40, .inl (u_8.2.2.2 1))), ((a0 7), .inl (q 2, 400, .inl (u_8.2.2.2 2)))] H := hP
      have hD : va_D _ [((a0 0), .inr (6, [.ref (a0 1), .ref (a0 2), .int (u_8.1 0), .ref (a0 3), .ref (a0 5), .ref (a0 4), .long u_8.2.1, .int (u_8.1 1), .int (u_8.1 2), .ref (a0 6), .int (u_8.1 3), .int (u_8.1 4), .ref (a0 7), .int (u_8.1 5), .int (u_8.1 6), .int (u_8.1 7), .int (u_8.1 8), .int (u_8.1 9), .int (u_8.1 10), .int (u_8.1 11), .int (u_8.1 12), .int (u_8.1 13), .int (u_8.1 14)])), ((a0 1), .inl (q 1, 6896, .inr (.inl (u_8.2.2.1 0)))), ((a0 2), .inl (q 1, 68960, .inr (.inl (u_8.2.2.1 1)))), ((a0 3), .inl (q 1, 13792, .inr (.inl (u_8.2.2.1 2)))), ((a0 4), .inl (q 1, 6896, .inr (.inl (u_8.2.2.1 3)))), ((a0 5), .inl (q 3, 2, .inl (u_8.2.2.2 0))), ((a0 6), .inl (q 0, 40, .inl (u_8.2.2.2 1))), ((a0 7), .inl (q 2, 400, .inl (u_8.2.2.2 2)))] := hD
      refine lv_iconst (v := 0) hx hb dX7_when_25 (by decide) ?_
      refine lv_istore_n (lv' := [(2, .int 0), (0, .ref (a0 0)), (1, .int x1)]) hx hb dX7_when_26 rfl hl (by decide) rfl (fun ls hl => ?_)
      refine lv_iconst (v := 0) hx hb dX7_when_27 (by decide) ?_
      refine lv_istore_n (lv' := [(3, .int 0), (2, .int 0), (0, .ref (a0 0)), (1, .int x1)]) hx hb dX7_when_28 rfl hl (by decide) rfl (fun ls hl => ?_)
      refine lv_iconst (v := 0) hx hb dX7_when_29 (by decide) ?_
      refine lv_istore (lv' := [(4, .int 0), (3, .int 0), (2, .int 0), (0, .ref (a0 0)), (1, .int x1)]) hx hb dX7_when_30 hl (by decide) rfl (fun ls hl => ?_)
      have lp32 : ∀ (e72 : Md → Int32 → Int32 → Int32 → Int32 → Prop) (k72 : ∀ (t0 : Md) (z1 : Int32) (z2 : Int32) (z3 : Int32) (z4 : Int32) (H : Heap) (locs : List Loc) (ls : Array Slot), e72 t0 z1 z2 z3 z4 → va_P D vwCl (md_v a0 q t0) H → va_D (va_A (md_v a0 q s0) sz) (md_v a0 q t0) → va_S (va_A (md_v a0 q s0) sz) s.heap H locs → lv_has ls 8 [(1, .int z1), (2, .int z2), (3, .int z3), (4, .int z4), (0, .ref (a0 0))] → W p l e ({ frames := 5, cells := 0, slots := 0, locals := 110 } : Room) s m [.ref (a0 0), .int x1].toArray below meth c H locs 0 0 (MQ below (va_Qi (fun r (u : Md) => post r u) (mt_B D (md_v a0 q s0) sz (fun u : Md => md_v a0 q u)) (va_A (md_v a0 q s0) sz)) [.ref (a0 0), .int x1].toArray s 0 0 (va_A (md_v a0 q s0) sz)) (F0 m 72 ls [])) (n : Nat) (t0 : Md) (z1 : Int32) (z2 : Int32) (z3 : Int32) (z4 : Int32) (H : Heap) (locs : List Loc) (ls : Array Slot), wp_X7_when_L32 post e72 n t0 z1 z2 z3 z4 → va_P D vwCl (md_v a0 q t0) H → va_D (va_A (md_v a0 q s0) sz) (md_v a0 q t0) → va_S (va_A (md_v a0 q s0) sz) s.heap H locs → lv_has ls 8 [(1, .int z1), (2, .int z2), (3, .int z3), (4, .int z4), (0, .ref (a0 0))] → W p l e ({ frames := 5, cells := 0, slots := 0, locals := 110 } : Room) s m [.ref (a0 0), .int x1].toArray below meth c H locs 0 0 (MQ below (va_Qi (fun r (u : Md) => post r u) (mt_B D (md_v a0 q s0) sz (fun u : Md => md_v a0 q u)) (va_A (md_v a0 q s0) sz)) [.ref (a0 0), .int x1].toArray s 0 0 (va_A (md_v a0 q s0) sz)) (F0 m 32 ls []) := by
        intro e72 k72 n
        induction n with
        | zero =>
          intro t0 z1 z2 z3 z4 H locs ls h
          exact h.elim
        | succ n ih =>
          intro t0 z1 z2 z3 z4 H locs ls h hP hD hS hl
          have hP : va_P D vwCl [((a0 0), .inr (6, [.ref (a0 1), .ref (a0 2), .int (t0.1 0), .ref (a0 3), .ref (a0 5), .ref (a0 4), .long t0.2.1, .int (t0.1 1), .int (t0.1 2), .ref (a0 6), .int (t0.1 3), .int (t0.1 4), .ref (a0 7), .int (t0.1 5), .int (t0.1 6), .int (t0.1 7), .int (t0.1 8), .int (t0.1 9), .int (t0.1 10), .int (t0.1 11), .int (t0.1 12), .int (t0.1 13), .int (t0.1 14)])), ((a0 1), .inl (q 1, 6896, .inr (.inl (t0.2.2.1 0)))), ((a0 2), .inl (q 1, 68960, .inr (.inl (t0.2.2.1 1)))), ((a0 3), .inl (q 1, 13792, .inr (.inl (t0.2.2.1 2)))), ((a0 4), .inl (q 1, 6896, .inr (.inl (t0.2.2.1 3)))), ((a0 5), .inl (q 3, 2, .inl (t0.2.2.2 0))), ((a0 6), .inl (q 0, 40, .inl (t0.2.2.2 1))), ((a0 7), .inl (q 2, 400, .inl (t0.2.2.2 2)))] H := hP
          have hD : va_D _ [((a0 0), .inr (6, [.ref (a0 1), .ref (a0 2), .int (t0.1 0), .ref (a0 3), .ref (a0 5), .ref (a0 4), .long t0.2.1, .int (t0.1 1), .int (t0.1 2), .ref (a0 6), .int (t0.1 3), .int (t0.1 4), .ref (a0 7), .int (t0.1 5), .int (t0.1 6), .int (t0.1 7), .int (t0.1 8), .int (t0.1 9), .int (t0.1 10), .int (t0.1 11), .int (t0.1 12), .int (t0.1 13), .int (t0.1 14)])), ((a0 1), .inl (q 1, 6896, .inr (.inl (t0.2.2.1 0)))), ((a0 2), .inl (q 1, 68960, .inr (.inl (t0.2.2.1 1)))), ((a0 3), .inl (q 1, 13792, .inr (.inl (t0.2.2.1 2)))), ((a0 4), .inl (q 1, 6896, .inr (.inl (t0.2.2.1 3)))), ((a0 5), .inl (q 3, 2, .inl (t0.2.2.2 0))), ((a0 6), .inl (q 0, 40, .inl (t0.2.2.2 1))), ((a0 7), .inl (q 2, 400, .inl (t0.2.2.2 2)))] := hD
          unfold wp_X7_when_L32 at h
          refine lv_aload_n hx hb dX7_when_32 rfl (lv_at hl 4 rfl) ?_
          refine mt_goi (mt_wV (wc := md_v a0 q t0) (As := []) (rest := []) hx hb hml hown ht (c2_X7_ticks h) wd_X7_ticks mw_1304 hQ hV hS hA (hP.sub [0, 1, 2, 3, 4, 5, 6, 7] rfl) (hD.sub [0, 1, 2, 3, 4, 5, 6, 7] (by decide) rfl) rfl rfl rfl hl.1 rfl (Nat.le_of_ble_eq_true rfl) dX7_when_33 ⟨Nat.le_of_ble_eq_true rfl, Nat.le_of_ble_eq_true rfl, rfl, rfl⟩ ⟨Nat.le_of_ble_eq_true rfl, Nat.le_of_ble_eq_true rfl⟩) (wr := []) hP hD hS hA [0, 1, 2, 3, 4, 5, 6, 7] [] rfl rfl (by decide) (by decide) (fun r_9 u_10 H locs h hP hD hS => ?_)
          try dsimp only at h
          have hP : va_P D vwCl [((a0 0), .inr (6, [.ref (a0 1), .ref (a0 2), .int (u_10.1 0), .ref (a0 3), .ref (a0 5), .ref (a0 4), .long u_10.2.1, .int (u_10.1 1), .int (u_10.1 2), .ref (a0 6), .int (u_10.1 3), .int (u_10.1 4), .ref (a0 7), .int (u_10.1 5), .int (u_10.1 6), .int (u_10.1 7), .int (u_10.1 8), .int (u_10.1 9), .int (u_10.1 10), .int (u_10.1 11), .int (u_10.1 12), .int (u_10.1 13), .int (u_10.1 14)])), ((a0 1), .inl (q 1, 6896, .inr (.inl (u_10.2.2.1 0)))), ((a0 2), .inl (q 1, 68960, .inr (.inl (u_10.2.2.1 1)))), ((a0 3), .inl (q 1, 13792, .inr (.inl (u_10.2.2.1 2)))), ((a0 4), .inl (q 1, 6896, .inr (.inl (u_10.2.2.1 3)))), ((a0 5), .inl (q 3, 2, .inl (u_10.2.2.2 0))), ((a0 6), .inl (q 0, 40, .inl (u_10.2.2.2 1))), ((a0 7), .inl (q 2, 400, .inl (u_10.2.2.2 2)))] H := hP
          have hD : va_D _ [((a0 0), .inr (6, [.ref (a0 1), .ref (a0 2), .int (u_10.1 0), .ref (a0 3), .ref (a0 5), .ref (a0 4), .long u_10.2.1, .int (u_10.1 1), .int (u_10.1 2), .ref (a0 6), .int (u_10.1 3), .int (u_10.1 4), .ref (a0 7), .int (u_10.1 5), .int (u_10.1 6), .int (u_10.1 7), .int (u_10.1 8), .int (u_10.1 9), .int (u_10.1 10), .int (u_10.1 11), .int (u_10.1 12), .int (u_10.1 13), .int (u_10.1 14)])), ((a0 1), .inl (q 1, 6896, .inr (.inl (u_10.2.2.1 0)))), ((a0 2), .inl (q 1, 68960, .inr (.inl (u_10.2.2.1 1)))), ((a0 3), .inl (q 1, 13792, .inr (.inl (u_10.2.2.1 2)))), ((a0 4), .inl (q 1, 6896, .inr (.inl (u_10.2.2.1 3)))), ((a0 5), .inl (q 3, 2, .inl (u_10.2.2.2 0))), ((a0 6), .inl (q 0, 40, .inl (u_10.2.2.2 1))), ((a0 7), .inl (q 2, 400, .inl (u_10.2.2.2 2)))] := hD
          refine lv_if_le (tgt := 72) hx hb dX7_when_36 (by decide) (fun c_11 => ?_) (fun c_11 => ?_)
          · replace h := h.1 c_11
            exact k72 _ _ _ _ _ _ _ ls h (hP.sub (ws' := md_v a0 q u_10) [0, 1, 2, 3, 4, 5, 6, 7] rfl) (hD.sub (ws' := md_v a0 q u_10) [0, 1, 2, 3, 4, 5, 6, 7] (by decide) rfl) hS (lv_sub hl [0, 1, 2, 3, 4] rfl)
          · replace h := h.2 c_11
            refine lv_iinc (v := (z2 + 1)) (lv' := [(2, .int (z2 + 1)), (1, .int z1), (3, .int z3), (4, .int z4), (0, .ref (a0 0))]) hx hb dX7_when_39 hl (k := 1) rfl rfl (by decide) rfl (fun ls hl => ?_)
            refine lv_iload_n hx hb dX7_when_42 rfl (lv_at hl 2 rfl) ?_
            refine lv_aload_n hx hb dX7_when_43 rfl (lv_at hl 4 rfl) ?_
            refine fl_get (C := RX7) (T := TX7) (N := 23) (ci := 6) (v := .int (u_10.1 1)) hx hb ht in_X7 hown hK hP 0 rfl rfl 7 (by decide) mw_1137 rfl dX7_when_44 ?_
            refine lv_aload_n hx hb dX7_when_47 rfl (lv_at hl 4 rfl) ?_
            refine fl_get (C := RX7) (T := TX7) (N := 23) (ci := 6) (v := .int (u_10.1 1)) hx hb ht in_X7 hown hK hP 0 rfl rfl 7 (by decide) mw_1137 rfl dX7_when_48 ?_
            refine lv_imul hx hb dX7_when_51 ?_
            refine lv_iadd hx hb dX7_when_52 ?_
            refine lv_istore_n (lv' := [(3, .int (z3 + ((u_10.1 1) * (u_10.1 1)))), (2, .int (z2 + 1)), (1, .int z1), (4, .int z4), (0, .ref (a0 0))]) hx hb dX7_when_53 rfl hl (by decide) rfl (fun ls hl => ?_)
            refine lv_aload_n hx hb dX7_when_54 rfl (lv_at hl 4 rfl) ?_
            refine fl_get (C := RX7) (T := TX7) (N := 23) (ci := 6) (v := .int (u_10.1 2)) hx hb ht in_X7 hown hK hP 0 rfl rfl 8 (by decide) mw_1138 rfl dX7_when_55 ?_
            refine lv_iload hx hb dX7_when_58 (lv_at hl 3 rfl) ?_
            refine lv_icmp_le (tgt := 32) hx hb dX7_when_60 (by decide) (fun c_12 => ?_) (fun c_12 => ?_)
            · replace h := h.1 c_12
              exact ih _ _ _ _ _ _ _ ls h (hP.sub (ws' := md_v a0 q u_10) [0, 1, 2, 3, 4, 5, 6, 7] rfl) (hD.sub (ws' := md_v a0 q u_10) [0, 1, 2, 3, 4, 5, 6, 7] (by decide) rfl) hS (lv_sub hl [2, 1, 0, 3, 4] rfl)
            · replace h := h.2 c_12
              refine lv_aload_n hx hb dX7_when_63 rfl (lv_at hl 4 rfl) ?_
              refine fl_get (C := RX7) (T := TX7) (N := 23) (ci := 6) (v := .int (u_10.1 2)) hx hb ht in_X7 hown hK hP 0 rfl rfl 8 (by decide) mw_1138 rfl dX7_when_64 ?_
              refine lv_istore (lv' := [(4, .int (u_10.1 2)), (3, .int (z3 + ((u_10.1 1) * (u_10.1 1)))), (2, .int (z2 + 1)), (1, .int z1), (0, .ref (a0 0))]) hx hb dX7_when_67 hl (by decide) rfl (fun ls hl => ?_)
              refine lv_goto (tgt := 32) hx hb dX7_when_69 (by decide) ?_
              exact ih _ _ _ _ _ _ _ ls h (hP.sub (ws' := md_v a0 q u_10) [0, 1, 2, 3, 4, 5, 6, 7] rfl) (hD.sub (ws' := md_v a0 q u_10) [0, 1, 2, 3, 4, 5, 6, 7] (by decide) rfl) hS (lv_sub hl [3, 2, 1, 0, 4] rfl)
      obtain ⟨n32, h⟩ := h
      refine lp32 _ ?_ n32 _ _ _ _ _ _ _ ls h (hP.sub (ws' := md_v a0 q u_8) [0, 1, 2, 3, 4, 5, 6, 7] rfl) (hD.sub (ws' := md_v a0 q u_8) [0, 1, 2, 3, 4, 5, 6, 7] (by decide) rfl) hS (lv_sub hl [4, 2, 1, 0, 3] rfl)
      · intro t0 z1 z2 z3 z4 H locs ls h hP hD hS hl
        try dsimp only at h
        have hP : va_P D vwCl [((a0 0), .inr (6, [.ref (a0 1), .ref (a0 2), .int (t0.1 0), .ref (a0 3), .ref (a0 5), .ref (a0 4), .long t0.2.1, .int (t0.1 1), .int (t0.1 2), .ref (a0 6), .int (t0.1 3), .int (t0.1 4), .ref (a0 7), .int (t0.1 5), .int (t0.1 6), .int (t0.1 7), .int (t0.1 8), .int (t0.1 9), .int (t0.1 10), .int (t0.1 11), .int (t0.1 12), .int (t0.1 13), .int (t0.1 14)])), ((a0 1), .inl (q 1, 6896, .inr (.inl (t0.2.2.1 0)))), ((a0 2), .inl (q 1, 68960, .inr (.inl (t0.2.2.1 1)))), ((a0 3), .inl (q 1, 13792, .inr (.inl (t0.2.2.1 2)))), ((a0 4), .inl (q 1, 6896, .inr (.inl (t0.2.2.1 3)))), ((a0 5), .inl (q 3, 2, .inl (t0.2.2.2 0))), ((a0 6), .inl (q 0, 40, .inl (t0.2.2.2 1))), ((a0 7), .inl (q 2, 400, .inl (t0.2.2.2 2)))] H := hP
        have hD : va_D _ [((a0 0), .inr (6, [.ref (a0 1), .ref (a0 2), .int (t0.1 0), .ref (a0 3), .ref (a0 5), .ref (a0 4), .long t0.2.1, .int (t0.1 1), .int (t0.1 2), .ref (a0 6), .int (t0.1 3), .int (t0.1 4), .ref (a0 7), .int (t0.1 5), .int (t0.1 6), .int (t0.1 7), .int (t0.1 8), .int (t0.1 9), .int (t0.1 10), .int (t0.1 11), .int (t0.1 12), .int (t0.1 13), .int (t0.1 14)])), ((a0 1), .inl (q 1, 6896, .inr (.inl (t0.2.2.1 0)))), ((a0 2), .inl (q 1, 68960, .inr (.inl (t0.2.2.1 1)))), ((a0 3), .inl (q 1, 13792, .inr (.inl (t0.2.2.1 2)))), ((a0 4), .inl (q 1, 6896, .inr (.inl (t0.2.2.1 3)))), ((a0 5), .inl (q 3, 2, .inl (t0.2.2.2 0))), ((a0 6), .inl (q 0, 40, .inl (t0.2.2.2 1))), ((a0 7), .inl (q 2, 400, .inl (t0.2.2.2 2)))] := hD
        refine lv_aload_n hx hb dX7_when_72 rfl (lv_at hl 4 rfl) ?_
        refine fl_get (C := RX7) (T := TX7) (N := 23) (ci := 6) (v := .ref (a0 1)) hx hb ht in_X7 hown hK hP 0 rfl rfl 0 (by decide) mw_1130 rfl dX7_when_73 ?_
        refine lv_bipush (v := 6) hx hb dX7_when_76 (by decide) ?_
        refine va_lald hx hb hK hP 1 1 rfl rfl (in_c rfl) dX7_when_78 ?_
        refine lv_aload_n hx hb dX7_when_79 rfl (lv_at hl 4 rfl) ?_
        refine fl_get (C := RX7) (T := TX7) (N := 23) (ci := 6) (v := .ref (a0 4)) hx hb ht in_X7 hown hK hP 0 rfl rfl 5 (by decide) mw_1135 rfl dX7_when_80 ?_
        refine lv_bipush (v := 6) hx hb dX7_when_83 (by decide) ?_
        refine va_lald hx hb hK hP 4 1 rfl rfl (in_c rfl) dX7_when_85 ?_
        refine lv_lsub hx hb dX7_when_86 ?_
        refine lv_l2i (v := (Int64.toInt32 (((t0.2.2.1 0) (Int32.toNatClampNeg 6)) - ((t0.2.2.1 3) (Int32.toNatClampNeg 6))))) hx hb dX7_when_87 rfl ?_
        refine lv_istore (lv' := [(5, .int (Int64.toInt32 (((t0.2.2.1 0) (Int32.toNatClampNeg 6)) - ((t0.2.2.1 3) (Int32.toNatClampNeg 6))))), (1, .int z1), (2, .int z2), (3, .int z3), (4, .int z4), (0, .ref (a0 0))]) hx hb dX7_when_88 hl (by decide) rfl (fun ls hl => ?_)
        refine lv_aload_n hx hb dX7_when_90 rfl (lv_at hl 5 rfl) ?_
        refine fl_get (C := RX7) (T := TX7) (N := 23) (ci := 6) (v := .ref (a0 1)) hx hb ht in_X7 hown hK hP 0 rfl rfl 0 (by decide) mw_1130 rfl dX7_when_91 ?_
        refine lv_bipush (v := 7) hx hb dX7_when_94 (by decide) ?_
        refine va_lald hx hb hK hP 1 1 rfl rfl (in_c rfl) dX7_when_96 ?_
        refine lv_aload_n hx hb dX7_when_97 rfl (lv_at hl 5 rfl) ?_
        refine fl_get (C := RX7) (T := TX7) (N := 23) (ci := 6) (v := .ref (a0 4)) hx hb ht in_X7 hown hK hP 0 rfl rfl 5 (by decide) mw_1135 rfl dX7_when_98 ?_
        refine lv_bipush (v := 7) hx hb dX7_when_101 (by decide) ?_
        refine va_lald hx hb hK hP 4 1 rfl rfl (in_c rfl) dX7_when_103 ?_
        refine lv_lsub hx hb dX7_when_104 ?_
        refine lv_l2i (v := (Int64.toInt32 (((t0.2.2.1 0) (Int32.toNatClampNeg 7)) - ((t0.2.2.1 3) (Int32.toNatClampNeg 7))))) hx hb dX7_when_105 rfl ?_
        refine lv_istore (lv' := [(6, .int (Int64.toInt32 (((t0.2.2.1 0) (Int32.toNatClampNeg 7)) - ((t0.2.2.1 3) (Int32.toNatClampNeg 7))))), (5, .int (Int64.toInt32 (((t0.2.2.1 0) (Int32.toNatClampNeg 6)) - ((t0.2.2.1 3) (Int32.toNatClampNeg 6))))), (1, .int z1), (2, .int z2), (3, .int z3), (4, .int z4), (0, .ref (a0 0))]) hx hb dX7_when_106 hl (by decide) rfl (fun ls hl => ?_)
        refine lv_aload_n hx hb dX7_when_108 rfl (lv_at hl 6 rfl) ?_
        refine vp_callSi (rd_wV (wc := md_v a0 q t0) (As := []) (rest := []) hx hb hml hown ht (c2_X7_others h) wd_X7_others mw_1453 hQ hV hS (hP.sub [0, 1, 2, 3, 4, 5, 6, 7] rfl) rfl rfl rfl hl.1 rfl (Nat.le_of_ble_eq_true rfl) dX7_when_109 ⟨Nat.le_of_ble_eq_true rfl, Nat.le_of_ble_eq_true rfl, rfl, rfl⟩ ⟨Nat.le_of_ble_eq_true rfl, Nat.le_of_ble_eq_true rfl⟩) (fun r_13 h => ?_)
        try dsimp only at h
        refine lv_istore (lv' := [(7, .int r_13), (6, .int (Int64.toInt32 (((t0.2.2.1 0) (Int32.toNatClampNeg 7)) - ((t0.2.2.1 3) (Int32.toNatClampNeg 7))))), (5, .int (Int64.toInt32 (((t0.2.2.1 0) (Int32.toNatClampNeg 6)) - ((t0.2.2.1 3) (Int32.toNatClampNeg 6))))), (1, .int z1), (2, .int z2), (3, .int z3), (4, .int z4), (0, .ref (a0 0))]) hx hb dX7_when_112 hl (by decide) rfl (fun ls hl => ?_)
        refine lv_aload_n hx hb dX7_when_114 rfl (lv_at hl 7 rfl) ?_
        refine mt_gov (mt_wV (wc := md_v a0 q t0) (As := []) (rest := []) hx hb hml hown ht (c2_X7_takesBack h) wd_X7_takesBack mw_1457 hQ hV hS hA (hP.sub [0, 1, 2, 3, 4, 5, 6, 7] rfl) (hD.sub [0, 1, 2, 3, 4, 5, 6, 7] (by decide) rfl) rfl rfl rfl hl.1 rfl (Nat.le_of_ble_eq_true rfl) dX7_when_115 ⟨Nat.le_of_ble_eq_true rfl, Nat.le_of_ble_eq_true rfl, rfl, rfl⟩ ⟨Nat.le_of_ble_eq_true rfl, Nat.le_of_ble_eq_true rfl⟩) (wr := []) hP hD hS hA [0, 1, 2, 3, 4, 5, 6, 7] [] rfl rfl (by decide) (by decide) (fun u_16 H locs h hP hD hS => ?_)
        try dsimp only at h
        have hP : va_P D vwCl [((a0 0), .inr (6, [.ref (a0 1), .ref (a0 2), .int (u_16.1 0), .ref (a0 3), .ref (a0 5), .ref (a0 4), .long u_16.2.1, .int (u_16.1 1), .int (u_16.1 2), .ref (a0 6), .int (u_16.1 3), .int (u_16.1 4), .ref (a0 7), .int (u_16.1 5), .int (u_16.1 6), .int (u_16.1 7), .int (u_16.1 8), .int (u_16.1 9), .int (u_16.1 10), .int (u_16.1 11), .int (u_16.1 12), .int (u_16.1 13), .int (u_16.1 14)])), ((a0 1), .inl (q 1, 6896, .inr (.inl (u_16.2.2.1 0)))), ((a0 2), .inl (q 1, 68960, .inr (.inl (u_16.2.2.1 1)))), ((a0 3), .inl (q 1, 13792, .inr (.inl (u_16.2.2.1 2)))), ((a0 4), .inl (q 1, 6896, .inr (.inl (u_16.2.2.1 3)))), ((a0 5), .inl (q 3, 2, .inl (u_16.2.2.2 0))), ((a0 6), .inl (q 0, 40, .inl (u_16.2.2.2 1))), ((a0 7), .inl (q 2, 400, .inl (u_16.2.2.2 2)))] H := hP
        have hD : va_D _ [((a0 0), .inr (6, [.ref (a0 1), .ref (a0 2), .int (u_16.1 0), .ref (a0 3), .ref (a0 5), .ref (a0 4), .long u_16.2.1, .int (u_16.1 1), .int (u_16.1 2), .ref (a0 6), .int (u_16.1 3), .int (u_16.1 4), .ref (a0 7), .int (u_16.1 5), .int (u_16.1 6), .int (u_16.1 7), .int (u_16.1 8), .int (u_16.1 9), .int (u_16.1 10), .int (u_16.1 11), .int (u_16.1 12), .int (u_16.1 13), .int (u_16.1 14)])), ((a0 1), .inl (q 1, 6896, .inr (.inl (u_16.2.2.1 0)))), ((a0 2), .inl (q 1, 68960, .inr (.inl (u_16.2.2.1 1)))), ((a0 3), .inl (q 1, 13792, .inr (.inl (u_16.2.2.1 2)))), ((a0 4), .inl (q 1, 6896, .inr (.inl (u_16.2.2.1 3)))), ((a0 5), .inl (q 3, 2, .inl (u_16.2.2.2 0))), ((a0 6), .inl (q 0, 40, .inl (u_16.2.2.2 1))), ((a0 7), .inl (q 2, 400, .inl (u_16.2.2.2 2)))] := hD
        refine lv_iload_n hx hb dX7_when_118 rfl (lv_at hl 3 rfl) ?_
        by_cases k_17 : z1 = 0
        · replace h := h.1 k_17
          refine lv_tableIn (tgt := 152) hx hb dX7_when_119 (by rw [k_17]; decide) (by rw [k_17]; decide) (by rw [k_17]; rfl) (by decide) ?_
          refine lv_iload_n hx hb dX7_when_152 rfl (lv_at hl 4 rfl) ?_
          exact mt_iret u_16 hx hb hr hk h (hP.sub (ws' := md_v a0 q u_16) [0, 1, 2, 3, 4, 5, 6, 7] rfl) (hD.sub (ws' := md_v a0 q u_16) [0, 1, 2, 3, 4, 5, 6, 7] (by decide) rfl) hS dX7_when_153
        replace h := h.2 k_17
        by_cases k_18 : z1 = 1
        · replace h := h.1 k_18
          refine lv_tableIn (tgt := 154) hx hb dX7_when_119 (by rw [k_18]; decide) (by rw [k_18]; decide) (by rw [k_18]; rfl) (by decide) ?_
          refine lv_iload hx hb dX7_when_154 (lv_at hl 2 rfl) ?_
          exact mt_iret u_16 hx hb hr hk h (hP.sub (ws' := md_v a0 q u_16) [0, 1, 2, 3, 4, 5, 6, 7] rfl) (hD.sub (ws' := md_v a0 q u_16) [0, 1, 2, 3, 4, 5, 6, 7] (by decide) rfl) hS dX7_when_156
        replace h := h.2 k_18
        by_cases k_19 : z1 = 2
        · replace h := h.1 k_19
          refine lv_tableIn (tgt := 157) hx hb dX7_when_119 (by rw [k_19]; decide) (by rw [k_19]; decide) (by rw [k_19]; rfl) (by decide) ?_
          refine lv_iload_n hx hb dX7_when_157 rfl (lv_at hl 5 rfl) ?_
          exact mt_iret u_16 hx hb hr hk h (hP.sub (ws' := md_v a0 q u_16) [0, 1, 2, 3, 4, 5, 6, 7] rfl) (hD.sub (ws' := md_v a0 q u_16) [0, 1, 2, 3, 4, 5, 6, 7] (by decide) rfl) hS dX7_when_158
        replace h := h.2 k_19
        by_cases k_20 : z1 = 3
        · replace h := h.1 k_20
          refine lv_tableIn (tgt := 159) hx hb dX7_when_119 (by rw [k_20]; decide) (by rw [k_20]; decide) (by rw [k_20]; rfl) (by decide) ?_
          refine lv_iload hx hb dX7_when_159 (lv_at hl 6 rfl) ?_
          exact mt_iret u_16 hx hb hr hk h (hP.sub (ws' := md_v a0 q u_16) [0, 1, 2, 3, 4, 5, 6, 7] rfl) (hD.sub (ws' := md_v a0 q u_16) [0, 1, 2, 3, 4, 5, 6, 7] (by decide) rfl) hS dX7_when_161
        replace h := h.2 k_20
        by_cases k_21 : z1 = 4
        · replace h := h.1 k_21
          refine lv_tableIn (tgt := 162) hx hb dX7_when_119 (by rw [k_21]; decide) (by rw [k_21]; decide) (by rw [k_21]; rfl) (by decide) ?_
          refine lv_iload hx hb dX7_when_162 (lv_at hl 0 rfl) ?_
          exact mt_iret u_16 hx hb hr hk h (hP.sub (ws' := md_v a0 q u_16) [0, 1, 2, 3, 4, 5, 6, 7] rfl) (hD.sub (ws' := md_v a0 q u_16) [0, 1, 2, 3, 4, 5, 6, 7] (by decide) rfl) hS dX7_when_164
        replace h := h.2 k_21
        refine lv_tableOut (tgt := 165) hx hb dX7_when_119 (by have g0 := k_17; have g1 := k_18; have g2 := k_19; have g3 := k_20; have g4 := k_21; (try simp only [lg_cmp_ge, lg_cmp_le, lg_cmp_gt, lg_cmp_lt, lg_cmp_eq] at g0 g1 g2 g3 g4); (try simp only [Int32.lt_iff_toInt_lt, Int32.le_iff_toInt_le, ← Int32.toInt_inj, Int32.reduceToInt, Int64.lt_iff_toInt_lt, Int64.le_iff_toInt_le, ← Int64.toInt_inj, Int64.reduceToInt, Int32.toInt_toInt64] at g0 g1 g2 g3 g4); omega) (by decide) ?_
        refine lv_iload hx hb dX7_when_165 (lv_at hl 1 rfl) ?_
        exact mt_iret u_16 hx hb hr hk h (hP.sub (ws' := md_v a0 q u_16) [0, 1, 2, 3, 4, 5, 6, 7] rfl) (hD.sub (ws' := md_v a0 q u_16) [0, 1, 2, 3, 4, 5, 6, 7] (by decide) rfl) hS dX7_when_167
    · replace h := h.2 c_6
      refine lv_iconst (v := (-1)) hx hb dX7_when_19 (by decide) ?_
      exact mt_iret s0 hx hb hr hk h (hP.sub (ws' := md_v a0 q s0) [0, 1, 2, 3, 4, 5, 6, 7] rfl) (hD.sub (ws' := md_v a0 q s0) [0, 1, 2, 3, 4, 5, 6, 7] (by decide) rfl) hS dX7_when_20

def wp_X7_total (post : Int32 → Prop) (s0 : Md) (x1 : Int32) : Prop := wp_X7_isBoard (fun r_1 => ((r_1 = 0 → post (-1)) ∧ (¬ r_1 = 0 → wp_X7_in (fun r_4 => ((r_4 = 0 → post (-1)) ∧ (¬ r_4 = 0 → vp_in (4 + x1) 6896 ∧ post (Int64.toInt32 ((s0.2.2.1 0) (Int32.toNatClampNeg (4 + x1))))))) (Int32.toInt64 x1) (0 : Int64) (3 : Int64)))) s0
set_option maxHeartbeats 4000000 in
set_option maxRecDepth 100000 in
theorem c2_X7_total {l : Launch} {D : va_G} {q : Nat → ClassId} {a0 : Nat → Nat} {s0 : Md} {x1 : Int32} {post : Int32 → Prop} (h : wp_X7_total post s0 x1) : Met l yX7_total (Cond.code yX7_total cX7_total 2 (some .int) :: w_all) ({ frames := 2, cells := 0, slots := 0, locals := 40 } : Room) (rd_P D q [.ref (a0 0), .int x1] (md_v a0 q s0)) (vp_Si post) 0 0 (fun _ => False) := by
  refine rd_start (by decide) (Nat.le_of_ble_eq_true rfl) ?_
  intro p e s m below meth c ls hx hb hr hml hown ht hk hP hQ hV hl
  have hK := hQ.1
  have hown : s.vm.findClass RX7 = some m.cls := hown
  have hl : lv_has ls 2 [(0, .ref (a0 0)), (1, .int x1)] := hl
  have hP : va_P D vwCl [((a0 0), .inr (6, [.ref (a0 1), .ref (a0 2), .int (s0.1 0), .ref (a0 3), .ref (a0 5), .ref (a0 4), .long s0.2.1, .int (s0.1 1), .int (s0.1 2), .ref (a0 6), .int (s0.1 3), .int (s0.1 4), .ref (a0 7), .int (s0.1 5), .int (s0.1 6), .int (s0.1 7), .int (s0.1 8), .int (s0.1 9), .int (s0.1 10), .int (s0.1 11), .int (s0.1 12), .int (s0.1 13), .int (s0.1 14)])), ((a0 1), .inl (q 1, 6896, .inr (.inl (s0.2.2.1 0)))), ((a0 2), .inl (q 1, 68960, .inr (.inl (s0.2.2.1 1)))), ((a0 3), .inl (q 1, 13792, .inr (.inl (s0.2.2.1 2)))), ((a0 4), .inl (q 1, 6896, .inr (.inl (s0.2.2.1 3)))), ((a0 5), .inl (q 3, 2, .inl (s0.2.2.2 0))), ((a0 6), .inl (q 0, 40, .inl (s0.2.2.2 1))), ((a0 7), .inl (q 2, 400, .inl (s0.2.2.2 2)))] s.heap := hP
  unfold wp_X7_total at h
  refine lv_aload_n hx hb dX7_total_0 rfl (lv_at hl 0 rfl) ?_
  refine vp_callSi (rd_wV (wc := md_v a0 q s0) (As := []) (rest := []) hx hb hml hown ht (c2_X7_isBoard h) wd_X7_isBoard mw_1283 hQ hV va_S.rf (hP.sub [0, 1, 2, 3, 4, 5, 6, 7] rfl) rfl rfl rfl hl.1 rfl (Nat.le_of_ble_eq_true rfl) dX7_total_1 ⟨Nat.le_of_ble_eq_true rfl, Nat.le_of_ble_eq_true rfl, rfl, rfl⟩ ⟨Nat.le_of_ble_eq_true rfl, Nat.le_of_ble_eq_true rfl⟩) (fun r_1 h => ?_)
  try dsimp only at h
  refine lv_if_eq (tgt := 31) hx hb dX7_total_4 (by decide) (fun c_3 => ?_) (fun c_3 => ?_)
  · replace h := h.1 c_3
    refine lv_iconst (v := (-1)) hx hb dX7_total_31 (by decide) ?_
    exact rd_iret hx hb hr hk h dX7_total_32
  · replace h := h.2 c_3
    refine lv_iload_n hx hb dX7_total_7 rfl (lv_at hl 1 rfl) ?_
    refine lv_i2l (v := (Int32.toInt64 x1)) hx hb dX7_total_8 rfl ?_
    refine lv_lconst (v := 0) hx hb dX7_total_9 (by decide) ?_
    refine lv_ldc2 (v := 3) hx hb hown (ht _ mw_1443) dX7_total_10 ?_
    refine vp_callSi (rd_wS (wc := ([] : va_W)) (As := [.long (Int32.toInt64 x1), .long 0, .long 3]) (rest := []) hx hb hml hown ht (c2_X7_in h) wd_X7_in mw_1213 hQ hV va_S.rf (hP.sub [] rfl) rfl hl.1 rfl (Nat.le_of_ble_eq_true rfl) dX7_total_13 ⟨Nat.le_of_ble_eq_true rfl, Nat.le_of_ble_eq_true rfl, rfl, rfl⟩ ⟨Nat.le_of_ble_eq_true rfl, Nat.le_of_ble_eq_true rfl⟩) (fun r_4 h => ?_)
    try dsimp only at h
    refine lv_if_eq (tgt := 31) hx hb dX7_total_16 (by decide) (fun c_6 => ?_) (fun c_6 => ?_)
    · replace h := h.1 c_6
      refine lv_iconst (v := (-1)) hx hb dX7_total_31 (by decide) ?_
      exact rd_iret hx hb hr hk h dX7_total_32
    · replace h := h.2 c_6
      refine lv_aload_n hx hb dX7_total_19 rfl (lv_at hl 0 rfl) ?_
      refine fl_get (C := RX7) (T := TX7) (N := 23) (ci := 6) (v := .ref (a0 1)) hx hb ht in_X7 hown hK hP 0 rfl rfl 0 (by decide) mw_1130 rfl dX7_total_20 ?_
      refine lv_iconst (v := 4) hx hb dX7_total_23 (by decide) ?_
      refine lv_iload_n hx hb dX7_total_24 rfl (lv_at hl 1 rfl) ?_
      refine lv_iadd hx hb dX7_total_25 ?_
      obtain ⟨g_7, h⟩ := h
      refine va_lald hx hb hK hP 1 1 rfl rfl g_7 dX7_total_26 ?_
      refine lv_l2i (v := (Int64.toInt32 ((s0.2.2.1 0) (Int32.toNatClampNeg (4 + x1))))) hx hb dX7_total_27 rfl ?_
      refine lv_goto (tgt := 32) hx hb dX7_total_28 (by decide) ?_
      exact rd_iret hx hb hr hk h dX7_total_32

def wp_X7_rests_L16 (post : Int32 → Md → Prop) (e44 : Md → Int32 → Int32 → Prop) : Nat → Md → Int32 → Int32 → Prop
  | 0, _, _, _ => False
  | n16 + 1, t0, z1, z2 => wp_X7_leftOf (fun r_6 => ((r_6 ≤ 0 → e44 t0 z1 z2) ∧ (¬ r_6 ≤ 0 → ((9999 < z2 → e44 t0 z1 z2) ∧ (¬ 9999 < z2 → wp_X7_ticks (fun r_10 u_11 => ((r_10 ≤ 0 → e44 u_11 z1 z2) ∧ (¬ r_10 ≤ 0 → wp_X7_rests_L16 post e44 n16 u_11 z1 (z2 + 1)))) t0))))) t0 z1
def wp_X7_rests (post : Int32 → Md → Prop) (s0 : Md) (x1 : Int32) : Prop := wp_X7_isCell (fun r_1 => ((¬ r_1 = 0 → wp_X7_putsAside (fun u_5 => (∃ n16, wp_X7_rests_L16 post (fun t0 z1 z2 => wp_X7_leftOf (fun r_13 => ((0 < r_13 → wp_X7_takesBack (fun u_17 => post (-2) u_17) t0) ∧ (¬ 0 < r_13 → ((z2 ≤ 9999 → wp_X7_takesBack (fun u_20 => post z2 u_20) t0) ∧ (¬ z2 ≤ 9999 → wp_X7_takesBack (fun u_22 => post (-2) u_22) t0))))) t0 z1) n16 u_5 x1 0)) s0) ∧ (r_1 = 0 → post (-1) s0))) s0 x1
set_option maxHeartbeats 4000000 in
set_option maxRecDepth 100000 in
theorem c2_X7_rests {l : Launch} {D : va_G} {q : Nat → ClassId} {sz : Nat} {a0 : Nat → Nat} {s0 : Md} {x1 : Int32} {post : Int32 → Md → Prop} (h : wp_X7_rests post s0 x1) : Met l yX7_rests (Cond.code yX7_rests cX7_rests 4 (some .int) :: w_all) ({ frames := 5, cells := 0, slots := 0, locals := 110 } : Room) (mt_P D q [.ref (a0 0), .int x1] (md_v a0 q s0) sz) (va_Qi (fun r (u : Md) => post r u) (mt_B D (md_v a0 q s0) sz (fun u : Md => md_v a0 q u)) (va_A (md_v a0 q s0) sz)) 0 0 (va_A (md_v a0 q s0) sz) := by
  refine mt_start (by decide) (Nat.le_of_ble_eq_true rfl) ?_
  intro p e s m below meth c ls hx hb hr hml hown ht hk hin hP hQ hD hA hS hV hl
  have hK := hQ.1
  have hown : s.vm.findClass RX7 = some m.cls := hown
  have hl : lv_has ls 4 [(0, .ref (a0 0)), (1, .int x1)] := hl
  have hP : va_P D vwCl [((a0 0), .inr (6, [.ref (a0 1), .ref (a0 2), .int (s0.1 0), .ref (a0 3), .ref (a0 5), .ref (a0 4), .long s0.2.1, .int (s0.1 1), .int (s0.1 2), .ref (a0 6), .int (s0.1 3), .int (s0.1 4), .ref (a0 7), .int (s0.1 5), .int (s0.1 6), .int (s0.1 7), .int (s0.1 8), .int (s0.1 9), .int (s0.1 10), .int (s0.1 11), .int (s0.1 12), .int (s0.1 13), .int (s0.1 14)])), ((a0 1), .inl (q 1, 6896, .inr (.inl (s0.2.2.1 0)))), ((a0 2), .inl (q 1, 68960, .inr (.inl (s0.2.2.1 1)))), ((a0 3), .inl (q 1, 13792, .inr (.inl (s0.2.2.1 2)))), ((a0 4), .inl (q 1, 6896, .inr (.inl (s0.2.2.1 3)))), ((a0 5), .inl (q 3, 2, .inl (s0.2.2.2 0))), ((a0 6), .inl (q 0, 40, .inl (s0.2.2.2 1))), ((a0 7), .inl (q 2, 400, .inl (s0.2.2.2 2)))] s.heap := hP
  have hD : va_D _ [((a0 0), .inr (6, [.ref (a0 1), .ref (a0 2), .int (s0.1 0), .ref (a0 3), .ref (a0 5), .ref (a0 4), .long s0.2.1, .int (s0.1 1), .int (s0.1 2), .ref (a0 6), .int (s0.1 3), .int (s0.1 4), .ref (a0 7), .int (s0.1 5), .int (s0.1 6), .int (s0.1 7), .int (s0.1 8), .int (s0.1 9), .int (s0.1 10), .int (s0.1 11), .int (s0.1 12), .int (s0.1 13), .int (s0.1 14)])), ((a0 1), .inl (q 1, 6896, .inr (.inl (s0.2.2.1 0)))), ((a0 2), .inl (q 1, 68960, .inr (.inl (s0.2.2.1 1)))), ((a0 3), .inl (q 1, 13792, .inr (.inl (s0.2.2.1 2)))), ((a0 4), .inl (q 1, 6896, .inr (.inl (s0.2.2.1 3)))), ((a0 5), .inl (q 3, 2, .inl (s0.2.2.2 0))), ((a0 6), .inl (q 0, 40, .inl (s0.2.2.2 1))), ((a0 7), .inl (q 2, 400, .inl (s0.2.2.2 2)))] := hD
  unfold wp_X7_rests at h
  refine lv_aload_n hx hb dX7_rests_0 rfl (lv_at hl 0 rfl) ?_
  refine lv_iload_n hx hb dX7_rests_1 rfl (lv_at hl 1 rfl) ?_
  refine vp_callSi (rd_wV (wc := md_v a0 q s0) (As := [.int x1]) (rest := []) hx hb hml hown ht (c2_X7_isCell h) wd_X7_isCell mw_1340 hQ hV hS (hP.sub [0, 1, 2, 3, 4, 5, 6, 7] rfl) rfl rfl rfl hl.1 rfl (Nat.le_of_ble_eq_true rfl) dX7_rests_2 ⟨Nat.le_of_ble_eq_true rfl, Nat.le_of_ble_eq_true rfl, rfl, rfl⟩ ⟨Nat.le_of_ble_eq_true rfl, Nat.le_of_ble_eq_true rfl⟩) (fun r_1 h => ?_)
  try dsimp only at h
  refine lv_if_ne (tgt := 10) hx hb dX7_rests_5 (by decide) (fun c_3 => ?_) (fun c_3 => ?_)
  · replace h := h.1 c_3
    refine lv_aload_n hx hb dX7_rests_10 rfl (lv_at hl 0 rfl) ?_
    refine mt_gov (mt_wV (wc := md_v a0 q s0) (As := []) (rest := []) hx hb hml hown ht (c2_X7_putsAside h) wd_X7_putsAside mw_1449 hQ hV hS hA (hP.sub [0, 1, 2, 3, 4, 5, 6, 7] rfl) (hD.sub [0, 1, 2, 3, 4, 5, 6, 7] (by decide) rfl) rfl rfl rfl hl.1 rfl (Nat.le_of_ble_eq_true rfl) dX7_rests_11 ⟨Nat.le_of_ble_eq_true rfl, Nat.le_of_ble_eq_true rfl, rfl, rfl⟩ ⟨Nat.le_of_ble_eq_true rfl, Nat.le_of_ble_eq_true rfl⟩) (wr := []) hP hD hS hA [0, 1, 2, 3, 4, 5, 6, 7] [] rfl rfl (by decide) (by decide) (fun u_5 H locs h hP hD hS => ?_)
    try dsimp only at h
    have hP : va_P D vwCl [((a0 0), .inr (6, [.ref (a0 1), .ref (a0 2), .int (u_5.1 0), .ref (a0 3), .ref (a0 5), .ref (a0 4), .long u_5.2.1, .int (u_5.1 1), .int (u_5.1 2), .ref (a0 6), .int (u_5.1 3), .int (u_5.1 4), .ref (a0 7), .int (u_5.1 5), .int (u_5.1 6), .int (u_5.1 7), .int (u_5.1 8), .int (u_5.1 9), .int (u_5.1 10), .int (u_5.1 11), .int (u_5.1 12), .int (u_5.1 13), .int (u_5.1 14)])), ((a0 1), .inl (q 1, 6896, .inr (.inl (u_5.2.2.1 0)))), ((a0 2), .inl (q 1, 68960, .inr (.inl (u_5.2.2.1 1)))), ((a0 3), .inl (q 1, 13792, .inr (.inl (u_5.2.2.1 2)))), ((a0 4), .inl (q 1, 6896, .inr (.inl (u_5.2.2.1 3)))), ((a0 5), .inl (q 3, 2, .inl (u_5.2.2.2 0))), ((a0 6), .inl (q 0, 40, .inl (u_5.2.2.2 1))), ((a0 7), .inl (q 2, 400, .inl (u_5.2.2.2 2)))] H := hP
    have hD : va_D _ [((a0 0), .inr (6, [.ref (a0 1), .ref (a0 2), .int (u_5.1 0), .ref (a0 3), .ref (a0 5), .ref (a0 4), .long u_5.2.1, .int (u_5.1 1), .int (u_5.1 2), .ref (a0 6), .int (u_5.1 3), .int (u_5.1 4), .ref (a0 7), .int (u_5.1 5), .int (u_5.1 6), .int (u_5.1 7), .int (u_5.1 8), .int (u_5.1 9), .int (u_5.1 10), .int (u_5.1 11), .int (u_5.1 12), .int (u_5.1 13), .int (u_5.1 14)])), ((a0 1), .inl (q 1, 6896, .inr (.inl (u_5.2.2.1 0)))), ((a0 2), .inl (q 1, 68960, .inr (.inl (u_5.2.2.1 1)))), ((a0 3), .inl (q 1, 13792, .inr (.inl (u_5.2.2.1 2)))), ((a0 4), .inl (q 1, 6896, .inr (.inl (u_5.2.2.1 3)))), ((a0 5), .inl (q 3, 2, .inl (u_5.2.2.2 0))), ((a0 6), .inl (q 0, 40, .inl (u_5.2.2.2 1))), ((a0 7), .inl (q 2, 400, .inl (u_5.2.2.2 2)))] := hD
    refine lv_iconst (v := 0) hx hb dX7_rests_14 (by decide) ?_
    refine lv_istore_n (lv' := [(2, .int 0), (0, .ref (a0 0)), (1, .int x1)]) hx hb dX7_rests_15 rfl hl (by decide) rfl (fun ls hl => ?_)
    have lp16 : ∀ (e44 : Md → Int32 → Int32 → Prop) (k44 : ∀ (t0 : Md) (z1 : Int32) (z2 : Int32) (H : Heap) (locs : List Loc) (ls : Array Slot), e44 t0 z1 z2 → va_P D vwCl (md_v a0 q t0) H → va_D (va_A (md_v a0 q s0) sz) (md_v a0 q t0) → va_S (va_A (md_v a0 q s0) sz) s.heap H locs → lv_has ls 4 [(1, .int z1), (2, .int z2), (0, .ref (a0 0))] → W p l e ({ frames := 5, cells := 0, slots := 0, locals := 110 } : Room) s m [.ref (a0 0), .int x1].toArray below meth c H locs 0 0 (MQ below (va_Qi (fun r (u : Md) => post r u) (mt_B D (md_v a0 q s0) sz (fun u : Md => md_v a0 q u)) (va_A (md_v a0 q s0) sz)) [.ref (a0 0), .int x1].toArray s 0 0 (va_A (md_v a0 q s0) sz)) (F0 m 44 ls [])) (n : Nat) (t0 : Md) (z1 : Int32) (z2 : Int32) (H : Heap) (locs : List Loc) (ls : Array Slot), wp_X7_rests_L16 post e44 n t0 z1 z2 → va_P D vwCl (md_v a0 q t0) H → va_D (va_A (md_v a0 q s0) sz) (md_v a0 q t0) → va_S (va_A (md_v a0 q s0) sz) s.heap H locs → lv_has ls 4 [(1, .int z1), (2, .int z2), (0, .ref (a0 0))] → W p l e ({ frames := 5, cells := 0, slots := 0, locals := 110 } : Room) s m [.ref (a0 0), .int x1].toArray below meth c H locs 0 0 (MQ below (va_Qi (fun r (u : Md) => post r u) (mt_B D (md_v a0 q s0) sz (fun u : Md => md_v a0 q u)) (va_A (md_v a0 q s0) sz)) [.ref (a0 0), .int x1].toArray s 0 0 (va_A (md_v a0 q s0) sz)) (F0 m 16 ls []) := by
      intro e44 k44 n
      induction n with
      | zero =>
        intro t0 z1 z2 H locs ls h
        exact h.elim
      | succ n ih =>
        intro t0 z1 z2 H locs ls h hP hD hS hl
        have hP : va_P D vwCl [((a0 0), .inr (6, [.ref (a0 1), .ref (a0 2), .int (t0.1 0), .ref (a0 3), .ref (a0 5), .ref (a0 4), .long t0.2.1, .int (t0.1 1), .int (t0.1 2), .ref (a0 6), .int (t0.1 3), .int (t0.1 4), .ref (a0 7), .int (t0.1 5), .int (t0.1 6), .int (t0.1 7), .int (t0.1 8), .int (t0.1 9), .int (t0.1 10), .int (t0.1 11), .int (t0.1 12), .int (t0.1 13), .int (t0.1 14)])), ((a0 1), .inl (q 1, 6896, .inr (.inl (t0.2.2.1 0)))), ((a0 2), .inl (q 1, 68960, .inr (.inl (t0.2.2.1 1)))), ((a0 3), .inl (q 1, 13792, .inr (.inl (t0.2.2.1 2)))), ((a0 4), .inl (q 1, 6896, .inr (.inl (t0.2.2.1 3)))), ((a0 5), .inl (q 3, 2, .inl (t0.2.2.2 0))), ((a0 6), .inl (q 0, 40, .inl (t0.2.2.2 1))), ((a0 7), .inl (q 2, 400, .inl (t0.2.2.2 2)))] H := hP
        have hD : va_D _ [((a0 0), .inr (6, [.ref (a0 1), .ref (a0 2), .int (t0.1 0), .ref (a0 3), .ref (a0 5), .ref (a0 4), .long t0.2.1, .int (t0.1 1), .int (t0.1 2), .ref (a0 6), .int (t0.1 3), .int (t0.1 4), .ref (a0 7), .int (t0.1 5), .int (t0.1 6), .int (t0.1 7), .int (t0.1 8), .int (t0.1 9), .int (t0.1 10), .int (t0.1 11), .int (t0.1 12), .int (t0.1 13), .int (t0.1 14)])), ((a0 1), .inl (q 1, 6896, .inr (.inl (t0.2.2.1 0)))), ((a0 2), .inl (q 1, 68960, .inr (.inl (t0.2.2.1 1)))), ((a0 3), .inl (q 1, 13792, .inr (.inl (t0.2.2.1 2)))), ((a0 4), .inl (q 1, 6896, .inr (.inl (t0.2.2.1 3)))), ((a0 5), .inl (q 3, 2, .inl (t0.2.2.2 0))), ((a0 6), .inl (q 0, 40, .inl (t0.2.2.2 1))), ((a0 7), .inl (q 2, 400, .inl (t0.2.2.2 2)))] := hD
        unfold wp_X7_rests_L16 at h
        refine lv_aload_n hx hb dX7_rests_16 rfl (lv_at hl 2 rfl) ?_
        refine lv_iload_n hx hb dX7_rests_17 rfl (lv_at hl 0 rfl) ?_
        refine vp_callSi (rd_wV (wc := md_v a0 q t0) (As := [.int z1]) (rest := []) hx hb hml hown ht (c2_X7_leftOf h) wd_X7_leftOf mw_1312 hQ hV hS (hP.sub [0, 1, 2, 3, 4, 5, 6, 7] rfl) rfl rfl rfl hl.1 rfl (Nat.le_of_ble_eq_true rfl) dX7_rests_18 ⟨Nat.le_of_ble_eq_true rfl, Nat.le_of_ble_eq_true rfl, rfl, rfl⟩ ⟨Nat.le_of_ble_eq_true rfl, Nat.le_of_ble_eq_true rfl⟩) (fun r_6 h => ?_)
        try dsimp only at h
        refine lv_if_le (tgt := 44) hx hb dX7_rests_21 (by decide) (fun c_8 => ?_) (fun c_8 => ?_)
        · replace h := h.1 c_8
          exact k44 _ _ _ _ _ ls h (hP.sub (ws' := md_v a0 q t0) [0, 1, 2, 3, 4, 5, 6, 7] rfl) (hD.sub (ws' := md_v a0 q t0) [0, 1, 2, 3, 4, 5, 6, 7] (by decide) rfl) hS (lv_sub hl [0, 1, 2] rfl)
        · replace h := h.2 c_8
          refine lv_iload_n hx hb dX7_rests_24 rfl (lv_at hl 1 rfl) ?_
          refine lv_sipush (v := 9999) hx hb dX7_rests_25 (by decide) ?_
          refine lv_icmp_gt (tgt := 44) hx hb dX7_rests_28 (by decide) (fun c_9 => ?_) (fun c_9 => ?_)
          · replace h := h.1 c_9
            exact k44 _ _ _ _ _ ls h (hP.sub (ws' := md_v a0 q t0) [0, 1, 2, 3, 4, 5, 6, 7] rfl) (hD.sub (ws' := md_v a0 q t0) [0, 1, 2, 3, 4, 5, 6, 7] (by decide) rfl) hS (lv_sub hl [0, 1, 2] rfl)
          · replace h := h.2 c_9
            refine lv_aload_n hx hb dX7_rests_31 rfl (lv_at hl 2 rfl) ?_
            refine mt_goi (mt_wV (wc := md_v a0 q t0) (As := []) (rest := []) hx hb hml hown ht (c2_X7_ticks h) wd_X7_ticks mw_1304 hQ hV hS hA (hP.sub [0, 1, 2, 3, 4, 5, 6, 7] rfl) (hD.sub [0, 1, 2, 3, 4, 5, 6, 7] (by decide) rfl) rfl rfl rfl hl.1 rfl (Nat.le_of_ble_eq_true rfl) dX7_rests_32 ⟨Nat.le_of_ble_eq_true rfl, Nat.le_of_ble_eq_true rfl, rfl, rfl⟩ ⟨Nat.le_of_ble_eq_true rfl, Nat.le_of_ble_eq_true rfl⟩) (wr := []) hP hD hS hA [0, 1, 2, 3, 4, 5, 6, 7] [] rfl rfl (by decide) (by decide) (fun r_10 u_11 H locs h hP hD hS => ?_)
            try dsimp only at h
            have hP : va_P D vwCl [((a0 0), .inr (6, [.ref (a0 1), .ref (a0 2), .int (u_11.1 0), .ref (a0 3), .ref (a0 5), .ref (a0 4), .long u_11.2.1, .int (u_11.1 1), .int (u_11.1 2), .ref (a0 6), .int (u_11.1 3), .int (u_11.1 4), .ref (a0 7), .int (u_11.1 5), .int (u_11.1 6), .int (u_11.1 7), .int (u_11.1 8), .int (u_11.1 9), .int (u_11.1 10), .int (u_11.1 11), .int (u_11.1 12), .int (u_11.1 13), .int (u_11.1 14)])), ((a0 1), .inl (q 1, 6896, .inr (.inl (u_11.2.2.1 0)))), ((a0 2), .inl (q 1, 68960, .inr (.inl (u_11.2.2.1 1)))), ((a0 3), .inl (q 1, 13792, .inr (.inl (u_11.2.2.1 2)))), ((a0 4), .inl (q 1, 6896, .inr (.inl (u_11.2.2.1 3)))), ((a0 5), .inl (q 3, 2, .inl (u_11.2.2.2 0))), ((a0 6), .inl (q 0, 40, .inl (u_11.2.2.2 1))), ((a0 7), .inl (q 2, 400, .inl (u_11.2.2.2 2)))] H := hP
            have hD : va_D _ [((a0 0), .inr (6, [.ref (a0 1), .ref (a0 2), .int (u_11.1 0), .ref (a0 3), .ref (a0 5), .ref (a0 4), .long u_11.2.1, .int (u_11.1 1), .int (u_11.1 2), .ref (a0 6), .int (u_11.1 3), .int (u_11.1 4), .ref (a0 7), .int (u_11.1 5), .int (u_11.1 6), .int (u_11.1 7), .int (u_11.1 8), .int (u_11.1 9), .int (u_11.1 10), .int (u_11.1 11), .int (u_11.1 12), .int (u_11.1 13), .int (u_11.1 14)])), ((a0 1), .inl (q 1, 6896, .inr (.inl (u_11.2.2.1 0)))), ((a0 2), .inl (q 1, 68960, .inr (.inl (u_11.2.2.1 1)))), ((a0 3), .inl (q 1, 13792, .inr (.inl (u_11.2.2.1 2)))), ((a0 4), .inl (q 1, 6896, .inr (.inl (u_11.2.2.1 3)))), ((a0 5), .inl (q 3, 2, .inl (u_11.2.2.2 0))), ((a0 6), .inl (q 0, 40, .inl (u_11.2.2.2 1))), ((a0 7), .inl (q 2, 400, .inl (u_11.2.2.2 2)))] := hD
            refine lv_if_le (tgt := 44) hx hb dX7_rests_35 (by decide) (fun c_12 => ?_) (fun c_12 => ?_)
            · replace h := h.1 c_12
              exact k44 _ _ _ _ _ ls h (hP.sub (ws' := md_v a0 q u_11) [0, 1, 2, 3, 4, 5, 6, 7] rfl) (hD.sub (ws' := md_v a0 q u_11) [0, 1, 2, 3, 4, 5, 6, 7] (by decide) rfl) hS (lv_sub hl [0, 1, 2] rfl)
            · replace h := h.2 c_12
              refine lv_iinc (v := (z2 + 1)) (lv' := [(2, .int (z2 + 1)), (1, .int z1), (0, .ref (a0 0))]) hx hb dX7_rests_38 hl (k := 1) rfl rfl (by decide) rfl (fun ls hl => ?_)
              refine lv_goto (tgt := 16) hx hb dX7_rests_41 (by decide) ?_
              exact ih _ _ _ _ _ ls h (hP.sub (ws' := md_v a0 q u_11) [0, 1, 2, 3, 4, 5, 6, 7] rfl) (hD.sub (ws' := md_v a0 q u_11) [0, 1, 2, 3, 4, 5, 6, 7] (by decide) rfl) hS (lv_sub hl [1, 0, 2] rfl)
    obtain ⟨n16, h⟩ := h
    refine lp16 _ ?_ n16 _ _ _ _ _ ls h (hP.sub (ws' := md_v a0 q u_5) [0, 1, 2, 3, 4, 5, 6, 7] rfl) (hD.sub (ws' := md_v a0 q u_5) [0, 1, 2, 3, 4, 5, 6, 7] (by decide) rfl) hS (lv_sub hl [2, 0, 1] rfl)
    · intro t0 z1 z2 H locs ls h hP hD hS hl
      try dsimp only at h
      have hP : va_P D vwCl [((a0 0), .inr (6, [.ref (a0 1), .ref (a0 2), .int (t0.1 0), .ref (a0 3), .ref (a0 5), .ref (a0 4), .long t0.2.1, .int (t0.1 1), .int (t0.1 2), .ref (a0 6), .int (t0.1 3), .int (t0.1 4), .ref (a0 7), .int (t0.1 5), .int (t0.1 6), .int (t0.1 7), .int (t0.1 8), .int (t0.1 9), .int (t0.1 10), .int (t0.1 11), .int (t0.1 12), .int (t0.1 13), .int (t0.1 14)])), ((a0 1), .inl (q 1, 6896, .inr (.inl (t0.2.2.1 0)))), ((a0 2), .inl (q 1, 68960, .inr (.inl (t0.2.2.1 1)))), ((a0 3), .inl (q 1, 13792, .inr (.inl (t0.2.2.1 2)))), ((a0 4), .inl (q 1, 6896, .inr (.inl (t0.2.2.1 3)))), ((a0 5), .inl (q 3, 2, .inl (t0.2.2.2 0))), ((a0 6), .inl (q 0, 40, .inl (t0.2.2.2 1))), ((a0 7), .inl (q 2, 400, .inl (t0.2.2.2 2)))] H := hP
      have hD : va_D _ [((a0 0), .inr (6, [.ref (a0 1), .ref (a0 2), .int (t0.1 0), .ref (a0 3), .ref (a0 5), .ref (a0 4), .long t0.2.1, .int (t0.1 1), .int (t0.1 2), .ref (a0 6), .int (t0.1 3), .int (t0.1 4), .ref (a0 7), .int (t0.1 5), .int (t0.1 6), .int (t0.1 7), .int (t0.1 8), .int (t0.1 9), .int (t0.1 10), .int (t0.1 11), .int (t0.1 12), .int (t0.1 13), .int (t0.1 14)])), ((a0 1), .inl (q 1, 6896, .inr (.inl (t0.2.2.1 0)))), ((a0 2), .inl (q 1, 68960, .inr (.inl (t0.2.2.1 1)))), ((a0 3), .inl (q 1, 13792, .inr (.inl (t0.2.2.1 2)))), ((a0 4), .inl (q 1, 6896, .inr (.inl (t0.2.2.1 3)))), ((a0 5), .inl (q 3, 2, .inl (t0.2.2.2 0))), ((a0 6), .inl (q 0, 40, .inl (t0.2.2.2 1))), ((a0 7), .inl (q 2, 400, .inl (t0.2.2.2 2)))] := hD
      refine lv_aload_n hx hb dX7_rests_44 rfl (lv_at hl 2 rfl) ?_
      refine lv_iload_n hx hb dX7_rests_45 rfl (lv_at hl 0 rfl) ?_
      refine vp_callSi (rd_wV (wc := md_v a0 q t0) (As := [.int z1]) (rest := []) hx hb hml hown ht (c2_X7_leftOf h) wd_X7_leftOf mw_1312 hQ hV hS (hP.sub [0, 1, 2, 3, 4, 5, 6, 7] rfl) rfl rfl rfl hl.1 rfl (Nat.le_of_ble_eq_true rfl) dX7_rests_46 ⟨Nat.le_of_ble_eq_true rfl, Nat.le_of_ble_eq_true rfl, rfl, rfl⟩ ⟨Nat.le_of_ble_eq_true rfl, Nat.le_of_ble_eq_true rfl⟩) (fun r_13 h => ?_)
      try dsimp only at h
      refine lv_if_gt (tgt := 59) hx hb dX7_rests_49 (by decide) (fun c_15 => ?_) (fun c_15 => ?_)
      · replace h := h.1 c_15
        refine lv_bipush (v := (-2)) hx hb dX7_rests_59 (by decide) ?_
        refine lv_goto (tgt := 65) hx hb dX7_rests_61 (by decide) ?_
        refine lv_istore_n (lv' := [(3, .int (-2)), (1, .int z1), (2, .int z2), (0, .ref (a0 0))]) hx hb dX7_rests_65 rfl hl (by decide) rfl (fun ls hl => ?_)
        refine lv_aload_n hx hb dX7_rests_66 rfl (lv_at hl 3 rfl) ?_
        refine mt_gov (mt_wV (wc := md_v a0 q t0) (As := []) (rest := []) hx hb hml hown ht (c2_X7_takesBack h) wd_X7_takesBack mw_1457 hQ hV hS hA (hP.sub [0, 1, 2, 3, 4, 5, 6, 7] rfl) (hD.sub [0, 1, 2, 3, 4, 5, 6, 7] (by decide) rfl) rfl rfl rfl hl.1 rfl (Nat.le_of_ble_eq_true rfl) dX7_rests_67 ⟨Nat.le_of_ble_eq_true rfl, Nat.le_of_ble_eq_true rfl, rfl, rfl⟩ ⟨Nat.le_of_ble_eq_true rfl, Nat.le_of_ble_eq_true rfl⟩) (wr := []) hP hD hS hA [0, 1, 2, 3, 4, 5, 6, 7] [] rfl rfl (by decide) (by decide) (fun u_17 H locs h hP hD hS => ?_)
        try dsimp only at h
        have hP : va_P D vwCl [((a0 0), .inr (6, [.ref (a0 1), .ref (a0 2), .int (u_17.1 0), .ref (a0 3), .ref (a0 5), .ref (a0 4), .long u_17.2.1, .int (u_17.1 1), .int (u_17.1 2), .ref (a0 6), .int (u_17.1 3), .int (u_17.1 4), .ref (a0 7), .int (u_17.1 5), .int (u_17.1 6), .int (u_17.1 7), .int (u_17.1 8), .int (u_17.1 9), .int (u_17.1 10), .int (u_17.1 11), .int (u_17.1 12), .int (u_17.1 13), .int (u_17.1 14)])), ((a0 1), .inl (q 1, 6896, .inr (.inl (u_17.2.2.1 0)))), ((a0 2), .inl (q 1, 68960, .inr (.inl (u_17.2.2.1 1)))), ((a0 3), .inl (q 1, 13792, .inr (.inl (u_17.2.2.1 2)))), ((a0 4), .inl (q 1, 6896, .inr (.inl (u_17.2.2.1 3)))), ((a0 5), .inl (q 3, 2, .inl (u_17.2.2.2 0))), ((a0 6), .inl (q 0, 40, .inl (u_17.2.2.2 1))), ((a0 7), .inl (q 2, 400, .inl (u_17.2.2.2 2)))] H := hP
        have hD : va_D _ [((a0 0), .inr (6, [.ref (a0 1), .ref (a0 2), .int (u_17.1 0), .ref (a0 3), .ref (a0 5), .ref (a0 4), .long u_17.2.1, .int (u_17.1 1), .int (u_17.1 2), .ref (a0 6), .int (u_17.1 3), .int (u_17.1 4), .ref (a0 7), .int (u_17.1 5), .int (u_17.1 6), .int (u_17.1 7), .int (u_17.1 8), .int (u_17.1 9), .int (u_17.1 10), .int (u_17.1 11), .int (u_17.1 12), .int (u_17.1 13), .int (u_17.1 14)])), ((a0 1), .inl (q 1, 6896, .inr (.inl (u_17.2.2.1 0)))), ((a0 2), .inl (q 1, 68960, .inr (.inl (u_17.2.2.1 1)))), ((a0 3), .inl (q 1, 13792, .inr (.inl (u_17.2.2.1 2)))), ((a0 4), .inl (q 1, 6896, .inr (.inl (u_17.2.2.1 3)))), ((a0 5), .inl (q 3, 2, .inl (u_17.2.2.2 0))), ((a0 6), .inl (q 0, 40, .inl (u_17.2.2.2 1))), ((a0 7), .inl (q 2, 400, .inl (u_17.2.2.2 2)))] := hD
        refine lv_iload_n hx hb dX7_rests_70 rfl (lv_at hl 0 rfl) ?_
        exact mt_iret u_17 hx hb hr hk h (hP.sub (ws' := md_v a0 q u_17) [0, 1, 2, 3, 4, 5, 6, 7] rfl) (hD.sub (ws' := md_v a0 q u_17) [0, 1, 2, 3, 4, 5, 6, 7] (by decide) rfl) hS dX7_rests_71
      · replace h := h.2 c_15
        refine lv_iload_n hx hb dX7_rests_52 rfl (lv_at hl 1 rfl) ?_
        refine lv_sipush (v := 9999) hx hb dX7_rests_53 (by decide) ?_
        refine lv_icmp_le (tgt := 64) hx hb dX7_rests_56 (by decide) (fun c_18 => ?_) (fun c_18 => ?_)
        · replace h := h.1 c_18
          refine lv_iload_n hx hb dX7_rests_64 rfl (lv_at hl 1 rfl) ?_
          refine lv_istore_n (lv' := [(3, .int z2), (1, .int z1), (2, .int z2), (0, .ref (a0 0))]) hx hb dX7_rests_65 rfl hl (by decide) rfl (fun ls hl => ?_)
          refine lv_aload_n hx hb dX7_rests_66 rfl (lv_at hl 3 rfl) ?_
          refine mt_gov (mt_wV (wc := md_v a0 q t0) (As := []) (rest := []) hx hb hml hown ht (c2_X7_takesBack h) wd_X7_takesBack mw_1457 hQ hV hS hA (hP.sub [0, 1, 2, 3, 4, 5, 6, 7] rfl) (hD.sub [0, 1, 2, 3, 4, 5, 6, 7] (by decide) rfl) rfl rfl rfl hl.1 rfl (Nat.le_of_ble_eq_true rfl) dX7_rests_67 ⟨Nat.le_of_ble_eq_true rfl, Nat.le_of_ble_eq_true rfl, rfl, rfl⟩ ⟨Nat.le_of_ble_eq_true rfl, Nat.le_of_ble_eq_true rfl⟩) (wr := []) hP hD hS hA [0, 1, 2, 3, 4, 5, 6, 7] [] rfl rfl (by decide) (by decide) (fun u_20 H locs h hP hD hS => ?_)
          try dsimp only at h
          have hP : va_P D vwCl [((a0 0), .inr (6, [.ref (a0 1), .ref (a0 2), .int (u_20.1 0), .ref (a0 3), .ref (a0 5), .ref (a0 4), .long u_20.2.1, .int (u_20.1 1), .int (u_20.1 2), .ref (a0 6), .int (u_20.1 3), .int (u_20.1 4), .ref (a0 7), .int (u_20.1 5), .int (u_20.1 6), .int (u_20.1 7), .int (u_20.1 8), .int (u_20.1 9), .int (u_20.1 10), .int (u_20.1 11), .int (u_20.1 12), .int (u_20.1 13), .int (u_20.1 14)])), ((a0 1), .inl (q 1, 6896, .inr (.inl (u_20.2.2.1 0)))), ((a0 2), .inl (q 1, 68960, .inr (.inl (u_20.2.2.1 1)))), ((a0 3), .inl (q 1, 13792, .inr (.inl (u_20.2.2.1 2)))), ((a0 4), .inl (q 1, 6896, .inr (.inl (u_20.2.2.1 3)))), ((a0 5), .inl (q 3, 2, .inl (u_20.2.2.2 0))), ((a0 6), .inl (q 0, 40, .inl (u_20.2.2.2 1))), ((a0 7), .inl (q 2, 400, .inl (u_20.2.2.2 2)))] H := hP
          have hD : va_D _ [((a0 0), .inr (6, [.ref (a0 1), .ref (a0 2), .int (u_20.1 0), .ref (a0 3), .ref (a0 5), .ref (a0 4), .long u_20.2.1, .int (u_20.1 1), .int (u_20.1 2), .ref (a0 6), .int (u_20.1 3), .int (u_20.1 4), .ref (a0 7), .int (u_20.1 5), .int (u_20.1 6), .int (u_20.1 7), .int (u_20.1 8), .int (u_20.1 9), .int (u_20.1 10), .int (u_20.1 11), .int (u_20.1 12), .int (u_20.1 13), .int (u_20.1 14)])), ((a0 1), .inl (q 1, 6896, .inr (.inl (u_20.2.2.1 0)))), ((a0 2), .inl (q 1, 68960, .inr (.inl (u_20.2.2.1 1)))), ((a0 3), .inl (q 1, 13792, .inr (.inl (u_20.2.2.1 2)))), ((a0 4), .inl (q 1, 6896, .inr (.inl (u_20.2.2.1 3)))), ((a0 5), .inl (q 3, 2, .inl (u_20.2.2.2 0))), ((a0 6), .inl (q 0, 40, .inl (u_20.2.2.2 1))), ((a0 7), .inl (q 2, 400, .inl (u_20.2.2.2 2)))] := hD
          refine lv_iload_n hx hb dX7_rests_70 rfl (lv_at hl 0 rfl) ?_
          exact mt_iret u_20 hx hb hr hk h (hP.sub (ws' := md_v a0 q u_20) [0, 1, 2, 3, 4, 5, 6, 7] rfl) (hD.sub (ws' := md_v a0 q u_20) [0, 1, 2, 3, 4, 5, 6, 7] (by decide) rfl) hS dX7_rests_71
        · replace h := h.2 c_18
          refine lv_bipush (v := (-2)) hx hb dX7_rests_59 (by decide) ?_
          refine lv_goto (tgt := 65) hx hb dX7_rests_61 (by decide) ?_
          refine lv_istore_n (lv' := [(3, .int (-2)), (1, .int z1), (2, .int z2), (0, .ref (a0 0))]) hx hb dX7_rests_65 rfl hl (by decide) rfl (fun ls hl => ?_)
          refine lv_aload_n hx hb dX7_rests_66 rfl (lv_at hl 3 rfl) ?_
          refine mt_gov (mt_wV (wc := md_v a0 q t0) (As := []) (rest := []) hx hb hml hown ht (c2_X7_takesBack h) wd_X7_takesBack mw_1457 hQ hV hS hA (hP.sub [0, 1, 2, 3, 4, 5, 6, 7] rfl) (hD.sub [0, 1, 2, 3, 4, 5, 6, 7] (by decide) rfl) rfl rfl rfl hl.1 rfl (Nat.le_of_ble_eq_true rfl) dX7_rests_67 ⟨Nat.le_of_ble_eq_true rfl, Nat.le_of_ble_eq_true rfl, rfl, rfl⟩ ⟨Nat.le_of_ble_eq_true rfl, Nat.le_of_ble_eq_true rfl⟩) (wr := []) hP hD hS hA [0, 1, 2, 3, 4, 5, 6, 7] [] rfl rfl (by decide) (by decide) (fun u_22 H locs h hP hD hS => ?_)
          try dsimp only at h
          have hP : va_P D vwCl [((a0 0), .inr (6, [.ref (a0 1), .ref (a0 2), .int (u_22.1 0), .ref (a0 3), .ref (a0 5), .ref (a0 4), .long u_22.2.1, .int (u_22.1 1), .int (u_22.1 2), .ref (a0 6), .int (u_22.1 3), .int (u_22.1 4), .ref (a0 7), .int (u_22.1 5), .int (u_22.1 6), .int (u_22.1 7), .int (u_22.1 8), .int (u_22.1 9), .int (u_22.1 10), .int (u_22.1 11), .int (u_22.1 12), .int (u_22.1 13), .int (u_22.1 14)])), ((a0 1), .inl (q 1, 6896, .inr (.inl (u_22.2.2.1 0)))), ((a0 2), .inl (q 1, 68960, .inr (.inl (u_22.2.2.1 1)))), ((a0 3), .inl (q 1, 13792, .inr (.inl (u_22.2.2.1 2)))), ((a0 4), .inl (q 1, 6896, .inr (.inl (u_22.2.2.1 3)))), ((a0 5), .inl (q 3, 2, .inl (u_22.2.2.2 0))), ((a0 6), .inl (q 0, 40, .inl (u_22.2.2.2 1))), ((a0 7), .inl (q 2, 400, .inl (u_22.2.2.2 2)))] H := hP
          have hD : va_D _ [((a0 0), .inr (6, [.ref (a0 1), .ref (a0 2), .int (u_22.1 0), .ref (a0 3), .ref (a0 5), .ref (a0 4), .long u_22.2.1, .int (u_22.1 1), .int (u_22.1 2), .ref (a0 6), .int (u_22.1 3), .int (u_22.1 4), .ref (a0 7), .int (u_22.1 5), .int (u_22.1 6), .int (u_22.1 7), .int (u_22.1 8), .int (u_22.1 9), .int (u_22.1 10), .int (u_22.1 11), .int (u_22.1 12), .int (u_22.1 13), .int (u_22.1 14)])), ((a0 1), .inl (q 1, 6896, .inr (.inl (u_22.2.2.1 0)))), ((a0 2), .inl (q 1, 68960, .inr (.inl (u_22.2.2.1 1)))), ((a0 3), .inl (q 1, 13792, .inr (.inl (u_22.2.2.1 2)))), ((a0 4), .inl (q 1, 6896, .inr (.inl (u_22.2.2.1 3)))), ((a0 5), .inl (q 3, 2, .inl (u_22.2.2.2 0))), ((a0 6), .inl (q 0, 40, .inl (u_22.2.2.2 1))), ((a0 7), .inl (q 2, 400, .inl (u_22.2.2.2 2)))] := hD
          refine lv_iload_n hx hb dX7_rests_70 rfl (lv_at hl 0 rfl) ?_
          exact mt_iret u_22 hx hb hr hk h (hP.sub (ws' := md_v a0 q u_22) [0, 1, 2, 3, 4, 5, 6, 7] rfl) (hD.sub (ws' := md_v a0 q u_22) [0, 1, 2, 3, 4, 5, 6, 7] (by decide) rfl) hS dX7_rests_71
  · replace h := h.2 c_3
    refine lv_iconst (v := (-1)) hx hb dX7_rests_8 (by decide) ?_
    exact mt_iret s0 hx hb hr hk h (hP.sub (ws' := md_v a0 q s0) [0, 1, 2, 3, 4, 5, 6, 7] rfl) (hD.sub (ws' := md_v a0 q s0) [0, 1, 2, 3, 4, 5, 6, 7] (by decide) rfl) hS dX7_rests_9

def wp_X7_unlike_L28 (s0 : Md) (post : Int32 → Prop) (e82 : Int32 → Int32 → Int32 → Int32 → Prop) : Nat → Int32 → Int32 → Int32 → Int32 → Prop
  | 0, _, _, _, _ => False
  | n28 + 1, z1, z2, z3, z4 => wp_X7_wide (fun r_8 => ((r_8 ≤ z4 → e82 z1 z2 z3 z4) ∧ (¬ r_8 ≤ z4 → wp_X7_wide (fun r_11 => wp_X7_signAt (fun r_13 => wp_X7_wide (fun r_15 => wp_X7_signAt (fun r_17 => ((r_13 = r_17 → wp_X7_unlike_L28 s0 post e82 n28 z1 z2 (z3 + 0) (z4 + 1)) ∧ (¬ r_13 = r_17 → wp_X7_unlike_L28 s0 post e82 n28 z1 z2 (z3 + 1) (z4 + 1)))) s0 ((r_15 * z2) + z4) (2 : Int32)) s0) s0 ((r_11 * z1) + z4) (2 : Int32)) s0))) s0
def wp_X7_unlike (post : Int32 → Prop) (s0 : Md) (x1 : Int32) (x2 : Int32) : Prop := wp_X7_isRow (fun r_1 => ((r_1 = 0 → post (-1)) ∧ (¬ r_1 = 0 → wp_X7_isRow (fun r_4 => ((r_4 = 0 → post (-1)) ∧ (¬ r_4 = 0 → ((¬ x1 = x2 → (∃ n28, wp_X7_unlike_L28 s0 post (fun z1 z2 z3 z4 => post z3) n28 x1 x2 0 0)) ∧ (x1 = x2 → post (-1)))))) s0 x2))) s0 x1
set_option maxHeartbeats 4000000 in
set_option maxRecDepth 100000 in
theorem c2_X7_unlike {l : Launch} {D : va_G} {q : Nat → ClassId} {a0 : Nat → Nat} {s0 : Md} {x1 : Int32} {x2 : Int32} {post : Int32 → Prop} (h : wp_X7_unlike post s0 x1 x2) : Met l yX7_unlike (Cond.code yX7_unlike cX7_unlike 5 (some .int) :: w_all) ({ frames := 2, cells := 0, slots := 0, locals := 46 } : Room) (rd_P D q [.ref (a0 0), .int x1, .int x2] (md_v a0 q s0)) (vp_Si post) 0 0 (fun _ => False) := by
  refine rd_start (by decide) (Nat.le_of_ble_eq_true rfl) ?_
  intro p e s m below meth c ls hx hb hr hml hown ht hk hP hQ hV hl
  have hK := hQ.1
  have hown : s.vm.findClass RX7 = some m.cls := hown
  have hl : lv_has ls 5 [(0, .ref (a0 0)), (1, .int x1), (2, .int x2)] := hl
  have hP : va_P D vwCl [((a0 0), .inr (6, [.ref (a0 1), .ref (a0 2), .int (s0.1 0), .ref (a0 3), .ref (a0 5), .ref (a0 4), .long s0.2.1, .int (s0.1 1), .int (s0.1 2), .ref (a0 6), .int (s0.1 3), .int (s0.1 4), .ref (a0 7), .int (s0.1 5), .int (s0.1 6), .int (s0.1 7), .int (s0.1 8), .int (s0.1 9), .int (s0.1 10), .int (s0.1 11), .int (s0.1 12), .int (s0.1 13), .int (s0.1 14)])), ((a0 1), .inl (q 1, 6896, .inr (.inl (s0.2.2.1 0)))), ((a0 2), .inl (q 1, 68960, .inr (.inl (s0.2.2.1 1)))), ((a0 3), .inl (q 1, 13792, .inr (.inl (s0.2.2.1 2)))), ((a0 4), .inl (q 1, 6896, .inr (.inl (s0.2.2.1 3)))), ((a0 5), .inl (q 3, 2, .inl (s0.2.2.2 0))), ((a0 6), .inl (q 0, 40, .inl (s0.2.2.2 1))), ((a0 7), .inl (q 2, 400, .inl (s0.2.2.2 2)))] s.heap := hP
  unfold wp_X7_unlike at h
  refine lv_aload_n hx hb dX7_unlike_0 rfl (lv_at hl 0 rfl) ?_
  refine lv_iload_n hx hb dX7_unlike_1 rfl (lv_at hl 1 rfl) ?_
  refine vp_callSi (rd_wV (wc := md_v a0 q s0) (As := [.int x1]) (rest := []) hx hb hml hown ht (c2_X7_isRow h) wd_X7_isRow mw_1205 hQ hV va_S.rf (hP.sub [0, 1, 2, 3, 4, 5, 6, 7] rfl) rfl rfl rfl hl.1 rfl (Nat.le_of_ble_eq_true rfl) dX7_unlike_2 ⟨Nat.le_of_ble_eq_true rfl, Nat.le_of_ble_eq_true rfl, rfl, rfl⟩ ⟨Nat.le_of_ble_eq_true rfl, Nat.le_of_ble_eq_true rfl⟩) (fun r_1 h => ?_)
  try dsimp only at h
  refine lv_if_eq (tgt := 21) hx hb dX7_unlike_5 (by decide) (fun c_3 => ?_) (fun c_3 => ?_)
  · replace h := h.1 c_3
    refine lv_iconst (v := (-1)) hx hb dX7_unlike_21 (by decide) ?_
    exact rd_iret hx hb hr hk h dX7_unlike_22
  · replace h := h.2 c_3
    refine lv_aload_n hx hb dX7_unlike_8 rfl (lv_at hl 0 rfl) ?_
    refine lv_iload_n hx hb dX7_unlike_9 rfl (lv_at hl 2 rfl) ?_
    refine vp_callSi (rd_wV (wc := md_v a0 q s0) (As := [.int x2]) (rest := []) hx hb hml hown ht (c2_X7_isRow h) wd_X7_isRow mw_1205 hQ hV va_S.rf (hP.sub [0, 1, 2, 3, 4, 5, 6, 7] rfl) rfl rfl rfl hl.1 rfl (Nat.le_of_ble_eq_true rfl) dX7_unlike_10 ⟨Nat.le_of_ble_eq_true rfl, Nat.le_of_ble_eq_true rfl, rfl, rfl⟩ ⟨Nat.le_of_ble_eq_true rfl, Nat.le_of_ble_eq_true rfl⟩) (fun r_4 h => ?_)
    try dsimp only at h
    refine lv_if_eq (tgt := 21) hx hb dX7_unlike_13 (by decide) (fun c_6 => ?_) (fun c_6 => ?_)
    · replace h := h.1 c_6
      refine lv_iconst (v := (-1)) hx hb dX7_unlike_21 (by decide) ?_
      exact rd_iret hx hb hr hk h dX7_unlike_22
    · replace h := h.2 c_6
      refine lv_iload_n hx hb dX7_unlike_16 rfl (lv_at hl 1 rfl) ?_
      refine lv_iload_n hx hb dX7_unlike_17 rfl (lv_at hl 2 rfl) ?_
      refine lv_icmp_ne (tgt := 23) hx hb dX7_unlike_18 (by decide) (fun c_7 => ?_) (fun c_7 => ?_)
      · replace h := h.1 c_7
        refine lv_iconst (v := 0) hx hb dX7_unlike_23 (by decide) ?_
        refine lv_istore_n (lv' := [(3, .int 0), (0, .ref (a0 0)), (1, .int x1), (2, .int x2)]) hx hb dX7_unlike_24 rfl hl (by decide) rfl (fun ls hl => ?_)
        refine lv_iconst (v := 0) hx hb dX7_unlike_25 (by decide) ?_
        refine lv_istore (lv' := [(4, .int 0), (3, .int 0), (0, .ref (a0 0)), (1, .int x1), (2, .int x2)]) hx hb dX7_unlike_26 hl (by decide) rfl (fun ls hl => ?_)
        have lp28 : ∀ (e82 : Int32 → Int32 → Int32 → Int32 → Prop) (k82 : ∀ (z1 : Int32) (z2 : Int32) (z3 : Int32) (z4 : Int32) (ls : Array Slot), e82 z1 z2 z3 z4 → lv_has ls 5 [(1, .int z1), (2, .int z2), (3, .int z3), (4, .int z4), (0, .ref (a0 0))] → W p l e ({ frames := 2, cells := 0, slots := 0, locals := 46 } : Room) s m [.ref (a0 0), .int x1, .int x2].toArray below meth c s.heap [] 0 0 (MQ below (vp_Si post) [.ref (a0 0), .int x1, .int x2].toArray s 0 0 (fun _ => False)) (F0 m 82 ls [])) (n : Nat) (z1 : Int32) (z2 : Int32) (z3 : Int32) (z4 : Int32) (ls : Array Slot), wp_X7_unlike_L28 s0 post e82 n z1 z2 z3 z4 → lv_has ls 5 [(1, .int z1), (2, .int z2), (3, .int z3), (4, .int z4), (0, .ref (a0 0))] → W p l e ({ frames := 2, cells := 0, slots := 0, locals := 46 } : Room) s m [.ref (a0 0), .int x1, .int x2].toArray below meth c s.heap [] 0 0 (MQ below (vp_Si post) [.ref (a0 0), .int x1, .int x2].toArray s 0 0 (fun _ => False)) (F0 m 28 ls []) := by
          intro e82 k82 n
          induction n with
          | zero =>
            intro z1 z2 z3 z4 ls h
            exact h.elim
          | succ n ih =>
            intro z1 z2 z3 z4 ls h hl
            unfold wp_X7_unlike_L28 at h
            refine lv_iload hx hb dX7_unlike_28 (lv_at hl 3 rfl) ?_
            refine lv_aload_n hx hb dX7_unlike_30 rfl (lv_at hl 4 rfl) ?_
            refine vp_callSi (rd_wV (wc := md_v a0 q s0) (As := []) (rest := [.int z4]) hx hb hml hown ht (c2_X7_wide h) wd_X7_wide mw_1220 hQ hV va_S.rf (hP.sub [0, 1, 2, 3, 4, 5, 6, 7] rfl) rfl rfl rfl hl.1 rfl (Nat.le_of_ble_eq_true rfl) dX7_unlike_31 ⟨Nat.le_of_ble_eq_true rfl, Nat.le_of_ble_eq_true rfl, rfl, rfl⟩ ⟨Nat.le_of_ble_eq_true rfl, Nat.le_of_ble_eq_true rfl⟩) (fun r_8 h => ?_)
            try dsimp only at h
            refine lv_icmp_ge (tgt := 82) hx hb dX7_unlike_34 (by decide) (fun c_10 => ?_) (fun c_10 => ?_)
            · replace h := h.1 c_10
              exact k82 _ _ _ _ ls h (lv_sub hl [0, 1, 2, 3, 4] rfl)
            · replace h := h.2 c_10
              refine lv_iload_n hx hb dX7_unlike_37 rfl (lv_at hl 2 rfl) ?_
              refine lv_aload_n hx hb dX7_unlike_38 rfl (lv_at hl 4 rfl) ?_
              refine lv_aload_n hx hb dX7_unlike_39 rfl (lv_at hl 4 rfl) ?_
              refine vp_callSi (rd_wV (wc := md_v a0 q s0) (As := []) (rest := [.ref (a0 0), .int z3]) hx hb hml hown ht (c2_X7_wide h) wd_X7_wide mw_1220 hQ hV va_S.rf (hP.sub [0, 1, 2, 3, 4, 5, 6, 7] rfl) rfl rfl rfl hl.1 rfl (Nat.le_of_ble_eq_true rfl) dX7_unlike_40 ⟨Nat.le_of_ble_eq_true rfl, Nat.le_of_ble_eq_true rfl, rfl, rfl⟩ ⟨Nat.le_of_ble_eq_true rfl, Nat.le_of_ble_eq_true rfl⟩) (fun r_11 h => ?_)
              try dsimp only at h
              refine lv_iload_n hx hb dX7_unlike_43 rfl (lv_at hl 0 rfl) ?_
              refine lv_imul hx hb dX7_unlike_44 ?_
              refine lv_iload hx hb dX7_unlike_45 (lv_at hl 3 rfl) ?_
              refine lv_iadd hx hb dX7_unlike_47 ?_
              refine lv_iconst (v := 2) hx hb dX7_unlike_48 (by decide) ?_
              refine vp_callSi (rd_wV (wc := md_v a0 q s0) (As := [.int ((r_11 * z1) + z4), .int 2]) (rest := [.int z3]) hx hb hml hown ht (c2_X7_signAt h) wd_X7_signAt mw_1422 hQ hV va_S.rf (hP.sub [0, 1, 2, 3, 4, 5, 6, 7] rfl) rfl rfl rfl hl.1 rfl (Nat.le_of_ble_eq_true rfl) dX7_unlike_49 ⟨Nat.le_of_ble_eq_true rfl, Nat.le_of_ble_eq_true rfl, rfl, rfl⟩ ⟨Nat.le_of_ble_eq_true rfl, Nat.le_of_ble_eq_true rfl⟩) (fun r_13 h => ?_)
              try dsimp only at h
              refine lv_aload_n hx hb dX7_unlike_52 rfl (lv_at hl 4 rfl) ?_
              refine lv_aload_n hx hb dX7_unlike_53 rfl (lv_at hl 4 rfl) ?_
              refine vp_callSi (rd_wV (wc := md_v a0 q s0) (As := []) (rest := [.ref (a0 0), .int r_13, .int z3]) hx hb hml hown ht (c2_X7_wide h) wd_X7_wide mw_1220 hQ hV va_S.rf (hP.sub [0, 1, 2, 3, 4, 5, 6, 7] rfl) rfl rfl rfl hl.1 rfl (Nat.le_of_ble_eq_true rfl) dX7_unlike_54 ⟨Nat.le_of_ble_eq_true rfl, Nat.le_of_ble_eq_true rfl, rfl, rfl⟩ ⟨Nat.le_of_ble_eq_true rfl, Nat.le_of_ble_eq_true rfl⟩) (fun r_15 h => ?_)
              try dsimp only at h
              refine lv_iload_n hx hb dX7_unlike_57 rfl (lv_at hl 1 rfl) ?_
              refine lv_imul hx hb dX7_unlike_58 ?_
              refine lv_iload hx hb dX7_unlike_59 (lv_at hl 3 rfl) ?_
              refine lv_iadd hx hb dX7_unlike_61 ?_
              refine lv_iconst (v := 2) hx hb dX7_unlike_62 (by decide) ?_
              refine vp_callSi (rd_wV (wc := md_v a0 q s0) (As := [.int ((r_15 * z2) + z4), .int 2]) (rest := [.int r_13, .int z3]) hx hb hml hown ht (c2_X7_signAt h) wd_X7_signAt mw_1422 hQ hV va_S.rf (hP.sub [0, 1, 2, 3, 4, 5, 6, 7] rfl) rfl rfl rfl hl.1 rfl (Nat.le_of_ble_eq_true rfl) dX7_unlike_63 ⟨Nat.le_of_ble_eq_true rfl, Nat.le_of_ble_eq_true rfl, rfl, rfl⟩ ⟨Nat.le_of_ble_eq_true rfl, Nat.le_of_ble_eq_true rfl⟩) (fun r_17 h => ?_)
              try dsimp only at h
              refine lv_icmp_eq (tgt := 73) hx hb dX7_unlike_66 (by decide) (fun c_19 => ?_) (fun c_19 => ?_)
              · replace h := h.1 c_19
                refine lv_iconst (v := 0) hx hb dX7_unlike_73 (by decide) ?_
                refine lv_iadd hx hb dX7_unlike_74 ?_
                refine lv_istore_n (lv' := [(3, .int (z3 + 0)), (1, .int z1), (2, .int z2), (4, .int z4), (0, .ref (a0 0))]) hx hb dX7_unlike_75 rfl hl (by decide) rfl (fun ls hl => ?_)
                refine lv_iinc (v := (z4 + 1)) (lv' := [(4, .int (z4 + 1)), (3, .int (z3 + 0)), (1, .int z1), (2, .int z2), (0, .ref (a0 0))]) hx hb dX7_unlike_76 hl (k := 3) rfl rfl (by decide) rfl (fun ls hl => ?_)
                refine lv_goto (tgt := 28) hx hb dX7_unlike_79 (by decide) ?_
                exact ih _ _ _ _ ls h (lv_sub hl [2, 3, 1, 0, 4] rfl)
              · replace h := h.2 c_19
                refine lv_iconst (v := 1) hx hb dX7_unlike_69 (by decide) ?_
                refine lv_goto (tgt := 74) hx hb dX7_unlike_70 (by decide) ?_
                refine lv_iadd hx hb dX7_unlike_74 ?_
                refine lv_istore_n (lv' := [(3, .int (z3 + 1)), (1, .int z1), (2, .int z2), (4, .int z4), (0, .ref (a0 0))]) hx hb dX7_unlike_75 rfl hl (by decide) rfl (fun ls hl => ?_)
                refine lv_iinc (v := (z4 + 1)) (lv' := [(4, .int (z4 + 1)), (3, .int (z3 + 1)), (1, .int z1), (2, .int z2), (0, .ref (a0 0))]) hx hb dX7_unlike_76 hl (k := 3) rfl rfl (by decide) rfl (fun ls hl => ?_)
                refine lv_goto (tgt := 28) hx hb dX7_unlike_79 (by decide) ?_
                exact ih _ _ _ _ ls h (lv_sub hl [2, 3, 1, 0, 4] rfl)
        obtain ⟨n28, h⟩ := h
        refine lp28 _ ?_ n28 _ _ _ _ ls h (lv_sub hl [3, 4, 1, 0, 2] rfl)
        · intro z1 z2 z3 z4 ls h hl
          try dsimp only at h
          refine lv_iload_n hx hb dX7_unlike_82 rfl (lv_at hl 2 rfl) ?_
          exact rd_iret hx hb hr hk h dX7_unlike_83
      · replace h := h.2 c_7
        refine lv_iconst (v := (-1)) hx hb dX7_unlike_21 (by decide) ?_
        exact rd_iret hx hb hr hk h dX7_unlike_22
