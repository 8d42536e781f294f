set_option maxHeartbeats 4000000 in
set_option maxRecDepth 100000 in
theorem cp_feed {l : Launch} {D : va_G} {q : Nat → ClassId} {sz : Nat} {b : Nat → Nat} {x : Int32} {y : Int32} {z : Int32} {v : Int32} {w : Int32} : Met l yX7_feed (Cond.code yX7_feed cX7_feed 6 (some .int) :: w_all) ({ frames := 1, cells := 0, slots := 0, locals := 22 }) (mt_P D q [.ref (b 0), .int x, .int y, .int z, .int v, .int w] (md_w b q) sz) (va_Qi (fun r (u : Unit) => r = 20) (mt_B D (md_w b q) sz (fun _ => [])) (va_A (md_w b q) sz)) 0 0 (va_A (md_w b q) sz) := by
  refine mt_start (by decide) (Nat.le_of_ble_eq_true rfl) ?_
  intro p e s m below meth c ls hx hb hr hml hown ht hk hin hP hQ hD hA hS hV hl
  have hK := hQ.1
  have hown : s.vm.findClass RX7 = some m.cls := hown
  have hl : lv_has ls 6 [(0, .ref (b 0)), (1, .int x), (2, .int y), (3, .int z), (4, .int v), (5, .int w)] := hl
  have hP := hP.sub (ws' := [((b 0), .inr (6, [.ref (b 1), .ref (b 2), .int 0, .ref (b 3), .ref (b 4), .ref (b 5), .long 0, .int 0, .int 0, .ref (b 6), .int 0, .int 0, .ref (b 7), .int 0, .int 0, .int 0, .int 0, .int 0, .int 0, .int 0, .int 0, .int 0, .int 0])), ((b 7), .inl (q 2, 400, .inl (fun _ => 0)))]) [0, 7] rfl
  have hD := hD.sub (ws' := [((b 0), .inr (6, [.ref (b 1), .ref (b 2), .int 0, .ref (b 3), .ref (b 4), .ref (b 5), .long 0, .int 0, .int 0, .ref (b 6), .int 0, .int 0, .ref (b 7), .int 0, .int 0, .int 0, .int 0, .int 0, .int 0, .int 0, .int 0, .int 0, .int 0])), ((b 7), .inl (q 2, 400, .inl (fun _ => 0)))]) [0, 7] (by decide) rfl
  refine lv_aload_n hx hb dX7_feed_0 rfl (lv_at hl 0 rfl) ?_
  refine fl_get (C := RX7) (T := TX7) (N := 23) (ci := 6) (v := .int 0) hx hb ht in_X7 hown hK hP 0 rfl rfl 13 (by decide) mw_1143 rfl dX7_feed_1 ?_
  refine lv_sipush (v := 380) hx hb dX7_feed_4 (by decide) ?_
  refine lv_icmp_le (tgt := 12) hx hb dX7_feed_7 (by decide) (fun c_1 => ?_) (fun c9 => absurd (by decide) c9)
  refine lv_aload_n hx hb dX7_feed_12 rfl (lv_at hl 0 rfl) ?_
  refine lv_iload_n hx hb dX7_feed_13 rfl (lv_at hl 1 rfl) ?_
  refine mt_gov (mt_wV (wc := [((b 0), .inr (6, [.ref (b 1), .ref (b 2), .int 0, .ref (b 3), .ref (b 4), .ref (b 5), .long 0, .int 0, .int 0, .ref (b 6), .int 0, .int 0, .ref (b 7), .int 0, .int 0, .int 0, .int 0, .int 0, .int 0, .int 0, .int 0, .int 0, .int 0])), ((b 7), .inl (q 2, 400, .inl (fun _ => 0)))]) (As := [.int x]) (rest := []) hx hb hml hown ht (cm_lays_0) wd_X7_lays mw_1550 hQ hV hS hA (hP.sub [0, 1] rfl) (hD.sub [0, 1] (by decide) rfl) rfl rfl rfl hl.1 rfl (Nat.le_of_ble_eq_true rfl) dX7_feed_14 ⟨Nat.le_of_ble_eq_true rfl, Nat.le_of_ble_eq_true rfl, rfl, rfl⟩ ⟨Nat.le_of_ble_eq_true rfl, Nat.le_of_ble_eq_true rfl⟩) (wr := []) hP hD hS hA [0, 1] [] rfl rfl (by decide) (by decide) (fun u_2 H locs hw hP hD hS => ?_)
  have hP : va_P D vwCl [((b 0), .inr (6, [.ref (b 1), .ref (b 2), .int 0, .ref (b 3), .ref (b 4), .ref (b 5), .long 0, .int 0, .int 0, .ref (b 6), .int 0, .int 0, .ref (b 7), .int 4, .int 0, .int 0, .int 0, .int 0, .int 0, .int 0, .int 0, .int 0, .int 0])), ((b 7), .inl (q 2, 400, .inl u_2))] H := hP
  have hD : va_D _ [((b 0), .inr (6, [.ref (b 1), .ref (b 2), .int 0, .ref (b 3), .ref (b 4), .ref (b 5), .long 0, .int 0, .int 0, .ref (b 6), .int 0, .int 0, .ref (b 7), .int 4, .int 0, .int 0, .int 0, .int 0, .int 0, .int 0, .int 0, .int 0, .int 0])), ((b 7), .inl (q 2, 400, .inl u_2))] := hD
  refine lv_aload_n hx hb dX7_feed_17 rfl (lv_at hl 0 rfl) ?_
  refine lv_iload_n hx hb dX7_feed_18 rfl (lv_at hl 2 rfl) ?_
  refine mt_gov (mt_wV (wc := [((b 0), .inr (6, [.ref (b 1), .ref (b 2), .int 0, .ref (b 3), .ref (b 4), .ref (b 5), .long 0, .int 0, .int 0, .ref (b 6), .int 0, .int 0, .ref (b 7), .int 4, .int 0, .int 0, .int 0, .int 0, .int 0, .int 0, .int 0, .int 0, .int 0])), ((b 7), .inl (q 2, 400, .inl u_2))]) (As := [.int y]) (rest := []) hx hb hml hown ht (cm_lays_4) wd_X7_lays mw_1550 hQ hV hS hA (hP.sub [0, 1] rfl) (hD.sub [0, 1] (by decide) rfl) rfl rfl rfl hl.1 rfl (Nat.le_of_ble_eq_true rfl) dX7_feed_19 ⟨Nat.le_of_ble_eq_true rfl, Nat.le_of_ble_eq_true rfl, rfl, rfl⟩ ⟨Nat.le_of_ble_eq_true rfl, Nat.le_of_ble_eq_true rfl⟩) (wr := []) hP hD hS hA [0, 1] [] rfl rfl (by decide) (by decide) (fun u_4 H locs hw hP hD hS => ?_)
  have hP : va_P D vwCl [((b 0), .inr (6, [.ref (b 1), .ref (b 2), .int 0, .ref (b 3), .ref (b 4), .ref (b 5), .long 0, .int 0, .int 0, .ref (b 6), .int 0, .int 0, .ref (b 7), .int 8, .int 0, .int 0, .int 0, .int 0, .int 0, .int 0, .int 0, .int 0, .int 0])), ((b 7), .inl (q 2, 400, .inl u_4))] H := hP
  have hD : va_D _ [((b 0), .inr (6, [.ref (b 1), .ref (b 2), .int 0, .ref (b 3), .ref (b 4), .ref (b 5), .long 0, .int 0, .int 0, .ref (b 6), .int 0, .int 0, .ref (b 7), .int 8, .int 0, .int 0, .int 0, .int 0, .int 0, .int 0, .int 0, .int 0, .int 0])), ((b 7), .inl (q 2, 400, .inl u_4))] := hD
  refine lv_aload_n hx hb dX7_feed_22 rfl (lv_at hl 0 rfl) ?_
  refine lv_iload_n hx hb dX7_feed_23 rfl (lv_at hl 3 rfl) ?_
  refine mt_gov (mt_wV (wc := [((b 0), .inr (6, [.ref (b 1), .ref (b 2), .int 0, .ref (b 3), .ref (b 4), .ref (b 5), .long 0, .int 0, .int 0, .ref (b 6), .int 0, .int 0, .ref (b 7), .int 8, .int 0, .int 0, .int 0, .int 0, .int 0, .int 0, .int 0, .int 0, .int 0])), ((b 7), .inl (q 2, 400, .inl u_4))]) (As := [.int z]) (rest := []) hx hb hml hown ht (cm_lays_8) wd_X7_lays mw_1550 hQ hV hS hA (hP.sub [0, 1] rfl) (hD.sub [0, 1] (by decide) rfl) rfl rfl rfl hl.1 rfl (Nat.le_of_ble_eq_true rfl) dX7_feed_24 ⟨Nat.le_of_ble_eq_true rfl, Nat.le_of_ble_eq_true rfl, rfl, rfl⟩ ⟨Nat.le_of_ble_eq_true rfl, Nat.le_of_ble_eq_true rfl⟩) (wr := []) hP hD hS hA [0, 1] [] rfl rfl (by decide) (by decide) (fun u_6 H locs hw hP hD hS => ?_)
  have hP : va_P D vwCl [((b 0), .inr (6, [.ref (b 1), .ref (b 2), .int 0, .ref (b 3), .ref (b 4), .ref (b 5), .long 0, .int 0, .int 0, .ref (b 6), .int 0, .int 0, .ref (b 7), .int 12, .int 0, .int 0, .int 0, .int 0, .int 0, .int 0, .int 0, .int 0, .int 0])), ((b 7), .inl (q 2, 400, .inl u_6))] H := hP
  have hD : va_D _ [((b 0), .inr (6, [.ref (b 1), .ref (b 2), .int 0, .ref (b 3), .ref (b 4), .ref (b 5), .long 0, .int 0, .int 0, .ref (b 6), .int 0, .int 0, .ref (b 7), .int 12, .int 0, .int 0, .int 0, .int 0, .int 0, .int 0, .int 0, .int 0, .int 0])), ((b 7), .inl (q 2, 400, .inl u_6))] := hD
  refine lv_aload_n hx hb dX7_feed_27 rfl (lv_at hl 0 rfl) ?_
  refine lv_iload hx hb dX7_feed_28 (lv_at hl 4 rfl) ?_
  refine mt_gov (mt_wV (wc := [((b 0), .inr (6, [.ref (b 1), .ref (b 2), .int 0, .ref (b 3), .ref (b 4), .ref (b 5), .long 0, .int 0, .int 0, .ref (b 6), .int 0, .int 0, .ref (b 7), .int 12, .int 0, .int 0, .int 0, .int 0, .int 0, .int 0, .int 0, .int 0, .int 0])), ((b 7), .inl (q 2, 400, .inl u_6))]) (As := [.int v]) (rest := []) hx hb hml hown ht (cm_lays_12) wd_X7_lays mw_1550 hQ hV hS hA (hP.sub [0, 1] rfl) (hD.sub [0, 1] (by decide) rfl) rfl rfl rfl hl.1 rfl (Nat.le_of_ble_eq_true rfl) dX7_feed_30 ⟨Nat.le_of_ble_eq_true rfl, Nat.le_of_ble_eq_true rfl, rfl, rfl⟩ ⟨Nat.le_of_ble_eq_true rfl, Nat.le_of_ble_eq_true rfl⟩) (wr := []) hP hD hS hA [0, 1] [] rfl rfl (by decide) (by decide) (fun u_8 H locs hw hP hD hS => ?_)
  have hP : va_P D vwCl [((b 0), .inr (6, [.ref (b 1), .ref (b 2), .int 0, .ref (b 3), .ref (b 4), .ref (b 5), .long 0, .int 0, .int 0, .ref (b 6), .int 0, .int 0, .ref (b 7), .int 16, .int 0, .int 0, .int 0, .int 0, .int 0, .int 0, .int 0, .int 0, .int 0])), ((b 7), .inl (q 2, 400, .inl u_8))] H := hP
  have hD : va_D _ [((b 0), .inr (6, [.ref (b 1), .ref (b 2), .int 0, .ref (b 3), .ref (b 4), .ref (b 5), .long 0, .int 0, .int 0, .ref (b 6), .int 0, .int 0, .ref (b 7), .int 16, .int 0, .int 0, .int 0, .int 0, .int 0, .int 0, .int 0, .int 0, .int 0])), ((b 7), .inl (q 2, 400, .inl u_8))] := hD
  refine lv_aload_n hx hb dX7_feed_33 rfl (lv_at hl 0 rfl) ?_
  refine lv_iload hx hb dX7_feed_34 (lv_at hl 5 rfl) ?_
  refine mt_gov (mt_wV (wc := [((b 0), .inr (6, [.ref (b 1), .ref (b 2), .int 0, .ref (b 3), .ref (b 4), .ref (b 5), .long 0, .int 0, .int 0, .ref (b 6), .int 0, .int 0, .ref (b 7), .int 16, .int 0, .int 0, .int 0, .int 0, .int 0, .int 0, .int 0, .int 0, .int 0])), ((b 7), .inl (q 2, 400, .inl u_8))]) (As := [.int w]) (rest := []) hx hb hml hown ht (cm_lays_16) wd_X7_lays mw_1550 hQ hV hS hA (hP.sub [0, 1] rfl) (hD.sub [0, 1] (by decide) rfl) rfl rfl rfl hl.1 rfl (Nat.le_of_ble_eq_true rfl) dX7_feed_36 ⟨Nat.le_of_ble_eq_true rfl, Nat.le_of_ble_eq_true rfl, rfl, rfl⟩ ⟨Nat.le_of_ble_eq_true rfl, Nat.le_of_ble_eq_true rfl⟩) (wr := []) hP hD hS hA [0, 1] [] rfl rfl (by decide) (by decide) (fun u_10 H locs hw hP hD hS => ?_)
  have hP : va_P D vwCl [((b 0), .inr (6, [.ref (b 1), .ref (b 2), .int 0, .ref (b 3), .ref (b 4), .ref (b 5), .long 0, .int 0, .int 0, .ref (b 6), .int 0, .int 0, .ref (b 7), .int 20, .int 0, .int 0, .int 0, .int 0, .int 0, .int 0, .int 0, .int 0, .int 0])), ((b 7), .inl (q 2, 400, .inl u_10))] H := hP
  have hD : va_D _ [((b 0), .inr (6, [.ref (b 1), .ref (b 2), .int 0, .ref (b 3), .ref (b 4), .ref (b 5), .long 0, .int 0, .int 0, .ref (b 6), .int 0, .int 0, .ref (b 7), .int 20, .int 0, .int 0, .int 0, .int 0, .int 0, .int 0, .int 0, .int 0, .int 0])), ((b 7), .inl (q 2, 400, .inl u_10))] := hD
  refine lv_aload_n hx hb dX7_feed_39 rfl (lv_at hl 0 rfl) ?_
  refine fl_get (C := RX7) (T := TX7) (N := 23) (ci := 6) (v := .int 20) hx hb ht in_X7 hown hK hP 0 rfl rfl 13 (by decide) mw_1143 rfl dX7_feed_40 ?_
  have hP := hP.sub (ws' := []) [] rfl
  have hD := hD.sub (ws' := []) [] (by decide) rfl
  exact mt_iret () hx hb hr hk (rfl) hP hD hS dX7_feed_43

set_option maxHeartbeats 4000000 in
set_option maxRecDepth 100000 in
theorem cp_keep {l : Launch} {D : va_G} {q : Nat → ClassId} {sz : Nat} {b : Nat → Nat} {x : Int32} : Met l yX7_keep (Cond.code yX7_keep cX7_keep 3 (some .int) :: w_all) ({ frames := 2, cells := 0, slots := 0, locals := 40 }) (mt_P D q [.ref (b 0), .int x] (md_w b q) sz) (va_Qi (fun r (u : Unit) => (0 ≤ x ∧ x ≤ 1 → r = 0) ∧ (¬ (0 ≤ x ∧ x ≤ 1) → r = (-1))) (mt_B D (md_w b q) sz (fun _ => [])) (va_A (md_w b q) sz)) 0 0 (va_A (md_w b q) sz) := by
  refine mt_start (by decide) (Nat.le_of_ble_eq_true rfl) ?_
  intro p e s m below meth c ls hx hb hr hml hown ht hk hin hP hQ hD hA hS hV hl
  have hK := hQ.1
  have hown : s.vm.findClass RX7 = some m.cls := hown
  have hl : lv_has ls 3 [(0, .ref (b 0)), (1, .int x)] := hl
  have hP := hP.sub (ws' := [((b 0), .inr (6, [.ref (b 1), .ref (b 2), .int 0, .ref (b 3), .ref (b 4), .ref (b 5), .long 0, .int 0, .int 0, .ref (b 6), .int 0, .int 0, .ref (b 7), .int 0, .int 0, .int 0, .int 0, .int 0, .int 0, .int 0, .int 0, .int 0, .int 0])), ((b 1), .inl (q 1, 6896, .inr (.inl (fun _ => 0)))), ((b 3), .inl (q 1, 13792, .inr (.inl (fun _ => 0)))), ((b 4), .inl (q 3, 2, .inl (fun _ => 0)))]) [0, 1, 3, 4] rfl
  have hD := hD.sub (ws' := [((b 0), .inr (6, [.ref (b 1), .ref (b 2), .int 0, .ref (b 3), .ref (b 4), .ref (b 5), .long 0, .int 0, .int 0, .ref (b 6), .int 0, .int 0, .ref (b 7), .int 0, .int 0, .int 0, .int 0, .int 0, .int 0, .int 0, .int 0, .int 0, .int 0])), ((b 1), .inl (q 1, 6896, .inr (.inl (fun _ => 0)))), ((b 3), .inl (q 1, 13792, .inr (.inl (fun _ => 0)))), ((b 4), .inl (q 3, 2, .inl (fun _ => 0)))]) [0, 1, 3, 4] (by decide) rfl
  by_cases k_1 : x = 0
  · subst k_1
    refine lv_iload_n hx hb dX7_keep_0 rfl (lv_at hl 1 rfl) ?_
    refine lv_i2l (v := 0) hx hb dX7_keep_1 (by decide) ?_
    refine lv_lconst (v := 0) hx hb dX7_keep_2 (by decide) ?_
    refine lv_lconst (v := 1) hx hb dX7_keep_3 (by decide) ?_
    refine vp_callSi (rd_wS (wc := []) (As := [.long 0, .long 0, .long 1]) (rest := []) hx hb hml hown ht (ct_in_T (by decide)) wd_X7_in mw_1213 hQ hV hS (hP.sub [] rfl) rfl hl.1 rfl (Nat.le_of_ble_eq_true rfl) dX7_keep_4 ⟨Nat.le_of_ble_eq_true rfl, Nat.le_of_ble_eq_true rfl, rfl, rfl⟩ ⟨Nat.le_of_ble_eq_true rfl, Nat.le_of_ble_eq_true rfl⟩) (fun r_2 er_2 => ?_)
    obtain rfl : r_2 = 1 := er_2
    refine lv_if_ne (tgt := 12) hx hb dX7_keep_7 (by decide) (fun c_3 => ?_) (fun c9 => absurd c9 (by decide))
    refine lv_iconst (v := 0) hx hb dX7_keep_12 (by decide) ?_
    refine lv_istore_n (lv' := [(2, .int 0), (0, .ref (b 0)), (1, .int 0)]) hx hb dX7_keep_13 rfl hl (by decide) rfl (fun ls hl => ?_)
    have lp : ∀ (n i : Nat), i + n = 6896 → ∀ (H : Heap) (locs : List Loc) (ls : Array Slot), va_P D vwCl [((b 0), .inr (6, [.ref (b 1), .ref (b 2), .int 0, .ref (b 3), .ref (b 4), .ref (b 5), .long 0, .int 0, .int 0, .ref (b 6), .int 0, .int 0, .ref (b 7), .int 0, .int 0, .int 0, .int 0, .int 0, .int 0, .int 0, .int 0, .int 0, .int 0])), ((b 1), .inl (q 1, 6896, .inr (.inl (fun _ => 0)))), ((b 3), .inl (q 1, 13792, .inr (.inl (fun _ => 0)))), ((b 4), .inl (q 3, 2, .inl (fun _ => 0)))] H → va_D (va_A (md_w b q) sz) [((b 0), .inr (6, [.ref (b 1), .ref (b 2), .int 0, .ref (b 3), .ref (b 4), .ref (b 5), .long 0, .int 0, .int 0, .ref (b 6), .int 0, .int 0, .ref (b 7), .int 0, .int 0, .int 0, .int 0, .int 0, .int 0, .int 0, .int 0, .int 0, .int 0])), ((b 1), .inl (q 1, 6896, .inr (.inl (fun _ => 0)))), ((b 3), .inl (q 1, 13792, .inr (.inl (fun _ => 0)))), ((b 4), .inl (q 3, 2, .inl (fun _ => 0)))] → va_S (va_A (md_w b q) sz) s.heap H locs → lv_has ls 3 [(2, .int (nI i)), (0, .ref (b 0)), (1, .int 0)] → W p l e ({ frames := 2, cells := 0, slots := 0, locals := 40 }) s m [.ref (b 0), .int (0 : Int32)].toArray below meth c H locs 0 0 (MQ below (va_Qi (fun r (u : Unit) => (0 ≤ (0 : Int32) ∧ (0 : Int32) ≤ 1 → r = 0) ∧ (¬ (0 ≤ (0 : Int32) ∧ (0 : Int32) ≤ 1) → r = (-1))) (mt_B D (md_w b q) sz (fun _ => [])) (va_A (md_w b q) sz)) [.ref (b 0), .int (0 : Int32)].toArray s 0 0 (va_A (md_w b q) sz)) (F0 m 14 ls []) := by
      intro n
      induction n with
      | zero =>
        intro i hi H locs ls hP hD hS hl
        obtain rfl : i = 6896 := by omega
        have hl : lv_has ls 3 [(2, .int 6896), (0, .ref (b 0)), (1, .int 0)] := hl
        refine lv_iload_n hx hb dX7_keep_14 rfl (lv_at hl 0 rfl) ?_
        refine lv_sipush (v := 6896) hx hb dX7_keep_15 (by decide) ?_
        refine lv_icmp_ge (tgt := 45) hx hb dX7_keep_18 (by decide) (fun c_4 => ?_) (fun c9 => absurd (by decide) c9)
        refine lv_aload_n hx hb dX7_keep_45 rfl (lv_at hl 1 rfl) ?_
        refine fl_get (C := RX7) (T := TX7) (N := 23) (ci := 6) (v := .ref (b 4)) hx hb ht in_X7 hown hK hP 0 rfl rfl 4 (by decide) mw_1134 rfl dX7_keep_46 ?_
        refine lv_iload_n hx hb dX7_keep_49 rfl (lv_at hl 2 rfl) ?_
        refine lv_iconst (v := 1) hx hb dX7_keep_50 (by decide) ?_
        refine va_zast hx hb hK hP hD hS 3 3 rfl rfl (in_c rfl) dX7_keep_51 (fun H locs hP hD hS => ?_)
        generalize upd (fun _ => 0) (Int32.toNatClampNeg 0) (vp_nar .boolean 1) = f_5 at hP hD
        have hP : va_P D vwCl [((b 0), .inr (6, [.ref (b 1), .ref (b 2), .int 0, .ref (b 3), .ref (b 4), .ref (b 5), .long 0, .int 0, .int 0, .ref (b 6), .int 0, .int 0, .ref (b 7), .int 0, .int 0, .int 0, .int 0, .int 0, .int 0, .int 0, .int 0, .int 0, .int 0])), ((b 1), .inl (q 1, 6896, .inr (.inl (fun _ => 0)))), ((b 3), .inl (q 1, 13792, .inr (.inl (fun _ => 0)))), ((b 4), .inl (q 3, 2, .inl f_5))] H := hP
        have hD : va_D _ [((b 0), .inr (6, [.ref (b 1), .ref (b 2), .int 0, .ref (b 3), .ref (b 4), .ref (b 5), .long 0, .int 0, .int 0, .ref (b 6), .int 0, .int 0, .ref (b 7), .int 0, .int 0, .int 0, .int 0, .int 0, .int 0, .int 0, .int 0, .int 0, .int 0])), ((b 1), .inl (q 1, 6896, .inr (.inl (fun _ => 0)))), ((b 3), .inl (q 1, 13792, .inr (.inl (fun _ => 0)))), ((b 4), .inl (q 3, 2, .inl f_5))] := hD
        refine lv_aload_n hx hb dX7_keep_52 rfl (lv_at hl 1 rfl) ?_
        refine vp_callSi (rd_wV (wc := [((b 0), .inr (6, [.ref (b 1), .ref (b 2), .int 0, .ref (b 3), .ref (b 4), .ref (b 5), .long 0, .int 0, .int 0, .ref (b 6), .int 0, .int 0, .ref (b 7), .int 0, .int 0, .int 0, .int 0, .int 0, .int 0, .int 0, .int 0, .int 0, .int 0])), ((b 1), .inl (q 1, 6896, .inr (.inl (fun _ => 0))))]) (As := []) (rest := []) hx hb hml hown ht (cm_cells) wd_X7_cells mw_1295 hQ hV hS (hP.sub [0, 1] rfl) rfl rfl rfl hl.1 rfl (Nat.le_of_ble_eq_true rfl) dX7_keep_53 ⟨Nat.le_of_ble_eq_true rfl, Nat.le_of_ble_eq_true rfl, rfl, rfl⟩ ⟨Nat.le_of_ble_eq_true rfl, Nat.le_of_ble_eq_true rfl⟩) (fun r_6 er_6 => ?_)
        obtain rfl : r_6 = 0 := er_6
        have hP := hP.sub (ws' := []) [] rfl
        have hD := hD.sub (ws' := []) [] (by decide) rfl
        exact mt_iret () hx hb hr hk (by decide) hP hD hS dX7_keep_56
      | succ n ih =>
        intro i hi H locs ls hP hD hS hl
        have e_i : (nI i).toInt = (i : Int) := nI_toInt (by omega)
        refine lv_iload_n hx hb dX7_keep_14 rfl (lv_at hl 0 rfl) ?_
        refine lv_sipush (v := 6896) hx hb dX7_keep_15 (by decide) ?_
        refine lv_icmp_ge (tgt := 45) hx hb dX7_keep_18 (by decide) (fun c9 => by have g0 := c_3; have g1 := e_i; have g2 := hi; have g3 := c9; (try simp only [lg_cmp_ge, lg_cmp_le, lg_cmp_gt, lg_cmp_lt, lg_cmp_eq] at g0 g1 g2 g3); (try simp only [Int32.lt_iff_toInt_lt, Int32.le_iff_toInt_le, ← Int32.toInt_inj, Int32.reduceToInt, Int64.lt_iff_toInt_lt, Int64.le_iff_toInt_le, ← Int64.toInt_inj, Int64.reduceToInt, Int32.toInt_toInt64] at g0 g1 g2 g3); omega) (fun c_7 => ?_)
        refine lv_aload_n hx hb dX7_keep_21 rfl (lv_at hl 1 rfl) ?_
        refine fl_get (C := RX7) (T := TX7) (N := 23) (ci := 6) (v := .ref (b 3)) hx hb ht in_X7 hown hK hP 0 rfl rfl 3 (by decide) mw_1133 rfl dX7_keep_22 ?_
        refine lv_sipush (v := 6896) hx hb dX7_keep_25 (by decide) ?_
        refine lv_iload_n hx hb dX7_keep_28 rfl (lv_at hl 2 rfl) ?_
        refine lv_imul hx hb dX7_keep_29 ?_
        refine ab_i (v := 0) (by decide) ?_
        refine lv_iload_n hx hb dX7_keep_30 rfl (lv_at hl 0 rfl) ?_
        refine lv_iadd hx hb dX7_keep_31 ?_
        refine ab_i (v := nI (0 + i)) (nI_plus 0 i) ?_
        refine lv_aload_n hx hb dX7_keep_32 rfl (lv_at hl 1 rfl) ?_
        refine fl_get (C := RX7) (T := TX7) (N := 23) (ci := 6) (v := .ref (b 1)) hx hb ht in_X7 hown hK hP 0 rfl rfl 0 (by decide) mw_1130 rfl dX7_keep_33 ?_
        refine lv_iload_n hx hb dX7_keep_36 rfl (lv_at hl 0 rfl) ?_
        refine va_lald hx hb hK hP 1 1 rfl rfl (vp_in_nI (by omega) (by omega)) dX7_keep_37 ?_
        refine ab_l (v := 0) rfl ?_
        refine va_last hx hb hK hP hD hS 2 1 rfl rfl (vp_in_nI (by omega) (by omega)) dX7_keep_38 (fun H locs hP hD hS => ?_)
        rw [vp_updL_0] at hP hD
        have hP : va_P D vwCl [((b 0), .inr (6, [.ref (b 1), .ref (b 2), .int 0, .ref (b 3), .ref (b 4), .ref (b 5), .long 0, .int 0, .int 0, .ref (b 6), .int 0, .int 0, .ref (b 7), .int 0, .int 0, .int 0, .int 0, .int 0, .int 0, .int 0, .int 0, .int 0, .int 0])), ((b 1), .inl (q 1, 6896, .inr (.inl (fun _ => 0)))), ((b 3), .inl (q 1, 13792, .inr (.inl (fun _ => 0)))), ((b 4), .inl (q 3, 2, .inl (fun _ => 0)))] H := hP
        have hD : va_D _ [((b 0), .inr (6, [.ref (b 1), .ref (b 2), .int 0, .ref (b 3), .ref (b 4), .ref (b 5), .long 0, .int 0, .int 0, .ref (b 6), .int 0, .int 0, .ref (b 7), .int 0, .int 0, .int 0, .int 0, .int 0, .int 0, .int 0, .int 0, .int 0, .int 0])), ((b 1), .inl (q 1, 6896, .inr (.inl (fun _ => 0)))), ((b 3), .inl (q 1, 13792, .inr (.inl (fun _ => 0)))), ((b 4), .inl (q 3, 2, .inl (fun _ => 0)))] := hD
        refine lv_iinc (v := (nI (i + 1))) (lv' := [(2, .int (nI (i + 1))), (0, .ref (b 0)), (1, .int 0)]) hx hb dX7_keep_39 hl (k := 0) rfl (nI_inc _) (by decide) rfl (fun ls hl => ?_)
        refine lv_goto (tgt := 14) hx hb dX7_keep_42 (by decide) ?_
        exact ih (i + 1) (by omega) H locs ls (hP.sub [0, 1, 2, 3] rfl) (hD.sub [0, 1, 2, 3] (by decide) rfl) hS (lv_sub hl [0, 1, 2] rfl)
    exact lp 6896 0 rfl _ _ ls hP hD hS (lv_sub hl [0, 1, 2] rfl)
  by_cases k_9 : x = 1
  · subst k_9
    refine lv_iload_n hx hb dX7_keep_0 rfl (lv_at hl 1 rfl) ?_
    refine lv_i2l (v := 1) hx hb dX7_keep_1 (by decide) ?_
    refine lv_lconst (v := 0) hx hb dX7_keep_2 (by decide) ?_
    refine lv_lconst (v := 1) hx hb dX7_keep_3 (by decide) ?_
    refine vp_callSi (rd_wS (wc := []) (As := [.long 1, .long 0, .long 1]) (rest := []) hx hb hml hown ht (ct_in_T (by decide)) wd_X7_in mw_1213 hQ hV hS (hP.sub [] rfl) rfl hl.1 rfl (Nat.le_of_ble_eq_true rfl) dX7_keep_4 ⟨Nat.le_of_ble_eq_true rfl, Nat.le_of_ble_eq_true rfl, rfl, rfl⟩ ⟨Nat.le_of_ble_eq_true rfl, Nat.le_of_ble_eq_true rfl⟩) (fun r_10 er_10 => ?_)
    obtain rfl : r_10 = 1 := er_10
    refine lv_if_ne (tgt := 12) hx hb dX7_keep_7 (by decide) (fun c_11 => ?_) (fun c9 => absurd c9 (by decide))
    refine lv_iconst (v := 0) hx hb dX7_keep_12 (by decide) ?_
    refine lv_istore_n (lv' := [(2, .int 0), (0, .ref (b 0)), (1, .int 1)]) hx hb dX7_keep_13 rfl hl (by decide) rfl (fun ls hl => ?_)
    have lp : ∀ (n i : Nat), i + n = 6896 → ∀ (H : Heap) (locs : List Loc) (ls : Array Slot), va_P D vwCl [((b 0), .inr (6, [.ref (b 1), .ref (b 2), .int 0, .ref (b 3), .ref (b 4), .ref (b 5), .long 0, .int 0, .int 0, .ref (b 6), .int 0, .int 0, .ref (b 7), .int 0, .int 0, .int 0, .int 0, .int 0, .int 0, .int 0, .int 0, .int 0, .int 0])), ((b 1), .inl (q 1, 6896, .inr (.inl (fun _ => 0)))), ((b 3), .inl (q 1, 13792, .inr (.inl (fun _ => 0)))), ((b 4), .inl (q 3, 2, .inl (fun _ => 0)))] H → va_D (va_A (md_w b q) sz) [((b 0), .inr (6, [.ref (b 1), .ref (b 2), .int 0, .ref (b 3), .ref (b 4), .ref (b 5), .long 0, .int 0, .int 0, .ref (b 6), .int 0, .int 0, .ref (b 7), .int 0, .int 0, .int 0, .int 0, .int 0, .int 0, .int 0, .int 0, .int 0, .int 0])), ((b 1), .inl (q 1, 6896, .inr (.inl (fun _ => 0)))), ((b 3), .inl (q 1, 13792, .inr (.inl (fun _ => 0)))), ((b 4), .inl (q 3, 2, .inl (fun _ => 0)))] → va_S (va_A (md_w b q) sz) s.heap H locs → lv_has ls 3 [(2, .int (nI i)), (0, .ref (b 0)), (1, .int 1)] → W p l e ({ frames := 2, cells := 0, slots := 0, locals := 40 }) s m [.ref (b 0), .int (1 : Int32)].toArray below meth c H locs 0 0 (MQ below (va_Qi (fun r (u : Unit) => (0 ≤ (1 : Int32) ∧ (1 : Int32) ≤ 1 → r = 0) ∧ (¬ (0 ≤ (1 : Int32) ∧ (1 : Int32) ≤ 1) → r = (-1))) (mt_B D (md_w b q) sz (fun _ => [])) (va_A (md_w b q) sz)) [.ref (b 0), .int (1 : Int32)].toArray s 0 0 (va_A (md_w b q) sz)) (F0 m 14 ls []) := by
      intro n
      induction n with
      | zero =>
        intro i hi H locs ls hP hD hS hl
        obtain rfl : i = 6896 := by omega
        have hl : lv_has ls 3 [(2, .int 6896), (0, .ref (b 0)), (1, .int 1)] := hl
        refine lv_iload_n hx hb dX7_keep_14 rfl (lv_at hl 0 rfl) ?_
        refine lv_sipush (v := 6896) hx hb dX7_keep_15 (by decide) ?_
        refine lv_icmp_ge (tgt := 45) hx hb dX7_keep_18 (by decide) (fun c_12 => ?_) (fun c9 => absurd (by decide) c9)
        refine lv_aload_n hx hb dX7_keep_45 rfl (lv_at hl 1 rfl) ?_
        refine fl_get (C := RX7) (T := TX7) (N := 23) (ci := 6) (v := .ref (b 4)) hx hb ht in_X7 hown hK hP 0 rfl rfl 4 (by decide) mw_1134 rfl dX7_keep_46 ?_
        refine lv_iload_n hx hb dX7_keep_49 rfl (lv_at hl 2 rfl) ?_
        refine lv_iconst (v := 1) hx hb dX7_keep_50 (by decide) ?_
        refine va_zast hx hb hK hP hD hS 3 3 rfl rfl (in_c rfl) dX7_keep_51 (fun H locs hP hD hS => ?_)
        generalize upd (fun _ => 0) (Int32.toNatClampNeg 1) (vp_nar .boolean 1) = f_13 at hP hD
        have hP : va_P D vwCl [((b 0), .inr (6, [.ref (b 1), .ref (b 2), .int 0, .ref (b 3), .ref (b 4), .ref (b 5), .long 0, .int 0, .int 0, .ref (b 6), .int 0, .int 0, .ref (b 7), .int 0, .int 0, .int 0, .int 0, .int 0, .int 0, .int 0, .int 0, .int 0, .int 0])), ((b 1), .inl (q 1, 6896, .inr (.inl (fun _ => 0)))), ((b 3), .inl (q 1, 13792, .inr (.inl (fun _ => 0)))), ((b 4), .inl (q 3, 2, .inl f_13))] H := hP
        have hD : va_D _ [((b 0), .inr (6, [.ref (b 1), .ref (b 2), .int 0, .ref (b 3), .ref (b 4), .ref (b 5), .long 0, .int 0, .int 0, .ref (b 6), .int 0, .int 0, .ref (b 7), .int 0, .int 0, .int 0, .int 0, .int 0, .int 0, .int 0, .int 0, .int 0, .int 0])), ((b 1), .inl (q 1, 6896, .inr (.inl (fun _ => 0)))), ((b 3), .inl (q 1, 13792, .inr (.inl (fun _ => 0)))), ((b 4), .inl (q 3, 2, .inl f_13))] := hD
        refine lv_aload_n hx hb dX7_keep_52 rfl (lv_at hl 1 rfl) ?_
        refine vp_callSi (rd_wV (wc := [((b 0), .inr (6, [.ref (b 1), .ref (b 2), .int 0, .ref (b 3), .ref (b 4), .ref (b 5), .long 0, .int 0, .int 0, .ref (b 6), .int 0, .int 0, .ref (b 7), .int 0, .int 0, .int 0, .int 0, .int 0, .int 0, .int 0, .int 0, .int 0, .int 0])), ((b 1), .inl (q 1, 6896, .inr (.inl (fun _ => 0))))]) (As := []) (rest := []) hx hb hml hown ht (cm_cells) wd_X7_cells mw_1295 hQ hV hS (hP.sub [0, 1] rfl) rfl rfl rfl hl.1 rfl (Nat.le_of_ble_eq_true rfl) dX7_keep_53 ⟨Nat.le_of_ble_eq_true rfl, Nat.le_of_ble_eq_true rfl, rfl, rfl⟩ ⟨Nat.le_of_ble_eq_true rfl, Nat.le_of_ble_eq_true rfl⟩) (fun r_14 er_14 => ?_)
        obtain rfl : r_14 = 0 := er_14
        have hP := hP.sub (ws' := []) [] rfl
        have hD := hD.sub (ws' := []) [] (by decide) rfl
        exact mt_iret () hx hb hr hk (by decide) hP hD hS dX7_keep_56
      | succ n ih =>
        intro i hi H locs ls hP hD hS hl
        have e_i : (nI i).toInt = (i : Int) := nI_toInt (by omega)
        refine lv_iload_n hx hb dX7_keep_14 rfl (lv_at hl 0 rfl) ?_
        refine lv_sipush (v := 6896) hx hb dX7_keep_15 (by decide) ?_
        refine lv_icmp_ge (tgt := 45) hx hb dX7_keep_18 (by decide) (fun c9 => by have g0 := k_1; have g1 := c_11; have g2 := e_i; have g3 := hi; have g4 := c9; (try simp only [lg_cmp_ge, lg_cmp_le, lg_cmp_gt, lg_cmp_lt, lg_cmp_eq] at g0 g1 g2 g3 g4); (try simp only [Int32.lt_iff_toInt_lt, Int32.le_iff_toInt_le, ← Int32.toInt_inj, Int32.reduceToInt, Int64.lt_iff_toInt_lt, Int64.le_iff_toInt_le, ← Int64.toInt_inj, Int64.reduceToInt, Int32.toInt_toInt64] at g0 g1 g2 g3 g4); omega) (fun c_15 => ?_)
        refine lv_aload_n hx hb dX7_keep_21 rfl (lv_at hl 1 rfl) ?_
        refine fl_get (C := RX7) (T := TX7) (N := 23) (ci := 6) (v := .ref (b 3)) hx hb ht in_X7 hown hK hP 0 rfl rfl 3 (by decide) mw_1133 rfl dX7_keep_22 ?_
        refine lv_sipush (v := 6896) hx hb dX7_keep_25 (by decide) ?_
        refine lv_iload_n hx hb dX7_keep_28 rfl (lv_at hl 2 rfl) ?_
        refine lv_imul hx hb dX7_keep_29 ?_
        refine ab_i (v := 6896) (by decide) ?_
        refine lv_iload_n hx hb dX7_keep_30 rfl (lv_at hl 0 rfl) ?_
        refine lv_iadd hx hb dX7_keep_31 ?_
        refine ab_i (v := nI (6896 + i)) (nI_plus 6896 i) ?_
        refine lv_aload_n hx hb dX7_keep_32 rfl (lv_at hl 1 rfl) ?_
        refine fl_get (C := RX7) (T := TX7) (N := 23) (ci := 6) (v := .ref (b 1)) hx hb ht in_X7 hown hK hP 0 rfl rfl 0 (by decide) mw_1130 rfl dX7_keep_33 ?_
        refine lv_iload_n hx hb dX7_keep_36 rfl (lv_at hl 0 rfl) ?_
        refine va_lald hx hb hK hP 1 1 rfl rfl (vp_in_nI (by omega) (by omega)) dX7_keep_37 ?_
        refine ab_l (v := 0) rfl ?_
        refine va_last hx hb hK hP hD hS 2 1 rfl rfl (vp_in_nI (by omega) (by omega)) dX7_keep_38 (fun H locs hP hD hS => ?_)
        rw [vp_updL_0] at hP hD
        have hP : va_P D vwCl [((b 0), .inr (6, [.ref (b 1), .ref (b 2), .int 0, .ref (b 3), .ref (b 4), .ref (b 5), .long 0, .int 0, .int 0, .ref (b 6), .int 0, .int 0, .ref (b 7), .int 0, .int 0, .int 0, .int 0, .int 0, .int 0, .int 0, .int 0, .int 0, .int 0])), ((b 1), .inl (q 1, 6896, .inr (.inl (fun _ => 0)))), ((b 3), .inl (q 1, 13792, .inr (.inl (fun _ => 0)))), ((b 4), .inl (q 3, 2, .inl (fun _ => 0)))] H := hP
        have hD : va_D _ [((b 0), .inr (6, [.ref (b 1), .ref (b 2), .int 0, .ref (b 3), .ref (b 4), .ref (b 5), .long 0, .int 0, .int 0, .ref (b 6), .int 0, .int 0, .ref (b 7), .int 0, .int 0, .int 0, .int 0, .int 0, .int 0, .int 0, .int 0, .int 0, .int 0])), ((b 1), .inl (q 1, 6896, .inr (.inl (fun _ => 0)))), ((b 3), .inl (q 1, 13792, .inr (.inl (fun _ => 0)))), ((b 4), .inl (q 3, 2, .inl (fun _ => 0)))] := hD
        refine lv_iinc (v := (nI (i + 1))) (lv' := [(2, .int (nI (i + 1))), (0, .ref (b 0)), (1, .int 1)]) hx hb dX7_keep_39 hl (k := 0) rfl (nI_inc _) (by decide) rfl (fun ls hl => ?_)
        refine lv_goto (tgt := 14) hx hb dX7_keep_42 (by decide) ?_
        exact ih (i + 1) (by omega) H locs ls (hP.sub [0, 1, 2, 3] rfl) (hD.sub [0, 1, 2, 3] (by decide) rfl) hS (lv_sub hl [0, 1, 2] rfl)
    exact lp 6896 0 rfl _ _ ls hP hD hS (lv_sub hl [0, 1, 2] rfl)
  refine lv_iload_n hx hb dX7_keep_0 rfl (lv_at hl 1 rfl) ?_
  refine lv_i2l (v := x.toInt64) hx hb dX7_keep_1 rfl ?_
  refine lv_lconst (v := 0) hx hb dX7_keep_2 (by decide) ?_
  refine lv_lconst (v := 1) hx hb dX7_keep_3 (by decide) ?_
  by_cases k_17 : 0 ≤ (x.toInt64) ∧ (x.toInt64) ≤ 1
  · refine vp_callSi (rd_wS (wc := []) (As := [.long (x.toInt64), .long 0, .long 1]) (rest := []) hx hb hml hown ht (ct_in_T k_17) wd_X7_in mw_1213 hQ hV hS (hP.sub [] rfl) rfl hl.1 rfl (Nat.le_of_ble_eq_true rfl) dX7_keep_4 ⟨Nat.le_of_ble_eq_true rfl, Nat.le_of_ble_eq_true rfl, rfl, rfl⟩ ⟨Nat.le_of_ble_eq_true rfl, Nat.le_of_ble_eq_true rfl⟩) (fun r_18 er_18 => ?_)
    obtain rfl : r_18 = 1 := er_18
    refine lv_if_ne (tgt := 12) hx hb dX7_keep_7 (by decide) (fun c_19 => ?_) (fun c9 => absurd c9 (by decide))
    refine lv_iconst (v := 0) hx hb dX7_keep_12 (by decide) ?_
    refine lv_istore_n (lv' := [(2, .int 0), (0, .ref (b 0)), (1, .int x)]) hx hb dX7_keep_13 rfl hl (by decide) rfl (fun ls hl => ?_)
    have lp : ∀ (n i : Nat), i + n = 6896 → ∀ (H : Heap) (locs : List Loc) (ls : Array Slot), va_P D vwCl [((b 0), .inr (6, [.ref (b 1), .ref (b 2), .int 0, .ref (b 3), .ref (b 4), .ref (b 5), .long 0, .int 0, .int 0, .ref (b 6), .int 0, .int 0, .ref (b 7), .int 0, .int 0, .int 0, .int 0, .int 0, .int 0, .int 0, .int 0, .int 0, .int 0])), ((b 1), .inl (q 1, 6896, .inr (.inl (fun _ => 0)))), ((b 3), .inl (q 1, 13792, .inr (.inl (fun _ => 0)))), ((b 4), .inl (q 3, 2, .inl (fun _ => 0)))] H → va_D (va_A (md_w b q) sz) [((b 0), .inr (6, [.ref (b 1), .ref (b 2), .int 0, .ref (b 3), .ref (b 4), .ref (b 5), .long 0, .int 0, .int 0, .ref (b 6), .int 0, .int 0, .ref (b 7), .int 0, .int 0, .int 0, .int 0, .int 0, .int 0, .int 0, .int 0, .int 0, .int 0])), ((b 1), .inl (q 1, 6896, .inr (.inl (fun _ => 0)))), ((b 3), .inl (q 1, 13792, .inr (.inl (fun _ => 0)))), ((b 4), .inl (q 3, 2, .inl (fun _ => 0)))] → va_S (va_A (md_w b q) sz) s.heap H locs → lv_has ls 3 [(2, .int (nI i)), (0, .ref (b 0)), (1, .int x)] → W p l e ({ frames := 2, cells := 0, slots := 0, locals := 40 }) s m [.ref (b 0), .int x].toArray below meth c H locs 0 0 (MQ below (va_Qi (fun r (u : Unit) => (0 ≤ x ∧ x ≤ 1 → r = 0) ∧ (¬ (0 ≤ x ∧ x ≤ 1) → r = (-1))) (mt_B D (md_w b q) sz (fun _ => [])) (va_A (md_w b q) sz)) [.ref (b 0), .int x].toArray s 0 0 (va_A (md_w b q) sz)) (F0 m 14 ls []) := by
      intro n
      induction n with
      | zero =>
        intro i hi H locs ls hP hD hS hl
        obtain rfl : i = 6896 := by omega
        have hl : lv_has ls 3 [(2, .int 6896), (0, .ref (b 0)), (1, .int x)] := hl
        refine lv_iload_n hx hb dX7_keep_14 rfl (lv_at hl 0 rfl) ?_
        refine lv_sipush (v := 6896) hx hb dX7_keep_15 (by decide) ?_
        refine lv_icmp_ge (tgt := 45) hx hb dX7_keep_18 (by decide) (fun c_20 => ?_) (fun c9 => absurd (by decide) c9)
        refine lv_aload_n hx hb dX7_keep_45 rfl (lv_at hl 1 rfl) ?_
        refine fl_get (C := RX7) (T := TX7) (N := 23) (ci := 6) (v := .ref (b 4)) hx hb ht in_X7 hown hK hP 0 rfl rfl 4 (by decide) mw_1134 rfl dX7_keep_46 ?_
        refine lv_iload_n hx hb dX7_keep_49 rfl (lv_at hl 2 rfl) ?_
        refine lv_iconst (v := 1) hx hb dX7_keep_50 (by decide) ?_
        refine va_zast hx hb hK hP hD hS 3 3 rfl rfl (in_r (by have g0 := k_1; have g1 := k_9; have g2 := k_17; have g3 := c_19; have g4 := c_20; (try simp only [lg_cmp_ge, lg_cmp_le, lg_cmp_gt, lg_cmp_lt, lg_cmp_eq] at g0 g1 g2 g3 g4); (try simp only [Int32.lt_iff_toInt_lt, Int32.le_iff_toInt_le, ← Int32.toInt_inj, Int32.reduceToInt, Int64.lt_iff_toInt_lt, Int64.le_iff_toInt_le, ← Int64.toInt_inj, Int64.reduceToInt, Int32.toInt_toInt64] at g0 g1 g2 g3 g4 ⊢); omega) (by have g0 := k_1; have g1 := k_9; have g2 := k_17; have g3 := c_19; have g4 := c_20; (try simp only [lg_cmp_ge, lg_cmp_le, lg_cmp_gt, lg_cmp_lt, lg_cmp_eq] at g0 g1 g2 g3 g4); (try simp only [Int32.lt_iff_toInt_lt, Int32.le_iff_toInt_le, ← Int32.toInt_inj, Int32.reduceToInt, Int64.lt_iff_toInt_lt, Int64.le_iff_toInt_le, ← Int64.toInt_inj, Int64.reduceToInt, Int32.toInt_toInt64] at g0 g1 g2 g3 g4 ⊢); omega)) dX7_keep_51 (fun H locs hP hD hS => ?_)
        generalize upd (fun _ => 0) (Int32.toNatClampNeg x) (vp_nar .boolean 1) = f_21 at hP hD
        have hP : va_P D vwCl [((b 0), .inr (6, [.ref (b 1), .ref (b 2), .int 0, .ref (b 3), .ref (b 4), .ref (b 5), .long 0, .int 0, .int 0, .ref (b 6), .int 0, .int 0, .ref (b 7), .int 0, .int 0, .int 0, .int 0, .int 0, .int 0, .int 0, .int 0, .int 0, .int 0])), ((b 1), .inl (q 1, 6896, .inr (.inl (fun _ => 0)))), ((b 3), .inl (q 1, 13792, .inr (.inl (fun _ => 0)))), ((b 4), .inl (q 3, 2, .inl f_21))] H := hP
        have hD : va_D _ [((b 0), .inr (6, [.ref (b 1), .ref (b 2), .int 0, .ref (b 3), .ref (b 4), .ref (b 5), .long 0, .int 0, .int 0, .ref (b 6), .int 0, .int 0, .ref (b 7), .int 0, .int 0, .int 0, .int 0, .int 0, .int 0, .int 0, .int 0, .int 0, .int 0])), ((b 1), .inl (q 1, 6896, .inr (.inl (fun _ => 0)))), ((b 3), .inl (q 1, 13792, .inr (.inl (fun _ => 0)))), ((b 4), .inl (q 3, 2, .inl f_21))] := hD
        refine lv_aload_n hx hb dX7_keep_52 rfl (lv_at hl 1 rfl) ?_
        refine vp_callSi (rd_wV (wc := [((b 0), .inr (6, [.ref (b 1), .ref (b 2), .int 0, .ref (b 3), .ref (b 4), .ref (b 5), .long 0, .int 0, .int 0, .ref (b 6), .int 0, .int 0, .ref (b 7), .int 0, .int 0, .int 0, .int 0, .int 0, .int 0, .int 0, .int 0, .int 0, .int 0])), ((b 1), .inl (q 1, 6896, .inr (.inl (fun _ => 0))))]) (As := []) (rest := []) hx hb hml hown ht (cm_cells) wd_X7_cells mw_1295 hQ hV hS (hP.sub [0, 1] rfl) rfl rfl rfl hl.1 rfl (Nat.le_of_ble_eq_true rfl) dX7_keep_53 ⟨Nat.le_of_ble_eq_true rfl, Nat.le_of_ble_eq_true rfl, rfl, rfl⟩ ⟨Nat.le_of_ble_eq_true rfl, Nat.le_of_ble_eq_true rfl⟩) (fun r_22 er_22 => ?_)
        obtain rfl : r_22 = 0 := er_22
        have hP := hP.sub (ws' := []) [] rfl
        have hD := hD.sub (ws' := []) [] (by decide) rfl
        exact mt_iret () hx hb hr hk (by refine ⟨fun h9 => ?_, fun h9 => ?_⟩ <;> first | rfl | exact h9 | (exfalso; have g0 := k_1; have g1 := k_9; have g2 := k_17; have g3 := c_19; have g4 := c_20; have g5 := h9; (try simp only [lg_cmp_ge, lg_cmp_le, lg_cmp_gt, lg_cmp_lt, lg_cmp_eq] at g0 g1 g2 g3 g4 g5); (try simp only [Int32.lt_iff_toInt_lt, Int32.le_iff_toInt_le, ← Int32.toInt_inj, Int32.reduceToInt, Int64.lt_iff_toInt_lt, Int64.le_iff_toInt_le, ← Int64.toInt_inj, Int64.reduceToInt, Int32.toInt_toInt64] at g0 g1 g2 g3 g4 g5); omega)) hP hD hS dX7_keep_56
      | succ n ih =>
        intro i hi H locs ls hP hD hS hl
        have e_i : (nI i).toInt = (i : Int) := nI_toInt (by omega)
        refine lv_iload_n hx hb dX7_keep_14 rfl (lv_at hl 0 rfl) ?_
        refine lv_sipush (v := 6896) hx hb dX7_keep_15 (by decide) ?_
        refine lv_icmp_ge (tgt := 45) hx hb dX7_keep_18 (by decide) (fun c9 => by have g0 := k_1; have g1 := k_9; have g2 := k_17; have g3 := c_19; have g4 := e_i; have g5 := hi; have g6 := c9; (try simp only [lg_cmp_ge, lg_cmp_le, lg_cmp_gt, lg_cmp_lt, lg_cmp_eq] at g0 g1 g2 g3 g4 g5 g6); (try simp only [Int32.lt_iff_toInt_lt, Int32.le_iff_toInt_le, ← Int32.toInt_inj, Int32.reduceToInt, Int64.lt_iff_toInt_lt, Int64.le_iff_toInt_le, ← Int64.toInt_inj, Int64.reduceToInt, Int32.toInt_toInt64] at g0 g1 g2 g3 g4 g5 g6); omega) (fun c_23 => ?_)
        refine lv_aload_n hx hb dX7_keep_21 rfl (lv_at hl 1 rfl) ?_
        refine fl_get (C := RX7) (T := TX7) (N := 23) (ci := 6) (v := .ref (b 3)) hx hb ht in_X7 hown hK hP 0 rfl rfl 3 (by decide) mw_1133 rfl dX7_keep_22 ?_
        refine lv_sipush (v := 6896) hx hb dX7_keep_25 (by decide) ?_
        refine lv_iload_n hx hb dX7_keep_28 rfl (lv_at hl 2 rfl) ?_
        refine lv_imul hx hb dX7_keep_29 ?_
        refine lv_topi (fun x_24 ex_24 => ?_)
        refine lv_iload_n hx hb dX7_keep_30 rfl (lv_at hl 0 rfl) ?_
        refine lv_iadd hx hb dX7_keep_31 ?_
        refine lv_topi (fun x_25 ex_25 => ?_)
        refine lv_aload_n hx hb dX7_keep_32 rfl (lv_at hl 1 rfl) ?_
        refine fl_get (C := RX7) (T := TX7) (N := 23) (ci := 6) (v := .ref (b 1)) hx hb ht in_X7 hown hK hP 0 rfl rfl 0 (by decide) mw_1130 rfl dX7_keep_33 ?_
        refine lv_iload_n hx hb dX7_keep_36 rfl (lv_at hl 0 rfl) ?_
        refine va_lald hx hb hK hP 1 1 rfl rfl (vp_in_nI (by omega) (by omega)) dX7_keep_37 ?_
        refine ab_l (v := 0) rfl ?_
        refine va_last hx hb hK hP hD hS 2 1 rfl rfl (in_r (by have g0 := k_1; have g1 := k_9; have g2 := k_17; have g3 := c_19; have g4 := e_i; have g5 := hi; have g6 := c_23; (try simp only [lg_cmp_ge, lg_cmp_le, lg_cmp_gt, lg_cmp_lt, lg_cmp_eq] at g0 g1 g2 g3 g4 g5 g6); (try simp only [Int32.lt_iff_toInt_lt, Int32.le_iff_toInt_le, ← Int32.toInt_inj, Int32.reduceToInt, Int64.lt_iff_toInt_lt, Int64.le_iff_toInt_le, ← Int64.toInt_inj, Int64.reduceToInt, Int32.toInt_toInt64] at g0 g1 g2 g3 g4 g5 g6 ⊢); omega) (by have g0 := k_1; have g1 := k_9; have g2 := k_17; have g3 := c_19; have g4 := e_i; have g5 := hi; have g6 := c_23; (try simp only [lg_cmp_ge, lg_cmp_le, lg_cmp_gt, lg_cmp_lt, lg_cmp_eq] at g0 g1 g2 g3 g4 g5 g6); (try simp only [Int32.lt_iff_toInt_lt, Int32.le_iff_toInt_le, ← Int32.toInt_inj, Int32.reduceToInt, Int64.lt_iff_toInt_lt, Int64.le_iff_toInt_le, ← Int64.toInt_inj, Int64.reduceToInt, Int32.toInt_toInt64] at g0 g1 g2 g3 g4 g5 g6 ⊢); omega)) dX7_keep_38 (fun H locs hP hD hS => ?_)
        rw [vp_updL_0] at hP hD
        have hP : va_P D vwCl [((b 0), .inr (6, [.ref (b 1), .ref (b 2), .int 0, .ref (b 3), .ref (b 4), .ref (b 5), .long 0, .int 0, .int 0, .ref (b 6), .int 0, .int 0, .ref (b 7), .int 0, .int 0, .int 0, .int 0, .int 0, .int 0, .int 0, .int 0, .int 0, .int 0])), ((b 1), .inl (q 1, 6896, .inr (.inl (fun _ => 0)))), ((b 3), .inl (q 1, 13792, .inr (.inl (fun _ => 0)))), ((b 4), .inl (q 3, 2, .inl (fun _ => 0)))] H := hP
        have hD : va_D _ [((b 0), .inr (6, [.ref (b 1), .ref (b 2), .int 0, .ref (b 3), .ref (b 4), .ref (b 5), .long 0, .int 0, .int 0, .ref (b 6), .int 0, .int 0, .ref (b 7), .int 0, .int 0, .int 0, .int 0, .int 0, .int 0, .int 0, .int 0, .int 0, .int 0])), ((b 1), .inl (q 1, 6896, .inr (.inl (fun _ => 0)))), ((b 3), .inl (q 1, 13792, .inr (.inl (fun _ => 0)))), ((b 4), .inl (q 3, 2, .inl (fun _ => 0)))] := hD
        refine lv_iinc (v := (nI (i + 1))) (lv' := [(2, .int (nI (i + 1))), (0, .ref (b 0)), (1, .int x)]) hx hb dX7_keep_39 hl (k := 0) rfl (nI_inc _) (by decide) rfl (fun ls hl => ?_)
        refine lv_goto (tgt := 14) hx hb dX7_keep_42 (by decide) ?_
        exact ih (i + 1) (by omega) H locs ls (hP.sub [0, 1, 2, 3] rfl) (hD.sub [0, 1, 2, 3] (by decide) rfl) hS (lv_sub hl [0, 1, 2] rfl)
    exact lp 6896 0 rfl _ _ ls hP hD hS (lv_sub hl [0, 1, 2] rfl)
  · refine vp_callSi (rd_wS (wc := []) (As := [.long (x.toInt64), .long 0, .long 1]) (rest := []) hx hb hml hown ht (ct_in_F k_17) wd_X7_in mw_1213 hQ hV hS (hP.sub [] rfl) rfl hl.1 rfl (Nat.le_of_ble_eq_true rfl) dX7_keep_4 ⟨Nat.le_of_ble_eq_true rfl, Nat.le_of_ble_eq_true rfl, rfl, rfl⟩ ⟨Nat.le_of_ble_eq_true rfl, Nat.le_of_ble_eq_true rfl⟩) (fun r_26 er_26 => ?_)
    obtain rfl : r_26 = 0 := er_26
    refine lv_if_ne (tgt := 12) hx hb dX7_keep_7 (by decide) (fun c9 => absurd c9 (by decide)) (fun c_27 => ?_)
    refine lv_iconst (v := (-1)) hx hb dX7_keep_10 (by decide) ?_
    have hP := hP.sub (ws' := []) [] rfl
    have hD := hD.sub (ws' := []) [] (by decide) rfl
    exact mt_iret () hx hb hr hk (by refine ⟨fun h9 => ?_, fun h9 => ?_⟩ <;> first | rfl | exact h9 | (exfalso; have g0 := k_1; have g1 := k_9; have g2 := k_17; have g3 := c_27; have g4 := h9; (try simp only [lg_cmp_ge, lg_cmp_le, lg_cmp_gt, lg_cmp_lt, lg_cmp_eq] at g0 g1 g2 g3 g4); (try simp only [Int32.lt_iff_toInt_lt, Int32.le_iff_toInt_le, ← Int32.toInt_inj, Int32.reduceToInt, Int64.lt_iff_toInt_lt, Int64.le_iff_toInt_le, ← Int64.toInt_inj, Int64.reduceToInt, Int32.toInt_toInt64] at g0 g1 g2 g3 g4); omega)) hP hD hS dX7_keep_11

set_option maxHeartbeats 4000000 in
set_option maxRecDepth 100000 in
theorem cp_tell {l : Launch} {D : va_G} {q : Nat → ClassId} {sz : Nat} {b : Nat → Nat} : Met l yX7_tell (Cond.code yX7_tell cX7_tell 2 (some .int) :: w_all) ({ frames := 8, cells := 0, slots := 0, locals := 171 }) (mt_P D q [.ref (b 0)] (md_w b q) sz) (va_Qi (fun r (u : Unit) => r = (-3)) (mt_B D (md_w b q) sz (fun _ => [])) (va_A (md_w b q) sz)) 0 0 (va_A (md_w b q) sz) := by
  refine mt_start (by decide) (Nat.le_of_ble_eq_true rfl) ?_
  intro p e s m below meth c ls hx hb hr hml hown ht hk hin hP hQ hD hA hS hV hl
  have hK := hQ.1
  have hown : s.vm.findClass RX7 = some m.cls := hown
  have hl : lv_has ls 2 [(0, .ref (b 0))] := hl
  have hP := hP.sub (ws' := [((b 0), .inr (6, [.ref (b 1), .ref (b 2), .int 0, .ref (b 3), .ref (b 4), .ref (b 5), .long 0, .int 0, .int 0, .ref (b 6), .int 0, .int 0, .ref (b 7), .int 0, .int 0, .int 0, .int 0, .int 0, .int 0, .int 0, .int 0, .int 0, .int 0])), ((b 1), .inl (q 1, 6896, .inr (.inl (fun _ => 0)))), ((b 5), .inl (q 1, 6896, .inr (.inl (fun _ => 0))))]) [0, 1, 5] rfl
  have hD := hD.sub (ws' := [((b 0), .inr (6, [.ref (b 1), .ref (b 2), .int 0, .ref (b 3), .ref (b 4), .ref (b 5), .long 0, .int 0, .int 0, .ref (b 6), .int 0, .int 0, .ref (b 7), .int 0, .int 0, .int 0, .int 0, .int 0, .int 0, .int 0, .int 0, .int 0, .int 0])), ((b 1), .inl (q 1, 6896, .inr (.inl (fun _ => 0)))), ((b 5), .inl (q 1, 6896, .inr (.inl (fun _ => 0))))]) [0, 1, 5] (by decide) rfl
  refine lv_aload_n hx hb dX7_tell_0 rfl (lv_at hl 0 rfl) ?_
  refine mt_gov (mt_wV (wc := [((b 0), .inr (6, [.ref (b 1), .ref (b 2), .int 0, .ref (b 3), .ref (b 4), .ref (b 5), .long 0, .int 0, .int 0, .ref (b 6), .int 0, .int 0, .ref (b 7), .int 0, .int 0, .int 0, .int 0, .int 0, .int 0, .int 0, .int 0, .int 0, .int 0])), ((b 1), .inl (q 1, 6896, .inr (.inl (fun _ => 0)))), ((b 5), .inl (q 1, 6896, .inr (.inl (fun _ => 0))))]) (As := []) (rest := []) hx hb hml hown ht (cm_putsAside) wd_X7_putsAside mw_1449 hQ hV hS hA (hP.sub [0, 1, 2] rfl) (hD.sub [0, 1, 2] (by decide) rfl) rfl rfl rfl hl.1 rfl (Nat.le_of_ble_eq_true rfl) dX7_tell_1 ⟨Nat.le_of_ble_eq_true rfl, Nat.le_of_ble_eq_true rfl, rfl, rfl⟩ ⟨Nat.le_of_ble_eq_true rfl, Nat.le_of_ble_eq_true rfl⟩) (wr := []) hP hD hS hA [0, 1, 2] [] rfl rfl (by decide) (by decide) (fun u_1 H locs hw hP hD hS => ?_)
  have hP : va_P D vwCl [((b 0), .inr (6, [.ref (b 1), .ref (b 2), .int 0, .ref (b 3), .ref (b 4), .ref (b 5), .long 0, .int 0, .int 0, .ref (b 6), .int 0, .int 0, .ref (b 7), .int 0, .int 0, .int 0, .int 0, .int 0, .int 0, .int 0, .int 0, .int 0, .int 0])), ((b 1), .inl (q 1, 6896, .inr (.inl (fun _ => 0)))), ((b 5), .inl (q 1, 6896, .inr (.inl (fun _ => 0))))] H := hP
  have hD : va_D _ [((b 0), .inr (6, [.ref (b 1), .ref (b 2), .int 0, .ref (b 3), .ref (b 4), .ref (b 5), .long 0, .int 0, .int 0, .ref (b 6), .int 0, .int 0, .ref (b 7), .int 0, .int 0, .int 0, .int 0, .int 0, .int 0, .int 0, .int 0, .int 0, .int 0])), ((b 1), .inl (q 1, 6896, .inr (.inl (fun _ => 0)))), ((b 5), .inl (q 1, 6896, .inr (.inl (fun _ => 0))))] := hD
  refine lv_iconst (v := 0) hx hb dX7_tell_4 (by decide) ?_
  refine lv_istore_n (lv' := [(1, .int 0), (0, .ref (b 0))]) hx hb dX7_tell_5 rfl hl (by decide) rfl (fun ls hl => ?_)
  have lp : ∀ (n i : Nat), i + n = 6896 → ∀ (H : Heap) (locs : List Loc) (ls : Array Slot), va_P D vwCl [((b 0), .inr (6, [.ref (b 1), .ref (b 2), .int 0, .ref (b 3), .ref (b 4), .ref (b 5), .long 0, .int 0, .int 0, .ref (b 6), .int 0, .int 0, .ref (b 7), .int 0, .int 0, .int 0, .int 0, .int 0, .int 0, .int 0, .int 0, .int 0, .int 0])), ((b 1), .inl (q 1, 6896, .inr (.inl (fun _ => 0)))), ((b 5), .inl (q 1, 6896, .inr (.inl (fun _ => 0))))] H → va_D (va_A (md_w b q) sz) [((b 0), .inr (6, [.ref (b 1), .ref (b 2), .int 0, .ref (b 3), .ref (b 4), .ref (b 5), .long 0, .int 0, .int 0, .ref (b 6), .int 0, .int 0, .ref (b 7), .int 0, .int 0, .int 0, .int 0, .int 0, .int 0, .int 0, .int 0, .int 0, .int 0])), ((b 1), .inl (q 1, 6896, .inr (.inl (fun _ => 0)))), ((b 5), .inl (q 1, 6896, .inr (.inl (fun _ => 0))))] → va_S (va_A (md_w b q) sz) s.heap H locs → lv_has ls 2 [(1, .int (nI i)), (0, .ref (b 0))] → W p l e ({ frames := 8, cells := 0, slots := 0, locals := 171 }) s m [.ref (b 0)].toArray below meth c H locs 0 0 (MQ below (va_Qi (fun r (u : Unit) => r = (-3)) (mt_B D (md_w b q) sz (fun _ => [])) (va_A (md_w b q) sz)) [.ref (b 0)].toArray s 0 0 (va_A (md_w b q) sz)) (F0 m 6 ls []) := by
    intro n
    induction n with
    | zero =>
      intro i hi H locs ls hP hD hS hl
      obtain rfl : i = 6896 := by omega
      have hl : lv_has ls 2 [(1, .int 6896), (0, .ref (b 0))] := hl
      refine lv_iload_n hx hb dX7_tell_6 rfl (lv_at hl 0 rfl) ?_
      refine lv_sipush (v := 6896) hx hb dX7_tell_7 (by decide) ?_
      refine lv_icmp_ge (tgt := 26) hx hb dX7_tell_10 (by decide) (fun c_3 => ?_) (fun c9 => absurd (by decide) c9)
      refine lv_aload_n hx hb dX7_tell_26 rfl (lv_at hl 1 rfl) ?_
      refine mt_goi (mt_wV (wc := [((b 0), .inr (6, [.ref (b 1), .ref (b 2), .int 0, .ref (b 3), .ref (b 4), .ref (b 5), .long 0, .int 0, .int 0, .ref (b 6), .int 0, .int 0, .ref (b 7), .int 0, .int 0, .int 0, .int 0, .int 0, .int 0, .int 0, .int 0, .int 0, .int 0]))]) (As := []) (rest := []) hx hb hml hown ht (cm_readsBoard) wd_X7_readsBoard mw_1562 hQ hV hS hA (hP.sub [0] rfl) (hD.sub [0] (by decide) rfl) rfl rfl rfl hl.1 rfl (Nat.le_of_ble_eq_true rfl) dX7_tell_27 ⟨Nat.le_of_ble_eq_true rfl, Nat.le_of_ble_eq_true rfl, rfl, rfl⟩ ⟨Nat.le_of_ble_eq_true rfl, Nat.le_of_ble_eq_true rfl⟩) (wr := [((b 1), .inl (q 1, 6896, .inr (.inl (fun _ => 0)))), ((b 5), .inl (q 1, 6896, .inr (.inl (fun _ => 0))))]) hP hD hS hA [0] [1, 2] rfl rfl (by decide) (by decide) (fun r_5 u_4 H locs hw hP hD hS => ?_)
      have hP : va_P D vwCl [((b 1), .inl (q 1, 6896, .inr (.inl (fun _ => 0)))), ((b 5), .inl (q 1, 6896, .inr (.inl (fun _ => 0)))), ((b 0), .inr (6, [.ref (b 1), .ref (b 2), .int 0, .ref (b 3), .ref (b 4), .ref (b 5), .long 0, .int 0, .int 0, .ref (b 6), .int 0, .int 0, .ref (b 7), .int 0, .int 0, .int 1, .int 0, .int 0, .int 0, .int 0, .int 0, .int 0, .int 0]))] H := hP
      have hD : va_D _ [((b 1), .inl (q 1, 6896, .inr (.inl (fun _ => 0)))), ((b 5), .inl (q 1, 6896, .inr (.inl (fun _ => 0)))), ((b 0), .inr (6, [.ref (b 1), .ref (b 2), .int 0, .ref (b 3), .ref (b 4), .ref (b 5), .long 0, .int 0, .int 0, .ref (b 6), .int 0, .int 0, .ref (b 7), .int 0, .int 0, .int 1, .int 0, .int 0, .int 0, .int 0, .int 0, .int 0, .int 0]))] := hD
      obtain rfl : r_5 = 0 := hw
      refine lv_istore_n (lv' := [(1, .int 0), (0, .ref (b 0))]) hx hb dX7_tell_30 rfl hl (by decide) rfl (fun ls hl => ?_)
      refine lv_aload_n hx hb dX7_tell_31 rfl (lv_at hl 1 rfl) ?_
      refine lv_iconst (v := 0) hx hb dX7_tell_32 (by decide) ?_
      refine fl_put (C := RX7) (T := TX7) (N := 23) (ci := 6) (v := .int 0) (ws2 := [((b 1), .inl (q 1, 6896, .inr (.inl (fun _ => 0)))), ((b 5), .inl (q 1, 6896, .inr (.inl (fun _ => 0)))), ((b 0), .inr (6, [.ref (b 1), .ref (b 2), .int 0, .ref (b 3), .ref (b 4), .ref (b 5), .long 0, .int 0, .int 0, .ref (b 6), .int 0, .int 0, .ref (b 7), .int 0, .int 0, .int 1, .int 0, .int 0, .int 0, .int 0, .int 0, .int 0, .int 0]))]) hx hb ht in_X7 tyX7_ok nmX7 hown hK hP hD hS 2 rfl rfl 13 (by decide) mw_1143 rfl rfl rfl (Nat.le_of_ble_eq_true rfl) dX7_tell_33 rfl (fun H locs hP hD hS => ?_)
      refine lv_iload_n hx hb dX7_tell_36 rfl (lv_at hl 0 rfl) ?_
      refine lv_if_ne (tgt := 52) hx hb dX7_tell_37 (by decide) (fun c9 => absurd c9 (by decide)) (fun c_6 => ?_)
      refine lv_aload_n hx hb dX7_tell_40 rfl (lv_at hl 1 rfl) ?_
      refine mt_gov (mt_wV (wc := [((b 0), .inr (6, [.ref (b 1), .ref (b 2), .int 0, .ref (b 3), .ref (b 4), .ref (b 5), .long 0, .int 0, .int 0, .ref (b 6), .int 0, .int 0, .ref (b 7), .int 0, .int 0, .int 1, .int 0, .int 0, .int 0, .int 0, .int 0, .int 0, .int 0])), ((b 1), .inl (q 1, 6896, .inr (.inl (fun _ => 0)))), ((b 5), .inl (q 1, 6896, .inr (.inl (fun _ => 0))))]) (As := []) (rest := []) hx hb hml hown ht (cm_takesBack) wd_X7_takesBack mw_1457 hQ hV hS hA (hP.sub [2, 0, 1] rfl) (hD.sub [2, 0, 1] (by decide) rfl) rfl rfl rfl hl.1 rfl (Nat.le_of_ble_eq_true rfl) dX7_tell_41 ⟨Nat.le_of_ble_eq_true rfl, Nat.le_of_ble_eq_true rfl, rfl, rfl⟩ ⟨Nat.le_of_ble_eq_true rfl, Nat.le_of_ble_eq_true rfl⟩) (wr := []) hP hD hS hA [2, 0, 1] [] rfl rfl (by decide) (by decide) (fun u_7 H locs hw hP hD hS => ?_)
      have hP : va_P D vwCl [((b 0), .inr (6, [.ref (b 1), .ref (b 2), .int 0, .ref (b 3), .ref (b 4), .ref (b 5), .long 0, .int 0, .int 0, .ref (b 6), .int 0, .int 0, .ref (b 7), .int 0, .int 0, .int 1, .int 0, .int 0, .int 0, .int 0, .int 0, .int 0, .int 0])), ((b 1), .inl (q 1, 6896, .inr (.inl (fun _ => 0)))), ((b 5), .inl (q 1, 6896, .inr (.inl (fun _ => 0))))] H := hP
      have hD : va_D _ [((b 0), .inr (6, [.ref (b 1), .ref (b 2), .int 0, .ref (b 3), .ref (b 4), .ref (b 5), .long 0, .int 0, .int 0, .ref (b 6), .int 0, .int 0, .ref (b 7), .int 0, .int 0, .int 1, .int 0, .int 0, .int 0, .int 0, .int 0, .int 0, .int 0])), ((b 1), .inl (q 1, 6896, .inr (.inl (fun _ => 0)))), ((b 5), .inl (q 1, 6896, .inr (.inl (fun _ => 0))))] := hD
      refine lv_bipush (v := (-2)) hx hb dX7_tell_44 (by decide) ?_
      refine lv_aload_n hx hb dX7_tell_46 rfl (lv_at hl 1 rfl) ?_
      refine fl_get (C := RX7) (T := TX7) (N := 23) (ci := 6) (v := .int 1) hx hb ht in_X7 hown hK hP 0 rfl rfl 15 (by decide) mw_1145 rfl dX7_tell_47 ?_
      refine lv_isub hx hb dX7_tell_50 ?_
      refine ab_i (v := (-3)) (by decide) ?_
      have hP := hP.sub (ws' := []) [] rfl
      have hD := hD.sub (ws' := []) [] (by decide) rfl
      exact mt_iret () hx hb hr hk (rfl) hP hD hS dX7_tell_51
    | succ n ih =>
      intro i hi H locs ls hP hD hS hl
      have e_i : (nI i).toInt = (i : Int) := nI_toInt (by omega)
      refine lv_iload_n hx hb dX7_tell_6 rfl (lv_at hl 0 rfl) ?_
      refine lv_sipush (v := 6896) hx hb dX7_tell_7 (by decide) ?_
      refine lv_icmp_ge (tgt := 26) hx hb dX7_tell_10 (by decide) (fun c9 => by have g0 := e_i; have g1 := hi; have g2 := c9; (try simp only [lg_cmp_ge, lg_cmp_le, lg_cmp_gt, lg_cmp_lt, lg_cmp_eq] at g0 g1 g2); (try simp only [Int32.lt_iff_toInt_lt, Int32.le_iff_toInt_le, ← Int32.toInt_inj, Int32.reduceToInt, Int64.lt_iff_toInt_lt, Int64.le_iff_toInt_le, ← Int64.toInt_inj, Int64.reduceToInt, Int32.toInt_toInt64] at g0 g1 g2); omega) (fun c_9 => ?_)
      refine lv_aload_n hx hb dX7_tell_13 rfl (lv_at hl 1 rfl) ?_
      refine fl_get (C := RX7) (T := TX7) (N := 23) (ci := 6) (v := .ref (b 1)) hx hb ht in_X7 hown hK hP 0 rfl rfl 0 (by decide) mw_1130 rfl dX7_tell_14 ?_
      refine lv_iload_n hx hb dX7_tell_17 rfl (lv_at hl 0 rfl) ?_
      refine lv_lconst (v := 0) hx hb dX7_tell_18 (by decide) ?_
      refine va_last hx hb hK hP hD hS 1 1 rfl rfl (vp_in_nI (by omega) (by omega)) dX7_tell_19 (fun H locs hP hD hS => ?_)
      rw [vp_updL_0] at hP hD
      have hP : va_P D vwCl [((b 0), .inr (6, [.ref (b 1), .ref (b 2), .int 0, .ref (b 3), .ref (b 4), .ref (b 5), .long 0, .int 0, .int 0, .ref (b 6), .int 0, .int 0, .ref (b 7), .int 0, .int 0, .int 0, .int 0, .int 0, .int 0, .int 0, .int 0, .int 0, .int 0])), ((b 1), .inl (q 1, 6896, .inr (.inl (fun _ => 0)))), ((b 5), .inl (q 1, 6896, .inr (.inl (fun _ => 0))))] H := hP
      have hD : va_D _ [((b 0), .inr (6, [.ref (b 1), .ref (b 2), .int 0, .ref (b 3), .ref (b 4), .ref (b 5), .long 0, .int 0, .int 0, .ref (b 6), .int 0, .int 0, .ref (b 7), .int 0, .int 0, .int 0, .int 0, .int 0, .int 0, .int 0, .int 0, .int 0, .int 0])), ((b 1), .inl (q 1, 6896, .inr (.inl (fun _ => 0)))), ((b 5), .inl (q 1, 6896, .inr (.inl (fun _ => 0))))] := hD
      refine lv_iinc (v := (nI (i + 1))) (lv' := [(1, .int (nI (i + 1))), (0, .ref (b 0))]) hx hb dX7_tell_20 hl (k := 0) rfl (nI_inc _) (by decide) rfl (fun ls hl => ?_)
      refine lv_goto (tgt := 6) hx hb dX7_tell_23 (by decide) ?_
      exact ih (i + 1) (by omega) H locs ls (hP.sub [0, 1, 2] rfl) (hD.sub [0, 1, 2] (by decide) rfl) hS (lv_sub hl [0, 1] rfl)
  exact lp 6896 0 rfl _ _ ls hP hD hS (lv_sub hl [0, 1] rfl)
