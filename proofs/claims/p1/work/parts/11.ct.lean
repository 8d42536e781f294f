set_option maxHeartbeats 4000000 in
set_option maxRecDepth 100000 in
theorem ct_addNumber_0 {l : Launch} {D : va_G} {q : Nat → ClassId} {sz : Nat} {h0 g0 : Nat} {x : Int32} {f : Nat → Int32} : Met l yX5_addNumber (Cond.code yX5_addNumber cX5_addNumber 3 none :: w_all) ({ frames := 0, cells := 0, slots := 0, locals := 0 }) (mt_P D q [.ref h0, .int x] [(h0, .inr (4, [.ref g0, .int 0, .int 0, .int 0, .int 0, .int 0, .int 0])), (g0, .inl (q 0, 400, .inl f))] sz) (va_Qv (fun u : (Nat → Int32) => True) (mt_B D [(h0, .inr (4, [.ref g0, .int 0, .int 0, .int 0, .int 0, .int 0, .int 0])), (g0, .inl (q 0, 400, .inl f))] sz (fun u => [(h0, .inr (4, [.ref g0, .int 4, .int 0, .int 0, .int 0, .int 0, .int 0])), (g0, .inl (q 0, 400, .inl u))])) (va_A [(h0, .inr (4, [.ref g0, .int 0, .int 0, .int 0, .int 0, .int 0, .int 0])), (g0, .inl (q 0, 400, .inl f))] sz)) 0 0 (va_A [(h0, .inr (4, [.ref g0, .int 0, .int 0, .int 0, .int 0, .int 0, .int 0])), (g0, .inl (q 0, 400, .inl f))] sz) := by
  refine mt_start (by decide) (Nat.le_of_ble_eq_true rfl) ?_
  intro p e s m below meth c ls hx hb hr hml hown ht hk hin hP hQ hD hA hS hV hl
  have hK := hQ.1
  have hown : s.vm.findClass RX5 = some m.cls := hown
  have hl : lv_has ls 3 [(0, .ref h0), (1, .int x)] := hl
  refine lv_bipush (v := 24) hx hb dX5_addNumber_0 (by decide) ?_
  refine lv_istore_n (lv' := [(2, .int 24), (0, .ref h0), (1, .int x)]) hx hb dX5_addNumber_2 rfl hl (by decide) rfl (fun ls hl => ?_)
  refine lv_iload_n hx hb dX5_addNumber_3 rfl (lv_at hl 0 rfl) ?_
  refine lv_if_lt (tgt := 49) hx hb dX5_addNumber_4 (by decide) (fun c9 => absurd c9 (by decide)) (fun c_1 => ?_)
  refine lv_aload_n hx hb dX5_addNumber_7 rfl (lv_at hl 1 rfl) ?_
  refine fl_get (C := RX5) (T := TX5) (N := 7) (ci := 4) (v := .int 0) hx hb ht in_X5 hown hK hP 0 rfl rfl 1 (by decide) mw_130 rfl dX5_addNumber_8 ?_
  refine lv_sipush (v := 400) hx hb dX5_addNumber_11 (by decide) ?_
  refine lv_icmp_ge (tgt := 43) hx hb dX5_addNumber_14 (by decide) (fun c9 => absurd c9 (by decide)) (fun c_2 => ?_)
  refine lv_aload_n hx hb dX5_addNumber_17 rfl (lv_at hl 1 rfl) ?_
  refine fl_get (C := RX5) (T := TX5) (N := 7) (ci := 4) (v := .ref g0) hx hb ht in_X5 hown hK hP 0 rfl rfl 0 (by decide) mw_128 rfl dX5_addNumber_18 ?_
  refine lv_aload_n hx hb dX5_addNumber_21 rfl (lv_at hl 1 rfl) ?_
  refine fl_get (C := RX5) (T := TX5) (N := 7) (ci := 4) (v := .int 0) hx hb ht in_X5 hown hK hP 0 rfl rfl 1 (by decide) mw_130 rfl dX5_addNumber_22 ?_
  refine lv_iload_n hx hb dX5_addNumber_25 rfl (lv_at hl 2 rfl) ?_
  refine lv_iload_n hx hb dX5_addNumber_26 rfl (lv_at hl 0 rfl) ?_
  refine lv_ishr hx hb dX5_addNumber_27 ?_
  refine lv_topi (fun x_3 ex_3 => ?_)
  refine lv_sipush (v := 255) hx hb dX5_addNumber_28 (by decide) ?_
  refine lv_iand hx hb dX5_addNumber_31 ?_
  refine lv_topi (fun x_4 ex_4 => ?_)
  refine va_iast hx hb hK hP hD hS 1 0 rfl rfl (in_c rfl) dX5_addNumber_32 (fun H locs hP hD hS => ?_)
  generalize upd f (Int32.toNatClampNeg 0) x_4 = f_5 at hP hD
  have hP : va_P D vwCl [(h0, .inr (4, [.ref g0, .int 0, .int 0, .int 0, .int 0, .int 0, .int 0])), (g0, .inl (q 0, 400, .inl f_5))] H := hP
  have hD : va_D _ [(h0, .inr (4, [.ref g0, .int 0, .int 0, .int 0, .int 0, .int 0, .int 0])), (g0, .inl (q 0, 400, .inl f_5))] := hD
  refine lv_aload_n hx hb dX5_addNumber_33 rfl (lv_at hl 1 rfl) ?_
  refine lv_dup hx hb dX5_addNumber_34 rfl ?_
  refine fl_get (C := RX5) (T := TX5) (N := 7) (ci := 4) (v := .int 0) hx hb ht in_X5 hown hK hP 0 rfl rfl 1 (by decide) mw_130 rfl dX5_addNumber_35 ?_
  refine lv_iconst (v := 1) hx hb dX5_addNumber_38 (by decide) ?_
  refine lv_iadd hx hb dX5_addNumber_39 ?_
  refine ab_i (v := 1) (by decide) ?_
  refine fl_put (C := RX5) (T := TX5) (N := 7) (ci := 4) (v := .int 1) (ws2 := [(h0, .inr (4, [.ref g0, .int 1, .int 0, .int 0, .int 0, .int 0, .int 0])), (g0, .inl (q 0, 400, .inl f_5))]) hx hb ht in_X5 tyX5_ok nmX5 hown hK hP hD hS 0 rfl rfl 1 (by decide) mw_130 rfl rfl rfl (Nat.le_of_ble_eq_true rfl) dX5_addNumber_40 rfl (fun H locs hP hD hS => ?_)
  refine lv_iinc (v := 16) (lv' := [(2, .int 16), (0, .ref h0), (1, .int x)]) hx hb dX5_addNumber_43 hl (k := 0) rfl (by decide) (by decide) rfl (fun ls hl => ?_)
  refine lv_goto (tgt := 3) hx hb dX5_addNumber_46 (by decide) ?_
  refine lv_iload_n hx hb dX5_addNumber_3 rfl (lv_at hl 0 rfl) ?_
  refine lv_if_lt (tgt := 49) hx hb dX5_addNumber_4 (by decide) (fun c9 => absurd c9 (by decide)) (fun c_6 => ?_)
  refine lv_aload_n hx hb dX5_addNumber_7 rfl (lv_at hl 1 rfl) ?_
  refine fl_get (C := RX5) (T := TX5) (N := 7) (ci := 4) (v := .int 1) hx hb ht in_X5 hown hK hP 0 rfl rfl 1 (by decide) mw_130 rfl dX5_addNumber_8 ?_
  refine lv_sipush (v := 400) hx hb dX5_addNumber_11 (by decide) ?_
  refine lv_icmp_ge (tgt := 43) hx hb dX5_addNumber_14 (by decide) (fun c9 => absurd c9 (by decide)) (fun c_7 => ?_)
  refine lv_aload_n hx hb dX5_addNumber_17 rfl (lv_at hl 1 rfl) ?_
  refine fl_get (C := RX5) (T := TX5) (N := 7) (ci := 4) (v := .ref g0) hx hb ht in_X5 hown hK hP 0 rfl rfl 0 (by decide) mw_128 rfl dX5_addNumber_18 ?_
  refine lv_aload_n hx hb dX5_addNumber_21 rfl (lv_at hl 1 rfl) ?_
  refine fl_get (C := RX5) (T := TX5) (N := 7) (ci := 4) (v := .int 1) hx hb ht in_X5 hown hK hP 0 rfl rfl 1 (by decide) mw_130 rfl dX5_addNumber_22 ?_
  refine lv_iload_n hx hb dX5_addNumber_25 rfl (lv_at hl 2 rfl) ?_
  refine lv_iload_n hx hb dX5_addNumber_26 rfl (lv_at hl 0 rfl) ?_
  refine lv_ishr hx hb dX5_addNumber_27 ?_
  refine lv_topi (fun x_8 ex_8 => ?_)
  refine lv_sipush (v := 255) hx hb dX5_addNumber_28 (by decide) ?_
  refine lv_iand hx hb dX5_addNumber_31 ?_
  refine lv_topi (fun x_9 ex_9 => ?_)
  refine va_iast hx hb hK hP hD hS 1 0 rfl rfl (in_c rfl) dX5_addNumber_32 (fun H locs hP hD hS => ?_)
  generalize upd f_5 (Int32.toNatClampNeg 1) x_9 = f_10 at hP hD
  have hP : va_P D vwCl [(h0, .inr (4, [.ref g0, .int 1, .int 0, .int 0, .int 0, .int 0, .int 0])), (g0, .inl (q 0, 400, .inl f_10))] H := hP
  have hD : va_D _ [(h0, .inr (4, [.ref g0, .int 1, .int 0, .int 0, .int 0, .int 0, .int 0])), (g0, .inl (q 0, 400, .inl f_10))] := hD
  refine lv_aload_n hx hb dX5_addNumber_33 rfl (lv_at hl 1 rfl) ?_
  refine lv_dup hx hb dX5_addNumber_34 rfl ?_
  refine fl_get (C := RX5) (T := TX5) (N := 7) (ci := 4) (v := .int 1) hx hb ht in_X5 hown hK hP 0 rfl rfl 1 (by decide) mw_130 rfl dX5_addNumber_35 ?_
  refine lv_iconst (v := 1) hx hb dX5_addNumber_38 (by decide) ?_
  refine lv_iadd hx hb dX5_addNumber_39 ?_
  refine ab_i (v := 2) (by decide) ?_
  refine fl_put (C := RX5) (T := TX5) (N := 7) (ci := 4) (v := .int 2) (ws2 := [(h0, .inr (4, [.ref g0, .int 2, .int 0, .int 0, .int 0, .int 0, .int 0])), (g0, .inl (q 0, 400, .inl f_10))]) hx hb ht in_X5 tyX5_ok nmX5 hown hK hP hD hS 0 rfl rfl 1 (by decide) mw_130 rfl rfl rfl (Nat.le_of_ble_eq_true rfl) dX5_addNumber_40 rfl (fun H locs hP hD hS => ?_)
  refine lv_iinc (v := 8) (lv' := [(2, .int 8), (0, .ref h0), (1, .int x)]) hx hb dX5_addNumber_43 hl (k := 0) rfl (by decide) (by decide) rfl (fun ls hl => ?_)
  refine lv_goto (tgt := 3) hx hb dX5_addNumber_46 (by decide) ?_
  refine lv_iload_n hx hb dX5_addNumber_3 rfl (lv_at hl 0 rfl) ?_
  refine lv_if_lt (tgt := 49) hx hb dX5_addNumber_4 (by decide) (fun c9 => absurd c9 (by decide)) (fun c_11 => ?_)
  refine lv_aload_n hx hb dX5_addNumber_7 rfl (lv_at hl 1 rfl) ?_
  refine fl_get (C := RX5) (T := TX5) (N := 7) (ci := 4) (v := .int 2) hx hb ht in_X5 hown hK hP 0 rfl rfl 1 (by decide) mw_130 rfl dX5_addNumber_8 ?_
  refine lv_sipush (v := 400) hx hb dX5_addNumber_11 (by decide) ?_
  refine lv_icmp_ge (tgt := 43) hx hb dX5_addNumber_14 (by decide) (fun c9 => absurd c9 (by decide)) (fun c_12 => ?_)
  refine lv_aload_n hx hb dX5_addNumber_17 rfl (lv_at hl 1 rfl) ?_
  refine fl_get (C := RX5) (T := TX5) (N := 7) (ci := 4) (v := .ref g0) hx hb ht in_X5 hown hK hP 0 rfl rfl 0 (by decide) mw_128 rfl dX5_addNumber_18 ?_
  refine lv_aload_n hx hb dX5_addNumber_21 rfl (lv_at hl 1 rfl) ?_
  refine fl_get (C := RX5) (T := TX5) (N := 7) (ci := 4) (v := .int 2) hx hb ht in_X5 hown hK hP 0 rfl rfl 1 (by decide) mw_130 rfl dX5_addNumber_22 ?_
  refine lv_iload_n hx hb dX5_addNumber_25 rfl (lv_at hl 2 rfl) ?_
  refine lv_iload_n hx hb dX5_addNumber_26 rfl (lv_at hl 0 rfl) ?_
  refine lv_ishr hx hb dX5_addNumber_27 ?_
  refine lv_topi (fun x_13 ex_13 => ?_)
  refine lv_sipush (v := 255) hx hb dX5_addNumber_28 (by decide) ?_
  refine lv_iand hx hb dX5_addNumber_31 ?_
  refine lv_topi (fun x_14 ex_14 => ?_)
  refine va_iast hx hb hK hP hD hS 1 0 rfl rfl (in_c rfl) dX5_addNumber_32 (fun H locs hP hD hS => ?_)
  generalize upd f_10 (Int32.toNatClampNeg 2) x_14 = f_15 at hP hD
  have hP : va_P D vwCl [(h0, .inr (4, [.ref g0, .int 2, .int 0, .int 0, .int 0, .int 0, .int 0])), (g0, .inl (q 0, 400, .inl f_15))] H := hP
  have hD : va_D _ [(h0, .inr (4, [.ref g0, .int 2, .int 0, .int 0, .int 0, .int 0, .int 0])), (g0, .inl (q 0, 400, .inl f_15))] := hD
  refine lv_aload_n hx hb dX5_addNumber_33 rfl (lv_at hl 1 rfl) ?_
  refine lv_dup hx hb dX5_addNumber_34 rfl ?_
  refine fl_get (C := RX5) (T := TX5) (N := 7) (ci := 4) (v := .int 2) hx hb ht in_X5 hown hK hP 0 rfl rfl 1 (by decide) mw_130 rfl dX5_addNumber_35 ?_
  refine lv_iconst (v := 1) hx hb dX5_addNumber_38 (by decide) ?_
  refine lv_iadd hx hb dX5_addNumber_39 ?_
  refine ab_i (v := 3) (by decide) ?_
  refine fl_put (C := RX5) (T := TX5) (N := 7) (ci := 4) (v := .int 3) (ws2 := [(h0, .inr (4, [.ref g0, .int 3, .int 0, .int 0, .int 0, .int 0, .int 0])), (g0, .inl (q 0, 400, .inl f_15))]) hx hb ht in_X5 tyX5_ok nmX5 hown hK hP hD hS 0 rfl rfl 1 (by decide) mw_130 rfl rfl rfl (Nat.le_of_ble_eq_true rfl) dX5_addNumber_40 rfl (fun H locs hP hD hS => ?_)
  refine lv_iinc (v := 0) (lv' := [(2, .int 0), (0, .ref h0), (1, .int x)]) hx hb dX5_addNumber_43 hl (k := 0) rfl (by decide) (by decide) rfl (fun ls hl => ?_)
  refine lv_goto (tgt := 3) hx hb dX5_addNumber_46 (by decide) ?_
  refine lv_iload_n hx hb dX5_addNumber_3 rfl (lv_at hl 0 rfl) ?_
  refine lv_if_lt (tgt := 49) hx hb dX5_addNumber_4 (by decide) (fun c9 => absurd c9 (by decide)) (fun c_16 => ?_)
  refine lv_aload_n hx hb dX5_addNumber_7 rfl (lv_at hl 1 rfl) ?_
  refine fl_get (C := RX5) (T := TX5) (N := 7) (ci := 4) (v := .int 3) hx hb ht in_X5 hown hK hP 0 rfl rfl 1 (by decide) mw_130 rfl dX5_addNumber_8 ?_
  refine lv_sipush (v := 400) hx hb dX5_addNumber_11 (by decide) ?_
  refine lv_icmp_ge (tgt := 43) hx hb dX5_addNumber_14 (by decide) (fun c9 => absurd c9 (by decide)) (fun c_17 => ?_)
  refine lv_aload_n hx hb dX5_addNumber_17 rfl (lv_at hl 1 rfl) ?_
  refine fl_get (C := RX5) (T := TX5) (N := 7) (ci := 4) (v := .ref g0) hx hb ht in_X5 hown hK hP 0 rfl rfl 0 (by decide) mw_128 rfl dX5_addNumber_18 ?_
  refine lv_aload_n hx hb dX5_addNumber_21 rfl (lv_at hl 1 rfl) ?_
  refine fl_get (C := RX5) (T := TX5) (N := 7) (ci := 4) (v := .int 3) hx hb ht in_X5 hown hK hP 0 rfl rfl 1 (by decide) mw_130 rfl dX5_addNumber_22 ?_
  refine lv_iload_n hx hb dX5_addNumber_25 rfl (lv_at hl 2 rfl) ?_
  refine lv_iload_n hx hb dX5_addNumber_26 rfl (lv_at hl 0 rfl) ?_
  refine lv_ishr hx hb dX5_addNumber_27 ?_
  refine lv_topi (fun x_18 ex_18 => ?_)
  refine lv_sipush (v := 255) hx hb dX5_addNumber_28 (by decide) ?_
  refine lv_iand hx hb dX5_addNumber_31 ?_
  refine lv_topi (fun x_19 ex_19 => ?_)
  refine va_iast hx hb hK hP hD hS 1 0 rfl rfl (in_c rfl) dX5_addNumber_32 (fun H locs hP hD hS => ?_)
  generalize upd f_15 (Int32.toNatClampNeg 3) x_19 = f_20 at hP hD
  have hP : va_P D vwCl [(h0, .inr (4, [.ref g0, .int 3, .int 0, .int 0, .int 0, .int 0, .int 0])), (g0, .inl (q 0, 400, .inl f_20))] H := hP
  have hD : va_D _ [(h0, .inr (4, [.ref g0, .int 3, .int 0, .int 0, .int 0, .int 0, .int 0])), (g0, .inl (q 0, 400, .inl f_20))] := hD
  refine lv_aload_n hx hb dX5_addNumber_33 rfl (lv_at hl 1 rfl) ?_
  refine lv_dup hx hb dX5_addNumber_34 rfl ?_
  refine fl_get (C := RX5) (T := TX5) (N := 7) (ci := 4) (v := .int 3) hx hb ht in_X5 hown hK hP 0 rfl rfl 1 (by decide) mw_130 rfl dX5_addNumber_35 ?_
  refine lv_iconst (v := 1) hx hb dX5_addNumber_38 (by decide) ?_
  refine lv_iadd hx hb dX5_addNumber_39 ?_
  refine ab_i (v := 4) (by decide) ?_
  refine fl_put (C := RX5) (T := TX5) (N := 7) (ci := 4) (v := .int 4) (ws2 := [(h0, .inr (4, [.ref g0, .int 4, .int 0, .int 0, .int 0, .int 0, .int 0])), (g0, .inl (q 0, 400, .inl f_20))]) hx hb ht in_X5 tyX5_ok nmX5 hown hK hP hD hS 0 rfl rfl 1 (by decide) mw_130 rfl rfl rfl (Nat.le_of_ble_eq_true rfl) dX5_addNumber_40 rfl (fun H locs hP hD hS => ?_)
  refine lv_iinc (v := (-8)) (lv' := [(2, .int (-8)), (0, .ref h0), (1, .int x)]) hx hb dX5_addNumber_43 hl (k := 0) rfl (by decide) (by decide) rfl (fun ls hl => ?_)
  refine lv_goto (tgt := 3) hx hb dX5_addNumber_46 (by decide) ?_
  refine lv_iload_n hx hb dX5_addNumber_3 rfl (lv_at hl 0 rfl) ?_
  refine lv_if_lt (tgt := 49) hx hb dX5_addNumber_4 (by decide) (fun c_21 => ?_) (fun c9 => absurd (by decide) c9)
  have hP := hP.sub (ws' := [(h0, .inr (4, [.ref g0, .int 4, .int 0, .int 0, .int 0, .int 0, .int 0])), (g0, .inl (q 0, 400, .inl f_20))]) [0, 1] rfl
  have hD := hD.sub (ws' := [(h0, .inr (4, [.ref g0, .int 4, .int 0, .int 0, .int 0, .int 0, .int 0])), (g0, .inl (q 0, 400, .inl f_20))]) [0, 1] (by decide) rfl
  exact mt_vret f_20 hx hb hr hk (trivial) hP hD hS dX5_addNumber_49

set_option maxHeartbeats 4000000 in
set_option maxRecDepth 100000 in
theorem ct_addNumber_4 {l : Launch} {D : va_G} {q : Nat → ClassId} {sz : Nat} {h0 g0 : Nat} {x : Int32} {f : Nat → Int32} : Met l yX5_addNumber (Cond.code yX5_addNumber cX5_addNumber 3 none :: w_all) ({ frames := 0, cells := 0, slots := 0, locals := 0 }) (mt_P D q [.ref h0, .int x] [(h0, .inr (4, [.ref g0, .int 4, .int 0, .int 0, .int 0, .int 0, .int 0])), (g0, .inl (q 0, 400, .inl f))] sz) (va_Qv (fun u : (Nat → Int32) => True) (mt_B D [(h0, .inr (4, [.ref g0, .int 4, .int 0, .int 0, .int 0, .int 0, .int 0])), (g0, .inl (q 0, 400, .inl f))] sz (fun u => [(h0, .inr (4, [.ref g0, .int 8, .int 0, .int 0, .int 0, .int 0, .int 0])), (g0, .inl (q 0, 400, .inl u))])) (va_A [(h0, .inr (4, [.ref g0, .int 4, .int 0, .int 0, .int 0, .int 0, .int 0])), (g0, .inl (q 0, 400, .inl f))] sz)) 0 0 (va_A [(h0, .inr (4, [.ref g0, .int 4, .int 0, .int 0, .int 0, .int 0, .int 0])), (g0, .inl (q 0, 400, .inl f))] sz) := by
  refine mt_start (by decide) (Nat.le_of_ble_eq_true rfl) ?_
  intro p e s m below meth c ls hx hb hr hml hown ht hk hin hP hQ hD hA hS hV hl
  have hK := hQ.1
  have hown : s.vm.findClass RX5 = some m.cls := hown
  have hl : lv_has ls 3 [(0, .ref h0), (1, .int x)] := hl
  refine lv_bipush (v := 24) hx hb dX5_addNumber_0 (by decide) ?_
  refine lv_istore_n (lv' := [(2, .int 24), (0, .ref h0), (1, .int x)]) hx hb dX5_addNumber_2 rfl hl (by decide) rfl (fun ls hl => ?_)
  refine lv_iload_n hx hb dX5_addNumber_3 rfl (lv_at hl 0 rfl) ?_
  refine lv_if_lt (tgt := 49) hx hb dX5_addNumber_4 (by decide) (fun c9 => absurd c9 (by decide)) (fun c_1 => ?_)
  refine lv_aload_n hx hb dX5_addNumber_7 rfl (lv_at hl 1 rfl) ?_
  refine fl_get (C := RX5) (T := TX5) (N := 7) (ci := 4) (v := .int 4) hx hb ht in_X5 hown hK hP 0 rfl rfl 1 (by decide) mw_130 rfl dX5_addNumber_8 ?_
  refine lv_sipush (v := 400) hx hb dX5_addNumber_11 (by decide) ?_
  refine lv_icmp_ge (tgt := 43) hx hb dX5_addNumber_14 (by decide) (fun c9 => absurd c9 (by decide)) (fun c_2 => ?_)
  refine lv_aload_n hx hb dX5_addNumber_17 rfl (lv_at hl 1 rfl) ?_
  refine fl_get (C := RX5) (T := TX5) (N := 7) (ci := 4) (v := .ref g0) hx hb ht in_X5 hown hK hP 0 rfl rfl 0 (by decide) mw_128 rfl dX5_addNumber_18 ?_
  refine lv_aload_n hx hb dX5_addNumber_21 rfl (lv_at hl 1 rfl) ?_
  refine fl_get (C := RX5) (T := TX5) (N := 7) (ci := 4) (v := .int 4) hx hb ht in_X5 hown hK hP 0 rfl rfl 1 (by decide) mw_130 rfl dX5_addNumber_22 ?_
  refine lv_iload_n hx hb dX5_addNumber_25 rfl (lv_at hl 2 rfl) ?_
  refine lv_iload_n hx hb dX5_addNumber_26 rfl (lv_at hl 0 rfl) ?_
  refine lv_ishr hx hb dX5_addNumber_27 ?_
  refine lv_topi (fun x_3 ex_3 => ?_)
  refine lv_sipush (v := 255) hx hb dX5_addNumber_28 (by decide) ?_
  refine lv_iand hx hb dX5_addNumber_31 ?_
  refine lv_topi (fun x_4 ex_4 => ?_)
  refine va_iast hx hb hK hP hD hS 1 0 rfl rfl (in_c rfl) dX5_addNumber_32 (fun H locs hP hD hS => ?_)
  generalize upd f (Int32.toNatClampNeg 4) x_4 = f_5 at hP hD
  have hP : va_P D vwCl [(h0, .inr (4, [.ref g0, .int 4, .int 0, .int 0, .int 0, .int 0, .int 0])), (g0, .inl (q 0, 400, .inl f_5))] H := hP
  have hD : va_D _ [(h0, .inr (4, [.ref g0, .int 4, .int 0, .int 0, .int 0, .int 0, .int 0])), (g0, .inl (q 0, 400, .inl f_5))] := hD
  refine lv_aload_n hx hb dX5_addNumber_33 rfl (lv_at hl 1 rfl) ?_
  refine lv_dup hx hb dX5_addNumber_34 rfl ?_
  refine fl_get (C := RX5) (T := TX5) (N := 7) (ci := 4) (v := .int 4) hx hb ht in_X5 hown hK hP 0 rfl rfl 1 (by decide) mw_130 rfl dX5_addNumber_35 ?_
  refine lv_iconst (v := 1) hx hb dX5_addNumber_38 (by decide) ?_
  refine lv_iadd hx hb dX5_addNumber_39 ?_
  refine ab_i (v := 5) (by decide) ?_
  refine fl_put (C := RX5) (T := TX5) (N := 7) (ci := 4) (v := .int 5) (ws2 := [(h0, .inr (4, [.ref g0, .int 5, .int 0, .int 0, .int 0, .int 0, .int 0])), (g0, .inl (q 0, 400, .inl f_5))]) hx hb ht in_X5 tyX5_ok nmX5 hown hK hP hD hS 0 rfl rfl 1 (by decide) mw_130 rfl rfl rfl (Nat.le_of_ble_eq_true rfl) dX5_addNumber_40 rfl (fun H locs hP hD hS => ?_)
  refine lv_iinc (v := 16) (lv' := [(2, .int 16), (0, .ref h0), (1, .int x)]) hx hb dX5_addNumber_43 hl (k := 0) rfl (by decide) (by decide) rfl (fun ls hl => ?_)
  refine lv_goto (tgt := 3) hx hb dX5_addNumber_46 (by decide) ?_
  refine lv_iload_n hx hb dX5_addNumber_3 rfl (lv_at hl 0 rfl) ?_
  refine lv_if_lt (tgt := 49) hx hb dX5_addNumber_4 (by decide) (fun c9 => absurd c9 (by decide)) (fun c_6 => ?_)
  refine lv_aload_n hx hb dX5_addNumber_7 rfl (lv_at hl 1 rfl) ?_
  refine fl_get (C := RX5) (T := TX5) (N := 7) (ci := 4) (v := .int 5) hx hb ht in_X5 hown hK hP 0 rfl rfl 1 (by decide) mw_130 rfl dX5_addNumber_8 ?_
  refine lv_sipush (v := 400) hx hb dX5_addNumber_11 (by decide) ?_
  refine lv_icmp_ge (tgt := 43) hx hb dX5_addNumber_14 (by decide) (fun c9 => absurd c9 (by decide)) (fun c_7 => ?_)
  refine lv_aload_n hx hb dX5_addNumber_17 rfl (lv_at hl 1 rfl) ?_
  refine fl_get (C := RX5) (T := TX5) (N := 7) (ci := 4) (v := .ref g0) hx hb ht in_X5 hown hK hP 0 rfl rfl 0 (by decide) mw_128 rfl dX5_addNumber_18 ?_
  refine lv_aload_n hx hb dX5_addNumber_21 rfl (lv_at hl 1 rfl) ?_
  refine fl_get (C := RX5) (T := TX5) (N := 7) (ci := 4) (v := .int 5) hx hb ht in_X5 hown hK hP 0 rfl rfl 1 (by decide) mw_130 rfl dX5_addNumber_22 ?_
  refine lv_iload_n hx hb dX5_addNumber_25 rfl (lv_at hl 2 rfl) ?_
  refine lv_iload_n hx hb dX5_addNumber_26 rfl (lv_at hl 0 rfl) ?_
  refine lv_ishr hx hb dX5_addNumber_27 ?_
  refine lv_topi (fun x_8 ex_8 => ?_)
  refine lv_sipush (v := 255) hx hb dX5_addNumber_28 (by decide) ?_
  refine lv_iand hx hb dX5_addNumber_31 ?_
  refine lv_topi (fun x_9 ex_9 => ?_)
  refine va_iast hx hb hK hP hD hS 1 0 rfl rfl (in_c rfl) dX5_addNumber_32 (fun H locs hP hD hS => ?_)
  generalize upd f_5 (Int32.toNatClampNeg 5) x_9 = f_10 at hP hD
  have hP : va_P D vwCl [(h0, .inr (4, [.ref g0, .int 5, .int 0, .int 0, .int 0, .int 0, .int 0])), (g0, .inl (q 0, 400, .inl f_10))] H := hP
  have hD : va_D _ [(h0, .inr (4, [.ref g0, .int 5, .int 0, .int 0, .int 0, .int 0, .int 0])), (g0, .inl (q 0, 400, .inl f_10))] := hD
  refine lv_aload_n hx hb dX5_addNumber_33 rfl (lv_at hl 1 rfl) ?_
  refine lv_dup hx hb dX5_addNumber_34 rfl ?_
  refine fl_get (C := RX5) (T := TX5) (N := 7) (ci := 4) (v := .int 5) hx hb ht in_X5 hown hK hP 0 rfl rfl 1 (by decide) mw_130 rfl dX5_addNumber_35 ?_
  refine lv_iconst (v := 1) hx hb dX5_addNumber_38 (by decide) ?_
  refine lv_iadd hx hb dX5_addNumber_39 ?_
  refine ab_i (v := 6) (by decide) ?_
  refine fl_put (C := RX5) (T := TX5) (N := 7) (ci := 4) (v := .int 6) (ws2 := [(h0, .inr (4, [.ref g0, .int 6, .int 0, .int 0, .int 0, .int 0, .int 0])), (g0, .inl (q 0, 400, .inl f_10))]) hx hb ht in_X5 tyX5_ok nmX5 hown hK hP hD hS 0 rfl rfl 1 (by decide) mw_130 rfl rfl rfl (Nat.le_of_ble_eq_true rfl) dX5_addNumber_40 rfl (fun H locs hP hD hS => ?_)
  refine lv_iinc (v := 8) (lv' := [(2, .int 8), (0, .ref h0), (1, .int x)]) hx hb dX5_addNumber_43 hl (k := 0) rfl (by decide) (by decide) rfl (fun ls hl => ?_)
  refine lv_goto (tgt := 3) hx hb dX5_addNumber_46 (by decide) ?_
  refine lv_iload_n hx hb dX5_addNumber_3 rfl (lv_at hl 0 rfl) ?_
  refine lv_if_lt (tgt := 49) hx hb dX5_addNumber_4 (by decide) (fun c9 => absurd c9 (by decide)) (fun c_11 => ?_)
  refine lv_aload_n hx hb dX5_addNumber_7 rfl (lv_at hl 1 rfl) ?_
  refine fl_get (C := RX5) (T := TX5) (N := 7) (ci := 4) (v := .int 6) hx hb ht in_X5 hown hK hP 0 rfl rfl 1 (by decide) mw_130 rfl dX5_addNumber_8 ?_
  refine lv_sipush (v := 400) hx hb dX5_addNumber_11 (by decide) ?_
  refine lv_icmp_ge (tgt := 43) hx hb dX5_addNumber_14 (by decide) (fun c9 => absurd c9 (by decide)) (fun c_12 => ?_)
  refine lv_aload_n hx hb dX5_addNumber_17 rfl (lv_at hl 1 rfl) ?_
  refine fl_get (C := RX5) (T := TX5) (N := 7) (ci := 4) (v := .ref g0) hx hb ht in_X5 hown hK hP 0 rfl rfl 0 (by decide) mw_128 rfl dX5_addNumber_18 ?_
  refine lv_aload_n hx hb dX5_addNumber_21 rfl (lv_at hl 1 rfl) ?_
  refine fl_get (C := RX5) (T := TX5) (N := 7) (ci := 4) (v := .int 6) hx hb ht in_X5 hown hK hP 0 rfl rfl 1 (by decide) mw_130 rfl dX5_addNumber_22 ?_
  refine lv_iload_n hx hb dX5_addNumber_25 rfl (lv_at hl 2 rfl) ?_
  refine lv_iload_n hx hb dX5_addNumber_26 rfl (lv_at hl 0 rfl) ?_
  refine lv_ishr hx hb dX5_addNumber_27 ?_
  refine lv_topi (fun x_13 ex_13 => ?_)
  refine lv_sipush (v := 255) hx hb dX5_addNumber_28 (by decide) ?_
  refine lv_iand hx hb dX5_addNumber_31 ?_
  refine lv_topi (fun x_14 ex_14 => ?_)
  refine va_iast hx hb hK hP hD hS 1 0 rfl rfl (in_c rfl) dX5_addNumber_32 (fun H locs hP hD hS => ?_)
  generalize upd f_10 (Int32.toNatClampNeg 6) x_14 = f_15 at hP hD
  have hP : va_P D vwCl [(h0, .inr (4, [.ref g0, .int 6, .int 0, .int 0, .int 0, .int 0, .int 0])), (g0, .inl (q 0, 400, .inl f_15))] H := hP
  have hD : va_D _ [(h0, .inr (4, [.ref g0, .int 6, .int 0, .int 0, .int 0, .int 0, .int 0])), (g0, .inl (q 0, 400, .inl f_15))] := hD
  refine lv_aload_n hx hb dX5_addNumber_33 rfl (lv_at hl 1 rfl) ?_
  refine lv_dup hx hb dX5_addNumber_34 rfl ?_
  refine fl_get (C := RX5) (T := TX5) (N := 7) (ci := 4) (v := .int 6) hx hb ht in_X5 hown hK hP 0 rfl rfl 1 (by decide) mw_130 rfl dX5_addNumber_35 ?_
  refine lv_iconst (v := 1) hx hb dX5_addNumber_38 (by decide) ?_
  refine lv_iadd hx hb dX5_addNumber_39 ?_
  refine ab_i (v := 7) (by decide) ?_
  refine fl_put (C := RX5) (T := TX5) (N := 7) (ci := 4) (v := .int 7) (ws2 := [(h0, .inr (4, [.ref g0, .int 7, .int 0, .int 0, .int 0, .int 0, .int 0])), (g0, .inl (q 0, 400, .inl f_15))]) hx hb ht in_X5 tyX5_ok nmX5 hown hK hP hD hS 0 rfl rfl 1 (by decide) mw_130 rfl rfl rfl (Nat.le_of_ble_eq_true rfl) dX5_addNumber_40 rfl (fun H locs hP hD hS => ?_)
  refine lv_iinc (v := 0) (lv' := [(2, .int 0), (0, .ref h0), (1, .int x)]) hx hb dX5_addNumber_43 hl (k := 0) rfl (by decide) (by decide) rfl (fun ls hl => ?_)
  refine lv_goto (tgt := 3) hx hb dX5_addNumber_46 (by decide) ?_
  refine lv_iload_n hx hb dX5_addNumber_3 rfl (lv_at hl 0 rfl) ?_
  refine lv_if_lt (tgt := 49) hx hb dX5_addNumber_4 (by decide) (fun c9 => absurd c9 (by decide)) (fun c_16 => ?_)
  refine lv_aload_n hx hb dX5_addNumber_7 rfl (lv_at hl 1 rfl) ?_
  refine fl_get (C := RX5) (T := TX5) (N := 7) (ci := 4) (v := .int 7) hx hb ht in_X5 hown hK hP 0 rfl rfl 1 (by decide) mw_130 rfl dX5_addNumber_8 ?_
  refine lv_sipush (v := 400) hx hb dX5_addNumber_11 (by decide) ?_
  refine lv_icmp_ge (tgt := 43) hx hb dX5_addNumber_14 (by decide) (fun c9 => absurd c9 (by decide)) (fun c_17 => ?_)
  refine lv_aload_n hx hb dX5_addNumber_17 rfl (lv_at hl 1 rfl) ?_
  refine fl_get (C := RX5) (T := TX5) (N := 7) (ci := 4) (v := .ref g0) hx hb ht in_X5 hown hK hP 0 rfl rfl 0 (by decide) mw_128 rfl dX5_addNumber_18 ?_
  refine lv_aload_n hx hb dX5_addNumber_21 rfl (lv_at hl 1 rfl) ?_
  refine fl_get (C := RX5) (T := TX5) (N := 7) (ci := 4) (v := .int 7) hx hb ht in_X5 hown hK hP 0 rfl rfl 1 (by decide) mw_130 rfl dX5_addNumber_22 ?_
  refine lv_iload_n hx hb dX5_addNumber_25 rfl (lv_at hl 2 rfl) ?_
  refine lv_iload_n hx hb dX5_addNumber_26 rfl (lv_at hl 0 rfl) ?_
  refine lv_ishr hx hb dX5_addNumber_27 ?_
  refine lv_topi (fun x_18 ex_18 => ?_)
  refine lv_sipush (v := 255) hx hb dX5_addNumber_28 (by decide) ?_
  refine lv_iand hx hb dX5_addNumber_31 ?_
  refine lv_topi (fun x_19 ex_19 => ?_)
  refine va_iast hx hb hK hP hD hS 1 0 rfl rfl (in_c rfl) dX5_addNumber_32 (fun H locs hP hD hS => ?_)
  generalize upd f_15 (Int32.toNatClampNeg 7) x_19 = f_20 at hP hD
  have hP : va_P D vwCl [(h0, .inr (4, [.ref g0, .int 7, .int 0, .int 0, .int 0, .int 0, .int 0])), (g0, .inl (q 0, 400, .inl f_20))] H := hP
  have hD : va_D _ [(h0, .inr (4, [.ref g0, .int 7, .int 0, .int 0, .int 0, .int 0, .int 0])), (g0, .inl (q 0, 400, .inl f_20))] := hD
  refine lv_aload_n hx hb dX5_addNumber_33 rfl (lv_at hl 1 rfl) ?_
  refine lv_dup hx hb dX5_addNumber_34 rfl ?_
  refine fl_get (C := RX5) (T := TX5) (N := 7) (ci := 4) (v := .int 7) hx hb ht in_X5 hown hK hP 0 rfl rfl 1 (by decide) mw_130 rfl dX5_addNumber_35 ?_
  refine lv_iconst (v := 1) hx hb dX5_addNumber_38 (by decide) ?_
  refine lv_iadd hx hb dX5_addNumber_39 ?_
  refine ab_i (v := 8) (by decide) ?_
  refine fl_put (C := RX5) (T := TX5) (N := 7) (ci := 4) (v := .int 8) (ws2 := [(h0, .inr (4, [.ref g0, .int 8, .int 0, .int 0, .int 0, .int 0, .int 0])), (g0, .inl (q 0, 400, .inl f_20))]) hx hb ht in_X5 tyX5_ok nmX5 hown hK hP hD hS 0 rfl rfl 1 (by decide) mw_130 rfl rfl rfl (Nat.le_of_ble_eq_true rfl) dX5_addNumber_40 rfl (fun H locs hP hD hS => ?_)
  refine lv_iinc (v := (-8)) (lv' := [(2, .int (-8)), (0, .ref h0), (1, .int x)]) hx hb dX5_addNumber_43 hl (k := 0) rfl (by decide) (by decide) rfl (fun ls hl => ?_)
  refine lv_goto (tgt := 3) hx hb dX5_addNumber_46 (by decide) ?_
  refine lv_iload_n hx hb dX5_addNumber_3 rfl (lv_at hl 0 rfl) ?_
  refine lv_if_lt (tgt := 49) hx hb dX5_addNumber_4 (by decide) (fun c_21 => ?_) (fun c9 => absurd (by decide) c9)
  have hP := hP.sub (ws' := [(h0, .inr (4, [.ref g0, .int 8, .int 0, .int 0, .int 0, .int 0, .int 0])), (g0, .inl (q 0, 400, .inl f_20))]) [0, 1] rfl
  have hD := hD.sub (ws' := [(h0, .inr (4, [.ref g0, .int 8, .int 0, .int 0, .int 0, .int 0, .int 0])), (g0, .inl (q 0, 400, .inl f_20))]) [0, 1] (by decide) rfl
  exact mt_vret f_20 hx hb hr hk (trivial) hP hD hS dX5_addNumber_49

set_option maxHeartbeats 4000000 in
set_option maxRecDepth 100000 in
theorem ct_addNumber_8 {l : Launch} {D : va_G} {q : Nat → ClassId} {sz : Nat} {h0 g0 : Nat} {x : Int32} {f : Nat → Int32} : Met l yX5_addNumber (Cond.code yX5_addNumber cX5_addNumber 3 none :: w_all) ({ frames := 0, cells := 0, slots := 0, locals := 0 }) (mt_P D q [.ref h0, .int x] [(h0, .inr (4, [.ref g0, .int 8, .int 0, .int 0, .int 0, .int 0, .int 0])), (g0, .inl (q 0, 400, .inl f))] sz) (va_Qv (fun u : (Nat → Int32) => True) (mt_B D [(h0, .inr (4, [.ref g0, .int 8, .int 0, .int 0, .int 0, .int 0, .int 0])), (g0, .inl (q 0, 400, .inl f))] sz (fun u => [(h0, .inr (4, [.ref g0, .int 12, .int 0, .int 0, .int 0, .int 0, .int 0])), (g0, .inl (q 0, 400, .inl u))])) (va_A [(h0, .inr (4, [.ref g0, .int 8, .int 0, .int 0, .int 0, .int 0, .int 0])), (g0, .inl (q 0, 400, .inl f))] sz)) 0 0 (va_A [(h0, .inr (4, [.ref g0, .int 8, .int 0, .int 0, .int 0, .int 0, .int 0])), (g0, .inl (q 0, 400, .inl f))] sz) := by
  refine mt_start (by decide) (Nat.le_of_ble_eq_true rfl) ?_
  intro p e s m below meth c ls hx hb hr hml hown ht hk hin hP hQ hD hA hS hV hl
  have hK := hQ.1
  have hown : s.vm.findClass RX5 = some m.cls := hown
  have hl : lv_has ls 3 [(0, .ref h0), (1, .int x)] := hl
  refine lv_bipush (v := 24) hx hb dX5_addNumber_0 (by decide) ?_
  refine lv_istore_n (lv' := [(2, .int 24), (0, .ref h0), (1, .int x)]) hx hb dX5_addNumber_2 rfl hl (by decide) rfl (fun ls hl => ?_)
  refine lv_iload_n hx hb dX5_addNumber_3 rfl (lv_at hl 0 rfl) ?_
  refine lv_if_lt (tgt := 49) hx hb dX5_addNumber_4 (by decide) (fun c9 => absurd c9 (by decide)) (fun c_1 => ?_)
  refine lv_aload_n hx hb dX5_addNumber_7 rfl (lv_at hl 1 rfl) ?_
  refine fl_get (C := RX5) (T := TX5) (N := 7) (ci := 4) (v := .int 8) hx hb ht in_X5 hown hK hP 0 rfl rfl 1 (by decide) mw_130 rfl dX5_addNumber_8 ?_
  refine lv_sipush (v := 400) hx hb dX5_addNumber_11 (by decide) ?_
  refine lv_icmp_ge (tgt := 43) hx hb dX5_addNumber_14 (by decide) (fun c9 => absurd c9 (by decide)) (fun c_2 => ?_)
  refine lv_aload_n hx hb dX5_addNumber_17 rfl (lv_at hl 1 rfl) ?_
  refine fl_get (C := RX5) (T := TX5) (N := 7) (ci := 4) (v := .ref g0) hx hb ht in_X5 hown hK hP 0 rfl rfl 0 (by decide) mw_128 rfl dX5_addNumber_18 ?_
  refine lv_aload_n hx hb dX5_addNumber_21 rfl (lv_at hl 1 rfl) ?_
  refine fl_get (C := RX5) (T := TX5) (N := 7) (ci := 4) (v := .int 8) hx hb ht in_X5 hown hK hP 0 rfl rfl 1 (by decide) mw_130 rfl dX5_addNumber_22 ?_
  refine lv_iload_n hx hb dX5_addNumber_25 rfl (lv_at hl 2 rfl) ?_
  refine lv_iload_n hx hb dX5_addNumber_26 rfl (lv_at hl 0 rfl) ?_
  refine lv_ishr hx hb dX5_addNumber_27 ?_
  refine lv_topi (fun x_3 ex_3 => ?_)
  refine lv_sipush (v := 255) hx hb dX5_addNumber_28 (by decide) ?_
  refine lv_iand hx hb dX5_addNumber_31 ?_
  refine lv_topi (fun x_4 ex_4 => ?_)
  refine va_iast hx hb hK hP hD hS 1 0 rfl rfl (in_c rfl) dX5_addNumber_32 (fun H locs hP hD hS => ?_)
  generalize upd f (Int32.toNatClampNeg 8) x_4 = f_5 at hP hD
  have hP : va_P D vwCl [(h0, .inr (4, [.ref g0, .int 8, .int 0, .int 0, .int 0, .int 0, .int 0])), (g0, .inl (q 0, 400, .inl f_5))] H := hP
  have hD : va_D _ [(h0, .inr (4, [.ref g0, .int 8, .int 0, .int 0, .int 0, .int 0, .int 0])), (g0, .inl (q 0, 400, .inl f_5))] := hD
  refine lv_aload_n hx hb dX5_addNumber_33 rfl (lv_at hl 1 rfl) ?_
  refine lv_dup hx hb dX5_addNumber_34 rfl ?_
  refine fl_get (C := RX5) (T := TX5) (N := 7) (ci := 4) (v := .int 8) hx hb ht in_X5 hown hK hP 0 rfl rfl 1 (by decide) mw_130 rfl dX5_addNumber_35 ?_
  refine lv_iconst (v := 1) hx hb dX5_addNumber_38 (by decide) ?_
  refine lv_iadd hx hb dX5_addNumber_39 ?_
  refine ab_i (v := 9) (by decide) ?_
  refine fl_put (C := RX5) (T := TX5) (N := 7) (ci := 4) (v := .int 9) (ws2 := [(h0, .inr (4, [.ref g0, .int 9, .int 0, .int 0, .int 0, .int 0, .int 0])), (g0, .inl (q 0, 400, .inl f_5))]) hx hb ht in_X5 tyX5_ok nmX5 hown hK hP hD hS 0 rfl rfl 1 (by decide) mw_130 rfl rfl rfl (Nat.le_of_ble_eq_true rfl) dX5_addNumber_40 rfl (fun H locs hP hD hS => ?_)
  refine lv_iinc (v := 16) (lv' := [(2, .int 16), (0, .ref h0), (1, .int x)]) hx hb dX5_addNumber_43 hl (k := 0) rfl (by decide) (by decide) rfl (fun ls hl => ?_)
  refine lv_goto (tgt := 3) hx hb dX5_addNumber_46 (by decide) ?_
  refine lv_iload_n hx hb dX5_addNumber_3 rfl (lv_at hl 0 rfl) ?_
  refine lv_if_lt (tgt := 49) hx hb dX5_addNumber_4 (by decide) (fun c9 => absurd c9 (by decide)) (fun c_6 => ?_)
  refine lv_aload_n hx hb dX5_addNumber_7 rfl (lv_at hl 1 rfl) ?_
  refine fl_get (C := RX5) (T := TX5) (N := 7) (ci := 4) (v := .int 9) hx hb ht in_X5 hown hK hP 0 rfl rfl 1 (by decide) mw_130 rfl dX5_addNumber_8 ?_
  refine lv_sipush (v := 400) hx hb dX5_addNumber_11 (by decide) ?_
  refine lv_icmp_ge (tgt := 43) hx hb dX5_addNumber_14 (by decide) (fun c9 => absurd c9 (by decide)) (fun c_7 => ?_)
  refine lv_aload_n hx hb dX5_addNumber_17 rfl (lv_at hl 1 rfl) ?_
  refine fl_get (C := RX5) (T := TX5) (N := 7) (ci := 4) (v := .ref g0) hx hb ht in_X5 hown hK hP 0 rfl rfl 0 (by decide) mw_128 rfl dX5_addNumber_18 ?_
  refine lv_aload_n hx hb dX5_addNumber_21 rfl (lv_at hl 1 rfl) ?_
  refine fl_get (C := RX5) (T := TX5) (N := 7) (ci := 4) (v := .int 9) hx hb ht in_X5 hown hK hP 0 rfl rfl 1 (by decide) mw_130 rfl dX5_addNumber_22 ?_
  refine lv_iload_n hx hb dX5_addNumber_25 rfl (lv_at hl 2 rfl) ?_
  refine lv_iload_n hx hb dX5_addNumber_26 rfl (lv_at hl 0 rfl) ?_
  refine lv_ishr hx hb dX5_addNumber_27 ?_
  refine lv_topi (fun x_8 ex_8 => ?_)
  refine lv_sipush (v := 255) hx hb dX5_addNumber_28 (by decide) ?_
  refine lv_iand hx hb dX5_addNumber_31 ?_
  refine lv_topi (fun x_9 ex_9 => ?_)
  refine va_iast hx hb hK hP hD hS 1 0 rfl rfl (in_c rfl) dX5_addNumber_32 (fun H locs hP hD hS => ?_)
  generalize upd f_5 (Int32.toNatClampNeg 9) x_9 = f_10 at hP hD
  have hP : va_P D vwCl [(h0, .inr (4, [.ref g0, .int 9, .int 0, .int 0, .int 0, .int 0, .int 0])), (g0, .inl (q 0, 400, .inl f_10))] H := hP
  have hD : va_D _ [(h0, .inr (4, [.ref g0, .int 9, .int 0, .int 0, .int 0, .int 0, .int 0])), (g0, .inl (q 0, 400, .inl f_10))] := hD
  refine lv_aload_n hx hb dX5_addNumber_33 rfl (lv_at hl 1 rfl) ?_
  refine lv_dup hx hb dX5_addNumber_34 rfl ?_
  refine fl_get (C := RX5) (T := TX5) (N := 7) (ci := 4) (v := .int 9) hx hb ht in_X5 hown hK hP 0 rfl rfl 1 (by decide) mw_130 rfl dX5_addNumber_35 ?_
  refine lv_iconst (v := 1) hx hb dX5_addNumber_38 (by decide) ?_
  refine lv_iadd hx hb dX5_addNumber_39 ?_
  refine ab_i (v := 10) (by decide) ?_
  refine fl_put (C := RX5) (T := TX5) (N := 7) (ci := 4) (v := .int 10) (ws2 := [(h0, .inr (4, [.ref g0, .int 10, .int 0, .int 0, .int 0, .int 0, .int 0])), (g0, .inl (q 0, 400, .inl f_10))]) hx hb ht in_X5 tyX5_ok nmX5 hown hK hP hD hS 0 rfl rfl 1 (by decide) mw_130 rfl rfl rfl (Nat.le_of_ble_eq_true rfl) dX5_addNumber_40 rfl (fun H locs hP hD hS => ?_)
  refine lv_iinc (v := 8) (lv' := [(2, .int 8), (0, .ref h0), (1, .int x)]) hx hb dX5_addNumber_43 hl (k := 0) rfl (by decide) (by decide) rfl (fun ls hl => ?_)
  refine lv_goto (tgt := 3) hx hb dX5_addNumber_46 (by decide) ?_
  refine lv_iload_n hx hb dX5_addNumber_3 rfl (lv_at hl 0 rfl) ?_
  refine lv_if_lt (tgt := 49) hx hb dX5_addNumber_4 (by decide) (fun c9 => absurd c9 (by decide)) (fun c_11 => ?_)
  refine lv_aload_n hx hb dX5_addNumber_7 rfl (lv_at hl 1 rfl) ?_
  refine fl_get (C := RX5) (T := TX5) (N := 7) (ci := 4) (v := .int 10) hx hb ht in_X5 hown hK hP 0 rfl rfl 1 (by decide) mw_130 rfl dX5_addNumber_8 ?_
  refine lv_sipush (v := 400) hx hb dX5_addNumber_11 (by decide) ?_
  refine lv_icmp_ge (tgt := 43) hx hb dX5_addNumber_14 (by decide) (fun c9 => absurd c9 (by decide)) (fun c_12 => ?_)
  refine lv_aload_n hx hb dX5_addNumber_17 rfl (lv_at hl 1 rfl) ?_
  refine fl_get (C := RX5) (T := TX5) (N := 7) (ci := 4) (v := .ref g0) hx hb ht in_X5 hown hK hP 0 rfl rfl 0 (by decide) mw_128 rfl dX5_addNumber_18 ?_
  refine lv_aload_n hx hb dX5_addNumber_21 rfl (lv_at hl 1 rfl) ?_
  refine fl_get (C := RX5) (T := TX5) (N := 7) (ci := 4) (v := .int 10) hx hb ht in_X5 hown hK hP 0 rfl rfl 1 (by decide) mw_130 rfl dX5_addNumber_22 ?_
  refine lv_iload_n hx hb dX5_addNumber_25 rfl (lv_at hl 2 rfl) ?_
  refine lv_iload_n hx hb dX5_addNumber_26 rfl (lv_at hl 0 rfl) ?_
  refine lv_ishr hx hb dX5_addNumber_27 ?_
  refine lv_topi (fun x_13 ex_13 => ?_)
  refine lv_sipush (v := 255) hx hb dX5_addNumber_28 (by decide) ?_
  refine lv_iand hx hb dX5_addNumber_31 ?_
  refine lv_topi (fun x_14 ex_14 => ?_)
  refine va_iast hx hb hK hP hD hS 1 0 rfl rfl (in_c rfl) dX5_addNumber_32 (fun H locs hP hD hS => ?_)
  generalize upd f_10 (Int32.toNatClampNeg 10) x_14 = f_15 at hP hD
  have hP : va_P D vwCl [(h0, .inr (4, [.ref g0, .int 10, .int 0, .int 0, .int 0, .int 0, .int 0])), (g0, .inl (q 0, 400, .inl f_15))] H := hP
  have hD : va_D _ [(h0, .inr (4, [.ref g0, .int 10, .int 0, .int 0, .int 0, .int 0, .int 0])), (g0, .inl (q 0, 400, .inl f_15))] := hD
  refine lv_aload_n hx hb dX5_addNumber_33 rfl (lv_at hl 1 rfl) ?_
  refine lv_dup hx hb dX5_addNumber_34 rfl ?_
  refine fl_get (C := RX5) (T := TX5) (N := 7) (ci := 4) (v := .int 10) hx hb ht in_X5 hown hK hP 0 rfl rfl 1 (by decide) mw_130 rfl dX5_addNumber_35 ?_
  refine lv_iconst (v := 1) hx hb dX5_addNumber_38 (by decide) ?_
  refine lv_iadd hx hb dX5_addNumber_39 ?_
  refine ab_i (v := 11) (by decide) ?_
  refine fl_put (C := RX5) (T := TX5) (N := 7) (ci := 4) (v := .int 11) (ws2 := [(h0, .inr (4, [.ref g0, .int 11, .int 0, .int 0, .int 0, .int 0, .int 0])), (g0, .inl (q 0, 400, .inl f_15))]) hx hb ht in_X5 tyX5_ok nmX5 hown hK hP hD hS 0 rfl rfl 1 (by decide) mw_130 rfl rfl rfl (Nat.le_of_ble_eq_true rfl) dX5_addNumber_40 rfl (fun H locs hP hD hS => ?_)
  refine lv_iinc (v := 0) (lv' := [(2, .int 0), (0, .ref h0), (1, .int x)]) hx hb dX5_addNumber_43 hl (k := 0) rfl (by decide) (by decide) rfl (fun ls hl => ?_)
  refine lv_goto (tgt := 3) hx hb dX5_addNumber_46 (by decide) ?_
  refine lv_iload_n hx hb dX5_addNumber_3 rfl (lv_at hl 0 rfl) ?_
  refine lv_if_lt (tgt := 49) hx hb dX5_addNumber_4 (by decide) (fun c9 => absurd c9 (by decide)) (fun c_16 => ?_)
  refine lv_aload_n hx hb dX5_addNumber_7 rfl (lv_at hl 1 rfl) ?_
  refine fl_get (C := RX5) (T := TX5) (N := 7) (ci := 4) (v := .int 11) hx hb ht in_X5 hown hK hP 0 rfl rfl 1 (by decide) mw_130 rfl dX5_addNumber_8 ?_
  refine lv_sipush (v := 400) hx hb dX5_addNumber_11 (by decide) ?_
  refine lv_icmp_ge (tgt := 43) hx hb dX5_addNumber_14 (by decide) (fun c9 => absurd c9 (by decide)) (fun c_17 => ?_)
  refine lv_aload_n hx hb dX5_addNumber_17 rfl (lv_at hl 1 rfl) ?_
  refine fl_get (C := RX5) (T := TX5) (N := 7) (ci := 4) (v := .ref g0) hx hb ht in_X5 hown hK hP 0 rfl rfl 0 (by decide) mw_128 rfl dX5_addNumber_18 ?_
  refine lv_aload_n hx hb dX5_addNumber_21 rfl (lv_at hl 1 rfl) ?_
  refine fl_get (C := RX5) (T := TX5) (N := 7) (ci := 4) (v := .int 11) hx hb ht in_X5 hown hK hP 0 rfl rfl 1 (by decide) mw_130 rfl dX5_addNumber_22 ?_
  refine lv_iload_n hx hb dX5_addNumber_25 rfl (lv_at hl 2 rfl) ?_
  refine lv_iload_n hx hb dX5_addNumber_26 rfl (lv_at hl 0 rfl) ?_
  refine lv_ishr hx hb dX5_addNumber_27 ?_
  refine lv_topi (fun x_18 ex_18 => ?_)
  refine lv_sipush (v := 255) hx hb dX5_addNumber_28 (by decide) ?_
  refine lv_iand hx hb dX5_addNumber_31 ?_
  refine lv_topi (fun x_19 ex_19 => ?_)
  refine va_iast hx hb hK hP hD hS 1 0 rfl rfl (in_c rfl) dX5_addNumber_32 (fun H locs hP hD hS => ?_)
  generalize upd f_15 (Int32.toNatClampNeg 11) x_19 = f_20 at hP hD
  have hP : va_P D vwCl [(h0, .inr (4, [.ref g0, .int 11, .int 0, .int 0, .int 0, .int 0, .int 0])), (g0, .inl (q 0, 400, .inl f_20))] H := hP
  have hD : va_D _ [(h0, .inr (4, [.ref g0, .int 11, .int 0, .int 0, .int 0, .int 0, .int 0])), (g0, .inl (q 0, 400, .inl f_20))] := hD
  refine lv_aload_n hx hb dX5_addNumber_33 rfl (lv_at hl 1 rfl) ?_
  refine lv_dup hx hb dX5_addNumber_34 rfl ?_
  refine fl_get (C := RX5) (T := TX5) (N := 7) (ci := 4) (v := .int 11) hx hb ht in_X5 hown hK hP 0 rfl rfl 1 (by decide) mw_130 rfl dX5_addNumber_35 ?_
  refine lv_iconst (v := 1) hx hb dX5_addNumber_38 (by decide) ?_
  refine lv_iadd hx hb dX5_addNumber_39 ?_
  refine ab_i (v := 12) (by decide) ?_
  refine fl_put (C := RX5) (T := TX5) (N := 7) (ci := 4) (v := .int 12) (ws2 := [(h0, .inr (4, [.ref g0, .int 12, .int 0, .int 0, .int 0, .int 0, .int 0])), (g0, .inl (q 0, 400, .inl f_20))]) hx hb ht in_X5 tyX5_ok nmX5 hown hK hP hD hS 0 rfl rfl 1 (by decide) mw_130 rfl rfl rfl (Nat.le_of_ble_eq_true rfl) dX5_addNumber_40 rfl (fun H locs hP hD hS => ?_)
  refine lv_iinc (v := (-8)) (lv' := [(2, .int (-8)), (0, .ref h0), (1, .int x)]) hx hb dX5_addNumber_43 hl (k := 0) rfl (by decide) (by decide) rfl (fun ls hl => ?_)
  refine lv_goto (tgt := 3) hx hb dX5_addNumber_46 (by decide) ?_
  refine lv_iload_n hx hb dX5_addNumber_3 rfl (lv_at hl 0 rfl) ?_
  refine lv_if_lt (tgt := 49) hx hb dX5_addNumber_4 (by decide) (fun c_21 => ?_) (fun c9 => absurd (by decide) c9)
  have hP := hP.sub (ws' := [(h0, .inr (4, [.ref g0, .int 12, .int 0, .int 0, .int 0, .int 0, .int 0])), (g0, .inl (q 0, 400, .inl f_20))]) [0, 1] rfl
  have hD := hD.sub (ws' := [(h0, .inr (4, [.ref g0, .int 12, .int 0, .int 0, .int 0, .int 0, .int 0])), (g0, .inl (q 0, 400, .inl f_20))]) [0, 1] (by decide) rfl
  exact mt_vret f_20 hx hb hr hk (trivial) hP hD hS dX5_addNumber_49

set_option maxHeartbeats 4000000 in
set_option maxRecDepth 100000 in
theorem ct_addNumber_12 {l : Launch} {D : va_G} {q : Nat → ClassId} {sz : Nat} {h0 g0 : Nat} {x : Int32} {f : Nat → Int32} : Met l yX5_addNumber (Cond.code yX5_addNumber cX5_addNumber 3 none :: w_all) ({ frames := 0, cells := 0, slots := 0, locals := 0 }) (mt_P D q [.ref h0, .int x] [(h0, .inr (4, [.ref g0, .int 12, .int 0, .int 0, .int 0, .int 0, .int 0])), (g0, .inl (q 0, 400, .inl f))] sz) (va_Qv (fun u : (Nat → Int32) => True) (mt_B D [(h0, .inr (4, [.ref g0, .int 12, .int 0, .int 0, .int 0, .int 0, .int 0])), (g0, .inl (q 0, 400, .inl f))] sz (fun u => [(h0, .inr (4, [.ref g0, .int 16, .int 0, .int 0, .int 0, .int 0, .int 0])), (g0, .inl (q 0, 400, .inl u))])) (va_A [(h0, .inr (4, [.ref g0, .int 12, .int 0, .int 0, .int 0, .int 0, .int 0])), (g0, .inl (q 0, 400, .inl f))] sz)) 0 0 (va_A [(h0, .inr (4, [.ref g0, .int 12, .int 0, .int 0, .int 0, .int 0, .int 0])), (g0, .inl (q 0, 400, .inl f))] sz) := by
  refine mt_start (by decide) (Nat.le_of_ble_eq_true rfl) ?_
  intro p e s m below meth c ls hx hb hr hml hown ht hk hin hP hQ hD hA hS hV hl
  have hK := hQ.1
  have hown : s.vm.findClass RX5 = some m.cls := hown
  have hl : lv_has ls 3 [(0, .ref h0), (1, .int x)] := hl
  refine lv_bipush (v := 24) hx hb dX5_addNumber_0 (by decide) ?_
  refine lv_istore_n (lv' := [(2, .int 24), (0, .ref h0), (1, .int x)]) hx hb dX5_addNumber_2 rfl hl (by decide) rfl (fun ls hl => ?_)
  refine lv_iload_n hx hb dX5_addNumber_3 rfl (lv_at hl 0 rfl) ?_
  refine lv_if_lt (tgt := 49) hx hb dX5_addNumber_4 (by decide) (fun c9 => absurd c9 (by decide)) (fun c_1 => ?_)
  refine lv_aload_n hx hb dX5_addNumber_7 rfl (lv_at hl 1 rfl) ?_
  refine fl_get (C := RX5) (T := TX5) (N := 7) (ci := 4) (v := .int 12) hx hb ht in_X5 hown hK hP 0 rfl rfl 1 (by decide) mw_130 rfl dX5_addNumber_8 ?_
  refine lv_sipush (v := 400) hx hb dX5_addNumber_11 (by decide) ?_
  refine lv_icmp_ge (tgt := 43) hx hb dX5_addNumber_14 (by decide) (fun c9 => absurd c9 (by decide)) (fun c_2 => ?_)
  refine lv_aload_n hx hb dX5_addNumber_17 rfl (lv_at hl 1 rfl) ?_
  refine fl_get (C := RX5) (T := TX5) (N := 7) (ci := 4) (v := .ref g0) hx hb ht in_X5 hown hK hP 0 rfl rfl 0 (by decide) mw_128 rfl dX5_addNumber_18 ?_
  refine lv_aload_n hx hb dX5_addNumber_21 rfl (lv_at hl 1 rfl) ?_
  refine fl_get (C := RX5) (T := TX5) (N := 7) (ci := 4) (v := .int 12) hx hb ht in_X5 hown hK hP 0 rfl rfl 1 (by decide) mw_130 rfl dX5_addNumber_22 ?_
  refine lv_iload_n hx hb dX5_addNumber_25 rfl (lv_at hl 2 rfl) ?_
  refine lv_iload_n hx hb dX5_addNumber_26 rfl (lv_at hl 0 rfl) ?_
  refine lv_ishr hx hb dX5_addNumber_27 ?_
  refine lv_topi (fun x_3 ex_3 => ?_)
  refine lv_sipush (v := 255) hx hb dX5_addNumber_28 (by decide) ?_
  refine lv_iand hx hb dX5_addNumber_31 ?_
  refine lv_topi (fun x_4 ex_4 => ?_)
  refine va_iast hx hb hK hP hD hS 1 0 rfl rfl (in_c rfl) dX5_addNumber_32 (fun H locs hP hD hS => ?_)
  generalize upd f (Int32.toNatClampNeg 12) x_4 = f_5 at hP hD
  have hP : va_P D vwCl [(h0, .inr (4, [.ref g0, .int 12, .int 0, .int 0, .int 0, .int 0, .int 0])), (g0, .inl (q 0, 400, .inl f_5))] H := hP
  have hD : va_D _ [(h0, .inr (4, [.ref g0, .int 12, .int 0, .int 0, .int 0, .int 0, .int 0])), (g0, .inl (q 0, 400, .inl f_5))] := hD
  refine lv_aload_n hx hb dX5_addNumber_33 rfl (lv_at hl 1 rfl) ?_
  refine lv_dup hx hb dX5_addNumber_34 rfl ?_
  refine fl_get (C := RX5) (T := TX5) (N := 7) (ci := 4) (v := .int 12) hx hb ht in_X5 hown hK hP 0 rfl rfl 1 (by decide) mw_130 rfl dX5_addNumber_35 ?_
  refine lv_iconst (v := 1) hx hb dX5_addNumber_38 (by decide) ?_
  refine lv_iadd hx hb dX5_addNumber_39 ?_
  refine ab_i (v := 13) (by decide) ?_
  refine fl_put (C := RX5) (T := TX5) (N := 7) (ci := 4) (v := .int 13) (ws2 := [(h0, .inr (4, [.ref g0, .int 13, .int 0, .int 0, .int 0, .int 0, .int 0])), (g0, .inl (q 0, 400, .inl f_5))]) hx hb ht in_X5 tyX5_ok nmX5 hown hK hP hD hS 0 rfl rfl 1 (by decide) mw_130 rfl rfl rfl (Nat.le_of_ble_eq_true rfl) dX5_addNumber_40 rfl (fun H locs hP hD hS => ?_)
  refine lv_iinc (v := 16) (lv' := [(2, .int 16), (0, .ref h0), (1, .int x)]) hx hb dX5_addNumber_43 hl (k := 0) rfl (by decide) (by decide) rfl (fun ls hl => ?_)
  refine lv_goto (tgt := 3) hx hb dX5_addNumber_46 (by decide) ?_
  refine lv_iload_n hx hb dX5_addNumber_3 rfl (lv_at hl 0 rfl) ?_
  refine lv_if_lt (tgt := 49) hx hb dX5_addNumber_4 (by decide) (fun c9 => absurd c9 (by decide)) (fun c_6 => ?_)
  refine lv_aload_n hx hb dX5_addNumber_7 rfl (lv_at hl 1 rfl) ?_
  refine fl_get (C := RX5) (T := TX5) (N := 7) (ci := 4) (v := .int 13) hx hb ht in_X5 hown hK hP 0 rfl rfl 1 (by decide) mw_130 rfl dX5_addNumber_8 ?_
  refine lv_sipush (v := 400) hx hb dX5_addNumber_11 (by decide) ?_
  refine lv_icmp_ge (tgt := 43) hx hb dX5_addNumber_14 (by decide) (fun c9 => absurd c9 (by decide)) (fun c_7 => ?_)
  refine lv_aload_n hx hb dX5_addNumber_17 rfl (lv_at hl 1 rfl) ?_
  refine fl_get (C := RX5) (T := TX5) (N := 7) (ci := 4) (v := .ref g0) hx hb ht in_X5 hown hK hP 0 rfl rfl 0 (by decide) mw_128 rfl dX5_addNumber_18 ?_
  refine lv_aload_n hx hb dX5_addNumber_21 rfl (lv_at hl 1 rfl) ?_
  refine fl_get (C := RX5) (T := TX5) (N := 7) (ci := 4) (v := .int 13) hx hb ht in_X5 hown hK hP 0 rfl rfl 1 (by decide) mw_130 rfl dX5_addNumber_22 ?_
  refine lv_iload_n hx hb dX5_addNumber_25 rfl (lv_at hl 2 rfl) ?_
  refine lv_iload_n hx hb dX5_addNumber_26 rfl (lv_at hl 0 rfl) ?_
  refine lv_ishr hx hb dX5_addNumber_27 ?_
  refine lv_topi (fun x_8 ex_8 => ?_)
  refine lv_sipush (v := 255) hx hb dX5_addNumber_28 (by decide) ?_
  refine lv_iand hx hb dX5_addNumber_31 ?_
  refine lv_topi (fun x_9 ex_9 => ?_)
  refine va_iast hx hb hK hP hD hS 1 0 rfl rfl (in_c rfl) dX5_addNumber_32 (fun H locs hP hD hS => ?_)
  generalize upd f_5 (Int32.toNatClampNeg 13) x_9 = f_10 at hP hD
  have hP : va_P D vwCl [(h0, .inr (4, [.ref g0, .int 13, .int 0, .int 0, .int 0, .int 0, .int 0])), (g0, .inl (q 0, 400, .inl f_10))] H := hP
  have hD : va_D _ [(h0, .inr (4, [.ref g0, .int 13, .int 0, .int 0, .int 0, .int 0, .int 0])), (g0, .inl (q 0, 400, .inl f_10))] := hD
  refine lv_aload_n hx hb dX5_addNumber_33 rfl (lv_at hl 1 rfl) ?_
  refine lv_dup hx hb dX5_addNumber_34 rfl ?_
  refine fl_get (C := RX5) (T := TX5) (N := 7) (ci := 4) (v := .int 13) hx hb ht in_X5 hown hK hP 0 rfl rfl 1 (by decide) mw_130 rfl dX5_addNumber_35 ?_
  refine lv_iconst (v := 1) hx hb dX5_addNumber_38 (by decide) ?_
  refine lv_iadd hx hb dX5_addNumber_39 ?_
  refine ab_i (v := 14) (by decide) ?_
  refine fl_put (C := RX5) (T := TX5) (N := 7) (ci := 4) (v := .int 14) (ws2 := [(h0, .inr (4, [.ref g0, .int 14, .int 0, .int 0, .int 0, .int 0, .int 0])), (g0, .inl (q 0, 400, .inl f_10))]) hx hb ht in_X5 tyX5_ok nmX5 hown hK hP hD hS 0 rfl rfl 1 (by decide) mw_130 rfl rfl rfl (Nat.le_of_ble_eq_true rfl) dX5_addNumber_40 rfl (fun H locs hP hD hS => ?_)
  refine lv_iinc (v := 8) (lv' := [(2, .int 8), (0, .ref h0), (1, .int x)]) hx hb dX5_addNumber_43 hl (k := 0) rfl (by decide) (by decide) rfl (fun ls hl => ?_)
  refine lv_goto (tgt := 3) hx hb dX5_addNumber_46 (by decide) ?_
  refine lv_iload_n hx hb dX5_addNumber_3 rfl (lv_at hl 0 rfl) ?_
  refine lv_if_lt (tgt := 49) hx hb dX5_addNumber_4 (by decide) (fun c9 => absurd c9 (by decide)) (fun c_11 => ?_)
  refine lv_aload_n hx hb dX5_addNumber_7 rfl (lv_at hl 1 rfl) ?_
  refine fl_get (C := RX5) (T := TX5) (N := 7) (ci := 4) (v := .int 14) hx hb ht in_X5 hown hK hP 0 rfl rfl 1 (by decide) mw_130 rfl dX5_addNumber_8 ?_
  refine lv_sipush (v := 400) hx hb dX5_addNumber_11 (by decide) ?_
  refine lv_icmp_ge (tgt := 43) hx hb dX5_addNumber_14 (by decide) (fun c9 => absurd c9 (by decide)) (fun c_12 => ?_)
  refine lv_aload_n hx hb dX5_addNumber_17 rfl (lv_at hl 1 rfl) ?_
  refine fl_get (C := RX5) (T := TX5) (N := 7) (ci := 4) (v := .ref g0) hx hb ht in_X5 hown hK hP 0 rfl rfl 0 (by decide) mw_128 rfl dX5_addNumber_18 ?_
  refine lv_aload_n hx hb dX5_addNumber_21 rfl (lv_at hl 1 rfl) ?_
  refine fl_get (C := RX5) (T := TX5) (N := 7) (ci := 4) (v := .int 14) hx hb ht in_X5 hown hK hP 0 rfl rfl 1 (by decide) mw_130 rfl dX5_addNumber_22 ?_
  refine lv_iload_n hx hb dX5_addNumber_25 rfl (lv_at hl 2 rfl) ?_
  refine lv_iload_n hx hb dX5_addNumber_26 rfl (lv_at hl 0 rfl) ?_
  refine lv_ishr hx hb dX5_addNumber_27 ?_
  refine lv_topi (fun x_13 ex_13 => ?_)
  refine lv_sipush (v := 255) hx hb dX5_addNumber_28 (by decide) ?_
  refine lv_iand hx hb dX5_addNumber_31 ?_
  refine lv_topi (fun x_14 ex_14 => ?_)
  refine va_iast hx hb hK hP hD hS 1 0 rfl rfl (in_c rfl) dX5_addNumber_32 (fun H locs hP hD hS => ?_)
  generalize upd f_10 (Int32.toNatClampNeg 14) x_14 = f_15 at hP hD
  have hP : va_P D vwCl [(h0, .inr (4, [.ref g0, .int 14, .int 0, .int 0, .int 0, .int 0, .int 0])), (g0, .inl (q 0, 400, .inl f_15))] H := hP
  have hD : va_D _ [(h0, .inr (4, [.ref g0, .int 14, .int 0, .int 0, .int 0, .int 0, .int 0])), (g0, .inl (q 0, 400, .inl f_15))] := hD
  refine lv_aload_n hx hb dX5_addNumber_33 rfl (lv_at hl 1 rfl) ?_
  refine lv_dup hx hb dX5_addNumber_34 rfl ?_
  refine fl_get (C := RX5) (T := TX5) (N := 7) (ci := 4) (v := .int 14) hx hb ht in_X5 hown hK hP 0 rfl rfl 1 (by decide) mw_130 rfl dX5_addNumber_35 ?_
  refine lv_iconst (v := 1) hx hb dX5_addNumber_38 (by decide) ?_
  refine lv_iadd hx hb dX5_addNumber_39 ?_
  refine ab_i (v := 15) (by decide) ?_
  refine fl_put (C := RX5) (T := TX5) (N := 7) (ci := 4) (v := .int 15) (ws2 := [(h0, .inr (4, [.ref g0, .int 15, .int 0, .int 0, .int 0, .int 0, .int 0])), (g0, .inl (q 0, 400, .inl f_15))]) hx hb ht in_X5 tyX5_ok nmX5 hown hK hP hD hS 0 rfl rfl 1 (by decide) mw_130 rfl rfl rfl (Nat.le_of_ble_eq_true rfl) dX5_addNumber_40 rfl (fun H locs hP hD hS => ?_)
  refine lv_iinc (v := 0) (lv' := [(2, .int 0), (0, .ref h0), (1, .int x)]) hx hb dX5_addNumber_43 hl (k := 0) rfl (by decide) (by decide) rfl (fun ls hl => ?_)
  refine lv_goto (tgt := 3) hx hb dX5_addNumber_46 (by decide) ?_
  refine lv_iload_n hx hb dX5_addNumber_3 rfl (lv_at hl 0 rfl) ?_
  refine lv_if_lt (tgt := 49) hx hb dX5_addNumber_4 (by decide) (fun c9 => absurd c9 (by decide)) (fun c_16 => ?_)
  refine lv_aload_n hx hb dX5_addNumber_7 rfl (lv_at hl 1 rfl) ?_
  refine fl_get (C := RX5) (T := TX5) (N := 7) (ci := 4) (v := .int 15) hx hb ht in_X5 hown hK hP 0 rfl rfl 1 (by decide) mw_130 rfl dX5_addNumber_8 ?_
  refine lv_sipush (v := 400) hx hb dX5_addNumber_11 (by decide) ?_
  refine lv_icmp_ge (tgt := 43) hx hb dX5_addNumber_14 (by decide) (fun c9 => absurd c9 (by decide)) (fun c_17 => ?_)
  refine lv_aload_n hx hb dX5_addNumber_17 rfl (lv_at hl 1 rfl) ?_
  refine fl_get (C := RX5) (T := TX5) (N := 7) (ci := 4) (v := .ref g0) hx hb ht in_X5 hown hK hP 0 rfl rfl 0 (by decide) mw_128 rfl dX5_addNumber_18 ?_
  refine lv_aload_n hx hb dX5_addNumber_21 rfl (lv_at hl 1 rfl) ?_
  refine fl_get (C := RX5) (T := TX5) (N := 7) (ci := 4) (v := .int 15) hx hb ht in_X5 hown hK hP 0 rfl rfl 1 (by decide) mw_130 rfl dX5_addNumber_22 ?_
  refine lv_iload_n hx hb dX5_addNumber_25 rfl (lv_at hl 2 rfl) ?_
  refine lv_iload_n hx hb dX5_addNumber_26 rfl (lv_at hl 0 rfl) ?_
  refine lv_ishr hx hb dX5_addNumber_27 ?_
  refine lv_topi (fun x_18 ex_18 => ?_)
  refine lv_sipush (v := 255) hx hb dX5_addNumber_28 (by decide) ?_
  refine lv_iand hx hb dX5_addNumber_31 ?_
  refine lv_topi (fun x_19 ex_19 => ?_)
  refine va_iast hx hb hK hP hD hS 1 0 rfl rfl (in_c rfl) dX5_addNumber_32 (fun H locs hP hD hS => ?_)
  generalize upd f_15 (Int32.toNatClampNeg 15) x_19 = f_20 at hP hD
  have hP : va_P D vwCl [(h0, .inr (4, [.ref g0, .int 15, .int 0, .int 0, .int 0, .int 0, .int 0])), (g0, .inl (q 0, 400, .inl f_20))] H := hP
  have hD : va_D _ [(h0, .inr (4, [.ref g0, .int 15, .int 0, .int 0, .int 0, .int 0, .int 0])), (g0, .inl (q 0, 400, .inl f_20))] := hD
  refine lv_aload_n hx hb dX5_addNumber_33 rfl (lv_at hl 1 rfl) ?_
  refine lv_dup hx hb dX5_addNumber_34 rfl ?_
  refine fl_get (C := RX5) (T := TX5) (N := 7) (ci := 4) (v := .int 15) hx hb ht in_X5 hown hK hP 0 rfl rfl 1 (by decide) mw_130 rfl dX5_addNumber_35 ?_
  refine lv_iconst (v := 1) hx hb dX5_addNumber_38 (by decide) ?_
  refine lv_iadd hx hb dX5_addNumber_39 ?_
  refine ab_i (v := 16) (by decide) ?_
  refine fl_put (C := RX5) (T := TX5) (N := 7) (ci := 4) (v := .int 16) (ws2 := [(h0, .inr (4, [.ref g0, .int 16, .int 0, .int 0, .int 0, .int 0, .int 0])), (g0, .inl (q 0, 400, .inl f_20))]) hx hb ht in_X5 tyX5_ok nmX5 hown hK hP hD hS 0 rfl rfl 1 (by decide) mw_130 rfl rfl rfl (Nat.le_of_ble_eq_true rfl) dX5_addNumber_40 rfl (fun H locs hP hD hS => ?_)
  refine lv_iinc (v := (-8)) (lv' := [(2, .int (-8)), (0, .ref h0), (1, .int x)]) hx hb dX5_addNumber_43 hl (k := 0) rfl (by decide) (by decide) rfl (fun ls hl => ?_)
  refine lv_goto (tgt := 3) hx hb dX5_addNumber_46 (by decide) ?_
  refine lv_iload_n hx hb dX5_addNumber_3 rfl (lv_at hl 0 rfl) ?_
  refine lv_if_lt (tgt := 49) hx hb dX5_addNumber_4 (by decide) (fun c_21 => ?_) (fun c9 => absurd (by decide) c9)
  have hP := hP.sub (ws' := [(h0, .inr (4, [.ref g0, .int 16, .int 0, .int 0, .int 0, .int 0, .int 0])), (g0, .inl (q 0, 400, .inl f_20))]) [0, 1] rfl
  have hD := hD.sub (ws' := [(h0, .inr (4, [.ref g0, .int 16, .int 0, .int 0, .int 0, .int 0, .int 0])), (g0, .inl (q 0, 400, .inl f_20))]) [0, 1] (by decide) rfl
  exact mt_vret f_20 hx hb hr hk (trivial) hP hD hS dX5_addNumber_49

set_option maxHeartbeats 4000000 in
set_option maxRecDepth 100000 in
theorem ct_addNumber_16 {l : Launch} {D : va_G} {q : Nat → ClassId} {sz : Nat} {h0 g0 : Nat} {x : Int32} {f : Nat → Int32} : Met l yX5_addNumber (Cond.code yX5_addNumber cX5_addNumber 3 none :: w_all) ({ frames := 0, cells := 0, slots := 0, locals := 0 }) (mt_P D q [.ref h0, .int x] [(h0, .inr (4, [.ref g0, .int 16, .int 0, .int 0, .int 0, .int 0, .int 0])), (g0, .inl (q 0, 400, .inl f))] sz) (va_Qv (fun u : (Nat → Int32) => True) (mt_B D [(h0, .inr (4, [.ref g0, .int 16, .int 0, .int 0, .int 0, .int 0, .int 0])), (g0, .inl (q 0, 400, .inl f))] sz (fun u => [(h0, .inr (4, [.ref g0, .int 20, .int 0, .int 0, .int 0, .int 0, .int 0])), (g0, .inl (q 0, 400, .inl u))])) (va_A [(h0, .inr (4, [.ref g0, .int 16, .int 0, .int 0, .int 0, .int 0, .int 0])), (g0, .inl (q 0, 400, .inl f))] sz)) 0 0 (va_A [(h0, .inr (4, [.ref g0, .int 16, .int 0, .int 0, .int 0, .int 0, .int 0])), (g0, .inl (q 0, 400, .inl f))] sz) := by
  refine mt_start (by decide) (Nat.le_of_ble_eq_true rfl) ?_
  intro p e s m below meth c ls hx hb hr hml hown ht hk hin hP hQ hD hA hS hV hl
  have hK := hQ.1
  have hown : s.vm.findClass RX5 = some m.cls := hown
  have hl : lv_has ls 3 [(0, .ref h0), (1, .int x)] := hl
  refine lv_bipush (v := 24) hx hb dX5_addNumber_0 (by decide) ?_
  refine lv_istore_n (lv' := [(2, .int 24), (0, .ref h0), (1, .int x)]) hx hb dX5_addNumber_2 rfl hl (by decide) rfl (fun ls hl => ?_)
  refine lv_iload_n hx hb dX5_addNumber_3 rfl (lv_at hl 0 rfl) ?_
  refine lv_if_lt (tgt := 49) hx hb dX5_addNumber_4 (by decide) (fun c9 => absurd c9 (by decide)) (fun c_1 => ?_)
  refine lv_aload_n hx hb dX5_addNumber_7 rfl (lv_at hl 1 rfl) ?_
  refine fl_get (C := RX5) (T := TX5) (N := 7) (ci := 4) (v := .int 16) hx hb ht in_X5 hown hK hP 0 rfl rfl 1 (by decide) mw_130 rfl dX5_addNumber_8 ?_
  refine lv_sipush (v := 400) hx hb dX5_addNumber_11 (by decide) ?_
  refine lv_icmp_ge (tgt := 43) hx hb dX5_addNumber_14 (by decide) (fun c9 => absurd c9 (by decide)) (fun c_2 => ?_)
  refine lv_aload_n hx hb dX5_addNumber_17 rfl (lv_at hl 1 rfl) ?_
  refine fl_get (C := RX5) (T := TX5) (N := 7) (ci := 4) (v := .ref g0) hx hb ht in_X5 hown hK hP 0 rfl rfl 0 (by decide) mw_128 rfl dX5_addNumber_18 ?_
  refine lv_aload_n hx hb dX5_addNumber_21 rfl (lv_at hl 1 rfl) ?_
  refine fl_get (C := RX5) (T := TX5) (N := 7) (ci := 4) (v := .int 16) hx hb ht in_X5 hown hK hP 0 rfl rfl 1 (by decide) mw_130 rfl dX5_addNumber_22 ?_
  refine lv_iload_n hx hb dX5_addNumber_25 rfl (lv_at hl 2 rfl) ?_
  refine lv_iload_n hx hb dX5_addNumber_26 rfl (lv_at hl 0 rfl) ?_
  refine lv_ishr hx hb dX5_addNumber_27 ?_
  refine lv_topi (fun x_3 ex_3 => ?_)
  refine lv_sipush (v := 255) hx hb dX5_addNumber_28 (by decide) ?_
  refine lv_iand hx hb dX5_addNumber_31 ?_
  refine lv_topi (fun x_4 ex_4 => ?_)
  refine va_iast hx hb hK hP hD hS 1 0 rfl rfl (in_c rfl) dX5_addNumber_32 (fun H locs hP hD hS => ?_)
  generalize upd f (Int32.toNatClampNeg 16) x_4 = f_5 at hP hD
  have hP : va_P D vwCl [(h0, .inr (4, [.ref g0, .int 16, .int 0, .int 0, .int 0, .int 0, .int 0])), (g0, .inl (q 0, 400, .inl f_5))] H := hP
  have hD : va_D _ [(h0, .inr (4, [.ref g0, .int 16, .int 0, .int 0, .int 0, .int 0, .int 0])), (g0, .inl (q 0, 400, .inl f_5))] := hD
  refine lv_aload_n hx hb dX5_addNumber_33 rfl (lv_at hl 1 rfl) ?_
  refine lv_dup hx hb dX5_addNumber_34 rfl ?_
  refine fl_get (C := RX5) (T := TX5) (N := 7) (ci := 4) (v := .int 16) hx hb ht in_X5 hown hK hP 0 rfl rfl 1 (by decide) mw_130 rfl dX5_addNumber_35 ?_
  refine lv_iconst (v := 1) hx hb dX5_addNumber_38 (by decide) ?_
  refine lv_iadd hx hb dX5_addNumber_39 ?_
  refine ab_i (v := 17) (by decide) ?_
  refine fl_put (C := RX5) (T := TX5) (N := 7) (ci := 4) (v := .int 17) (ws2 := [(h0, .inr (4, [.ref g0, .int 17, .int 0, .int 0, .int 0, .int 0, .int 0])), (g0, .inl (q 0, 400, .inl f_5))]) hx hb ht in_X5 tyX5_ok nmX5 hown hK hP hD hS 0 rfl rfl 1 (by decide) mw_130 rfl rfl rfl (Nat.le_of_ble_eq_true rfl) dX5_addNumber_40 rfl (fun H locs hP hD hS => ?_)
  refine lv_iinc (v := 16) (lv' := [(2, .int 16), (0, .ref h0), (1, .int x)]) hx hb dX5_addNumber_43 hl (k := 0) rfl (by decide) (by decide) rfl (fun ls hl => ?_)
  refine lv_goto (tgt := 3) hx hb dX5_addNumber_46 (by decide) ?_
  refine lv_iload_n hx hb dX5_addNumber_3 rfl (lv_at hl 0 rfl) ?_
  refine lv_if_lt (tgt := 49) hx hb dX5_addNumber_4 (by decide) (fun c9 => absurd c9 (by decide)) (fun c_6 => ?_)
  refine lv_aload_n hx hb dX5_addNumber_7 rfl (lv_at hl 1 rfl) ?_
  refine fl_get (C := RX5) (T := TX5) (N := 7) (ci := 4) (v := .int 17) hx hb ht in_X5 hown hK hP 0 rfl rfl 1 (by decide) mw_130 rfl dX5_addNumber_8 ?_
  refine lv_sipush (v := 400) hx hb dX5_addNumber_11 (by decide) ?_
  refine lv_icmp_ge (tgt := 43) hx hb dX5_addNumber_14 (by decide) (fun c9 => absurd c9 (by decide)) (fun c_7 => ?_)
  refine lv_aload_n hx hb dX5_addNumber_17 rfl (lv_at hl 1 rfl) ?_
  refine fl_get (C := RX5) (T := TX5) (N := 7) (ci := 4) (v := .ref g0) hx hb ht in_X5 hown hK hP 0 rfl rfl 0 (by decide) mw_128 rfl dX5_addNumber_18 ?_
  refine lv_aload_n hx hb dX5_addNumber_21 rfl (lv_at hl 1 rfl) ?_
  refine fl_get (C := RX5) (T := TX5) (N := 7) (ci := 4) (v := .int 17) hx hb ht in_X5 hown hK hP 0 rfl rfl 1 (by decide) mw_130 rfl dX5_addNumber_22 ?_
  refine lv_iload_n hx hb dX5_addNumber_25 rfl (lv_at hl 2 rfl) ?_
  refine lv_iload_n hx hb dX5_addNumber_26 rfl (lv_at hl 0 rfl) ?_
  refine lv_ishr hx hb dX5_addNumber_27 ?_
  refine lv_topi (fun x_8 ex_8 => ?_)
  refine lv_sipush (v := 255) hx hb dX5_addNumber_28 (by decide) ?_
  refine lv_iand hx hb dX5_addNumber_31 ?_
  refine lv_topi (fun x_9 ex_9 => ?_)
  refine va_iast hx hb hK hP hD hS 1 0 rfl rfl (in_c rfl) dX5_addNumber_32 (fun H locs hP hD hS => ?_)
  generalize upd f_5 (Int32.toNatClampNeg 17) x_9 = f_10 at hP hD
  have hP : va_P D vwCl [(h0, .inr (4, [.ref g0, .int 17, .int 0, .int 0, .int 0, .int 0, .int 0])), (g0, .inl (q 0, 400, .inl f_10))] H := hP
  have hD : va_D _ [(h0, .inr (4, [.ref g0, .int 17, .int 0, .int 0, .int 0, .int 0, .int 0])), (g0, .inl (q 0, 400, .inl f_10))] := hD
  refine lv_aload_n hx hb dX5_addNumber_33 rfl (lv_at hl 1 rfl) ?_
  refine lv_dup hx hb dX5_addNumber_34 rfl ?_
  refine fl_get (C := RX5) (T := TX5) (N := 7) (ci := 4) (v := .int 17) hx hb ht in_X5 hown hK hP 0 rfl rfl 1 (by decide) mw_130 rfl dX5_addNumber_35 ?_
  refine lv_iconst (v := 1) hx hb dX5_addNumber_38 (by decide) ?_
  refine lv_iadd hx hb dX5_addNumber_39 ?_
  refine ab_i (v := 18) (by decide) ?_
  refine fl_put (C := RX5) (T := TX5) (N := 7) (ci := 4) (v := .int 18) (ws2 := [(h0, .inr (4, [.ref g0, .int 18, .int 0, .int 0, .int 0, .int 0, .int 0])), (g0, .inl (q 0, 400, .inl f_10))]) hx hb ht in_X5 tyX5_ok nmX5 hown hK hP hD hS 0 rfl rfl 1 (by decide) mw_130 rfl rfl rfl (Nat.le_of_ble_eq_true rfl) dX5_addNumber_40 rfl (fun H locs hP hD hS => ?_)
  refine lv_iinc (v := 8) (lv' := [(2, .int 8), (0, .ref h0), (1, .int x)]) hx hb dX5_addNumber_43 hl (k := 0) rfl (by decide) (by decide) rfl (fun ls hl => ?_)
  refine lv_goto (tgt := 3) hx hb dX5_addNumber_46 (by decide) ?_
  refine lv_iload_n hx hb dX5_addNumber_3 rfl (lv_at hl 0 rfl) ?_
  refine lv_if_lt (tgt := 49) hx hb dX5_addNumber_4 (by decide) (fun c9 => absurd c9 (by decide)) (fun c_11 => ?_)
  refine lv_aload_n hx hb dX5_addNumber_7 rfl (lv_at hl 1 rfl) ?_
  refine fl_get (C := RX5) (T := TX5) (N := 7) (ci := 4) (v := .int 18) hx hb ht in_X5 hown hK hP 0 rfl rfl 1 (by decide) mw_130 rfl dX5_addNumber_8 ?_
  refine lv_sipush (v := 400) hx hb dX5_addNumber_11 (by decide) ?_
  refine lv_icmp_ge (tgt := 43) hx hb dX5_addNumber_14 (by decide) (fun c9 => absurd c9 (by decide)) (fun c_12 => ?_)
  refine lv_aload_n hx hb dX5_addNumber_17 rfl (lv_at hl 1 rfl) ?_
  refine fl_get (C := RX5) (T := TX5) (N := 7) (ci := 4) (v := .ref g0) hx hb ht in_X5 hown hK hP 0 rfl rfl 0 (by decide) mw_128 rfl dX5_addNumber_18 ?_
  refine lv_aload_n hx hb dX5_addNumber_21 rfl (lv_at hl 1 rfl) ?_
  refine fl_get (C := RX5) (T := TX5) (N := 7) (ci := 4) (v := .int 18) hx hb ht in_X5 hown hK hP 0 rfl rfl 1 (by decide) mw_130 rfl dX5_addNumber_22 ?_
  refine lv_iload_n hx hb dX5_addNumber_25 rfl (lv_at hl 2 rfl) ?_
  refine lv_iload_n hx hb dX5_addNumber_26 rfl (lv_at hl 0 rfl) ?_
  refine lv_ishr hx hb dX5_addNumber_27 ?_
  refine lv_topi (fun x_13 ex_13 => ?_)
  refine lv_sipush (v := 255) hx hb dX5_addNumber_28 (by decide) ?_
  refine lv_iand hx hb dX5_addNumber_31 ?_
  refine lv_topi (fun x_14 ex_14 => ?_)
  refine va_iast hx hb hK hP hD hS 1 0 rfl rfl (in_c rfl) dX5_addNumber_32 (fun H locs hP hD hS => ?_)
  generalize upd f_10 (Int32.toNatClampNeg 18) x_14 = f_15 at hP hD
  have hP : va_P D vwCl [(h0, .inr (4, [.ref g0, .int 18, .int 0, .int 0, .int 0, .int 0, .int 0])), (g0, .inl (q 0, 400, .inl f_15))] H := hP
  have hD : va_D _ [(h0, .inr (4, [.ref g0, .int 18, .int 0, .int 0, .int 0, .int 0, .int 0])), (g0, .inl (q 0, 400, .inl f_15))] := hD
  refine lv_aload_n hx hb dX5_addNumber_33 rfl (lv_at hl 1 rfl) ?_
  refine lv_dup hx hb dX5_addNumber_34 rfl ?_
  refine fl_get (C := RX5) (T := TX5) (N := 7) (ci := 4) (v := .int 18) hx hb ht in_X5 hown hK hP 0 rfl rfl 1 (by decide) mw_130 rfl dX5_addNumber_35 ?_
  refine lv_iconst (v := 1) hx hb dX5_addNumber_38 (by decide) ?_
  refine lv_iadd hx hb dX5_addNumber_39 ?_
  refine ab_i (v := 19) (by decide) ?_
  refine fl_put (C := RX5) (T := TX5) (N := 7) (ci := 4) (v := .int 19) (ws2 := [(h0, .inr (4, [.ref g0, .int 19, .int 0, .int 0, .int 0, .int 0, .int 0])), (g0, .inl (q 0, 400, .inl f_15))]) hx hb ht in_X5 tyX5_ok nmX5 hown hK hP hD hS 0 rfl rfl 1 (by decide) mw_130 rfl rfl rfl (Nat.le_of_ble_eq_true rfl) dX5_addNumber_40 rfl (fun H locs hP hD hS => ?_)
  refine lv_iinc (v := 0) (lv' := [(2, .int 0), (0, .ref h0), (1, .int x)]) hx hb dX5_addNumber_43 hl (k := 0) rfl (by decide) (by decide) rfl (fun ls hl => ?_)
  refine lv_goto (tgt := 3) hx hb dX5_addNumber_46 (by decide) ?_
  refine lv_iload_n hx hb dX5_addNumber_3 rfl (lv_at hl 0 rfl) ?_
  refine lv_if_lt (tgt := 49) hx hb dX5_addNumber_4 (by decide) (fun c9 => absurd c9 (by decide)) (fun c_16 => ?_)
  refine lv_aload_n hx hb dX5_addNumber_7 rfl (lv_at hl 1 rfl) ?_
  refine fl_get (C := RX5) (T := TX5) (N := 7) (ci := 4) (v := .int 19) hx hb ht in_X5 hown hK hP 0 rfl rfl 1 (by decide) mw_130 rfl dX5_addNumber_8 ?_
  refine lv_sipush (v := 400) hx hb dX5_addNumber_11 (by decide) ?_
  refine lv_icmp_ge (tgt := 43) hx hb dX5_addNumber_14 (by decide) (fun c9 => absurd c9 (by decide)) (fun c_17 => ?_)
  refine lv_aload_n hx hb dX5_addNumber_17 rfl (lv_at hl 1 rfl) ?_
  refine fl_get (C := RX5) (T := TX5) (N := 7) (ci := 4) (v := .ref g0) hx hb ht in_X5 hown hK hP 0 rfl rfl 0 (by decide) mw_128 rfl dX5_addNumber_18 ?_
  refine lv_aload_n hx hb dX5_addNumber_21 rfl (lv_at hl 1 rfl) ?_
  refine fl_get (C := RX5) (T := TX5) (N := 7) (ci := 4) (v := .int 19) hx hb ht in_X5 hown hK hP 0 rfl rfl 1 (by decide) mw_130 rfl dX5_addNumber_22 ?_
  refine lv_iload_n hx hb dX5_addNumber_25 rfl (lv_at hl 2 rfl) ?_
  refine lv_iload_n hx hb dX5_addNumber_26 rfl (lv_at hl 0 rfl) ?_
  refine lv_ishr hx hb dX5_addNumber_27 ?_
  refine lv_topi (fun x_18 ex_18 => ?_)
  refine lv_sipush (v := 255) hx hb dX5_addNumber_28 (by decide) ?_
  refine lv_iand hx hb dX5_addNumber_31 ?_
  refine lv_topi (fun x_19 ex_19 => ?_)
  refine va_iast hx hb hK hP hD hS 1 0 rfl rfl (in_c rfl) dX5_addNumber_32 (fun H locs hP hD hS => ?_)
  generalize upd f_15 (Int32.toNatClampNeg 19) x_19 = f_20 at hP hD
  have hP : va_P D vwCl [(h0, .inr (4, [.ref g0, .int 19, .int 0, .int 0, .int 0, .int 0, .int 0])), (g0, .inl (q 0, 400, .inl f_20))] H := hP
  have hD : va_D _ [(h0, .inr (4, [.ref g0, .int 19, .int 0, .int 0, .int 0, .int 0, .int 0])), (g0, .inl (q 0, 400, .inl f_20))] := hD
  refine lv_aload_n hx hb dX5_addNumber_33 rfl (lv_at hl 1 rfl) ?_
  refine lv_dup hx hb dX5_addNumber_34 rfl ?_
  refine fl_get (C := RX5) (T := TX5) (N := 7) (ci := 4) (v := .int 19) hx hb ht in_X5 hown hK hP 0 rfl rfl 1 (by decide) mw_130 rfl dX5_addNumber_35 ?_
  refine lv_iconst (v := 1) hx hb dX5_addNumber_38 (by decide) ?_
  refine lv_iadd hx hb dX5_addNumber_39 ?_
  refine ab_i (v := 20) (by decide) ?_
  refine fl_put (C := RX5) (T := TX5) (N := 7) (ci := 4) (v := .int 20) (ws2 := [(h0, .inr (4, [.ref g0, .int 20, .int 0, .int 0, .int 0, .int 0, .int 0])), (g0, .inl (q 0, 400, .inl f_20))]) hx hb ht in_X5 tyX5_ok nmX5 hown hK hP hD hS 0 rfl rfl 1 (by decide) mw_130 rfl rfl rfl (Nat.le_of_ble_eq_true rfl) dX5_addNumber_40 rfl (fun H locs hP hD hS => ?_)
  refine lv_iinc (v := (-8)) (lv' := [(2, .int (-8)), (0, .ref h0), (1, .int x)]) hx hb dX5_addNumber_43 hl (k := 0) rfl (by decide) (by decide) rfl (fun ls hl => ?_)
  refine lv_goto (tgt := 3) hx hb dX5_addNumber_46 (by decide) ?_
  refine lv_iload_n hx hb dX5_addNumber_3 rfl (lv_at hl 0 rfl) ?_
  refine lv_if_lt (tgt := 49) hx hb dX5_addNumber_4 (by decide) (fun c_21 => ?_) (fun c9 => absurd (by decide) c9)
  have hP := hP.sub (ws' := [(h0, .inr (4, [.ref g0, .int 20, .int 0, .int 0, .int 0, .int 0, .int 0])), (g0, .inl (q 0, 400, .inl f_20))]) [0, 1] rfl
  have hD := hD.sub (ws' := [(h0, .inr (4, [.ref g0, .int 20, .int 0, .int 0, .int 0, .int 0, .int 0])), (g0, .inl (q 0, 400, .inl f_20))]) [0, 1] (by decide) rfl
  exact mt_vret f_20 hx hb hr hk (trivial) hP hD hS dX5_addNumber_49
