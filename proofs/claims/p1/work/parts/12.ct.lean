set_option maxHeartbeats 4000000 in
set_option maxRecDepth 100000 in
theorem ct_fill {l : Launch} {D : va_G} {q : Nat → ClassId} {sz : Nat} {g0 : Nat} {f : Nat → Int32} {x : Int32} : Met l yJ7_fill_53178 (Cond.code yJ7_fill_53178 cJ7_fill_53178 4 none :: w_all) ({ frames := 0, cells := 0, slots := 0, locals := 0 }) (mt_P D q [.ref g0, .int x] [(g0, .inl (q 0, 40, .inl f))] sz) (va_Qv (fun u : (Nat → Int32) => True) (mt_B D [(g0, .inl (q 0, 40, .inl f))] sz (fun u => [(g0, .inl (q 0, 40, .inl u))])) (va_A [(g0, .inl (q 0, 40, .inl f))] sz)) 0 0 (va_A [(g0, .inl (q 0, 40, .inl f))] sz) := by
  refine mt_start (by decide) (Nat.le_of_ble_eq_true rfl) ?_
  intro p e s m below meth c ls hx hb hr hml hown ht hk hin hP hQ hD hA hS hV hl
  have hK := hQ.1
  have hown : s.vm.findClass RJ7 = some m.cls := hown
  have hl : lv_has ls 4 [(0, .ref g0), (1, .int x)] := hl
  refine lv_iconst (v := 0) hx hb dJ7_fill_53178_0 (by decide) ?_
  refine lv_istore_n (lv' := [(2, .int 0), (0, .ref g0), (1, .int x)]) hx hb dJ7_fill_53178_1 rfl hl (by decide) rfl (fun ls hl => ?_)
  refine lv_aload_n hx hb dJ7_fill_53178_2 rfl (lv_at hl 1 rfl) ?_
  refine va_alen (v := 40) hx hb hK hP 0 0 rfl rfl rfl dJ7_fill_53178_3 ?_
  refine lv_istore_n (lv' := [(3, .int 40), (2, .int 0), (0, .ref g0), (1, .int x)]) hx hb dJ7_fill_53178_4 rfl hl (by decide) rfl (fun ls hl => ?_)
  refine lv_iload_n hx hb dJ7_fill_53178_5 rfl (lv_at hl 1 rfl) ?_
  refine lv_iload_n hx hb dJ7_fill_53178_6 rfl (lv_at hl 0 rfl) ?_
  refine lv_icmp_ge (tgt := 20) hx hb dJ7_fill_53178_7 (by decide) (fun c9 => absurd c9 (by decide)) (fun c_1 => ?_)
  refine lv_aload_n hx hb dJ7_fill_53178_10 rfl (lv_at hl 2 rfl) ?_
  refine lv_iload_n hx hb dJ7_fill_53178_11 rfl (lv_at hl 1 rfl) ?_
  refine lv_iload_n hx hb dJ7_fill_53178_12 rfl (lv_at hl 3 rfl) ?_
  refine va_iast hx hb hK hP hD hS 0 0 rfl rfl (in_c rfl) dJ7_fill_53178_13 (fun H locs hP hD hS => ?_)
  generalize upd f (Int32.toNatClampNeg 0) x = f_2 at hP hD
  have hP : va_P D vwCl [(g0, .inl (q 0, 40, .inl f_2))] H := hP
  have hD : va_D _ [(g0, .inl (q 0, 40, .inl f_2))] := hD
  refine lv_iinc (v := 1) (lv' := [(2, .int 1), (3, .int 40), (0, .ref g0), (1, .int x)]) hx hb dJ7_fill_53178_14 hl (k := 1) rfl (by decide) (by decide) rfl (fun ls hl => ?_)
  refine lv_goto (tgt := 5) hx hb dJ7_fill_53178_17 (by decide) ?_
  refine lv_iload_n hx hb dJ7_fill_53178_5 rfl (lv_at hl 0 rfl) ?_
  refine lv_iload_n hx hb dJ7_fill_53178_6 rfl (lv_at hl 1 rfl) ?_
  refine lv_icmp_ge (tgt := 20) hx hb dJ7_fill_53178_7 (by decide) (fun c9 => absurd c9 (by decide)) (fun c_3 => ?_)
  refine lv_aload_n hx hb dJ7_fill_53178_10 rfl (lv_at hl 2 rfl) ?_
  refine lv_iload_n hx hb dJ7_fill_53178_11 rfl (lv_at hl 0 rfl) ?_
  refine lv_iload_n hx hb dJ7_fill_53178_12 rfl (lv_at hl 3 rfl) ?_
  refine va_iast hx hb hK hP hD hS 0 0 rfl rfl (in_c rfl) dJ7_fill_53178_13 (fun H locs hP hD hS => ?_)
  generalize upd f_2 (Int32.toNatClampNeg 1) x = f_4 at hP hD
  have hP : va_P D vwCl [(g0, .inl (q 0, 40, .inl f_4))] H := hP
  have hD : va_D _ [(g0, .inl (q 0, 40, .inl f_4))] := hD
  refine lv_iinc (v := 2) (lv' := [(2, .int 2), (3, .int 40), (0, .ref g0), (1, .int x)]) hx hb dJ7_fill_53178_14 hl (k := 0) rfl (by decide) (by decide) rfl (fun ls hl => ?_)
  refine lv_goto (tgt := 5) hx hb dJ7_fill_53178_17 (by decide) ?_
  refine lv_iload_n hx hb dJ7_fill_53178_5 rfl (lv_at hl 0 rfl) ?_
  refine lv_iload_n hx hb dJ7_fill_53178_6 rfl (lv_at hl 1 rfl) ?_
  refine lv_icmp_ge (tgt := 20) hx hb dJ7_fill_53178_7 (by decide) (fun c9 => absurd c9 (by decide)) (fun c_5 => ?_)
  refine lv_aload_n hx hb dJ7_fill_53178_10 rfl (lv_at hl 2 rfl) ?_
  refine lv_iload_n hx hb dJ7_fill_53178_11 rfl (lv_at hl 0 rfl) ?_
  refine lv_iload_n hx hb dJ7_fill_53178_12 rfl (lv_at hl 3 rfl) ?_
  refine va_iast hx hb hK hP hD hS 0 0 rfl rfl (in_c rfl) dJ7_fill_53178_13 (fun H locs hP hD hS => ?_)
  generalize upd f_4 (Int32.toNatClampNeg 2) x = f_6 at hP hD
  have hP : va_P D vwCl [(g0, .inl (q 0, 40, .inl f_6))] H := hP
  have hD : va_D _ [(g0, .inl (q 0, 40, .inl f_6))] := hD
  refine lv_iinc (v := 3) (lv' := [(2, .int 3), (3, .int 40), (0, .ref g0), (1, .int x)]) hx hb dJ7_fill_53178_14 hl (k := 0) rfl (by decide) (by decide) rfl (fun ls hl => ?_)
  refine lv_goto (tgt := 5) hx hb dJ7_fill_53178_17 (by decide) ?_
  refine lv_iload_n hx hb dJ7_fill_53178_5 rfl (lv_at hl 0 rfl) ?_
  refine lv_iload_n hx hb dJ7_fill_53178_6 rfl (lv_at hl 1 rfl) ?_
  refine lv_icmp_ge (tgt := 20) hx hb dJ7_fill_53178_7 (by decide) (fun c9 => absurd c9 (by decide)) (fun c_7 => ?_)
  refine lv_aload_n hx hb dJ7_fill_53178_10 rfl (lv_at hl 2 rfl) ?_
  refine lv_iload_n hx hb dJ7_fill_53178_11 rfl (lv_at hl 0 rfl) ?_
  refine lv_iload_n hx hb dJ7_fill_53178_12 rfl (lv_at hl 3 rfl) ?_
  refine va_iast hx hb hK hP hD hS 0 0 rfl rfl (in_c rfl) dJ7_fill_53178_13 (fun H locs hP hD hS => ?_)
  generalize upd f_6 (Int32.toNatClampNeg 3) x = f_8 at hP hD
  have hP : va_P D vwCl [(g0, .inl (q 0, 40, .inl f_8))] H := hP
  have hD : va_D _ [(g0, .inl (q 0, 40, .inl f_8))] := hD
  refine lv_iinc (v := 4) (lv' := [(2, .int 4), (3, .int 40), (0, .ref g0), (1, .int x)]) hx hb dJ7_fill_53178_14 hl (k := 0) rfl (by decide) (by decide) rfl (fun ls hl => ?_)
  refine lv_goto (tgt := 5) hx hb dJ7_fill_53178_17 (by decide) ?_
  refine lv_iload_n hx hb dJ7_fill_53178_5 rfl (lv_at hl 0 rfl) ?_
  refine lv_iload_n hx hb dJ7_fill_53178_6 rfl (lv_at hl 1 rfl) ?_
  refine lv_icmp_ge (tgt := 20) hx hb dJ7_fill_53178_7 (by decide) (fun c9 => absurd c9 (by decide)) (fun c_9 => ?_)
  refine lv_aload_n hx hb dJ7_fill_53178_10 rfl (lv_at hl 2 rfl) ?_
  refine lv_iload_n hx hb dJ7_fill_53178_11 rfl (lv_at hl 0 rfl) ?_
  refine lv_iload_n hx hb dJ7_fill_53178_12 rfl (lv_at hl 3 rfl) ?_
  refine va_iast hx hb hK hP hD hS 0 0 rfl rfl (in_c rfl) dJ7_fill_53178_13 (fun H locs hP hD hS => ?_)
  generalize upd f_8 (Int32.toNatClampNeg 4) x = f_10 at hP hD
  have hP : va_P D vwCl [(g0, .inl (q 0, 40, .inl f_10))] H := hP
  have hD : va_D _ [(g0, .inl (q 0, 40, .inl f_10))] := hD
  refine lv_iinc (v := 5) (lv' := [(2, .int 5), (3, .int 40), (0, .ref g0), (1, .int x)]) hx hb dJ7_fill_53178_14 hl (k := 0) rfl (by decide) (by decide) rfl (fun ls hl => ?_)
  refine lv_goto (tgt := 5) hx hb dJ7_fill_53178_17 (by decide) ?_
  refine lv_iload_n hx hb dJ7_fill_53178_5 rfl (lv_at hl 0 rfl) ?_
  refine lv_iload_n hx hb dJ7_fill_53178_6 rfl (lv_at hl 1 rfl) ?_
  refine lv_icmp_ge (tgt := 20) hx hb dJ7_fill_53178_7 (by decide) (fun c9 => absurd c9 (by decide)) (fun c_11 => ?_)
  refine lv_aload_n hx hb dJ7_fill_53178_10 rfl (lv_at hl 2 rfl) ?_
  refine lv_iload_n hx hb dJ7_fill_53178_11 rfl (lv_at hl 0 rfl) ?_
  refine lv_iload_n hx hb dJ7_fill_53178_12 rfl (lv_at hl 3 rfl) ?_
  refine va_iast hx hb hK hP hD hS 0 0 rfl rfl (in_c rfl) dJ7_fill_53178_13 (fun H locs hP hD hS => ?_)
  generalize upd f_10 (Int32.toNatClampNeg 5) x = f_12 at hP hD
  have hP : va_P D vwCl [(g0, .inl (q 0, 40, .inl f_12))] H := hP
  have hD : va_D _ [(g0, .inl (q 0, 40, .inl f_12))] := hD
  refine lv_iinc (v := 6) (lv' := [(2, .int 6), (3, .int 40), (0, .ref g0), (1, .int x)]) hx hb dJ7_fill_53178_14 hl (k := 0) rfl (by decide) (by decide) rfl (fun ls hl => ?_)
  refine lv_goto (tgt := 5) hx hb dJ7_fill_53178_17 (by decide) ?_
  refine lv_iload_n hx hb dJ7_fill_53178_5 rfl (lv_at hl 0 rfl) ?_
  refine lv_iload_n hx hb dJ7_fill_53178_6 rfl (lv_at hl 1 rfl) ?_
  refine lv_icmp_ge (tgt := 20) hx hb dJ7_fill_53178_7 (by decide) (fun c9 => absurd c9 (by decide)) (fun c_13 => ?_)
  refine lv_aload_n hx hb dJ7_fill_53178_10 rfl (lv_at hl 2 rfl) ?_
  refine lv_iload_n hx hb dJ7_fill_53178_11 rfl (lv_at hl 0 rfl) ?_
  refine lv_iload_n hx hb dJ7_fill_53178_12 rfl (lv_at hl 3 rfl) ?_
  refine va_iast hx hb hK hP hD hS 0 0 rfl rfl (in_c rfl) dJ7_fill_53178_13 (fun H locs hP hD hS => ?_)
  generalize upd f_12 (Int32.toNatClampNeg 6) x = f_14 at hP hD
  have hP : va_P D vwCl [(g0, .inl (q 0, 40, .inl f_14))] H := hP
  have hD : va_D _ [(g0, .inl (q 0, 40, .inl f_14))] := hD
  refine lv_iinc (v := 7) (lv' := [(2, .int 7), (3, .int 40), (0, .ref g0), (1, .int x)]) hx hb dJ7_fill_53178_14 hl (k := 0) rfl (by decide) (by decide) rfl (fun ls hl => ?_)
  refine lv_goto (tgt := 5) hx hb dJ7_fill_53178_17 (by decide) ?_
  refine lv_iload_n hx hb dJ7_fill_53178_5 rfl (lv_at hl 0 rfl) ?_
  refine lv_iload_n hx hb dJ7_fill_53178_6 rfl (lv_at hl 1 rfl) ?_
  refine lv_icmp_ge (tgt := 20) hx hb dJ7_fill_53178_7 (by decide) (fun c9 => absurd c9 (by decide)) (fun c_15 => ?_)
  refine lv_aload_n hx hb dJ7_fill_53178_10 rfl (lv_at hl 2 rfl) ?_
  refine lv_iload_n hx hb dJ7_fill_53178_11 rfl (lv_at hl 0 rfl) ?_
  refine lv_iload_n hx hb dJ7_fill_53178_12 rfl (lv_at hl 3 rfl) ?_
  refine va_iast hx hb hK hP hD hS 0 0 rfl rfl (in_c rfl) dJ7_fill_53178_13 (fun H locs hP hD hS => ?_)
  generalize upd f_14 (Int32.toNatClampNeg 7) x = f_16 at hP hD
  have hP : va_P D vwCl [(g0, .inl (q 0, 40, .inl f_16))] H := hP
  have hD : va_D _ [(g0, .inl (q 0, 40, .inl f_16))] := hD
  refine lv_iinc (v := 8) (lv' := [(2, .int 8), (3, .int 40), (0, .ref g0), (1, .int x)]) hx hb dJ7_fill_53178_14 hl (k := 0) rfl (by decide) (by decide) rfl (fun ls hl => ?_)
  refine lv_goto (tgt := 5) hx hb dJ7_fill_53178_17 (by decide) ?_
  refine lv_iload_n hx hb dJ7_fill_53178_5 rfl (lv_at hl 0 rfl) ?_
  refine lv_iload_n hx hb dJ7_fill_53178_6 rfl (lv_at hl 1 rfl) ?_
  refine lv_icmp_ge (tgt := 20) hx hb dJ7_fill_53178_7 (by decide) (fun c9 => absurd c9 (by decide)) (fun c_17 => ?_)
  refine lv_aload_n hx hb dJ7_fill_53178_10 rfl (lv_at hl 2 rfl) ?_
  refine lv_iload_n hx hb dJ7_fill_53178_11 rfl (lv_at hl 0 rfl) ?_
  refine lv_iload_n hx hb dJ7_fill_53178_12 rfl (lv_at hl 3 rfl) ?_
  refine va_iast hx hb hK hP hD hS 0 0 rfl rfl (in_c rfl) dJ7_fill_53178_13 (fun H locs hP hD hS => ?_)
  generalize upd f_16 (Int32.toNatClampNeg 8) x = f_18 at hP hD
  have hP : va_P D vwCl [(g0, .inl (q 0, 40, .inl f_18))] H := hP
  have hD : va_D _ [(g0, .inl (q 0, 40, .inl f_18))] := hD
  refine lv_iinc (v := 9) (lv' := [(2, .int 9), (3, .int 40), (0, .ref g0), (1, .int x)]) hx hb dJ7_fill_53178_14 hl (k := 0) rfl (by decide) (by decide) rfl (fun ls hl => ?_)
  refine lv_goto (tgt := 5) hx hb dJ7_fill_53178_17 (by decide) ?_
  refine lv_iload_n hx hb dJ7_fill_53178_5 rfl (lv_at hl 0 rfl) ?_
  refine lv_iload_n hx hb dJ7_fill_53178_6 rfl (lv_at hl 1 rfl) ?_
  refine lv_icmp_ge (tgt := 20) hx hb dJ7_fill_53178_7 (by decide) (fun c9 => absurd c9 (by decide)) (fun c_19 => ?_)
  refine lv_aload_n hx hb dJ7_fill_53178_10 rfl (lv_at hl 2 rfl) ?_
  refine lv_iload_n hx hb dJ7_fill_53178_11 rfl (lv_at hl 0 rfl) ?_
  refine lv_iload_n hx hb dJ7_fill_53178_12 rfl (lv_at hl 3 rfl) ?_
  refine va_iast hx hb hK hP hD hS 0 0 rfl rfl (in_c rfl) dJ7_fill_53178_13 (fun H locs hP hD hS => ?_)
  generalize upd f_18 (Int32.toNatClampNeg 9) x = f_20 at hP hD
  have hP : va_P D vwCl [(g0, .inl (q 0, 40, .inl f_20))] H := hP
  have hD : va_D _ [(g0, .inl (q 0, 40, .inl f_20))] := hD
  refine lv_iinc (v := 10) (lv' := [(2, .int 10), (3, .int 40), (0, .ref g0), (1, .int x)]) hx hb dJ7_fill_53178_14 hl (k := 0) rfl (by decide) (by decide) rfl (fun ls hl => ?_)
  refine lv_goto (tgt := 5) hx hb dJ7_fill_53178_17 (by decide) ?_
  refine lv_iload_n hx hb dJ7_fill_53178_5 rfl (lv_at hl 0 rfl) ?_
  refine lv_iload_n hx hb dJ7_fill_53178_6 rfl (lv_at hl 1 rfl) ?_
  refine lv_icmp_ge (tgt := 20) hx hb dJ7_fill_53178_7 (by decide) (fun c9 => absurd c9 (by decide)) (fun c_21 => ?_)
  refine lv_aload_n hx hb dJ7_fill_53178_10 rfl (lv_at hl 2 rfl) ?_
  refine lv_iload_n hx hb dJ7_fill_53178_11 rfl (lv_at hl 0 rfl) ?_
  refine lv_iload_n hx hb dJ7_fill_53178_12 rfl (lv_at hl 3 rfl) ?_
  refine va_iast hx hb hK hP hD hS 0 0 rfl rfl (in_c rfl) dJ7_fill_53178_13 (fun H locs hP hD hS => ?_)
  generalize upd f_20 (Int32.toNatClampNeg 10) x = f_22 at hP hD
  have hP : va_P D vwCl [(g0, .inl (q 0, 40, .inl f_22))] H := hP
  have hD : va_D _ [(g0, .inl (q 0, 40, .inl f_22))] := hD
  refine lv_iinc (v := 11) (lv' := [(2, .int 11), (3, .int 40), (0, .ref g0), (1, .int x)]) hx hb dJ7_fill_53178_14 hl (k := 0) rfl (by decide) (by decide) rfl (fun ls hl => ?_)
  refine lv_goto (tgt := 5) hx hb dJ7_fill_53178_17 (by decide) ?_
  refine lv_iload_n hx hb dJ7_fill_53178_5 rfl (lv_at hl 0 rfl) ?_
  refine lv_iload_n hx hb dJ7_fill_53178_6 rfl (lv_at hl 1 rfl) ?_
  refine lv_icmp_ge (tgt := 20) hx hb dJ7_fill_53178_7 (by decide) (fun c9 => absurd c9 (by decide)) (fun c_23 => ?_)
  refine lv_aload_n hx hb dJ7_fill_53178_10 rfl (lv_at hl 2 rfl) ?_
  refine lv_iload_n hx hb dJ7_fill_53178_11 rfl (lv_at hl 0 rfl) ?_
  refine lv_iload_n hx hb dJ7_fill_53178_12 rfl (lv_at hl 3 rfl) ?_
  refine va_iast hx hb hK hP hD hS 0 0 rfl rfl (in_c rfl) dJ7_fill_53178_13 (fun H locs hP hD hS => ?_)
  generalize upd f_22 (Int32.toNatClampNeg 11) x = f_24 at hP hD
  have hP : va_P D vwCl [(g0, .inl (q 0, 40, .inl f_24))] H := hP
  have hD : va_D _ [(g0, .inl (q 0, 40, .inl f_24))] := hD
  refine lv_iinc (v := 12) (lv' := [(2, .int 12), (3, .int 40), (0, .ref g0), (1, .int x)]) hx hb dJ7_fill_53178_14 hl (k := 0) rfl (by decide) (by decide) rfl (fun ls hl => ?_)
  refine lv_goto (tgt := 5) hx hb dJ7_fill_53178_17 (by decide) ?_
  refine lv_iload_n hx hb dJ7_fill_53178_5 rfl (lv_at hl 0 rfl) ?_
  refine lv_iload_n hx hb dJ7_fill_53178_6 rfl (lv_at hl 1 rfl) ?_
  refine lv_icmp_ge (tgt := 20) hx hb dJ7_fill_53178_7 (by decide) (fun c9 => absurd c9 (by decide)) (fun c_25 => ?_)
  refine lv_aload_n hx hb dJ7_fill_53178_10 rfl (lv_at hl 2 rfl) ?_
  refine lv_iload_n hx hb dJ7_fill_53178_11 rfl (lv_at hl 0 rfl) ?_
  refine lv_iload_n hx hb dJ7_fill_53178_12 rfl (lv_at hl 3 rfl) ?_
  refine va_iast hx hb hK hP hD hS 0 0 rfl rfl (in_c rfl) dJ7_fill_53178_13 (fun H locs hP hD hS => ?_)
  generalize upd f_24 (Int32.toNatClampNeg 12) x = f_26 at hP hD
  have hP : va_P D vwCl [(g0, .inl (q 0, 40, .inl f_26))] H := hP
  have hD : va_D _ [(g0, .inl (q 0, 40, .inl f_26))] := hD
  refine lv_iinc (v := 13) (lv' := [(2, .int 13), (3, .int 40), (0, .ref g0), (1, .int x)]) hx hb dJ7_fill_53178_14 hl (k := 0) rfl (by decide) (by decide) rfl (fun ls hl => ?_)
  refine lv_goto (tgt := 5) hx hb dJ7_fill_53178_17 (by decide) ?_
  refine lv_iload_n hx hb dJ7_fill_53178_5 rfl (lv_at hl 0 rfl) ?_
  refine lv_iload_n hx hb dJ7_fill_53178_6 rfl (lv_at hl 1 rfl) ?_
  refine lv_icmp_ge (tgt := 20) hx hb dJ7_fill_53178_7 (by decide) (fun c9 => absurd c9 (by decide)) (fun c_27 => ?_)
  refine lv_aload_n hx hb dJ7_fill_53178_10 rfl (lv_at hl 2 rfl) ?_
  refine lv_iload_n hx hb dJ7_fill_53178_11 rfl (lv_at hl 0 rfl) ?_
  refine lv_iload_n hx hb dJ7_fill_53178_12 rfl (lv_at hl 3 rfl) ?_
  refine va_iast hx hb hK hP hD hS 0 0 rfl rfl (in_c rfl) dJ7_fill_53178_13 (fun H locs hP hD hS => ?_)
  generalize upd f_26 (Int32.toNatClampNeg 13) x = f_28 at hP hD
  have hP : va_P D vwCl [(g0, .inl (q 0, 40, .inl f_28))] H := hP
  have hD : va_D _ [(g0, .inl (q 0, 40, .inl f_28))] := hD
  refine lv_iinc (v := 14) (lv' := [(2, .int 14), (3, .int 40), (0, .ref g0), (1, .int x)]) hx hb dJ7_fill_53178_14 hl (k := 0) rfl (by decide) (by decide) rfl (fun ls hl => ?_)
  refine lv_goto (tgt := 5) hx hb dJ7_fill_53178_17 (by decide) ?_
  refine lv_iload_n hx hb dJ7_fill_53178_5 rfl (lv_at hl 0 rfl) ?_
  refine lv_iload_n hx hb dJ7_fill_53178_6 rfl (lv_at hl 1 rfl) ?_
  refine lv_icmp_ge (tgt := 20) hx hb dJ7_fill_53178_7 (by decide) (fun c9 => absurd c9 (by decide)) (fun c_29 => ?_)
  refine lv_aload_n hx hb dJ7_fill_53178_10 rfl (lv_at hl 2 rfl) ?_
  refine lv_iload_n hx hb dJ7_fill_53178_11 rfl (lv_at hl 0 rfl) ?_
  refine lv_iload_n hx hb dJ7_fill_53178_12 rfl (lv_at hl 3 rfl) ?_
  refine va_iast hx hb hK hP hD hS 0 0 rfl rfl (in_c rfl) dJ7_fill_53178_13 (fun H locs hP hD hS => ?_)
  generalize upd f_28 (Int32.toNatClampNeg 14) x = f_30 at hP hD
  have hP : va_P D vwCl [(g0, .inl (q 0, 40, .inl f_30))] H := hP
  have hD : va_D _ [(g0, .inl (q 0, 40, .inl f_30))] := hD
  refine lv_iinc (v := 15) (lv' := [(2, .int 15), (3, .int 40), (0, .ref g0), (1, .int x)]) hx hb dJ7_fill_53178_14 hl (k := 0) rfl (by decide) (by decide) rfl (fun ls hl => ?_)
  refine lv_goto (tgt := 5) hx hb dJ7_fill_53178_17 (by decide) ?_
  refine lv_iload_n hx hb dJ7_fill_53178_5 rfl (lv_at hl 0 rfl) ?_
  refine lv_iload_n hx hb dJ7_fill_53178_6 rfl (lv_at hl 1 rfl) ?_
  refine lv_icmp_ge (tgt := 20) hx hb dJ7_fill_53178_7 (by decide) (fun c9 => absurd c9 (by decide)) (fun c_31 => ?_)
  refine lv_aload_n hx hb dJ7_fill_53178_10 rfl (lv_at hl 2 rfl) ?_
  refine lv_iload_n hx hb dJ7_fill_53178_11 rfl (lv_at hl 0 rfl) ?_
  refine lv_iload_n hx hb dJ7_fill_53178_12 rfl (lv_at hl 3 rfl) ?_
  refine va_iast hx hb hK hP hD hS 0 0 rfl rfl (in_c rfl) dJ7_fill_53178_13 (fun H locs hP hD hS => ?_)
  generalize upd f_30 (Int32.toNatClampNeg 15) x = f_32 at hP hD
  have hP : va_P D vwCl [(g0, .inl (q 0, 40, .inl f_32))] H := hP
  have hD : va_D _ [(g0, .inl (q 0, 40, .inl f_32))] := hD
  refine lv_iinc (v := 16) (lv' := [(2, .int 16), (3, .int 40), (0, .ref g0), (1, .int x)]) hx hb dJ7_fill_53178_14 hl (k := 0) rfl (by decide) (by decide) rfl (fun ls hl => ?_)
  refine lv_goto (tgt := 5) hx hb dJ7_fill_53178_17 (by decide) ?_
  refine lv_iload_n hx hb dJ7_fill_53178_5 rfl (lv_at hl 0 rfl) ?_
  refine lv_iload_n hx hb dJ7_fill_53178_6 rfl (lv_at hl 1 rfl) ?_
  refine lv_icmp_ge (tgt := 20) hx hb dJ7_fill_53178_7 (by decide) (fun c9 => absurd c9 (by decide)) (fun c_33 => ?_)
  refine lv_aload_n hx hb dJ7_fill_53178_10 rfl (lv_at hl 2 rfl) ?_
  refine lv_iload_n hx hb dJ7_fill_53178_11 rfl (lv_at hl 0 rfl) ?_
  refine lv_iload_n hx hb dJ7_fill_53178_12 rfl (lv_at hl 3 rfl) ?_
  refine va_iast hx hb hK hP hD hS 0 0 rfl rfl (in_c rfl) dJ7_fill_53178_13 (fun H locs hP hD hS => ?_)
  generalize upd f_32 (Int32.toNatClampNeg 16) x = f_34 at hP hD
  have hP : va_P D vwCl [(g0, .inl (q 0, 40, .inl f_34))] H := hP
  have hD : va_D _ [(g0, .inl (q 0, 40, .inl f_34))] := hD
  refine lv_iinc (v := 17) (lv' := [(2, .int 17), (3, .int 40), (0, .ref g0), (1, .int x)]) hx hb dJ7_fill_53178_14 hl (k := 0) rfl (by decide) (by decide) rfl (fun ls hl => ?_)
  refine lv_goto (tgt := 5) hx hb dJ7_fill_53178_17 (by decide) ?_
  refine lv_iload_n hx hb dJ7_fill_53178_5 rfl (lv_at hl 0 rfl) ?_
  refine lv_iload_n hx hb dJ7_fill_53178_6 rfl (lv_at hl 1 rfl) ?_
  refine lv_icmp_ge (tgt := 20) hx hb dJ7_fill_53178_7 (by decide) (fun c9 => absurd c9 (by decide)) (fun c_35 => ?_)
  refine lv_aload_n hx hb dJ7_fill_53178_10 rfl (lv_at hl 2 rfl) ?_
  refine lv_iload_n hx hb dJ7_fill_53178_11 rfl (lv_at hl 0 rfl) ?_
  refine lv_iload_n hx hb dJ7_fill_53178_12 rfl (lv_at hl 3 rfl) ?_
  refine va_iast hx hb hK hP hD hS 0 0 rfl rfl (in_c rfl) dJ7_fill_53178_13 (fun H locs hP hD hS => ?_)
  generalize upd f_34 (Int32.toNatClampNeg 17) x = f_36 at hP hD
  have hP : va_P D vwCl [(g0, .inl (q 0, 40, .inl f_36))] H := hP
  have hD : va_D _ [(g0, .inl (q 0, 40, .inl f_36))] := hD
  refine lv_iinc (v := 18) (lv' := [(2, .int 18), (3, .int 40), (0, .ref g0), (1, .int x)]) hx hb dJ7_fill_53178_14 hl (k := 0) rfl (by decide) (by decide) rfl (fun ls hl => ?_)
  refine lv_goto (tgt := 5) hx hb dJ7_fill_53178_17 (by decide) ?_
  refine lv_iload_n hx hb dJ7_fill_53178_5 rfl (lv_at hl 0 rfl) ?_
  refine lv_iload_n hx hb dJ7_fill_53178_6 rfl (lv_at hl 1 rfl) ?_
  refine lv_icmp_ge (tgt := 20) hx hb dJ7_fill_53178_7 (by decide) (fun c9 => absurd c9 (by decide)) (fun c_37 => ?_)
  refine lv_aload_n hx hb dJ7_fill_53178_10 rfl (lv_at hl 2 rfl) ?_
  refine lv_iload_n hx hb dJ7_fill_53178_11 rfl (lv_at hl 0 rfl) ?_
  refine lv_iload_n hx hb dJ7_fill_53178_12 rfl (lv_at hl 3 rfl) ?_
  refine va_iast hx hb hK hP hD hS 0 0 rfl rfl (in_c rfl) dJ7_fill_53178_13 (fun H locs hP hD hS => ?_)
  generalize upd f_36 (Int32.toNatClampNeg 18) x = f_38 at hP hD
  have hP : va_P D vwCl [(g0, .inl (q 0, 40, .inl f_38))] H := hP
  have hD : va_D _ [(g0, .inl (q 0, 40, .inl f_38))] := hD
  refine lv_iinc (v := 19) (lv' := [(2, .int 19), (3, .int 40), (0, .ref g0), (1, .int x)]) hx hb dJ7_fill_53178_14 hl (k := 0) rfl (by decide) (by decide) rfl (fun ls hl => ?_)
  refine lv_goto (tgt := 5) hx hb dJ7_fill_53178_17 (by decide) ?_
  refine lv_iload_n hx hb dJ7_fill_53178_5 rfl (lv_at hl 0 rfl) ?_
  refine lv_iload_n hx hb dJ7_fill_53178_6 rfl (lv_at hl 1 rfl) ?_
  refine lv_icmp_ge (tgt := 20) hx hb dJ7_fill_53178_7 (by decide) (fun c9 => absurd c9 (by decide)) (fun c_39 => ?_)
  refine lv_aload_n hx hb dJ7_fill_53178_10 rfl (lv_at hl 2 rfl) ?_
  refine lv_iload_n hx hb dJ7_fill_53178_11 rfl (lv_at hl 0 rfl) ?_
  refine lv_iload_n hx hb dJ7_fill_53178_12 rfl (lv_at hl 3 rfl) ?_
  refine va_iast hx hb hK hP hD hS 0 0 rfl rfl (in_c rfl) dJ7_fill_53178_13 (fun H locs hP hD hS => ?_)
  generalize upd f_38 (Int32.toNatClampNeg 19) x = f_40 at hP hD
  have hP : va_P D vwCl [(g0, .inl (q 0, 40, .inl f_40))] H := hP
  have hD : va_D _ [(g0, .inl (q 0, 40, .inl f_40))] := hD
  refine lv_iinc (v := 20) (lv' := [(2, .int 20), (3, .int 40), (0, .ref g0), (1, .int x)]) hx hb dJ7_fill_53178_14 hl (k := 0) rfl (by decide) (by decide) rfl (fun ls hl => ?_)
  refine lv_goto (tgt := 5) hx hb dJ7_fill_53178_17 (by decide) ?_
  refine lv_iload_n hx hb dJ7_fill_53178_5 rfl (lv_at hl 0 rfl) ?_
  refine lv_iload_n hx hb dJ7_fill_53178_6 rfl (lv_at hl 1 rfl) ?_
  refine lv_icmp_ge (tgt := 20) hx hb dJ7_fill_53178_7 (by decide) (fun c9 => absurd c9 (by decide)) (fun c_41 => ?_)
  refine lv_aload_n hx hb dJ7_fill_53178_10 rfl (lv_at hl 2 rfl) ?_
  refine lv_iload_n hx hb dJ7_fill_53178_11 rfl (lv_at hl 0 rfl) ?_
  refine lv_iload_n hx hb dJ7_fill_53178_12 rfl (lv_at hl 3 rfl) ?_
  refine va_iast hx hb hK hP hD hS 0 0 rfl rfl (in_c rfl) dJ7_fill_53178_13 (fun H locs hP hD hS => ?_)
  generalize upd f_40 (Int32.toNatClampNeg 20) x = f_42 at hP hD
  have hP : va_P D vwCl [(g0, .inl (q 0, 40, .inl f_42))] H := hP
  have hD : va_D _ [(g0, .inl (q 0, 40, .inl f_42))] := hD
  refine lv_iinc (v := 21) (lv' := [(2, .int 21), (3, .int 40), (0, .ref g0), (1, .int x)]) hx hb dJ7_fill_53178_14 hl (k := 0) rfl (by decide) (by decide) rfl (fun ls hl => ?_)
  refine lv_goto (tgt := 5) hx hb dJ7_fill_53178_17 (by decide) ?_
  refine lv_iload_n hx hb dJ7_fill_53178_5 rfl (lv_at hl 0 rfl) ?_
  refine lv_iload_n hx hb dJ7_fill_53178_6 rfl (lv_at hl 1 rfl) ?_
  refine lv_icmp_ge (tgt := 20) hx hb dJ7_fill_53178_7 (by decide) (fun c9 => absurd c9 (by decide)) (fun c_43 => ?_)
  refine lv_aload_n hx hb dJ7_fill_53178_10 rfl (lv_at hl 2 rfl) ?_
  refine lv_iload_n hx hb dJ7_fill_53178_11 rfl (lv_at hl 0 rfl) ?_
  refine lv_iload_n hx hb dJ7_fill_53178_12 rfl (lv_at hl 3 rfl) ?_
  refine va_iast hx hb hK hP hD hS 0 0 rfl rfl (in_c rfl) dJ7_fill_53178_13 (fun H locs hP hD hS => ?_)
  generalize upd f_42 (Int32.toNatClampNeg 21) x = f_44 at hP hD
  have hP : va_P D vwCl [(g0, .inl (q 0, 40, .inl f_44))] H := hP
  have hD : va_D _ [(g0, .inl (q 0, 40, .inl f_44))] := hD
  refine lv_iinc (v := 22) (lv' := [(2, .int 22), (3, .int 40), (0, .ref g0), (1, .int x)]) hx hb dJ7_fill_53178_14 hl (k := 0) rfl (by decide) (by decide) rfl (fun ls hl => ?_)
  refine lv_goto (tgt := 5) hx hb dJ7_fill_53178_17 (by decide) ?_
  refine lv_iload_n hx hb dJ7_fill_53178_5 rfl (lv_at hl 0 rfl) ?_
  refine lv_iload_n hx hb dJ7_fill_53178_6 rfl (lv_at hl 1 rfl) ?_
  refine lv_icmp_ge (tgt := 20) hx hb dJ7_fill_53178_7 (by decide) (fun c9 => absurd c9 (by decide)) (fun c_45 => ?_)
  refine lv_aload_n hx hb dJ7_fill_53178_10 rfl (lv_at hl 2 rfl) ?_
  refine lv_iload_n hx hb dJ7_fill_53178_11 rfl (lv_at hl 0 rfl) ?_
  refine lv_iload_n hx hb dJ7_fill_53178_12 rfl (lv_at hl 3 rfl) ?_
  refine va_iast hx hb hK hP hD hS 0 0 rfl rfl (in_c rfl) dJ7_fill_53178_13 (fun H locs hP hD hS => ?_)
  generalize upd f_44 (Int32.toNatClampNeg 22) x = f_46 at hP hD
  have hP : va_P D vwCl [(g0, .inl (q 0, 40, .inl f_46))] H := hP
  have hD : va_D _ [(g0, .inl (q 0, 40, .inl f_46))] := hD
  refine lv_iinc (v := 23) (lv' := [(2, .int 23), (3, .int 40), (0, .ref g0), (1, .int x)]) hx hb dJ7_fill_53178_14 hl (k := 0) rfl (by decide) (by decide) rfl (fun ls hl => ?_)
  refine lv_goto (tgt := 5) hx hb dJ7_fill_53178_17 (by decide) ?_
  refine lv_iload_n hx hb dJ7_fill_53178_5 rfl (lv_at hl 0 rfl) ?_
  refine lv_iload_n hx hb dJ7_fill_53178_6 rfl (lv_at hl 1 rfl) ?_
  refine lv_icmp_ge (tgt := 20) hx hb dJ7_fill_53178_7 (by decide) (fun c9 => absurd c9 (by decide)) (fun c_47 => ?_)
  refine lv_aload_n hx hb dJ7_fill_53178_10 rfl (lv_at hl 2 rfl) ?_
  refine lv_iload_n hx hb dJ7_fill_53178_11 rfl (lv_at hl 0 rfl) ?_
  refine lv_iload_n hx hb dJ7_fill_53178_12 rfl (lv_at hl 3 rfl) ?_
  refine va_iast hx hb hK hP hD hS 0 0 rfl rfl (in_c rfl) dJ7_fill_53178_13 (fun H locs hP hD hS => ?_)
  generalize upd f_46 (Int32.toNatClampNeg 23) x = f_48 at hP hD
  have hP : va_P D vwCl [(g0, .inl (q 0, 40, .inl f_48))] H := hP
  have hD : va_D _ [(g0, .inl (q 0, 40, .inl f_48))] := hD
  refine lv_iinc (v := 24) (lv' := [(2, .int 24), (3, .int 40), (0, .ref g0), (1, .int x)]) hx hb dJ7_fill_53178_14 hl (k := 0) rfl (by decide) (by decide) rfl (fun ls hl => ?_)
  refine lv_goto (tgt := 5) hx hb dJ7_fill_53178_17 (by decide) ?_
  refine lv_iload_n hx hb dJ7_fill_53178_5 rfl (lv_at hl 0 rfl) ?_
  refine lv_iload_n hx hb dJ7_fill_53178_6 rfl (lv_at hl 1 rfl) ?_
  refine lv_icmp_ge (tgt := 20) hx hb dJ7_fill_53178_7 (by decide) (fun c9 => absurd c9 (by decide)) (fun c_49 => ?_)
  refine lv_aload_n hx hb dJ7_fill_53178_10 rfl (lv_at hl 2 rfl) ?_
  refine lv_iload_n hx hb dJ7_fill_53178_11 rfl (lv_at hl 0 rfl) ?_
  refine lv_iload_n hx hb dJ7_fill_53178_12 rfl (lv_at hl 3 rfl) ?_
  refine va_iast hx hb hK hP hD hS 0 0 rfl rfl (in_c rfl) dJ7_fill_53178_13 (fun H locs hP hD hS => ?_)
  generalize upd f_48 (Int32.toNatClampNeg 24) x = f_50 at hP hD
  have hP : va_P D vwCl [(g0, .inl (q 0, 40, .inl f_50))] H := hP
  have hD : va_D _ [(g0, .inl (q 0, 40, .inl f_50))] := hD
  refine lv_iinc (v := 25) (lv' := [(2, .int 25), (3, .int 40), (0, .ref g0), (1, .int x)]) hx hb dJ7_fill_53178_14 hl (k := 0) rfl (by decide) (by decide) rfl (fun ls hl => ?_)
  refine lv_goto (tgt := 5) hx hb dJ7_fill_53178_17 (by decide) ?_
  refine lv_iload_n hx hb dJ7_fill_53178_5 rfl (lv_at hl 0 rfl) ?_
  refine lv_iload_n hx hb dJ7_fill_53178_6 rfl (lv_at hl 1 rfl) ?_
  refine lv_icmp_ge (tgt := 20) hx hb dJ7_fill_53178_7 (by decide) (fun c9 => absurd c9 (by decide)) (fun c_51 => ?_)
  refine lv_aload_n hx hb dJ7_fill_53178_10 rfl (lv_at hl 2 rfl) ?_
  refine lv_iload_n hx hb dJ7_fill_53178_11 rfl (lv_at hl 0 rfl) ?_
  refine lv_iload_n hx hb dJ7_fill_53178_12 rfl (lv_at hl 3 rfl) ?_
  refine va_iast hx hb hK hP hD hS 0 0 rfl rfl (in_c rfl) dJ7_fill_53178_13 (fun H locs hP hD hS => ?_)
  generalize upd f_50 (Int32.toNatClampNeg 25) x = f_52 at hP hD
  have hP : va_P D vwCl [(g0, .inl (q 0, 40, .inl f_52))] H := hP
  have hD : va_D _ [(g0, .inl (q 0, 40, .inl f_52))] := hD
  refine lv_iinc (v := 26) (lv' := [(2, .int 26), (3, .int 40), (0, .ref g0), (1, .int x)]) hx hb dJ7_fill_53178_14 hl (k := 0) rfl (by decide) (by decide) rfl (fun ls hl => ?_)
  refine lv_goto (tgt := 5) hx hb dJ7_fill_53178_17 (by decide) ?_
  refine lv_iload_n hx hb dJ7_fill_53178_5 rfl (lv_at hl 0 rfl) ?_
  refine lv_iload_n hx hb dJ7_fill_53178_6 rfl (lv_at hl 1 rfl) ?_
  refine lv_icmp_ge (tgt := 20) hx hb dJ7_fill_53178_7 (by decide) (fun c9 => absurd c9 (by decide)) (fun c_53 => ?_)
  refine lv_aload_n hx hb dJ7_fill_53178_10 rfl (lv_at hl 2 rfl) ?_
  refine lv_iload_n hx hb dJ7_fill_53178_11 rfl (lv_at hl 0 rfl) ?_
  refine lv_iload_n hx hb dJ7_fill_53178_12 rfl (lv_at hl 3 rfl) ?_
  refine va_iast hx hb hK hP hD hS 0 0 rfl rfl (in_c rfl) dJ7_fill_53178_13 (fun H locs hP hD hS => ?_)
  generalize upd f_52 (Int32.toNatClampNeg 26) x = f_54 at hP hD
  have hP : va_P D vwCl [(g0, .inl (q 0, 40, .inl f_54))] H := hP
  have hD : va_D _ [(g0, .inl (q 0, 40, .inl f_54))] := hD
  refine lv_iinc (v := 27) (lv' := [(2, .int 27), (3, .int 40), (0, .ref g0), (1, .int x)]) hx hb dJ7_fill_53178_14 hl (k := 0) rfl (by decide) (by decide) rfl (fun ls hl => ?_)
  refine lv_goto (tgt := 5) hx hb dJ7_fill_53178_17 (by decide) ?_
  refine lv_iload_n hx hb dJ7_fill_53178_5 rfl (lv_at hl 0 rfl) ?_
  refine lv_iload_n hx hb dJ7_fill_53178_6 rfl (lv_at hl 1 rfl) ?_
  refine lv_icmp_ge (tgt := 20) hx hb dJ7_fill_53178_7 (by decide) (fun c9 => absurd c9 (by decide)) (fun c_55 => ?_)
  refine lv_aload_n hx hb dJ7_fill_53178_10 rfl (lv_at hl 2 rfl) ?_
  refine lv_iload_n hx hb dJ7_fill_53178_11 rfl (lv_at hl 0 rfl) ?_
  refine lv_iload_n hx hb dJ7_fill_53178_12 rfl (lv_at hl 3 rfl) ?_
  refine va_iast hx hb hK hP hD hS 0 0 rfl rfl (in_c rfl) dJ7_fill_53178_13 (fun H locs hP hD hS => ?_)
  generalize upd f_54 (Int32.toNatClampNeg 27) x = f_56 at hP hD
  have hP : va_P D vwCl [(g0, .inl (q 0, 40, .inl f_56))] H := hP
  have hD : va_D _ [(g0, .inl (q 0, 40, .inl f_56))] := hD
  refine lv_iinc (v := 28) (lv' := [(2, .int 28), (3, .int 40), (0, .ref g0), (1, .int x)]) hx hb dJ7_fill_53178_14 hl (k := 0) rfl (by decide) (by decide) rfl (fun ls hl => ?_)
  refine lv_goto (tgt := 5) hx hb dJ7_fill_53178_17 (by decide) ?_
  refine lv_iload_n hx hb dJ7_fill_53178_5 rfl (lv_at hl 0 rfl) ?_
  refine lv_iload_n hx hb dJ7_fill_53178_6 rfl (lv_at hl 1 rfl) ?_
  refine lv_icmp_ge (tgt := 20) hx hb dJ7_fill_53178_7 (by decide) (fun c9 => absurd c9 (by decide)) (fun c_57 => ?_)
  refine lv_aload_n hx hb dJ7_fill_53178_10 rfl (lv_at hl 2 rfl) ?_
  refine lv_iload_n hx hb dJ7_fill_53178_11 rfl (lv_at hl 0 rfl) ?_
  refine lv_iload_n hx hb dJ7_fill_53178_12 rfl (lv_at hl 3 rfl) ?_
  refine va_iast hx hb hK hP hD hS 0 0 rfl rfl (in_c rfl) dJ7_fill_53178_13 (fun H locs hP hD hS => ?_)
  generalize upd f_56 (Int32.toNatClampNeg 28) x = f_58 at hP hD
  have hP : va_P D vwCl [(g0, .inl (q 0, 40, .inl f_58))] H := hP
  have hD : va_D _ [(g0, .inl (q 0, 40, .inl f_58))] := hD
  refine lv_iinc (v := 29) (lv' := [(2, .int 29), (3, .int 40), (0, .ref g0), (1, .int x)]) hx hb dJ7_fill_53178_14 hl (k := 0) rfl (by decide) (by decide) rfl (fun ls hl => ?_)
  refine lv_goto (tgt := 5) hx hb dJ7_fill_53178_17 (by decide) ?_
  refine lv_iload_n hx hb dJ7_fill_53178_5 rfl (lv_at hl 0 rfl) ?_
  refine lv_iload_n hx hb dJ7_fill_53178_6 rfl (lv_at hl 1 rfl) ?_
  refine lv_icmp_ge (tgt := 20) hx hb dJ7_fill_53178_7 (by decide) (fun c9 => absurd c9 (by decide)) (fun c_59 => ?_)
  refine lv_aload_n hx hb dJ7_fill_53178_10 rfl (lv_at hl 2 rfl) ?_
  refine lv_iload_n hx hb dJ7_fill_53178_11 rfl (lv_at hl 0 rfl) ?_
  refine lv_iload_n hx hb dJ7_fill_53178_12 rfl (lv_at hl 3 rfl) ?_
  refine va_iast hx hb hK hP hD hS 0 0 rfl rfl (in_c rfl) dJ7_fill_53178_13 (fun H locs hP hD hS => ?_)
  generalize upd f_58 (Int32.toNatClampNeg 29) x = f_60 at hP hD
  have hP : va_P D vwCl [(g0, .inl (q 0, 40, .inl f_60))] H := hP
  have hD : va_D _ [(g0, .inl (q 0, 40, .inl f_60))] := hD
  refine lv_iinc (v := 30) (lv' := [(2, .int 30), (3, .int 40), (0, .ref g0), (1, .int x)]) hx hb dJ7_fill_53178_14 hl (k := 0) rfl (by decide) (by decide) rfl (fun ls hl => ?_)
  refine lv_goto (tgt := 5) hx hb dJ7_fill_53178_17 (by decide) ?_
  refine lv_iload_n hx hb dJ7_fill_53178_5 rfl (lv_at hl 0 rfl) ?_
  refine lv_iload_n hx hb dJ7_fill_53178_6 rfl (lv_at hl 1 rfl) ?_
  refine lv_icmp_ge (tgt := 20) hx hb dJ7_fill_53178_7 (by decide) (fun c9 => absurd c9 (by decide)) (fun c_61 => ?_)
  refine lv_aload_n hx hb dJ7_fill_53178_10 rfl (lv_at hl 2 rfl) ?_
  refine lv_iload_n hx hb dJ7_fill_53178_11 rfl (lv_at hl 0 rfl) ?_
  refine lv_iload_n hx hb dJ7_fill_53178_12 rfl (lv_at hl 3 rfl) ?_
  refine va_iast hx hb hK hP hD hS 0 0 rfl rfl (in_c rfl) dJ7_fill_53178_13 (fun H locs hP hD hS => ?_)
  generalize upd f_60 (Int32.toNatClampNeg 30) x = f_62 at hP hD
  have hP : va_P D vwCl [(g0, .inl (q 0, 40, .inl f_62))] H := hP
  have hD : va_D _ [(g0, .inl (q 0, 40, .inl f_62))] := hD
  refine lv_iinc (v := 31) (lv' := [(2, .int 31), (3, .int 40), (0, .ref g0), (1, .int x)]) hx hb dJ7_fill_53178_14 hl (k := 0) rfl (by decide) (by decide) rfl (fun ls hl => ?_)
  refine lv_goto (tgt := 5) hx hb dJ7_fill_53178_17 (by decide) ?_
  refine lv_iload_n hx hb dJ7_fill_53178_5 rfl (lv_at hl 0 rfl) ?_
  refine lv_iload_n hx hb dJ7_fill_53178_6 rfl (lv_at hl 1 rfl) ?_
  refine lv_icmp_ge (tgt := 20) hx hb dJ7_fill_53178_7 (by decide) (fun c9 => absurd c9 (by decide)) (fun c_63 => ?_)
  refine lv_aload_n hx hb dJ7_fill_53178_10 rfl (lv_at hl 2 rfl) ?_
  refine lv_iload_n hx hb dJ7_fill_53178_11 rfl (lv_at hl 0 rfl) ?_
  refine lv_iload_n hx hb dJ7_fill_53178_12 rfl (lv_at hl 3 rfl) ?_
  refine va_iast hx hb hK hP hD hS 0 0 rfl rfl (in_c rfl) dJ7_fill_53178_13 (fun H locs hP hD hS => ?_)
  generalize upd f_62 (Int32.toNatClampNeg 31) x = f_64 at hP hD
  have hP : va_P D vwCl [(g0, .inl (q 0, 40, .inl f_64))] H := hP
  have hD : va_D _ [(g0, .inl (q 0, 40, .inl f_64))] := hD
  refine lv_iinc (v := 32) (lv' := [(2, .int 32), (3, .int 40), (0, .ref g0), (1, .int x)]) hx hb dJ7_fill_53178_14 hl (k := 0) rfl (by decide) (by decide) rfl (fun ls hl => ?_)
  refine lv_goto (tgt := 5) hx hb dJ7_fill_53178_17 (by decide) ?_
  refine lv_iload_n hx hb dJ7_fill_53178_5 rfl (lv_at hl 0 rfl) ?_
  refine lv_iload_n hx hb dJ7_fill_53178_6 rfl (lv_at hl 1 rfl) ?_
  refine lv_icmp_ge (tgt := 20) hx hb dJ7_fill_53178_7 (by decide) (fun c9 => absurd c9 (by decide)) (fun c_65 => ?_)
  refine lv_aload_n hx hb dJ7_fill_53178_10 rfl (lv_at hl 2 rfl) ?_
  refine lv_iload_n hx hb dJ7_fill_53178_11 rfl (lv_at hl 0 rfl) ?_
  refine lv_iload_n hx hb dJ7_fill_53178_12 rfl (lv_at hl 3 rfl) ?_
  refine va_iast hx hb hK hP hD hS 0 0 rfl rfl (in_c rfl) dJ7_fill_53178_13 (fun H locs hP hD hS => ?_)
  generalize upd f_64 (Int32.toNatClampNeg 32) x = f_66 at hP hD
  have hP : va_P D vwCl [(g0, .inl (q 0, 40, .inl f_66))] H := hP
  have hD : va_D _ [(g0, .inl (q 0, 40, .inl f_66))] := hD
  refine lv_iinc (v := 33) (lv' := [(2, .int 33), (3, .int 40), (0, .ref g0), (1, .int x)]) hx hb dJ7_fill_53178_14 hl (k := 0) rfl (by decide) (by decide) rfl (fun ls hl => ?_)
  refine lv_goto (tgt := 5) hx hb dJ7_fill_53178_17 (by decide) ?_
  refine lv_iload_n hx hb dJ7_fill_53178_5 rfl (lv_at hl 0 rfl) ?_
  refine lv_iload_n hx hb dJ7_fill_53178_6 rfl (lv_at hl 1 rfl) ?_
  refine lv_icmp_ge (tgt := 20) hx hb dJ7_fill_53178_7 (by decide) (fun c9 => absurd c9 (by decide)) (fun c_67 => ?_)
  refine lv_aload_n hx hb dJ7_fill_53178_10 rfl (lv_at hl 2 rfl) ?_
  refine lv_iload_n hx hb dJ7_fill_53178_11 rfl (lv_at hl 0 rfl) ?_
  refine lv_iload_n hx hb dJ7_fill_53178_12 rfl (lv_at hl 3 rfl) ?_
  refine va_iast hx hb hK hP hD hS 0 0 rfl rfl (in_c rfl) dJ7_fill_53178_13 (fun H locs hP hD hS => ?_)
  generalize upd f_66 (Int32.toNatClampNeg 33) x = f_68 at hP hD
  have hP : va_P D vwCl [(g0, .inl (q 0, 40, .inl f_68))] H := hP
  have hD : va_D _ [(g0, .inl (q 0, 40, .inl f_68))] := hD
  refine lv_iinc (v := 34) (lv' := [(2, .int 34), (3, .int 40), (0, .ref g0), (1, .int x)]) hx hb dJ7_fill_53178_14 hl (k := 0) rfl (by decide) (by decide) rfl (fun ls hl => ?_)
  refine lv_goto (tgt := 5) hx hb dJ7_fill_53178_17 (by decide) ?_
  refine lv_iload_n hx hb dJ7_fill_53178_5 rfl (lv_at hl 0 rfl) ?_
  refine lv_iload_n hx hb dJ7_fill_53178_6 rfl (lv_at hl 1 rfl) ?_
  refine lv_icmp_ge (tgt := 20) hx hb dJ7_fill_53178_7 (by decide) (fun c9 => absurd c9 (by decide)) (fun c_69 => ?_)
  refine lv_aload_n hx hb dJ7_fill_53178_10 rfl (lv_at hl 2 rfl) ?_
  refine lv_iload_n hx hb dJ7_fill_53178_11 rfl (lv_at hl 0 rfl) ?_
  refine lv_iload_n hx hb dJ7_fill_53178_12 rfl (lv_at hl 3 rfl) ?_
  refine va_iast hx hb hK hP hD hS 0 0 rfl rfl (in_c rfl) dJ7_fill_53178_13 (fun H locs hP hD hS => ?_)
  generalize upd f_68 (Int32.toNatClampNeg 34) x = f_70 at hP hD
  have hP : va_P D vwCl [(g0, .inl (q 0, 40, .inl f_70))] H := hP
  have hD : va_D _ [(g0, .inl (q 0, 40, .inl f_70))] := hD
  refine lv_iinc (v := 35) (lv' := [(2, .int 35), (3, .int 40), (0, .ref g0), (1, .int x)]) hx hb dJ7_fill_53178_14 hl (k := 0) rfl (by decide) (by decide) rfl (fun ls hl => ?_)
  refine lv_goto (tgt := 5) hx hb dJ7_fill_53178_17 (by decide) ?_
  refine lv_iload_n hx hb dJ7_fill_53178_5 rfl (lv_at hl 0 rfl) ?_
  refine lv_iload_n hx hb dJ7_fill_53178_6 rfl (lv_at hl 1 rfl) ?_
  refine lv_icmp_ge (tgt := 20) hx hb dJ7_fill_53178_7 (by decide) (fun c9 => absurd c9 (by decide)) (fun c_71 => ?_)
  refine lv_aload_n hx hb dJ7_fill_53178_10 rfl (lv_at hl 2 rfl) ?_
  refine lv_iload_n hx hb dJ7_fill_53178_11 rfl (lv_at hl 0 rfl) ?_
  refine lv_iload_n hx hb dJ7_fill_53178_12 rfl (lv_at hl 3 rfl) ?_
  refine va_iast hx hb hK hP hD hS 0 0 rfl rfl (in_c rfl) dJ7_fill_53178_13 (fun H locs hP hD hS => ?_)
  generalize upd f_70 (Int32.toNatClampNeg 35) x = f_72 at hP hD
  have hP : va_P D vwCl [(g0, .inl (q 0, 40, .inl f_72))] H := hP
  have hD : va_D _ [(g0, .inl (q 0, 40, .inl f_72))] := hD
  refine lv_iinc (v := 36) (lv' := [(2, .int 36), (3, .int 40), (0, .ref g0), (1, .int x)]) hx hb dJ7_fill_53178_14 hl (k := 0) rfl (by decide) (by decide) rfl (fun ls hl => ?_)
  refine lv_goto (tgt := 5) hx hb dJ7_fill_53178_17 (by decide) ?_
  refine lv_iload_n hx hb dJ7_fill_53178_5 rfl (lv_at hl 0 rfl) ?_
  refine lv_iload_n hx hb dJ7_fill_53178_6 rfl (lv_at hl 1 rfl) ?_
  refine lv_icmp_ge (tgt := 20) hx hb dJ7_fill_53178_7 (by decide) (fun c9 => absurd c9 (by decide)) (fun c_73 => ?_)
  refine lv_aload_n hx hb dJ7_fill_53178_10 rfl (lv_at hl 2 rfl) ?_
  refine lv_iload_n hx hb dJ7_fill_53178_11 rfl (lv_at hl 0 rfl) ?_
  refine lv_iload_n hx hb dJ7_fill_53178_12 rfl (lv_at hl 3 rfl) ?_
  refine va_iast hx hb hK hP hD hS 0 0 rfl rfl (in_c rfl) dJ7_fill_53178_13 (fun H locs hP hD hS => ?_)
  generalize upd f_72 (Int32.toNatClampNeg 36) x = f_74 at hP hD
  have hP : va_P D vwCl [(g0, .inl (q 0, 40, .inl f_74))] H := hP
  have hD : va_D _ [(g0, .inl (q 0, 40, .inl f_74))] := hD
  refine lv_iinc (v := 37) (lv' := [(2, .int 37), (3, .int 40), (0, .ref g0), (1, .int x)]) hx hb dJ7_fill_53178_14 hl (k := 0) rfl (by decide) (by decide) rfl (fun ls hl => ?_)
  refine lv_goto (tgt := 5) hx hb dJ7_fill_53178_17 (by decide) ?_
  refine lv_iload_n hx hb dJ7_fill_53178_5 rfl (lv_at hl 0 rfl) ?_
  refine lv_iload_n hx hb dJ7_fill_53178_6 rfl (lv_at hl 1 rfl) ?_
  refine lv_icmp_ge (tgt := 20) hx hb dJ7_fill_53178_7 (by decide) (fun c9 => absurd c9 (by decide)) (fun c_75 => ?_)
  refine lv_aload_n hx hb dJ7_fill_53178_10 rfl (lv_at hl 2 rfl) ?_
  refine lv_iload_n hx hb dJ7_fill_53178_11 rfl (lv_at hl 0 rfl) ?_
  refine lv_iload_n hx hb dJ7_fill_53178_12 rfl (lv_at hl 3 rfl) ?_
  refine va_iast hx hb hK hP hD hS 0 0 rfl rfl (in_c rfl) dJ7_fill_53178_13 (fun H locs hP hD hS => ?_)
  generalize upd f_74 (Int32.toNatClampNeg 37) x = f_76 at hP hD
  have hP : va_P D vwCl [(g0, .inl (q 0, 40, .inl f_76))] H := hP
  have hD : va_D _ [(g0, .inl (q 0, 40, .inl f_76))] := hD
  refine lv_iinc (v := 38) (lv' := [(2, .int 38), (3, .int 40), (0, .ref g0), (1, .int x)]) hx hb dJ7_fill_53178_14 hl (k := 0) rfl (by decide) (by decide) rfl (fun ls hl => ?_)
  refine lv_goto (tgt := 5) hx hb dJ7_fill_53178_17 (by decide) ?_
  refine lv_iload_n hx hb dJ7_fill_53178_5 rfl (lv_at hl 0 rfl) ?_
  refine lv_iload_n hx hb dJ7_fill_53178_6 rfl (lv_at hl 1 rfl) ?_
  refine lv_icmp_ge (tgt := 20) hx hb dJ7_fill_53178_7 (by decide) (fun c9 => absurd c9 (by decide)) (fun c_77 => ?_)
  refine lv_aload_n hx hb dJ7_fill_53178_10 rfl (lv_at hl 2 rfl) ?_
  refine lv_iload_n hx hb dJ7_fill_53178_11 rfl (lv_at hl 0 rfl) ?_
  refine lv_iload_n hx hb dJ7_fill_53178_12 rfl (lv_at hl 3 rfl) ?_
  refine va_iast hx hb hK hP hD hS 0 0 rfl rfl (in_c rfl) dJ7_fill_53178_13 (fun H locs hP hD hS => ?_)
  generalize upd f_76 (Int32.toNatClampNeg 38) x = f_78 at hP hD
  have hP : va_P D vwCl [(g0, .inl (q 0, 40, .inl f_78))] H := hP
  have hD : va_D _ [(g0, .inl (q 0, 40, .inl f_78))] := hD
  refine lv_iinc (v := 39) (lv' := [(2, .int 39), (3, .int 40), (0, .ref g0), (1, .int x)]) hx hb dJ7_fill_53178_14 hl (k := 0) rfl (by decide) (by decide) rfl (fun ls hl => ?_)
  refine lv_goto (tgt := 5) hx hb dJ7_fill_53178_17 (by decide) ?_
  refine lv_iload_n hx hb dJ7_fill_53178_5 rfl (lv_at hl 0 rfl) ?_
  refine lv_iload_n hx hb dJ7_fill_53178_6 rfl (lv_at hl 1 rfl) ?_
  refine lv_icmp_ge (tgt := 20) hx hb dJ7_fill_53178_7 (by decide) (fun c9 => absurd c9 (by decide)) (fun c_79 => ?_)
  refine lv_aload_n hx hb dJ7_fill_53178_10 rfl (lv_at hl 2 rfl) ?_
  refine lv_iload_n hx hb dJ7_fill_53178_11 rfl (lv_at hl 0 rfl) ?_
  refine lv_iload_n hx hb dJ7_fill_53178_12 rfl (lv_at hl 3 rfl) ?_
  refine va_iast hx hb hK hP hD hS 0 0 rfl rfl (in_c rfl) dJ7_fill_53178_13 (fun H locs hP hD hS => ?_)
  generalize upd f_78 (Int32.toNatClampNeg 39) x = f_80 at hP hD
  have hP : va_P D vwCl [(g0, .inl (q 0, 40, .inl f_80))] H := hP
  have hD : va_D _ [(g0, .inl (q 0, 40, .inl f_80))] := hD
  refine lv_iinc (v := 40) (lv' := [(2, .int 40), (3, .int 40), (0, .ref g0), (1, .int x)]) hx hb dJ7_fill_53178_14 hl (k := 0) rfl (by decide) (by decide) rfl (fun ls hl => ?_)
  refine lv_goto (tgt := 5) hx hb dJ7_fill_53178_17 (by decide) ?_
  refine lv_iload_n hx hb dJ7_fill_53178_5 rfl (lv_at hl 0 rfl) ?_
  refine lv_iload_n hx hb dJ7_fill_53178_6 rfl (lv_at hl 1 rfl) ?_
  refine lv_icmp_ge (tgt := 20) hx hb dJ7_fill_53178_7 (by decide) (fun c_81 => ?_) (fun c9 => absurd (by decide) c9)
  have hP := hP.sub (ws' := [(g0, .inl (q 0, 40, .inl f_80))]) [0] rfl
  have hD := hD.sub (ws' := [(g0, .inl (q 0, 40, .inl f_80))]) [0] (by decide) rfl
  exact mt_vret f_80 hx hb hr hk (trivial) hP hD hS dJ7_fill_53178_20

set_option maxHeartbeats 4000000 in
set_option maxRecDepth 100000 in
theorem ct_sortByLeft {l : Launch} {D : va_G} {q : Nat → ClassId} {sz : Nat} {h0 g0 g1 g2 : Nat} {k0 k1 k2 k3 k4 k5 k6 k7 k8 k9 k10 k11 k12 : Nat} : Met l yX2_sortByLeft (Cond.code yX2_sortByLeft cX2_sortByLeft 5 (some .int) :: w_all) ({ frames := 1, cells := 0, slots := 0, locals := 23 }) (mt_P D q [.ref h0, .ref k0] [(h0, .inr (1, [.ref g0, .ref g1, .ref g2, .int 0, .int 0, .int 0, .int 0, .int 0, .int 0, .int 0, .int 0, .int 0])), (g0, .inl (q 0, 40, .inl (fun _ => 0))), (k0, .inr (0, [.int 0, .int 0, .int 0, .int 0, .int 0, .int 0, .ref k1, .ref k2, .ref k3, .ref k4, .ref k5, .ref k6, .ref k7, .ref k8, .ref k9, .ref k10, .ref k11, .ref k12]))] sz) (va_Qi (fun r (u : (Nat → Int32)) => r = 0) (mt_B D [(h0, .inr (1, [.ref g0, .ref g1, .ref g2, .int 0, .int 0, .int 0, .int 0, .int 0, .int 0, .int 0, .int 0, .int 0])), (g0, .inl (q 0, 40, .inl (fun _ => 0))), (k0, .inr (0, [.int 0, .int 0, .int 0, .int 0, .int 0, .int 0, .ref k1, .ref k2, .ref k3, .ref k4, .ref k5, .ref k6, .ref k7, .ref k8, .ref k9, .ref k10, .ref k11, .ref k12]))] sz (fun u => [(h0, .inr (1, [.ref g0, .ref g1, .ref g2, .int 0, .int 0, .int 0, .int 0, .int 0, .int 0, .int 0, .int 0, .int 0])), (g0, .inl (q 0, 40, .inl u)), (k0, .inr (0, [.int 0, .int 0, .int 0, .int 0, .int 0, .int 0, .ref k1, .ref k2, .ref k3, .ref k4, .ref k5, .ref k6, .ref k7, .ref k8, .ref k9, .ref k10, .ref k11, .ref k12]))])) (va_A [(h0, .inr (1, [.ref g0, .ref g1, .ref g2, .int 0, .int 0, .int 0, .int 0, .int 0, .int 0, .int 0, .int 0, .int 0])), (g0, .inl (q 0, 40, .inl (fun _ => 0))), (k0, .inr (0, [.int 0, .int 0, .int 0, .int 0, .int 0, .int 0, .ref k1, .ref k2, .ref k3, .ref k4, .ref k5, .ref k6, .ref k7, .ref k8, .ref k9, .ref k10, .ref k11, .ref k12]))] sz)) 0 0 (va_A [(h0, .inr (1, [.ref g0, .ref g1, .ref g2, .int 0, .int 0, .int 0, .int 0, .int 0, .int 0, .int 0, .int 0, .int 0])), (g0, .inl (q 0, 40, .inl (fun _ => 0))), (k0, .inr (0, [.int 0, .int 0, .int 0, .int 0, .int 0, .int 0, .ref k1, .ref k2, .ref k3, .ref k4, .ref k5, .ref k6, .ref k7, .ref k8, .ref k9, .ref k10, .ref k11, .ref k12]))] sz) := by
  refine mt_start (by decide) (Nat.le_of_ble_eq_true rfl) ?_
  intro p e s m below meth c ls hx hb hr hml hown ht hk hin hP hQ hD hA hS hV hl
  have hK := hQ.1
  have hown : s.vm.findClass RX2 = some m.cls := hown
  have hl : lv_has ls 5 [(0, .ref h0), (1, .ref k0)] := hl
  refine lv_aload_n hx hb dX2_sortByLeft_0 rfl (lv_at hl 0 rfl) ?_
  refine fl_get (C := RX2) (T := TX2) (N := 12) (ci := 1) (v := .ref g0) hx hb ht in_X2 hown hK hP 0 rfl rfl 0 (by decide) mw_253 rfl dX2_sortByLeft_1 ?_
  refine lv_iconst (v := (-1)) hx hb dX2_sortByLeft_4 (by decide) ?_
  refine mt_gov (mt_wS (wc := [(g0, .inl (q 0, 40, .inl (fun _ => 0)))]) (As := [.ref g0, .int (-1)]) (rest := []) hx hb hml hown ht (ct_fill) wd_J7_fill_53178 mw_697 hQ hV hS hA (hP.sub [1] rfl) (hD.sub [1] (by decide) rfl) rfl hl.1 rfl (Nat.le_of_ble_eq_true rfl) dX2_sortByLeft_5 ⟨Nat.le_of_ble_eq_true rfl, Nat.le_of_ble_eq_true rfl, rfl, rfl⟩ ⟨Nat.le_of_ble_eq_true rfl, Nat.le_of_ble_eq_true rfl⟩) (wr := [(h0, .inr (1, [.ref g0, .ref g1, .ref g2, .int 0, .int 0, .int 0, .int 0, .int 0, .int 0, .int 0, .int 0, .int 0])), (k0, .inr (0, [.int 0, .int 0, .int 0, .int 0, .int 0, .int 0, .ref k1, .ref k2, .ref k3, .ref k4, .ref k5, .ref k6, .ref k7, .ref k8, .ref k9, .ref k10, .ref k11, .ref k12]))]) hP hD hS hA [1] [0, 2] rfl rfl (by decide) (by decide) (fun u_1 H locs hw hP hD hS => ?_)
  have hP : va_P D vwCl [(h0, .inr (1, [.ref g0, .ref g1, .ref g2, .int 0, .int 0, .int 0, .int 0, .int 0, .int 0, .int 0, .int 0, .int 0])), (k0, .inr (0, [.int 0, .int 0, .int 0, .int 0, .int 0, .int 0, .ref k1, .ref k2, .ref k3, .ref k4, .ref k5, .ref k6, .ref k7, .ref k8, .ref k9, .ref k10, .ref k11, .ref k12])), (g0, .inl (q 0, 40, .inl u_1))] H := hP
  have hD : va_D _ [(h0, .inr (1, [.ref g0, .ref g1, .ref g2, .int 0, .int 0, .int 0, .int 0, .int 0, .int 0, .int 0, .int 0, .int 0])), (k0, .inr (0, [.int 0, .int 0, .int 0, .int 0, .int 0, .int 0, .ref k1, .ref k2, .ref k3, .ref k4, .ref k5, .ref k6, .ref k7, .ref k8, .ref k9, .ref k10, .ref k11, .ref k12])), (g0, .inl (q 0, 40, .inl u_1))] := hD
  refine lv_iconst (v := 0) hx hb dX2_sortByLeft_8 (by decide) ?_
  refine lv_istore_n (lv' := [(2, .int 0), (0, .ref h0), (1, .ref k0)]) hx hb dX2_sortByLeft_9 rfl hl (by decide) rfl (fun ls hl => ?_)
  refine lv_aload_n hx hb dX2_sortByLeft_10 rfl (lv_at hl 2 rfl) ?_
  refine vp_callSi (rd_wV (wc := [(k0, .inr (0, [.int 0, .int 0, .int 0, .int 0, .int 0, .int 0, .ref k1, .ref k2, .ref k3, .ref k4, .ref k5, .ref k6, .ref k7, .ref k8, .ref k9, .ref k10, .ref k11, .ref k12]))]) (As := []) (rest := []) hx hb hml hown ht (ct_Board_cells) wd_X0_cells mw_698 hQ hV hS (hP.sub [1] rfl) rfl rfl rfl hl.1 rfl (Nat.le_of_ble_eq_true rfl) dX2_sortByLeft_11 ⟨Nat.le_of_ble_eq_true rfl, Nat.le_of_ble_eq_true rfl, rfl, rfl⟩ ⟨Nat.le_of_ble_eq_true rfl, Nat.le_of_ble_eq_true rfl⟩) (fun r_3 er_3 => ?_)
  obtain rfl : r_3 = 0 := er_3
  refine lv_iconst (v := 1) hx hb dX2_sortByLeft_14 (by decide) ?_
  refine lv_isub hx hb dX2_sortByLeft_15 ?_
  refine ab_i (v := (-1)) (by decide) ?_
  refine lv_istore_n (lv' := [(3, .int (-1)), (2, .int 0), (0, .ref h0), (1, .ref k0)]) hx hb dX2_sortByLeft_16 rfl hl (by decide) rfl (fun ls hl => ?_)
  refine lv_iload_n hx hb dX2_sortByLeft_17 rfl (lv_at hl 0 rfl) ?_
  refine lv_if_lt (tgt := 74) hx hb dX2_sortByLeft_18 (by decide) (fun c_4 => ?_) (fun c9 => absurd (by decide) c9)
  refine lv_iload_n hx hb dX2_sortByLeft_74 rfl (lv_at hl 1 rfl) ?_
  have hP := hP.sub (ws' := [(h0, .inr (1, [.ref g0, .ref g1, .ref g2, .int 0, .int 0, .int 0, .int 0, .int 0, .int 0, .int 0, .int 0, .int 0])), (g0, .inl (q 0, 40, .inl u_1)), (k0, .inr (0, [.int 0, .int 0, .int 0, .int 0, .int 0, .int 0, .ref k1, .ref k2, .ref k3, .ref k4, .ref k5, .ref k6, .ref k7, .ref k8, .ref k9, .ref k10, .ref k11, .ref k12]))]) [0, 2, 1] rfl
  have hD := hD.sub (ws' := [(h0, .inr (1, [.ref g0, .ref g1, .ref g2, .int 0, .int 0, .int 0, .int 0, .int 0, .int 0, .int 0, .int 0, .int 0])), (g0, .inl (q 0, 40, .inl u_1)), (k0, .inr (0, [.int 0, .int 0, .int 0, .int 0, .int 0, .int 0, .ref k1, .ref k2, .ref k3, .ref k4, .ref k5, .ref k6, .ref k7, .ref k8, .ref k9, .ref k10, .ref k11, .ref k12]))]) [0, 2, 1] (by decide) rfl
  exact mt_iret u_1 hx hb hr hk (rfl) hP hD hS dX2_sortByLeft_75

set_option maxHeartbeats 4000000 in
set_option maxRecDepth 100000 in
theorem ct_choose {l : Launch} {D : va_G} {q : Nat → ClassId} {sz : Nat} {h0 g0 g1 g2 : Nat} {k0 k1 k2 k3 k4 k5 k6 k7 k8 k9 k10 k11 k12 : Nat} : Met l yX2_choose (Cond.code yX2_choose cX2_choose 7 none :: w_all) ({ frames := 2, cells := 0, slots := 0, locals := 47 }) (mt_P D q [.ref h0, .ref k0] [(h0, .inr (1, [.ref g0, .ref g1, .ref g2, .int 0, .int 0, .int 0, .int 0, .int 0, .int 0, .int 0, .int 0, .int 0])), (g0, .inl (q 0, 40, .inl (fun _ => 0))), (k0, .inr (0, [.int 0, .int 0, .int 0, .int 0, .int 0, .int 0, .ref k1, .ref k2, .ref k3, .ref k4, .ref k5, .ref k6, .ref k7, .ref k8, .ref k9, .ref k10, .ref k11, .ref k12]))] sz) (va_Qv (fun u : (Nat → Int32) => True) (mt_B D [(h0, .inr (1, [.ref g0, .ref g1, .ref g2, .int 0, .int 0, .int 0, .int 0, .int 0, .int 0, .int 0, .int 0, .int 0])), (g0, .inl (q 0, 40, .inl (fun _ => 0))), (k0, .inr (0, [.int 0, .int 0, .int 0, .int 0, .int 0, .int 0, .ref k1, .ref k2, .ref k3, .ref k4, .ref k5, .ref k6, .ref k7, .ref k8, .ref k9, .ref k10, .ref k11, .ref k12]))] sz (fun u => [(h0, .inr (1, [.ref g0, .ref g1, .ref g2, .int 0, .int 0, .int 0, .int 0, .int 0, .int 0, .int 0, .int 0, .int 0])), (g0, .inl (q 0, 40, .inl u)), (k0, .inr (0, [.int 0, .int 0, .int 0, .int 0, .int 0, .int 0, .ref k1, .ref k2, .ref k3, .ref k4, .ref k5, .ref k6, .ref k7, .ref k8, .ref k9, .ref k10, .ref k11, .ref k12]))])) (va_A [(h0, .inr (1, [.ref g0, .ref g1, .ref g2, .int 0, .int 0, .int 0, .int 0, .int 0, .int 0, .int 0, .int 0, .int 0])), (g0, .inl (q 0, 40, .inl (fun _ => 0))), (k0, .inr (0, [.int 0, .int 0, .int 0, .int 0, .int 0, .int 0, .ref k1, .ref k2, .ref k3, .ref k4, .ref k5, .ref k6, .ref k7, .ref k8, .ref k9, .ref k10, .ref k11, .ref k12]))] sz)) 0 0 (va_A [(h0, .inr (1, [.ref g0, .ref g1, .ref g2, .int 0, .int 0, .int 0, .int 0, .int 0, .int 0, .int 0, .int 0, .int 0])), (g0, .inl (q 0, 40, .inl (fun _ => 0))), (k0, .inr (0, [.int 0, .int 0, .int 0, .int 0, .int 0, .int 0, .ref k1, .ref k2, .ref k3, .ref k4, .ref k5, .ref k6, .ref k7, .ref k8, .ref k9, .ref k10, .ref k11, .ref k12]))] sz) := by
  refine mt_start (by decide) (Nat.le_of_ble_eq_true rfl) ?_
  intro p e s m below meth c ls hx hb hr hml hown ht hk hin hP hQ hD hA hS hV hl
  have hK := hQ.1
  have hown : s.vm.findClass RX2 = some m.cls := hown
  have hl : lv_has ls 7 [(0, .ref h0), (1, .ref k0)] := hl
  refine lv_aload_n hx hb dX2_choose_0 rfl (lv_at hl 0 rfl) ?_
  refine lv_iconst (v := 0) hx hb dX2_choose_1 (by decide) ?_
  refine fl_put (C := RX2) (T := TX2) (N := 12) (ci := 1) (v := .int 0) (ws2 := [(h0, .inr (1, [.ref g0, .ref g1, .ref g2, .int 0, .int 0, .int 0, .int 0, .int 0, .int 0, .int 0, .int 0, .int 0])), (g0, .inl (q 0, 40, .inl (fun _ => 0))), (k0, .inr (0, [.int 0, .int 0, .int 0, .int 0, .int 0, .int 0, .ref k1, .ref k2, .ref k3, .ref k4, .ref k5, .ref k6, .ref k7, .ref k8, .ref k9, .ref k10, .ref k11, .ref k12]))]) hx hb ht in_X2 tyX2_ok nmX2 hown hK hP hD hS 0 rfl rfl 3 (by decide) mw_256 rfl rfl rfl (Nat.le_of_ble_eq_true rfl) dX2_choose_2 rfl (fun H locs hP hD hS => ?_)
  refine lv_aload_n hx hb dX2_choose_5 rfl (lv_at hl 0 rfl) ?_
  refine lv_iconst (v := 0) hx hb dX2_choose_6 (by decide) ?_
  refine fl_put (C := RX2) (T := TX2) (N := 12) (ci := 1) (v := .int 0) (ws2 := [(h0, .inr (1, [.ref g0, .ref g1, .ref g2, .int 0, .int 0, .int 0, .int 0, .int 0, .int 0, .int 0, .int 0, .int 0])), (g0, .inl (q 0, 40, .inl (fun _ => 0))), (k0, .inr (0, [.int 0, .int 0, .int 0, .int 0, .int 0, .int 0, .ref k1, .ref k2, .ref k3, .ref k4, .ref k5, .ref k6, .ref k7, .ref k8, .ref k9, .ref k10, .ref k11, .ref k12]))]) hx hb ht in_X2 tyX2_ok nmX2 hown hK hP hD hS 0 rfl rfl 4 (by decide) mw_258 rfl rfl rfl (Nat.le_of_ble_eq_true rfl) dX2_choose_7 rfl (fun H locs hP hD hS => ?_)
  refine lv_aload_n hx hb dX2_choose_10 rfl (lv_at hl 0 rfl) ?_
  refine lv_aload_n hx hb dX2_choose_11 rfl (lv_at hl 1 rfl) ?_
  refine mt_goi (mt_wV (wc := [(h0, .inr (1, [.ref g0, .ref g1, .ref g2, .int 0, .int 0, .int 0, .int 0, .int 0, .int 0, .int 0, .int 0, .int 0])), (g0, .inl (q 0, 40, .inl (fun _ => 0))), (k0, .inr (0, [.int 0, .int 0, .int 0, .int 0, .int 0, .int 0, .ref k1, .ref k2, .ref k3, .ref k4, .ref k5, .ref k6, .ref k7, .ref k8, .ref k9, .ref k10, .ref k11, .ref k12]))]) (As := [.ref k0]) (rest := []) hx hb hml hown ht (ct_sortByLeft) wd_X2_sortByLeft mw_693 hQ hV hS hA (hP.sub [0, 1, 2] rfl) (hD.sub [0, 1, 2] (by decide) rfl) rfl rfl rfl hl.1 rfl (Nat.le_of_ble_eq_true rfl) dX2_choose_12 ⟨Nat.le_of_ble_eq_true rfl, Nat.le_of_ble_eq_true rfl, rfl, rfl⟩ ⟨Nat.le_of_ble_eq_true rfl, Nat.le_of_ble_eq_true rfl⟩) (wr := []) hP hD hS hA [0, 1, 2] [] rfl rfl (by decide) (by decide) (fun r_2 u_1 H locs hw hP hD hS => ?_)
  have hP : va_P D vwCl [(h0, .inr (1, [.ref g0, .ref g1, .ref g2, .int 0, .int 0, .int 0, .int 0, .int 0, .int 0, .int 0, .int 0, .int 0])), (g0, .inl (q 0, 40, .inl u_1)), (k0, .inr (0, [.int 0, .int 0, .int 0, .int 0, .int 0, .int 0, .ref k1, .ref k2, .ref k3, .ref k4, .ref k5, .ref k6, .ref k7, .ref k8, .ref k9, .ref k10, .ref k11, .ref k12]))] H := hP
  have hD : va_D _ [(h0, .inr (1, [.ref g0, .ref g1, .ref g2, .int 0, .int 0, .int 0, .int 0, .int 0, .int 0, .int 0, .int 0, .int 0])), (g0, .inl (q 0, 40, .inl u_1)), (k0, .inr (0, [.int 0, .int 0, .int 0, .int 0, .int 0, .int 0, .ref k1, .ref k2, .ref k3, .ref k4, .ref k5, .ref k6, .ref k7, .ref k8, .ref k9, .ref k10, .ref k11, .ref k12]))] := hD
  obtain rfl : r_2 = 0 := hw
  refine lv_istore_n (lv' := [(2, .int 0), (0, .ref h0), (1, .ref k0)]) hx hb dX2_choose_15 rfl hl (by decide) rfl (fun ls hl => ?_)
  refine lv_iload_n hx hb dX2_choose_16 rfl (lv_at hl 0 rfl) ?_
  refine lv_istore_n (lv' := [(3, .int 0), (2, .int 0), (0, .ref h0), (1, .ref k0)]) hx hb dX2_choose_17 rfl hl (by decide) rfl (fun ls hl => ?_)
  refine lv_iload_n hx hb dX2_choose_18 rfl (lv_at hl 0 rfl) ?_
  refine lv_if_le (tgt := 136) hx hb dX2_choose_19 (by decide) (fun c_3 => ?_) (fun c9 => absurd (by decide) c9)
  have hP := hP.sub (ws' := [(h0, .inr (1, [.ref g0, .ref g1, .ref g2, .int 0, .int 0, .int 0, .int 0, .int 0, .int 0, .int 0, .int 0, .int 0])), (g0, .inl (q 0, 40, .inl u_1)), (k0, .inr (0, [.int 0, .int 0, .int 0, .int 0, .int 0, .int 0, .ref k1, .ref k2, .ref k3, .ref k4, .ref k5, .ref k6, .ref k7, .ref k8, .ref k9, .ref k10, .ref k11, .ref k12]))]) [0, 1, 2] rfl
  have hD := hD.sub (ws' := [(h0, .inr (1, [.ref g0, .ref g1, .ref g2, .int 0, .int 0, .int 0, .int 0, .int 0, .int 0, .int 0, .int 0, .int 0])), (g0, .inl (q 0, 40, .inl u_1)), (k0, .inr (0, [.int 0, .int 0, .int 0, .int 0, .int 0, .int 0, .ref k1, .ref k2, .ref k3, .ref k4, .ref k5, .ref k6, .ref k7, .ref k8, .ref k9, .ref k10, .ref k11, .ref k12]))]) [0, 1, 2] (by decide) rfl
  exact mt_vret u_1 hx hb hr hk (trivial) hP hD hS dX2_choose_136

set_option maxHeartbeats 4000000 in
set_option maxRecDepth 100000 in
theorem cf_shelvesUsed {l : Launch} {D : va_G} {q : Nat → ClassId} {a : Nat → Nat} : Met l yX6_shelvesUsed (Cond.code yX6_shelvesUsed cX6_shelvesUsed 3 (some .int) :: w_all) ({ frames := 0, cells := 0, slots := 0, locals := 0 }) (rd_P D q [.ref (a 0)] (fb_w a q)) (vp_Si (fun r => r = 0)) 0 0 (fun _ => False) := by
  refine rd_start (by decide) (Nat.le_of_ble_eq_true rfl) ?_
  intro p e s m below meth c ls hx hb hr hml hown ht hk hP hQ hV hl
  have hK := hQ.1
  have hown : s.vm.findClass RX6 = some m.cls := hown
  have hl : lv_has ls 3 [(0, .ref (a 0))] := hl
  have hP := hP.sub (ws' := [((a 0), .inr (5, [.ref (a 1), .ref (a 3), .ref (a 16), .ref (a 29), .ref (a 33), .ref (a 41), .ref (a 43)])), ((a 43), .inl (q 4, 2, .inr (.inr (.inr (.inr (fun _ => none))))))]) [0, 43] rfl
  refine lv_iconst (v := 0) hx hb dX6_shelvesUsed_0 (by decide) ?_
  refine lv_istore_n (lv' := [(1, .int 0), (0, .ref (a 0))]) hx hb dX6_shelvesUsed_1 rfl hl (by decide) rfl (fun ls hl => ?_)
  refine lv_iconst (v := 0) hx hb dX6_shelvesUsed_2 (by decide) ?_
  refine lv_istore_n (lv' := [(2, .int 0), (1, .int 0), (0, .ref (a 0))]) hx hb dX6_shelvesUsed_3 rfl hl (by decide) rfl (fun ls hl => ?_)
  refine lv_iload_n hx hb dX6_shelvesUsed_4 rfl (lv_at hl 0 rfl) ?_
  refine lv_iconst (v := 2) hx hb dX6_shelvesUsed_5 (by decide) ?_
  refine lv_icmp_ge (tgt := 30) hx hb dX6_shelvesUsed_6 (by decide) (fun c9 => absurd c9 (by decide)) (fun c_1 => ?_)
  refine lv_aload_n hx hb dX6_shelvesUsed_9 rfl (lv_at hl 2 rfl) ?_
  refine fl_get (C := RX6) (T := TX6) (N := 7) (ci := 5) (v := .ref (a 43)) hx hb ht in_X6 hown hK hP 0 rfl rfl 6 (by decide) mw_361 rfl dX6_shelvesUsed_10 ?_
  refine lv_iload_n hx hb dX6_shelvesUsed_13 rfl (lv_at hl 0 rfl) ?_
  refine va_aldq hx hb hK hP 1 4 rfl rfl (in_c rfl) dX6_shelvesUsed_14 ?_
  refine ab_null ?_
  refine lv_ifnullN (tgt := 24) hx hb dX6_shelvesUsed_15 (by decide) ?_
  refine lv_iinc (v := 1) (lv' := [(2, .int 1), (1, .int 0), (0, .ref (a 0))]) hx hb dX6_shelvesUsed_24 hl (k := 0) rfl (by decide) (by decide) rfl (fun ls hl => ?_)
  refine lv_goto (tgt := 4) hx hb dX6_shelvesUsed_27 (by decide) ?_
  refine lv_iload_n hx hb dX6_shelvesUsed_4 rfl (lv_at hl 0 rfl) ?_
  refine lv_iconst (v := 2) hx hb dX6_shelvesUsed_5 (by decide) ?_
  refine lv_icmp_ge (tgt := 30) hx hb dX6_shelvesUsed_6 (by decide) (fun c9 => absurd c9 (by decide)) (fun c_2 => ?_)
  refine lv_aload_n hx hb dX6_shelvesUsed_9 rfl (lv_at hl 2 rfl) ?_
  refine fl_get (C := RX6) (T := TX6) (N := 7) (ci := 5) (v := .ref (a 43)) hx hb ht in_X6 hown hK hP 0 rfl rfl 6 (by decide) mw_361 rfl dX6_shelvesUsed_10 ?_
  refine lv_iload_n hx hb dX6_shelvesUsed_13 rfl (lv_at hl 0 rfl) ?_
  refine va_aldq hx hb hK hP 1 4 rfl rfl (in_c rfl) dX6_shelvesUsed_14 ?_
  refine ab_null ?_
  refine lv_ifnullN (tgt := 24) hx hb dX6_shelvesUsed_15 (by decide) ?_
  refine lv_iinc (v := 2) (lv' := [(2, .int 2), (1, .int 0), (0, .ref (a 0))]) hx hb dX6_shelvesUsed_24 hl (k := 0) rfl (by decide) (by decide) rfl (fun ls hl => ?_)
  refine lv_goto (tgt := 4) hx hb dX6_shelvesUsed_27 (by decide) ?_
  refine lv_iload_n hx hb dX6_shelvesUsed_4 rfl (lv_at hl 0 rfl) ?_
  refine lv_iconst (v := 2) hx hb dX6_shelvesUsed_5 (by decide) ?_
  refine lv_icmp_ge (tgt := 30) hx hb dX6_shelvesUsed_6 (by decide) (fun c_3 => ?_) (fun c9 => absurd (by decide) c9)
  refine lv_iload_n hx hb dX6_shelvesUsed_30 rfl (lv_at hl 1 rfl) ?_
  exact rd_iret hx hb hr hk (rfl) dX6_shelvesUsed_31
