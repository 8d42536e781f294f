set_option maxHeartbeats 4000000 in
set_option maxRecDepth 100000 in
theorem ct_wordRead {l : Launch} {D : va_G} {q : Nat → ClassId} {h0 g0 : Nat} {i4 i5 i6 : Int32} : Met l yX5_wordRead (Cond.code yX5_wordRead cX5_wordRead 1 (some .int) :: w_all) ({ frames := 3, cells := 0, slots := 0, locals := 62 }) (rd_P D q [.ref h0] [(h0, .inr (4, [.ref g0, .int 0, .int 0, .int 0, .int i4, .int i5, .int i6]))]) (vp_Si (fun r => r = 0)) 0 0 (fun _ => False) := by
  refine rd_start (by decide) (Nat.le_of_ble_eq_true rfl) ?_
  intro p e s m below meth c ls hx hb hr hml hown ht hk hP hQ hV hl
  have hK := hQ.1
  have hown : s.vm.findClass RX5 = some m.cls := hown
  have hl : lv_has ls 1 [(0, .ref h0)] := hl
  refine lv_aload_n hx hb dX5_wordRead_0 rfl (lv_at hl 0 rfl) ?_
  refine va_ldcS (q := (q 100)) (tx := "board") hx hb hown (hQ.2.2.1 ("FlapBoard$Tape", 52, "board", 0) (List.mem_of_getElem? (i := 0) rfl)) dX5_wordRead_1 ?_
  refine vp_callSi (rd_wV (wc := [(h0, .inr (4, [.ref g0, .int 0, .int 0, .int 0, .int i4, .int i5, .int i6]))]) (As := [.ref (q 100)]) (rest := []) hx hb hml hown ht (ct_isRead_0) wd_X5_isRead mw_432 hQ hV va_S.rf (hP.sub [0] rfl) rfl rfl rfl hl.1 rfl (Nat.le_of_ble_eq_true rfl) dX5_wordRead_3 ⟨Nat.le_of_ble_eq_true rfl, Nat.le_of_ble_eq_true rfl, rfl, rfl⟩ ⟨Nat.le_of_ble_eq_true rfl, Nat.le_of_ble_eq_true rfl⟩) (fun r_1 er_1 => ?_)
  obtain rfl : r_1 = 0 := er_1
  refine lv_if_eq (tgt := 11) hx hb dX5_wordRead_6 (by decide) (fun c_2 => ?_) (fun c9 => absurd (by decide) c9)
  refine lv_aload_n hx hb dX5_wordRead_11 rfl (lv_at hl 0 rfl) ?_
  refine va_ldcS (q := (q 101)) (tx := "limit") hx hb hown (hQ.2.2.1 ("FlapBoard$Tape", 58, "limit", 1) (List.mem_of_getElem? (i := 1) rfl)) dX5_wordRead_12 ?_
  refine vp_callSi (rd_wV (wc := [(h0, .inr (4, [.ref g0, .int 0, .int 0, .int 0, .int i4, .int i5, .int i6]))]) (As := [.ref (q 101)]) (rest := []) hx hb hml hown ht (ct_isRead_1) wd_X5_isRead mw_432 hQ hV va_S.rf (hP.sub [0] rfl) rfl rfl rfl hl.1 rfl (Nat.le_of_ble_eq_true rfl) dX5_wordRead_14 ⟨Nat.le_of_ble_eq_true rfl, Nat.le_of_ble_eq_true rfl, rfl, rfl⟩ ⟨Nat.le_of_ble_eq_true rfl, Nat.le_of_ble_eq_true rfl⟩) (fun r_3 er_3 => ?_)
  obtain rfl : r_3 = 0 := er_3
  refine lv_if_eq (tgt := 22) hx hb dX5_wordRead_17 (by decide) (fun c_4 => ?_) (fun c9 => absurd (by decide) c9)
  refine lv_aload_n hx hb dX5_wordRead_22 rfl (lv_at hl 0 rfl) ?_
  refine va_ldcS (q := (q 102)) (tx := "drum") hx hb hown (hQ.2.2.1 ("FlapBoard$Tape", 60, "drum", 2) (List.mem_of_getElem? (i := 2) rfl)) dX5_wordRead_23 ?_
  refine vp_callSi (rd_wV (wc := [(h0, .inr (4, [.ref g0, .int 0, .int 0, .int 0, .int i4, .int i5, .int i6]))]) (As := [.ref (q 102)]) (rest := []) hx hb hml hown ht (ct_isRead_2) wd_X5_isRead mw_432 hQ hV va_S.rf (hP.sub [0] rfl) rfl rfl rfl hl.1 rfl (Nat.le_of_ble_eq_true rfl) dX5_wordRead_25 ⟨Nat.le_of_ble_eq_true rfl, Nat.le_of_ble_eq_true rfl, rfl, rfl⟩ ⟨Nat.le_of_ble_eq_true rfl, Nat.le_of_ble_eq_true rfl⟩) (fun r_5 er_5 => ?_)
  obtain rfl : r_5 = 0 := er_5
  refine lv_if_eq (tgt := 33) hx hb dX5_wordRead_28 (by decide) (fun c_6 => ?_) (fun c9 => absurd (by decide) c9)
  refine lv_aload_n hx hb dX5_wordRead_33 rfl (lv_at hl 0 rfl) ?_
  refine va_ldcS (q := (q 103)) (tx := "cells") hx hb hown (hQ.2.2.1 ("FlapBoard$Tape", 62, "cells", 3) (List.mem_of_getElem? (i := 3) rfl)) dX5_wordRead_34 ?_
  refine vp_callSi (rd_wV (wc := [(h0, .inr (4, [.ref g0, .int 0, .int 0, .int 0, .int i4, .int i5, .int i6]))]) (As := [.ref (q 103)]) (rest := []) hx hb hml hown ht (ct_isRead_3) wd_X5_isRead mw_432 hQ hV va_S.rf (hP.sub [0] rfl) rfl rfl rfl hl.1 rfl (Nat.le_of_ble_eq_true rfl) dX5_wordRead_36 ⟨Nat.le_of_ble_eq_true rfl, Nat.le_of_ble_eq_true rfl, rfl, rfl⟩ ⟨Nat.le_of_ble_eq_true rfl, Nat.le_of_ble_eq_true rfl⟩) (fun r_7 er_7 => ?_)
  obtain rfl : r_7 = 0 := er_7
  refine lv_if_eq (tgt := 44) hx hb dX5_wordRead_39 (by decide) (fun c_8 => ?_) (fun c9 => absurd (by decide) c9)
  refine lv_aload_n hx hb dX5_wordRead_44 rfl (lv_at hl 0 rfl) ?_
  refine va_ldcS (q := (q 104)) (tx := "worn") hx hb hown (hQ.2.2.1 ("FlapBoard$Tape", 64, "worn", 4) (List.mem_of_getElem? (i := 4) rfl)) dX5_wordRead_45 ?_
  refine vp_callSi (rd_wV (wc := [(h0, .inr (4, [.ref g0, .int 0, .int 0, .int 0, .int i4, .int i5, .int i6]))]) (As := [.ref (q 104)]) (rest := []) hx hb hml hown ht (ct_isRead_4) wd_X5_isRead mw_432 hQ hV va_S.rf (hP.sub [0] rfl) rfl rfl rfl hl.1 rfl (Nat.le_of_ble_eq_true rfl) dX5_wordRead_47 ⟨Nat.le_of_ble_eq_true rfl, Nat.le_of_ble_eq_true rfl, rfl, rfl⟩ ⟨Nat.le_of_ble_eq_true rfl, Nat.le_of_ble_eq_true rfl⟩) (fun r_9 er_9 => ?_)
  obtain rfl : r_9 = 0 := er_9
  refine lv_if_eq (tgt := 55) hx hb dX5_wordRead_50 (by decide) (fun c_10 => ?_) (fun c9 => absurd (by decide) c9)
  refine lv_aload_n hx hb dX5_wordRead_55 rfl (lv_at hl 0 rfl) ?_
  refine va_ldcS (q := (q 105)) (tx := "row") hx hb hown (hQ.2.2.1 ("FlapBoard$Tape", 66, "row", 5) (List.mem_of_getElem? (i := 5) rfl)) dX5_wordRead_56 ?_
  refine vp_callSi (rd_wV (wc := [(h0, .inr (4, [.ref g0, .int 0, .int 0, .int 0, .int i4, .int i5, .int i6]))]) (As := [.ref (q 105)]) (rest := []) hx hb hml hown ht (ct_isRead_5) wd_X5_isRead mw_432 hQ hV va_S.rf (hP.sub [0] rfl) rfl rfl rfl hl.1 rfl (Nat.le_of_ble_eq_true rfl) dX5_wordRead_58 ⟨Nat.le_of_ble_eq_true rfl, Nat.le_of_ble_eq_true rfl, rfl, rfl⟩ ⟨Nat.le_of_ble_eq_true rfl, Nat.le_of_ble_eq_true rfl⟩) (fun r_11 er_11 => ?_)
  obtain rfl : r_11 = 0 := er_11
  refine lv_if_eq (tgt := 67) hx hb dX5_wordRead_61 (by decide) (fun c_12 => ?_) (fun c9 => absurd (by decide) c9)
  refine lv_aload_n hx hb dX5_wordRead_67 rfl (lv_at hl 0 rfl) ?_
  refine va_ldcS (q := (q 106)) (tx := "lose") hx hb hown (hQ.2.2.1 ("FlapBoard$Tape", 68, "lose", 6) (List.mem_of_getElem? (i := 6) rfl)) dX5_wordRead_68 ?_
  refine vp_callSi (rd_wV (wc := [(h0, .inr (4, [.ref g0, .int 0, .int 0, .int 0, .int i4, .int i5, .int i6]))]) (As := [.ref (q 106)]) (rest := []) hx hb hml hown ht (ct_isRead_6) wd_X5_isRead mw_432 hQ hV va_S.rf (hP.sub [0] rfl) rfl rfl rfl hl.1 rfl (Nat.le_of_ble_eq_true rfl) dX5_wordRead_70 ⟨Nat.le_of_ble_eq_true rfl, Nat.le_of_ble_eq_true rfl, rfl, rfl⟩ ⟨Nat.le_of_ble_eq_true rfl, Nat.le_of_ble_eq_true rfl⟩) (fun r_13 er_13 => ?_)
  obtain rfl : r_13 = 0 := er_13
  refine lv_if_eq (tgt := 79) hx hb dX5_wordRead_73 (by decide) (fun c_14 => ?_) (fun c9 => absurd (by decide) c9)
  refine lv_aload_n hx hb dX5_wordRead_79 rfl (lv_at hl 0 rfl) ?_
  refine va_ldcS (q := (q 107)) (tx := "scroll") hx hb hown (hQ.2.2.1 ("FlapBoard$Tape", 70, "scroll", 7) (List.mem_of_getElem? (i := 7) rfl)) dX5_wordRead_80 ?_
  refine vp_callSi (rd_wV (wc := [(h0, .inr (4, [.ref g0, .int 0, .int 0, .int 0, .int i4, .int i5, .int i6]))]) (As := [.ref (q 107)]) (rest := []) hx hb hml hown ht (ct_isRead_7) wd_X5_isRead mw_432 hQ hV va_S.rf (hP.sub [0] rfl) rfl rfl rfl hl.1 rfl (Nat.le_of_ble_eq_true rfl) dX5_wordRead_82 ⟨Nat.le_of_ble_eq_true rfl, Nat.le_of_ble_eq_true rfl, rfl, rfl⟩ ⟨Nat.le_of_ble_eq_true rfl, Nat.le_of_ble_eq_true rfl⟩) (fun r_15 er_15 => ?_)
  obtain rfl : r_15 = 0 := er_15
  refine lv_if_eq (tgt := 91) hx hb dX5_wordRead_85 (by decide) (fun c_16 => ?_) (fun c9 => absurd (by decide) c9)
  refine lv_aload_n hx hb dX5_wordRead_91 rfl (lv_at hl 0 rfl) ?_
  refine va_ldcS (q := (q 108)) (tx := "home") hx hb hown (hQ.2.2.1 ("FlapBoard$Tape", 72, "home", 8) (List.mem_of_getElem? (i := 8) rfl)) dX5_wordRead_92 ?_
  refine vp_callSi (rd_wV (wc := [(h0, .inr (4, [.ref g0, .int 0, .int 0, .int 0, .int i4, .int i5, .int i6]))]) (As := [.ref (q 108)]) (rest := []) hx hb hml hown ht (ct_isRead_8) wd_X5_isRead mw_432 hQ hV va_S.rf (hP.sub [0] rfl) rfl rfl rfl hl.1 rfl (Nat.le_of_ble_eq_true rfl) dX5_wordRead_94 ⟨Nat.le_of_ble_eq_true rfl, Nat.le_of_ble_eq_true rfl, rfl, rfl⟩ ⟨Nat.le_of_ble_eq_true rfl, Nat.le_of_ble_eq_true rfl⟩) (fun r_17 er_17 => ?_)
  obtain rfl : r_17 = 0 := er_17
  refine lv_if_eq (tgt := 103) hx hb dX5_wordRead_97 (by decide) (fun c_18 => ?_) (fun c9 => absurd (by decide) c9)
  refine lv_aload_n hx hb dX5_wordRead_103 rfl (lv_at hl 0 rfl) ?_
  refine va_ldcS (q := (q 109)) (tx := "wait") hx hb hown (hQ.2.2.1 ("FlapBoard$Tape", 74, "wait", 9) (List.mem_of_getElem? (i := 9) rfl)) dX5_wordRead_104 ?_
  refine vp_callSi (rd_wV (wc := [(h0, .inr (4, [.ref g0, .int 0, .int 0, .int 0, .int i4, .int i5, .int i6]))]) (As := [.ref (q 109)]) (rest := []) hx hb hml hown ht (ct_isRead_9) wd_X5_isRead mw_432 hQ hV va_S.rf (hP.sub [0] rfl) rfl rfl rfl hl.1 rfl (Nat.le_of_ble_eq_true rfl) dX5_wordRead_106 ⟨Nat.le_of_ble_eq_true rfl, Nat.le_of_ble_eq_true rfl, rfl, rfl⟩ ⟨Nat.le_of_ble_eq_true rfl, Nat.le_of_ble_eq_true rfl⟩) (fun r_19 er_19 => ?_)
  obtain rfl : r_19 = 0 := er_19
  refine lv_if_eq (tgt := 115) hx hb dX5_wordRead_109 (by decide) (fun c_20 => ?_) (fun c9 => absurd (by decide) c9)
  refine lv_aload_n hx hb dX5_wordRead_115 rfl (lv_at hl 0 rfl) ?_
  refine va_ldcS (q := (q 110)) (tx := "settle") hx hb hown (hQ.2.2.1 ("FlapBoard$Tape", 76, "settle", 10) (List.mem_of_getElem? (i := 10) rfl)) dX5_wordRead_116 ?_
  refine vp_callSi (rd_wV (wc := [(h0, .inr (4, [.ref g0, .int 0, .int 0, .int 0, .int i4, .int i5, .int i6]))]) (As := [.ref (q 110)]) (rest := []) hx hb hml hown ht (ct_isRead_10) wd_X5_isRead mw_432 hQ hV va_S.rf (hP.sub [0] rfl) rfl rfl rfl hl.1 rfl (Nat.le_of_ble_eq_true rfl) dX5_wordRead_118 ⟨Nat.le_of_ble_eq_true rfl, Nat.le_of_ble_eq_true rfl, rfl, rfl⟩ ⟨Nat.le_of_ble_eq_true rfl, Nat.le_of_ble_eq_true rfl⟩) (fun r_21 er_21 => ?_)
  obtain rfl : r_21 = 0 := er_21
  refine lv_if_eq (tgt := 127) hx hb dX5_wordRead_121 (by decide) (fun c_22 => ?_) (fun c9 => absurd (by decide) c9)
  refine lv_aload_n hx hb dX5_wordRead_127 rfl (lv_at hl 0 rfl) ?_
  refine va_ldcS (q := (q 111)) (tx := "times") hx hb hown (hQ.2.2.1 ("FlapBoard$Tape", 78, "times", 11) (List.mem_of_getElem? (i := 11) rfl)) dX5_wordRead_128 ?_
  refine vp_callSi (rd_wV (wc := [(h0, .inr (4, [.ref g0, .int 0, .int 0, .int 0, .int i4, .int i5, .int i6]))]) (As := [.ref (q 111)]) (rest := []) hx hb hml hown ht (ct_isRead_11) wd_X5_isRead mw_432 hQ hV va_S.rf (hP.sub [0] rfl) rfl rfl rfl hl.1 rfl (Nat.le_of_ble_eq_true rfl) dX5_wordRead_130 ⟨Nat.le_of_ble_eq_true rfl, Nat.le_of_ble_eq_true rfl, rfl, rfl⟩ ⟨Nat.le_of_ble_eq_true rfl, Nat.le_of_ble_eq_true rfl⟩) (fun r_23 er_23 => ?_)
  obtain rfl : r_23 = 0 := er_23
  refine lv_if_eq (tgt := 139) hx hb dX5_wordRead_133 (by decide) (fun c_24 => ?_) (fun c9 => absurd (by decide) c9)
  refine lv_iconst (v := 0) hx hb dX5_wordRead_139 (by decide) ?_
  exact rd_iret hx hb hr hk (rfl) dX5_wordRead_140

set_option maxHeartbeats 4000000 in
set_option maxRecDepth 100000 in
theorem ct_peek {l : Launch} {D : va_G} {q : Nat → ClassId} {h0 g0 : Nat} {i4 i5 i6 : Int32} : Met l yX5_peek (Cond.code yX5_peek cX5_peek 1 (some .int) :: w_all) ({ frames := 0, cells := 0, slots := 0, locals := 0 }) (rd_P D q [.ref h0] [(h0, .inr (4, [.ref g0, .int 0, .int 0, .int 0, .int i4, .int i5, .int i6]))]) (vp_Si (fun r => r = (-1))) 0 0 (fun _ => False) := by
  refine rd_start (by decide) (Nat.le_of_ble_eq_true rfl) ?_
  intro p e s m below meth c ls hx hb hr hml hown ht hk hP hQ hV hl
  have hK := hQ.1
  have hown : s.vm.findClass RX5 = some m.cls := hown
  have hl : lv_has ls 1 [(0, .ref h0)] := hl
  refine lv_aload_n hx hb dX5_peek_0 rfl (lv_at hl 0 rfl) ?_
  refine fl_get (C := RX5) (T := TX5) (N := 7) (ci := 4) (v := .int 0) hx hb ht in_X5 hown hK hP 0 rfl rfl 2 (by decide) mw_132 rfl dX5_peek_1 ?_
  refine lv_aload_n hx hb dX5_peek_4 rfl (lv_at hl 0 rfl) ?_
  refine fl_get (C := RX5) (T := TX5) (N := 7) (ci := 4) (v := .int 0) hx hb ht in_X5 hown hK hP 0 rfl rfl 1 (by decide) mw_130 rfl dX5_peek_5 ?_
  refine lv_icmp_ge (tgt := 38) hx hb dX5_peek_8 (by decide) (fun c_1 => ?_) (fun c9 => absurd (by decide) c9)
  refine lv_aload_n hx hb dX5_peek_38 rfl (lv_at hl 0 rfl) ?_
  refine fl_get (C := RX5) (T := TX5) (N := 7) (ci := 4) (v := .int 0) hx hb ht in_X5 hown hK hP 0 rfl rfl 2 (by decide) mw_132 rfl dX5_peek_39 ?_
  refine lv_aload_n hx hb dX5_peek_42 rfl (lv_at hl 0 rfl) ?_
  refine fl_get (C := RX5) (T := TX5) (N := 7) (ci := 4) (v := .int 0) hx hb ht in_X5 hown hK hP 0 rfl rfl 1 (by decide) mw_130 rfl dX5_peek_43 ?_
  refine lv_icmp_ge (tgt := 61) hx hb dX5_peek_46 (by decide) (fun c_2 => ?_) (fun c9 => absurd (by decide) c9)
  refine lv_iconst (v := (-1)) hx hb dX5_peek_61 (by decide) ?_
  exact rd_iret hx hb hr hk (rfl) dX5_peek_62

set_option maxHeartbeats 4000000 in
set_option maxRecDepth 100000 in
theorem ct_isSound_1 {l : Launch} {D : va_G} {q : Nat → ClassId} {h0 g0 : Nat} {i4 i5 : Int32} : Met l yX5_isSound (Cond.code yX5_isSound cX5_isSound 1 (some .boolean) :: w_all) ({ frames := 0, cells := 0, slots := 0, locals := 0 }) (rd_P D q [.ref h0] [(h0, .inr (4, [.ref g0, .int 0, .int 0, .int 0, .int i4, .int i5, .int 1]))]) (vp_Si (fun r => r = 0)) 0 0 (fun _ => False) := by
  refine rd_start (by decide) (Nat.le_of_ble_eq_true rfl) ?_
  intro p e s m below meth c ls hx hb hr hml hown ht hk hP hQ hV hl
  have hK := hQ.1
  have hown : s.vm.findClass RX5 = some m.cls := hown
  have hl : lv_has ls 1 [(0, .ref h0)] := hl
  refine lv_aload_n hx hb dX5_isSound_0 rfl (lv_at hl 0 rfl) ?_
  refine fl_get (C := RX5) (T := TX5) (N := 7) (ci := 4) (v := .int 1) hx hb ht in_X5 hown hK hP 0 rfl rfl 6 (by decide) mw_143 rfl dX5_isSound_1 ?_
  refine lv_if_ne (tgt := 11) hx hb dX5_isSound_4 (by decide) (fun c_1 => ?_) (fun c9 => absurd c9 (by decide))
  refine lv_iconst (v := 0) hx hb dX5_isSound_11 (by decide) ?_
  exact rd_zret hx hb hr hk rfl (rfl) dX5_isSound_12

set_option maxHeartbeats 4000000 in
set_option maxRecDepth 100000 in
theorem ct_takeWord {l : Launch} {D : va_G} {q : Nat → ClassId} {sz : Nat} {h0 g0 : Nat} {i4 i5 i6 : Int32} : Met l yX5_takeWord (Cond.code yX5_takeWord cX5_takeWord 1 (some .int) :: w_all) ({ frames := 4, cells := 0, slots := 0, locals := 82 }) (mt_P D q [.ref h0] [(h0, .inr (4, [.ref g0, .int 0, .int 0, .int 0, .int i4, .int i5, .int i6]))] sz) (va_Qi (fun r (u : Unit) => r = 0) (mt_B D [(h0, .inr (4, [.ref g0, .int 0, .int 0, .int 0, .int i4, .int i5, .int i6]))] sz (fun _ => [(h0, .inr (4, [.ref g0, .int 0, .int 0, .int 0, .int i4, .int i5, .int i6]))])) (va_A [(h0, .inr (4, [.ref g0, .int 0, .int 0, .int 0, .int i4, .int i5, .int i6]))] sz)) 0 0 (va_A [(h0, .inr (4, [.ref g0, .int 0, .int 0, .int 0, .int i4, .int i5, .int i6]))] sz) := by
  refine mt_start (by decide) (Nat.le_of_ble_eq_true rfl) ?_
  intro p e s m below meth c ls hx hb hr hml hown ht hk hin hP hQ hD hA hS hV hl
  have hK := hQ.1
  have hown : s.vm.findClass RX5 = some m.cls := hown
  have hl : lv_has ls 1 [(0, .ref h0)] := hl
  refine lv_aload_n hx hb dX5_takeWord_0 rfl (lv_at hl 0 rfl) ?_
  refine vp_callSi (rd_wV (wc := [(h0, .inr (4, [.ref g0, .int 0, .int 0, .int 0, .int i4, .int i5, .int i6]))]) (As := []) (rest := []) hx hb hml hown ht (ct_peek) wd_X5_peek mw_419 hQ hV hS (hP.sub [0] rfl) rfl rfl rfl hl.1 rfl (Nat.le_of_ble_eq_true rfl) dX5_takeWord_1 ⟨Nat.le_of_ble_eq_true rfl, Nat.le_of_ble_eq_true rfl, rfl, rfl⟩ ⟨Nat.le_of_ble_eq_true rfl, Nat.le_of_ble_eq_true rfl⟩) (fun r_1 er_1 => ?_)
  obtain rfl : r_1 = (-1) := er_1
  refine lv_pop hx hb dX5_takeWord_4 rfl ?_
  refine lv_aload_n hx hb dX5_takeWord_5 rfl (lv_at hl 0 rfl) ?_
  refine lv_aload_n hx hb dX5_takeWord_6 rfl (lv_at hl 0 rfl) ?_
  refine fl_get (C := RX5) (T := TX5) (N := 7) (ci := 4) (v := .int 0) hx hb ht in_X5 hown hK hP 0 rfl rfl 2 (by decide) mw_132 rfl dX5_takeWord_7 ?_
  refine fl_put (C := RX5) (T := TX5) (N := 7) (ci := 4) (v := .int 0) (ws2 := [(h0, .inr (4, [.ref g0, .int 0, .int 0, .int 0, .int i4, .int i5, .int i6]))]) hx hb ht in_X5 tyX5_ok nmX5 hown hK hP hD hS 0 rfl rfl 3 (by decide) mw_135 rfl rfl rfl (Nat.le_of_ble_eq_true rfl) dX5_takeWord_10 rfl (fun H locs hP hD hS => ?_)
  refine lv_aload_n hx hb dX5_takeWord_13 rfl (lv_at hl 0 rfl) ?_
  refine fl_get (C := RX5) (T := TX5) (N := 7) (ci := 4) (v := .int 0) hx hb ht in_X5 hown hK hP 0 rfl rfl 2 (by decide) mw_132 rfl dX5_takeWord_14 ?_
  refine lv_aload_n hx hb dX5_takeWord_17 rfl (lv_at hl 0 rfl) ?_
  refine fl_get (C := RX5) (T := TX5) (N := 7) (ci := 4) (v := .int 0) hx hb ht in_X5 hown hK hP 0 rfl rfl 1 (by decide) mw_130 rfl dX5_takeWord_18 ?_
  refine lv_icmp_ge (tgt := 63) hx hb dX5_takeWord_21 (by decide) (fun c_2 => ?_) (fun c9 => absurd (by decide) c9)
  refine lv_aload_n hx hb dX5_takeWord_63 rfl (lv_at hl 0 rfl) ?_
  refine vp_callSi (rd_wV (wc := [(h0, .inr (4, [.ref g0, .int 0, .int 0, .int 0, .int i4, .int i5, .int i6]))]) (As := []) (rest := []) hx hb hml hown ht (ct_wordRead) wd_X5_wordRead mw_427 hQ hV hS (hP.sub [0] rfl) rfl rfl rfl hl.1 rfl (Nat.le_of_ble_eq_true rfl) dX5_takeWord_64 ⟨Nat.le_of_ble_eq_true rfl, Nat.le_of_ble_eq_true rfl, rfl, rfl⟩ ⟨Nat.le_of_ble_eq_true rfl, Nat.le_of_ble_eq_true rfl⟩) (fun r_3 er_3 => ?_)
  obtain rfl : r_3 = 0 := er_3
  have hP := hP.sub (ws' := [(h0, .inr (4, [.ref g0, .int 0, .int 0, .int 0, .int i4, .int i5, .int i6]))]) [0] rfl
  have hD := hD.sub (ws' := [(h0, .inr (4, [.ref g0, .int 0, .int 0, .int 0, .int i4, .int i5, .int i6]))]) [0] (by decide) rfl
  exact mt_iret () hx hb hr hk (rfl) hP hD hS dX5_takeWord_67

set_option maxHeartbeats 4000000 in
set_option maxRecDepth 100000 in
theorem ct_blame_0 {l : Launch} {D : va_G} {q : Nat → ClassId} {sz : Nat} {h0 g0 : Nat} {i4 i5 : Int32} : Met l yX5_blame (Cond.code yX5_blame cX5_blame 3 none :: w_all) ({ frames := 0, cells := 0, slots := 0, locals := 0 }) (mt_P D q [.ref h0, .int 0, .int 1] [(h0, .inr (4, [.ref g0, .int 0, .int 0, .int 0, .int i4, .int i5, .int 0]))] sz) (va_Qv (fun u : Unit => True) (mt_B D [(h0, .inr (4, [.ref g0, .int 0, .int 0, .int 0, .int i4, .int i5, .int 0]))] sz (fun _ => [(h0, .inr (4, [.ref g0, .int 0, .int 0, .int 0, .int i4, .int i5, .int 1]))])) (va_A [(h0, .inr (4, [.ref g0, .int 0, .int 0, .int 0, .int i4, .int i5, .int 0]))] sz)) 0 0 (va_A [(h0, .inr (4, [.ref g0, .int 0, .int 0, .int 0, .int i4, .int i5, .int 0]))] sz) := by
  refine mt_start (by decide) (Nat.le_of_ble_eq_true rfl) ?_
  intro p e s m below meth c ls hx hb hr hml hown ht hk hin hP hQ hD hA hS hV hl
  have hK := hQ.1
  have hown : s.vm.findClass RX5 = some m.cls := hown
  have hl : lv_has ls 3 [(0, .ref h0), (1, .int 0), (2, .int 1)] := hl
  refine lv_aload_n hx hb dX5_blame_0 rfl (lv_at hl 0 rfl) ?_
  refine fl_get (C := RX5) (T := TX5) (N := 7) (ci := 4) (v := .int 0) hx hb ht in_X5 hown hK hP 0 rfl rfl 6 (by decide) mw_143 rfl dX5_blame_1 ?_
  refine lv_if_ne (tgt := 17) hx hb dX5_blame_4 (by decide) (fun c9 => absurd c9 (by decide)) (fun c_1 => ?_)
  refine lv_aload_n hx hb dX5_blame_7 rfl (lv_at hl 0 rfl) ?_
  refine lv_bipush (v := 8) hx hb dX5_blame_8 (by decide) ?_
  refine lv_iload_n hx hb dX5_blame_10 rfl (lv_at hl 1 rfl) ?_
  refine lv_imul hx hb dX5_blame_11 ?_
  refine ab_i (v := 0) (by decide) ?_
  refine lv_iload_n hx hb dX5_blame_12 rfl (lv_at hl 2 rfl) ?_
  refine lv_iadd hx hb dX5_blame_13 ?_
  refine ab_i (v := 1) (by decide) ?_
  refine fl_put (C := RX5) (T := TX5) (N := 7) (ci := 4) (v := .int 1) (ws2 := [(h0, .inr (4, [.ref g0, .int 0, .int 0, .int 0, .int i4, .int i5, .int 1]))]) hx hb ht in_X5 tyX5_ok nmX5 hown hK hP hD hS 0 rfl rfl 6 (by decide) mw_143 rfl rfl rfl (Nat.le_of_ble_eq_true rfl) dX5_blame_14 rfl (fun H locs hP hD hS => ?_)
  have hP := hP.sub (ws' := [(h0, .inr (4, [.ref g0, .int 0, .int 0, .int 0, .int i4, .int i5, .int 1]))]) [0] rfl
  have hD := hD.sub (ws' := [(h0, .inr (4, [.ref g0, .int 0, .int 0, .int 0, .int i4, .int i5, .int 1]))]) [0] (by decide) rfl
  exact mt_vret () hx hb hr hk (trivial) hP hD hS dX5_blame_17

set_option maxHeartbeats 4000000 in
set_option maxRecDepth 100000 in
theorem ct_blame_1 {l : Launch} {D : va_G} {q : Nat → ClassId} {sz : Nat} {h0 g0 : Nat} {i4 i5 : Int32} {x y : Int32} : Met l yX5_blame (Cond.code yX5_blame cX5_blame 3 none :: w_all) ({ frames := 0, cells := 0, slots := 0, locals := 0 }) (mt_P D q [.ref h0, .int x, .int y] [(h0, .inr (4, [.ref g0, .int 0, .int 0, .int 0, .int i4, .int i5, .int 1]))] sz) (va_Qv (fun u : Unit => True) (mt_B D [(h0, .inr (4, [.ref g0, .int 0, .int 0, .int 0, .int i4, .int i5, .int 1]))] sz (fun _ => [(h0, .inr (4, [.ref g0, .int 0, .int 0, .int 0, .int i4, .int i5, .int 1]))])) (va_A [(h0, .inr (4, [.ref g0, .int 0, .int 0, .int 0, .int i4, .int i5, .int 1]))] sz)) 0 0 (va_A [(h0, .inr (4, [.ref g0, .int 0, .int 0, .int 0, .int i4, .int i5, .int 1]))] sz) := by
  refine mt_start (by decide) (Nat.le_of_ble_eq_true rfl) ?_
  intro p e s m below meth c ls hx hb hr hml hown ht hk hin hP hQ hD hA hS hV hl
  have hK := hQ.1
  have hown : s.vm.findClass RX5 = some m.cls := hown
  have hl : lv_has ls 3 [(0, .ref h0), (1, .int x), (2, .int y)] := hl
  refine lv_aload_n hx hb dX5_blame_0 rfl (lv_at hl 0 rfl) ?_
  refine fl_get (C := RX5) (T := TX5) (N := 7) (ci := 4) (v := .int 1) hx hb ht in_X5 hown hK hP 0 rfl rfl 6 (by decide) mw_143 rfl dX5_blame_1 ?_
  refine lv_if_ne (tgt := 17) hx hb dX5_blame_4 (by decide) (fun c_1 => ?_) (fun c9 => absurd c9 (by decide))
  have hP := hP.sub (ws' := [(h0, .inr (4, [.ref g0, .int 0, .int 0, .int 0, .int i4, .int i5, .int 1]))]) [0] rfl
  have hD := hD.sub (ws' := [(h0, .inr (4, [.ref g0, .int 0, .int 0, .int 0, .int i4, .int i5, .int 1]))]) [0] (by decide) rfl
  exact mt_vret () hx hb hr hk (trivial) hP hD hS dX5_blame_17

set_option maxHeartbeats 4000000 in
set_option maxRecDepth 100000 in
theorem ct_takeThisWord_0 {l : Launch} {D : va_G} {q : Nat → ClassId} {sz : Nat} {h0 g0 : Nat} {i4 i5 : Int32} : Met l yX5_takeThisWord (Cond.code yX5_takeThisWord cX5_takeThisWord 2 none :: w_all) ({ frames := 5, cells := 0, slots := 0, locals := 102 }) (mt_P D q [.ref h0, .int 1] [(h0, .inr (4, [.ref g0, .int 0, .int 0, .int 0, .int i4, .int i5, .int 0]))] sz) (va_Qv (fun u : Unit => True) (mt_B D [(h0, .inr (4, [.ref g0, .int 0, .int 0, .int 0, .int i4, .int i5, .int 0]))] sz (fun _ => [(h0, .inr (4, [.ref g0, .int 0, .int 0, .int 0, .int i4, .int i5, .int 1]))])) (va_A [(h0, .inr (4, [.ref g0, .int 0, .int 0, .int 0, .int i4, .int i5, .int 0]))] sz)) 0 0 (va_A [(h0, .inr (4, [.ref g0, .int 0, .int 0, .int 0, .int i4, .int i5, .int 0]))] sz) := by
  refine mt_start (by decide) (Nat.le_of_ble_eq_true rfl) ?_
  intro p e s m below meth c ls hx hb hr hml hown ht hk hin hP hQ hD hA hS hV hl
  have hK := hQ.1
  have hown : s.vm.findClass RX5 = some m.cls := hown
  have hl : lv_has ls 2 [(0, .ref h0), (1, .int 1)] := hl
  refine lv_aload_n hx hb dX5_takeThisWord_0 rfl (lv_at hl 0 rfl) ?_
  refine mt_goi (mt_wV (wc := [(h0, .inr (4, [.ref g0, .int 0, .int 0, .int 0, .int i4, .int i5, .int 0]))]) (As := []) (rest := []) hx hb hml hown ht (ct_takeWord) wd_X5_takeWord mw_415 hQ hV hS hA (hP.sub [0] rfl) (hD.sub [0] (by decide) rfl) rfl rfl rfl hl.1 rfl (Nat.le_of_ble_eq_true rfl) dX5_takeThisWord_1 ⟨Nat.le_of_ble_eq_true rfl, Nat.le_of_ble_eq_true rfl, rfl, rfl⟩ ⟨Nat.le_of_ble_eq_true rfl, Nat.le_of_ble_eq_true rfl⟩) (wr := []) hP hD hS hA [0] [] rfl rfl (by decide) (by decide) (fun r_2 u_1 H locs hw hP hD hS => ?_)
  have hP : va_P D vwCl [(h0, .inr (4, [.ref g0, .int 0, .int 0, .int 0, .int i4, .int i5, .int 0]))] H := hP
  have hD : va_D _ [(h0, .inr (4, [.ref g0, .int 0, .int 0, .int 0, .int i4, .int i5, .int 0]))] := hD
  obtain rfl : r_2 = 0 := hw
  refine lv_iload_n hx hb dX5_takeThisWord_4 rfl (lv_at hl 1 rfl) ?_
  refine lv_icmp_eq (tgt := 17) hx hb dX5_takeThisWord_5 (by decide) (fun c9 => absurd c9 (by decide)) (fun c_3 => ?_)
  refine lv_aload_n hx hb dX5_takeThisWord_8 rfl (lv_at hl 0 rfl) ?_
  refine lv_aload_n hx hb dX5_takeThisWord_9 rfl (lv_at hl 0 rfl) ?_
  refine fl_get (C := RX5) (T := TX5) (N := 7) (ci := 4) (v := .int 0) hx hb ht in_X5 hown hK hP 0 rfl rfl 3 (by decide) mw_135 rfl dX5_takeThisWord_10 ?_
  refine lv_iconst (v := 1) hx hb dX5_takeThisWord_13 (by decide) ?_
  refine mt_gov (mt_wV (wc := [(h0, .inr (4, [.ref g0, .int 0, .int 0, .int 0, .int i4, .int i5, .int 0]))]) (As := [.int 0, .int 1]) (rest := []) hx hb hml hown ht (ct_blame_0) wd_X5_blame mw_495 hQ hV hS hA (hP.sub [0] rfl) (hD.sub [0] (by decide) rfl) rfl rfl rfl hl.1 rfl (Nat.le_of_ble_eq_true rfl) dX5_takeThisWord_14 ⟨Nat.le_of_ble_eq_true rfl, Nat.le_of_ble_eq_true rfl, rfl, rfl⟩ ⟨Nat.le_of_ble_eq_true rfl, Nat.le_of_ble_eq_true rfl⟩) (wr := []) hP hD hS hA [0] [] rfl rfl (by decide) (by decide) (fun u_4 H locs hw hP hD hS => ?_)
  have hP : va_P D vwCl [(h0, .inr (4, [.ref g0, .int 0, .int 0, .int 0, .int i4, .int i5, .int 1]))] H := hP
  have hD : va_D _ [(h0, .inr (4, [.ref g0, .int 0, .int 0, .int 0, .int i4, .int i5, .int 1]))] := hD
  have hP := hP.sub (ws' := [(h0, .inr (4, [.ref g0, .int 0, .int 0, .int 0, .int i4, .int i5, .int 1]))]) [0] rfl
  have hD := hD.sub (ws' := [(h0, .inr (4, [.ref g0, .int 0, .int 0, .int 0, .int i4, .int i5, .int 1]))]) [0] (by decide) rfl
  exact mt_vret () hx hb hr hk (trivial) hP hD hS dX5_takeThisWord_17

set_option maxHeartbeats 4000000 in
set_option maxRecDepth 100000 in
theorem ct_takeThisWord_1 {l : Launch} {D : va_G} {q : Nat → ClassId} {sz : Nat} {h0 g0 : Nat} {i4 i5 : Int32} : Met l yX5_takeThisWord (Cond.code yX5_takeThisWord cX5_takeThisWord 2 none :: w_all) ({ frames := 5, cells := 0, slots := 0, locals := 102 }) (mt_P D q [.ref h0, .int 2] [(h0, .inr (4, [.ref g0, .int 0, .int 0, .int 0, .int i4, .int i5, .int 1]))] sz) (va_Qv (fun u : Unit => True) (mt_B D [(h0, .inr (4, [.ref g0, .int 0, .int 0, .int 0, .int i4, .int i5, .int 1]))] sz (fun _ => [(h0, .inr (4, [.ref g0, .int 0, .int 0, .int 0, .int i4, .int i5, .int 1]))])) (va_A [(h0, .inr (4, [.ref g0, .int 0, .int 0, .int 0, .int i4, .int i5, .int 1]))] sz)) 0 0 (va_A [(h0, .inr (4, [.ref g0, .int 0, .int 0, .int 0, .int i4, .int i5, .int 1]))] sz) := by
  refine mt_start (by decide) (Nat.le_of_ble_eq_true rfl) ?_
  intro p e s m below meth c ls hx hb hr hml hown ht hk hin hP hQ hD hA hS hV hl
  have hK := hQ.1
  have hown : s.vm.findClass RX5 = some m.cls := hown
  have hl : lv_has ls 2 [(0, .ref h0), (1, .int 2)] := hl
  refine lv_aload_n hx hb dX5_takeThisWord_0 rfl (lv_at hl 0 rfl) ?_
  refine mt_goi (mt_wV (wc := [(h0, .inr (4, [.ref g0, .int 0, .int 0, .int 0, .int i4, .int i5, .int 1]))]) (As := []) (rest := []) hx hb hml hown ht (ct_takeWord) wd_X5_takeWord mw_415 hQ hV hS hA (hP.sub [0] rfl) (hD.sub [0] (by decide) rfl) rfl rfl rfl hl.1 rfl (Nat.le_of_ble_eq_true rfl) dX5_takeThisWord_1 ⟨Nat.le_of_ble_eq_true rfl, Nat.le_of_ble_eq_true rfl, rfl, rfl⟩ ⟨Nat.le_of_ble_eq_true rfl, Nat.le_of_ble_eq_true rfl⟩) (wr := []) hP hD hS hA [0] [] rfl rfl (by decide) (by decide) (fun r_2 u_1 H locs hw hP hD hS => ?_)
  have hP : va_P D vwCl [(h0, .inr (4, [.ref g0, .int 0, .int 0, .int 0, .int i4, .int i5, .int 1]))] H := hP
  have hD : va_D _ [(h0, .inr (4, [.ref g0, .int 0, .int 0, .int 0, .int i4, .int i5, .int 1]))] := hD
  obtain rfl : r_2 = 0 := hw
  refine lv_iload_n hx hb dX5_takeThisWord_4 rfl (lv_at hl 1 rfl) ?_
  refine lv_icmp_eq (tgt := 17) hx hb dX5_takeThisWord_5 (by decide) (fun c9 => absurd c9 (by decide)) (fun c_3 => ?_)
  refine lv_aload_n hx hb dX5_takeThisWord_8 rfl (lv_at hl 0 rfl) ?_
  refine lv_aload_n hx hb dX5_takeThisWord_9 rfl (lv_at hl 0 rfl) ?_
  refine fl_get (C := RX5) (T := TX5) (N := 7) (ci := 4) (v := .int 0) hx hb ht in_X5 hown hK hP 0 rfl rfl 3 (by decide) mw_135 rfl dX5_takeThisWord_10 ?_
  refine lv_iconst (v := 1) hx hb dX5_takeThisWord_13 (by decide) ?_
  refine mt_gov (mt_wV (wc := [(h0, .inr (4, [.ref g0, .int 0, .int 0, .int 0, .int i4, .int i5, .int 1]))]) (As := [.int 0, .int 1]) (rest := []) hx hb hml hown ht (ct_blame_1) wd_X5_blame mw_495 hQ hV hS hA (hP.sub [0] rfl) (hD.sub [0] (by decide) rfl) rfl rfl rfl hl.1 rfl (Nat.le_of_ble_eq_true rfl) dX5_takeThisWord_14 ⟨Nat.le_of_ble_eq_true rfl, Nat.le_of_ble_eq_true rfl, rfl, rfl⟩ ⟨Nat.le_of_ble_eq_true rfl, Nat.le_of_ble_eq_true rfl⟩) (wr := []) hP hD hS hA [0] [] rfl rfl (by decide) (by decide) (fun u_4 H locs hw hP hD hS => ?_)
  have hP : va_P D vwCl [(h0, .inr (4, [.ref g0, .int 0, .int 0, .int 0, .int i4, .int i5, .int 1]))] H := hP
  have hD : va_D _ [(h0, .inr (4, [.ref g0, .int 0, .int 0, .int 0, .int i4, .int i5, .int 1]))] := hD
  have hP := hP.sub (ws' := [(h0, .inr (4, [.ref g0, .int 0, .int 0, .int 0, .int i4, .int i5, .int 1]))]) [0] rfl
  have hD := hD.sub (ws' := [(h0, .inr (4, [.ref g0, .int 0, .int 0, .int 0, .int i4, .int i5, .int 1]))]) [0] (by decide) rfl
  exact mt_vret () hx hb hr hk (trivial) hP hD hS dX5_takeThisWord_17

set_option maxHeartbeats 4000000 in
set_option maxRecDepth 100000 in
theorem ct_takeNumber_6 {l : Launch} {D : va_G} {q : Nat → ClassId} {sz : Nat} {h0 g0 : Nat} {i4 i5 : Int32} : Met l yX5_takeNumber (Cond.code yX5_takeNumber cX5_takeNumber 4 (some .int) :: w_all) ({ frames := 1, cells := 0, slots := 0, locals := 22 }) (mt_P D q [.ref h0, .int 1, .int 6] [(h0, .inr (4, [.ref g0, .int 0, .int 0, .int 0, .int i4, .int i5, .int 1]))] sz) (va_Qi (fun r (u : Unit) => r = 1) (mt_B D [(h0, .inr (4, [.ref g0, .int 0, .int 0, .int 0, .int i4, .int i5, .int 1]))] sz (fun _ => [(h0, .inr (4, [.ref g0, .int 0, .int 0, .int 0, .int i4, .int i5, .int 1]))])) (va_A [(h0, .inr (4, [.ref g0, .int 0, .int 0, .int 0, .int i4, .int i5, .int 1]))] sz)) 0 0 (va_A [(h0, .inr (4, [.ref g0, .int 0, .int 0, .int 0, .int i4, .int i5, .int 1]))] sz) := by
  refine mt_start (by decide) (Nat.le_of_ble_eq_true rfl) ?_
  intro p e s m below meth c ls hx hb hr hml hown ht hk hin hP hQ hD hA hS hV hl
  have hK := hQ.1
  have hown : s.vm.findClass RX5 = some m.cls := hown
  have hl : lv_has ls 4 [(0, .ref h0), (1, .int 1), (2, .int 6)] := hl
  refine lv_aload_n hx hb dX5_takeNumber_0 rfl (lv_at hl 0 rfl) ?_
  refine vp_callSi (rd_wV (wc := [(h0, .inr (4, [.ref g0, .int 0, .int 0, .int 0, .int i4, .int i5, .int 1]))]) (As := []) (rest := []) hx hb hml hown ht (ct_peek) wd_X5_peek mw_419 hQ hV hS (hP.sub [0] rfl) rfl rfl rfl hl.1 rfl (Nat.le_of_ble_eq_true rfl) dX5_takeNumber_1 ⟨Nat.le_of_ble_eq_true rfl, Nat.le_of_ble_eq_true rfl, rfl, rfl⟩ ⟨Nat.le_of_ble_eq_true rfl, Nat.le_of_ble_eq_true rfl⟩) (fun r_1 er_1 => ?_)
  obtain rfl : r_1 = (-1) := er_1
  refine lv_pop hx hb dX5_takeNumber_4 rfl ?_
  refine lv_aload_n hx hb dX5_takeNumber_5 rfl (lv_at hl 0 rfl) ?_
  refine lv_aload_n hx hb dX5_takeNumber_6 rfl (lv_at hl 0 rfl) ?_
  refine fl_get (C := RX5) (T := TX5) (N := 7) (ci := 4) (v := .int 0) hx hb ht in_X5 hown hK hP 0 rfl rfl 2 (by decide) mw_132 rfl dX5_takeNumber_7 ?_
  refine fl_put (C := RX5) (T := TX5) (N := 7) (ci := 4) (v := .int 0) (ws2 := [(h0, .inr (4, [.ref g0, .int 0, .int 0, .int 0, .int i4, .int i5, .int 1]))]) hx hb ht in_X5 tyX5_ok nmX5 hown hK hP hD hS 0 rfl rfl 3 (by decide) mw_135 rfl rfl rfl (Nat.le_of_ble_eq_true rfl) dX5_takeNumber_10 rfl (fun H locs hP hD hS => ?_)
  refine lv_iconst (v := 0) hx hb dX5_takeNumber_13 (by decide) ?_
  refine lv_istore_n (lv' := [(3, .int 0), (0, .ref h0), (1, .int 1), (2, .int 6)]) hx hb dX5_takeNumber_14 rfl hl (by decide) rfl (fun ls hl => ?_)
  refine lv_aload_n hx hb dX5_takeNumber_15 rfl (lv_at hl 1 rfl) ?_
  refine fl_get (C := RX5) (T := TX5) (N := 7) (ci := 4) (v := .int 0) hx hb ht in_X5 hown hK hP 0 rfl rfl 2 (by decide) mw_132 rfl dX5_takeNumber_16 ?_
  refine lv_aload_n hx hb dX5_takeNumber_19 rfl (lv_at hl 1 rfl) ?_
  refine fl_get (C := RX5) (T := TX5) (N := 7) (ci := 4) (v := .int 0) hx hb ht in_X5 hown hK hP 0 rfl rfl 1 (by decide) mw_130 rfl dX5_takeNumber_20 ?_
  refine lv_icmp_ge (tgt := 88) hx hb dX5_takeNumber_23 (by decide) (fun c_2 => ?_) (fun c9 => absurd (by decide) c9)
  refine lv_aload_n hx hb dX5_takeNumber_88 rfl (lv_at hl 1 rfl) ?_
  refine fl_get (C := RX5) (T := TX5) (N := 7) (ci := 4) (v := .int 0) hx hb ht in_X5 hown hK hP 0 rfl rfl 2 (by decide) mw_132 rfl dX5_takeNumber_89 ?_
  refine lv_aload_n hx hb dX5_takeNumber_92 rfl (lv_at hl 1 rfl) ?_
  refine fl_get (C := RX5) (T := TX5) (N := 7) (ci := 4) (v := .int 0) hx hb ht in_X5 hown hK hP 0 rfl rfl 3 (by decide) mw_135 rfl dX5_takeNumber_93 ?_
  refine lv_icmp_ne (tgt := 110) hx hb dX5_takeNumber_96 (by decide) (fun c9 => absurd c9 (by decide)) (fun c_3 => ?_)
  refine lv_aload_n hx hb dX5_takeNumber_99 rfl (lv_at hl 1 rfl) ?_
  refine lv_aload_n hx hb dX5_takeNumber_100 rfl (lv_at hl 1 rfl) ?_
  refine fl_get (C := RX5) (T := TX5) (N := 7) (ci := 4) (v := .int 0) hx hb ht in_X5 hown hK hP 0 rfl rfl 2 (by decide) mw_132 rfl dX5_takeNumber_101 ?_
  refine lv_iconst (v := 1) hx hb dX5_takeNumber_104 (by decide) ?_
  refine mt_gov (mt_wV (wc := [(h0, .inr (4, [.ref g0, .int 0, .int 0, .int 0, .int i4, .int i5, .int 1]))]) (As := [.int 0, .int 1]) (rest := []) hx hb hml hown ht (ct_blame_1) wd_X5_blame mw_495 hQ hV hS hA (hP.sub [0] rfl) (hD.sub [0] (by decide) rfl) rfl rfl rfl hl.1 rfl (Nat.le_of_ble_eq_true rfl) dX5_takeNumber_105 ⟨Nat.le_of_ble_eq_true rfl, Nat.le_of_ble_eq_true rfl, rfl, rfl⟩ ⟨Nat.le_of_ble_eq_true rfl, Nat.le_of_ble_eq_true rfl⟩) (wr := []) hP hD hS hA [0] [] rfl rfl (by decide) (by decide) (fun u_4 H locs hw hP hD hS => ?_)
  have hP : va_P D vwCl [(h0, .inr (4, [.ref g0, .int 0, .int 0, .int 0, .int i4, .int i5, .int 1]))] H := hP
  have hD : va_D _ [(h0, .inr (4, [.ref g0, .int 0, .int 0, .int 0, .int i4, .int i5, .int 1]))] := hD
  refine lv_iload_n hx hb dX5_takeNumber_108 rfl (lv_at hl 2 rfl) ?_
  have hP := hP.sub (ws' := [(h0, .inr (4, [.ref g0, .int 0, .int 0, .int 0, .int i4, .int i5, .int 1]))]) [0] rfl
  have hD := hD.sub (ws' := [(h0, .inr (4, [.ref g0, .int 0, .int 0, .int 0, .int i4, .int i5, .int 1]))]) [0] (by decide) rfl
  exact mt_iret () hx hb hr hk (rfl) hP hD hS dX5_takeNumber_109

set_option maxHeartbeats 4000000 in
set_option maxRecDepth 100000 in
theorem ct_takeNumber_10 {l : Launch} {D : va_G} {q : Nat → ClassId} {sz : Nat} {h0 g0 : Nat} {i4 i5 : Int32} : Met l yX5_takeNumber (Cond.code yX5_takeNumber cX5_takeNumber 4 (some .int) :: w_all) ({ frames := 1, cells := 0, slots := 0, locals := 22 }) (mt_P D q [.ref h0, .int 1, .int 10] [(h0, .inr (4, [.ref g0, .int 0, .int 0, .int 0, .int i4, .int i5, .int 1]))] sz) (va_Qi (fun r (u : Unit) => r = 1) (mt_B D [(h0, .inr (4, [.ref g0, .int 0, .int 0, .int 0, .int i4, .int i5, .int 1]))] sz (fun _ => [(h0, .inr (4, [.ref g0, .int 0, .int 0, .int 0, .int i4, .int i5, .int 1]))])) (va_A [(h0, .inr (4, [.ref g0, .int 0, .int 0, .int 0, .int i4, .int i5, .int 1]))] sz)) 0 0 (va_A [(h0, .inr (4, [.ref g0, .int 0, .int 0, .int 0, .int i4, .int i5, .int 1]))] sz) := by
  refine mt_start (by decide) (Nat.le_of_ble_eq_true rfl) ?_
  intro p e s m below meth c ls hx hb hr hml hown ht hk hin hP hQ hD hA hS hV hl
  have hK := hQ.1
  have hown : s.vm.findClass RX5 = some m.cls := hown
  have hl : lv_has ls 4 [(0, .ref h0), (1, .int 1), (2, .int 10)] := hl
  refine lv_aload_n hx hb dX5_takeNumber_0 rfl (lv_at hl 0 rfl) ?_
  refine vp_callSi (rd_wV (wc := [(h0, .inr (4, [.ref g0, .int 0, .int 0, .int 0, .int i4, .int i5, .int 1]))]) (As := []) (rest := []) hx hb hml hown ht (ct_peek) wd_X5_peek mw_419 hQ hV hS (hP.sub [0] rfl) rfl rfl rfl hl.1 rfl (Nat.le_of_ble_eq_true rfl) dX5_takeNumber_1 ⟨Nat.le_of_ble_eq_true rfl, Nat.le_of_ble_eq_true rfl, rfl, rfl⟩ ⟨Nat.le_of_ble_eq_true rfl, Nat.le_of_ble_eq_true rfl⟩) (fun r_1 er_1 => ?_)
  obtain rfl : r_1 = (-1) := er_1
  refine lv_pop hx hb dX5_takeNumber_4 rfl ?_
  refine lv_aload_n hx hb dX5_takeNumber_5 rfl (lv_at hl 0 rfl) ?_
  refine lv_aload_n hx hb dX5_takeNumber_6 rfl (lv_at hl 0 rfl) ?_
  refine fl_get (C := RX5) (T := TX5) (N := 7) (ci := 4) (v := .int 0) hx hb ht in_X5 hown hK hP 0 rfl rfl 2 (by decide) mw_132 rfl dX5_takeNumber_7 ?_
  refine fl_put (C := RX5) (T := TX5) (N := 7) (ci := 4) (v := .int 0) (ws2 := [(h0, .inr (4, [.ref g0, .int 0, .int 0, .int 0, .int i4, .int i5, .int 1]))]) hx hb ht in_X5 tyX5_ok nmX5 hown hK hP hD hS 0 rfl rfl 3 (by decide) mw_135 rfl rfl rfl (Nat.le_of_ble_eq_true rfl) dX5_takeNumber_10 rfl (fun H locs hP hD hS => ?_)
  refine lv_iconst (v := 0) hx hb dX5_takeNumber_13 (by decide) ?_
  refine lv_istore_n (lv' := [(3, .int 0), (0, .ref h0), (1, .int 1), (2, .int 10)]) hx hb dX5_takeNumber_14 rfl hl (by decide) rfl (fun ls hl => ?_)
  refine lv_aload_n hx hb dX5_takeNumber_15 rfl (lv_at hl 1 rfl) ?_
  refine fl_get (C := RX5) (T := TX5) (N := 7) (ci := 4) (v := .int 0) hx hb ht in_X5 hown hK hP 0 rfl rfl 2 (by decide) mw_132 rfl dX5_takeNumber_16 ?_
  refine lv_aload_n hx hb dX5_takeNumber_19 rfl (lv_at hl 1 rfl) ?_
  refine fl_get (C := RX5) (T := TX5) (N := 7) (ci := 4) (v := .int 0) hx hb ht in_X5 hown hK hP 0 rfl rfl 1 (by decide) mw_130 rfl dX5_takeNumber_20 ?_
  refine lv_icmp_ge (tgt := 88) hx hb dX5_takeNumber_23 (by decide) (fun c_2 => ?_) (fun c9 => absurd (by decide) c9)
  refine lv_aload_n hx hb dX5_takeNumber_88 rfl (lv_at hl 1 rfl) ?_
  refine fl_get (C := RX5) (T := TX5) (N := 7) (ci := 4) (v := .int 0) hx hb ht in_X5 hown hK hP 0 rfl rfl 2 (by decide) mw_132 rfl dX5_takeNumber_89 ?_
  refine lv_aload_n hx hb dX5_takeNumber_92 rfl (lv_at hl 1 rfl) ?_
  refine fl_get (C := RX5) (T := TX5) (N := 7) (ci := 4) (v := .int 0) hx hb ht in_X5 hown hK hP 0 rfl rfl 3 (by decide) mw_135 rfl dX5_takeNumber_93 ?_
  refine lv_icmp_ne (tgt := 110) hx hb dX5_takeNumber_96 (by decide) (fun c9 => absurd c9 (by decide)) (fun c_3 => ?_)
  refine lv_aload_n hx hb dX5_takeNumber_99 rfl (lv_at hl 1 rfl) ?_
  refine lv_aload_n hx hb dX5_takeNumber_100 rfl (lv_at hl 1 rfl) ?_
  refine fl_get (C := RX5) (T := TX5) (N := 7) (ci := 4) (v := .int 0) hx hb ht in_X5 hown hK hP 0 rfl rfl 2 (by decide) mw_132 rfl dX5_takeNumber_101 ?_
  refine lv_iconst (v := 1) hx hb dX5_takeNumber_104 (by decide) ?_
  refine mt_gov (mt_wV (wc := [(h0, .inr (4, [.ref g0, .int 0, .int 0, .int 0, .int i4, .int i5, .int 1]))]) (As := [.int 0, .int 1]) (rest := []) hx hb hml hown ht (ct_blame_1) wd_X5_blame mw_495 hQ hV hS hA (hP.sub [0] rfl) (hD.sub [0] (by decide) rfl) rfl rfl rfl hl.1 rfl (Nat.le_of_ble_eq_true rfl) dX5_takeNumber_105 ⟨Nat.le_of_ble_eq_true rfl, Nat.le_of_ble_eq_true rfl, rfl, rfl⟩ ⟨Nat.le_of_ble_eq_true rfl, Nat.le_of_ble_eq_true rfl⟩) (wr := []) hP hD hS hA [0] [] rfl rfl (by decide) (by decide) (fun u_4 H locs hw hP hD hS => ?_)
  have hP : va_P D vwCl [(h0, .inr (4, [.ref g0, .int 0, .int 0, .int 0, .int i4, .int i5, .int 1]))] H := hP
  have hD : va_D _ [(h0, .inr (4, [.ref g0, .int 0, .int 0, .int 0, .int i4, .int i5, .int 1]))] := hD
  refine lv_iload_n hx hb dX5_takeNumber_108 rfl (lv_at hl 2 rfl) ?_
  have hP := hP.sub (ws' := [(h0, .inr (4, [.ref g0, .int 0, .int 0, .int 0, .int i4, .int i5, .int 1]))]) [0] rfl
  have hD := hD.sub (ws' := [(h0, .inr (4, [.ref g0, .int 0, .int 0, .int 0, .int i4, .int i5, .int 1]))]) [0] (by decide) rfl
  exact mt_iret () hx hb hr hk (rfl) hP hD hS dX5_takeNumber_109

set_option maxHeartbeats 4000000 in
set_option maxRecDepth 100000 in
theorem ct_takeNumber_99 {l : Launch} {D : va_G} {q : Nat → ClassId} {sz : Nat} {h0 g0 : Nat} {i4 i5 : Int32} : Met l yX5_takeNumber (Cond.code yX5_takeNumber cX5_takeNumber 4 (some .int) :: w_all) ({ frames := 1, cells := 0, slots := 0, locals := 22 }) (mt_P D q [.ref h0, .int 1, .int 99] [(h0, .inr (4, [.ref g0, .int 0, .int 0, .int 0, .int i4, .int i5, .int 1]))] sz) (va_Qi (fun r (u : Unit) => r = 1) (mt_B D [(h0, .inr (4, [.ref g0, .int 0, .int 0, .int 0, .int i4, .int i5, .int 1]))] sz (fun _ => [(h0, .inr (4, [.ref g0, .int 0, .int 0, .int 0, .int i4, .int i5, .int 1]))])) (va_A [(h0, .inr (4, [.ref g0, .int 0, .int 0, .int 0, .int i4, .int i5, .int 1]))] sz)) 0 0 (va_A [(h0, .inr (4, [.ref g0, .int 0, .int 0, .int 0, .int i4, .int i5, .int 1]))] sz) := by
  refine mt_start (by decide) (Nat.le_of_ble_eq_true rfl) ?_
  intro p e s m below meth c ls hx hb hr hml hown ht hk hin hP hQ hD hA hS hV hl
  have hK := hQ.1
  have hown : s.vm.findClass RX5 = some m.cls := hown
  have hl : lv_has ls 4 [(0, .ref h0), (1, .int 1), (2, .int 99)] := hl
  refine lv_aload_n hx hb dX5_takeNumber_0 rfl (lv_at hl 0 rfl) ?_
  refine vp_callSi (rd_wV (wc := [(h0, .inr (4, [.ref g0, .int 0, .int 0, .int 0, .int i4, .int i5, .int 1]))]) (As := []) (rest := []) hx hb hml hown ht (ct_peek) wd_X5_peek mw_419 hQ hV hS (hP.sub [0] rfl) rfl rfl rfl hl.1 rfl (Nat.le_of_ble_eq_true rfl) dX5_takeNumber_1 ⟨Nat.le_of_ble_eq_true rfl, Nat.le_of_ble_eq_true rfl, rfl, rfl⟩ ⟨Nat.le_of_ble_eq_true rfl, Nat.le_of_ble_eq_true rfl⟩) (fun r_1 er_1 => ?_)
  obtain rfl : r_1 = (-1) := er_1
  refine lv_pop hx hb dX5_takeNumber_4 rfl ?_
  refine lv_aload_n hx hb dX5_takeNumber_5 rfl (lv_at hl 0 rfl) ?_
  refine lv_aload_n hx hb dX5_takeNumber_6 rfl (lv_at hl 0 rfl) ?_
  refine fl_get (C := RX5) (T := TX5) (N := 7) (ci := 4) (v := .int 0) hx hb ht in_X5 hown hK hP 0 rfl rfl 2 (by decide) mw_132 rfl dX5_takeNumber_7 ?_
  refine fl_put (C := RX5) (T := TX5) (N := 7) (ci := 4) (v := .int 0) (ws2 := [(h0, .inr (4, [.ref g0, .int 0, .int 0, .int 0, .int i4, .int i5, .int 1]))]) hx hb ht in_X5 tyX5_ok nmX5 hown hK hP hD hS 0 rfl rfl 3 (by decide) mw_135 rfl rfl rfl (Nat.le_of_ble_eq_true rfl) dX5_takeNumber_10 rfl (fun H locs hP hD hS => ?_)
  refine lv_iconst (v := 0) hx hb dX5_takeNumber_13 (by decide) ?_
  refine lv_istore_n (lv' := [(3, .int 0), (0, .ref h0), (1, .int 1), (2, .int 99)]) hx hb dX5_takeNumber_14 rfl hl (by decide) rfl (fun ls hl => ?_)
  refine lv_aload_n hx hb dX5_takeNumber_15 rfl (lv_at hl 1 rfl) ?_
  refine fl_get (C := RX5) (T := TX5) (N := 7) (ci := 4) (v := .int 0) hx hb ht in_X5 hown hK hP 0 rfl rfl 2 (by decide) mw_132 rfl dX5_takeNumber_16 ?_
  refine lv_aload_n hx hb dX5_takeNumber_19 rfl (lv_at hl 1 rfl) ?_
  refine fl_get (C := RX5) (T := TX5) (N := 7) (ci := 4) (v := .int 0) hx hb ht in_X5 hown hK hP 0 rfl rfl 1 (by decide) mw_130 rfl dX5_takeNumber_20 ?_
  refine lv_icmp_ge (tgt := 88) hx hb dX5_takeNumber_23 (by decide) (fun c_2 => ?_) (fun c9 => absurd (by decide) c9)
  refine lv_aload_n hx hb dX5_takeNumber_88 rfl (lv_at hl 1 rfl) ?_
  refine fl_get (C := RX5) (T := TX5) (N := 7) (ci := 4) (v := .int 0) hx hb ht in_X5 hown hK hP 0 rfl rfl 2 (by decide) mw_132 rfl dX5_takeNumber_89 ?_
  refine lv_aload_n hx hb dX5_takeNumber_92 rfl (lv_at hl 1 rfl) ?_
  refine fl_get (C := RX5) (T := TX5) (N := 7) (ci := 4) (v := .int 0) hx hb ht in_X5 hown hK hP 0 rfl rfl 3 (by decide) mw_135 rfl dX5_takeNumber_93 ?_
  refine lv_icmp_ne (tgt := 110) hx hb dX5_takeNumber_96 (by decide) (fun c9 => absurd c9 (by decide)) (fun c_3 => ?_)
  refine lv_aload_n hx hb dX5_takeNumber_99 rfl (lv_at hl 1 rfl) ?_
  refine lv_aload_n hx hb dX5_takeNumber_100 rfl (lv_at hl 1 rfl) ?_
  refine fl_get (C := RX5) (T := TX5) (N := 7) (ci := 4) (v := .int 0) hx hb ht in_X5 hown hK hP 0 rfl rfl 2 (by decide) mw_132 rfl dX5_takeNumber_101 ?_
  refine lv_iconst (v := 1) hx hb dX5_takeNumber_104 (by decide) ?_
  refine mt_gov (mt_wV (wc := [(h0, .inr (4, [.ref g0, .int 0, .int 0, .int 0, .int i4, .int i5, .int 1]))]) (As := [.int 0, .int 1]) (rest := []) hx hb hml hown ht (ct_blame_1) wd_X5_blame mw_495 hQ hV hS hA (hP.sub [0] rfl) (hD.sub [0] (by decide) rfl) rfl rfl rfl hl.1 rfl (Nat.le_of_ble_eq_true rfl) dX5_takeNumber_105 ⟨Nat.le_of_ble_eq_true rfl, Nat.le_of_ble_eq_true rfl, rfl, rfl⟩ ⟨Nat.le_of_ble_eq_true rfl, Nat.le_of_ble_eq_true rfl⟩) (wr := []) hP hD hS hA [0] [] rfl rfl (by decide) (by decide) (fun u_4 H locs hw hP hD hS => ?_)
  have hP : va_P D vwCl [(h0, .inr (4, [.ref g0, .int 0, .int 0, .int 0, .int i4, .int i5, .int 1]))] H := hP
  have hD : va_D _ [(h0, .inr (4, [.ref g0, .int 0, .int 0, .int 0, .int i4, .int i5, .int 1]))] := hD
  refine lv_iload_n hx hb dX5_takeNumber_108 rfl (lv_at hl 2 rfl) ?_
  have hP := hP.sub (ws' := [(h0, .inr (4, [.ref g0, .int 0, .int 0, .int 0, .int i4, .int i5, .int 1]))]) [0] rfl
  have hD := hD.sub (ws' := [(h0, .inr (4, [.ref g0, .int 0, .int 0, .int 0, .int i4, .int i5, .int 1]))]) [0] (by decide) rfl
  exact mt_iret () hx hb hr hk (rfl) hP hD hS dX5_takeNumber_109

set_option maxHeartbeats 4000000 in
set_option maxRecDepth 100000 in
theorem ct_startReading {l : Launch} {D : va_G} {q : Nat → ClassId} {sz : Nat} {h0 g0 : Nat} {i2 i3 i4 i5 i6 : Int32} : Met l yX5_startReading (Cond.code yX5_startReading cX5_startReading 1 none :: w_all) ({ frames := 0, cells := 0, slots := 0, locals := 0 }) (mt_P D q [.ref h0] [(h0, .inr (4, [.ref g0, .int 0, .int i2, .int i3, .int i4, .int i5, .int i6]))] sz) (va_Qv (fun u : Unit => True) (mt_B D [(h0, .inr (4, [.ref g0, .int 0, .int i2, .int i3, .int i4, .int i5, .int i6]))] sz (fun _ => [(h0, .inr (4, [.ref g0, .int 0, .int 0, .int 0, .int 0, .int 0, .int 0]))])) (va_A [(h0, .inr (4, [.ref g0, .int 0, .int i2, .int i3, .int i4, .int i5, .int i6]))] sz)) 0 0 (va_A [(h0, .inr (4, [.ref g0, .int 0, .int i2, .int i3, .int i4, .int i5, .int i6]))] sz) := by
  refine mt_start (by decide) (Nat.le_of_ble_eq_true rfl) ?_
  intro p e s m below meth c ls hx hb hr hml hown ht hk hin hP hQ hD hA hS hV hl
  have hK := hQ.1
  have hown : s.vm.findClass RX5 = some m.cls := hown
  have hl : lv_has ls 1 [(0, .ref h0)] := hl
  refine lv_aload_n hx hb dX5_startReading_0 rfl (lv_at hl 0 rfl) ?_
  refine lv_iconst (v := 0) hx hb dX5_startReading_1 (by decide) ?_
  refine fl_put (C := RX5) (T := TX5) (N := 7) (ci := 4) (v := .int 0) (ws2 := [(h0, .inr (4, [.ref g0, .int 0, .int 0, .int i3, .int i4, .int i5, .int i6]))]) hx hb ht in_X5 tyX5_ok nmX5 hown hK hP hD hS 0 rfl rfl 2 (by decide) mw_132 rfl rfl rfl (Nat.le_of_ble_eq_true rfl) dX5_startReading_2 rfl (fun H locs hP hD hS => ?_)
  refine lv_aload_n hx hb dX5_startReading_5 rfl (lv_at hl 0 rfl) ?_
  refine lv_iconst (v := 0) hx hb dX5_startReading_6 (by decide) ?_
  refine fl_put (C := RX5) (T := TX5) (N := 7) (ci := 4) (v := .int 0) (ws2 := [(h0, .inr (4, [.ref g0, .int 0, .int 0, .int 0, .int i4, .int i5, .int i6]))]) hx hb ht in_X5 tyX5_ok nmX5 hown hK hP hD hS 0 rfl rfl 3 (by decide) mw_135 rfl rfl rfl (Nat.le_of_ble_eq_true rfl) dX5_startReading_7 rfl (fun H locs hP hD hS => ?_)
  refine lv_aload_n hx hb dX5_startReading_10 rfl (lv_at hl 0 rfl) ?_
  refine lv_iconst (v := 0) hx hb dX5_startReading_11 (by decide) ?_
  refine fl_put (C := RX5) (T := TX5) (N := 7) (ci := 4) (v := .int 0) (ws2 := [(h0, .inr (4, [.ref g0, .int 0, .int 0, .int 0, .int 0, .int i5, .int i6]))]) hx hb ht in_X5 tyX5_ok nmX5 hown hK hP hD hS 0 rfl rfl 4 (by decide) mw_137 rfl rfl rfl (Nat.le_of_ble_eq_true rfl) dX5_startReading_12 rfl (fun H locs hP hD hS => ?_)
  refine lv_aload_n hx hb dX5_startReading_15 rfl (lv_at hl 0 rfl) ?_
  refine lv_iconst (v := 0) hx hb dX5_startReading_16 (by decide) ?_
  refine fl_put (C := RX5) (T := TX5) (N := 7) (ci := 4) (v := .int 0) (ws2 := [(h0, .inr (4, [.ref g0, .int 0, .int 0, .int 0, .int 0, .int 0, .int i6]))]) hx hb ht in_X5 tyX5_ok nmX5 hown hK hP hD hS 0 rfl rfl 5 (by decide) mw_140 rfl rfl rfl (Nat.le_of_ble_eq_true rfl) dX5_startReading_17 rfl (fun H locs hP hD hS => ?_)
  refine lv_aload_n hx hb dX5_startReading_20 rfl (lv_at hl 0 rfl) ?_
  refine lv_iconst (v := 0) hx hb dX5_startReading_21 (by decide) ?_
  refine fl_put (C := RX5) (T := TX5) (N := 7) (ci := 4) (v := .int 0) (ws2 := [(h0, .inr (4, [.ref g0, .int 0, .int 0, .int 0, .int 0, .int 0, .int 0]))]) hx hb ht in_X5 tyX5_ok nmX5 hown hK hP hD hS 0 rfl rfl 6 (by decide) mw_143 rfl rfl rfl (Nat.le_of_ble_eq_true rfl) dX5_startReading_22 rfl (fun H locs hP hD hS => ?_)
  have hP := hP.sub (ws' := [(h0, .inr (4, [.ref g0, .int 0, .int 0, .int 0, .int 0, .int 0, .int 0]))]) [0] rfl
  have hD := hD.sub (ws' := [(h0, .inr (4, [.ref g0, .int 0, .int 0, .int 0, .int 0, .int 0, .int 0]))]) [0] (by decide) rfl
  exact mt_vret () hx hb hr hk (trivial) hP hD hS dX5_startReading_25

set_option maxHeartbeats 4000000 in
set_option maxRecDepth 100000 in
theorem ct_readHead {l : Launch} {D : va_G} {q : Nat → ClassId} {sz : Nat} {h0 g0 x : Nat} : Met l yX1_readHead (Cond.code yX1_readHead cX1_readHead 6 none :: w_all) ({ frames := 6, cells := 0, slots := 0, locals := 123 }) (mt_P D q [.ref x, .ref h0] [(h0, .inr (4, [.ref g0, .int 0, .int 0, .int 0, .int 0, .int 0, .int 0]))] sz) (va_Qv (fun u : Unit => True) (mt_B D [(h0, .inr (4, [.ref g0, .int 0, .int 0, .int 0, .int 0, .int 0, .int 0]))] sz (fun _ => [(h0, .inr (4, [.ref g0, .int 0, .int 0, .int 0, .int 0, .int 0, .int 1]))])) (va_A [(h0, .inr (4, [.ref g0, .int 0, .int 0, .int 0, .int 0, .int 0, .int 0]))] sz)) 0 0 (va_A [(h0, .inr (4, [.ref g0, .int 0, .int 0, .int 0, .int 0, .int 0, .int 0]))] sz) := by
  refine mt_start (by decide) (Nat.le_of_ble_eq_true rfl) ?_
  intro p e s m below meth c ls hx hb hr hml hown ht hk hin hP hQ hD hA hS hV hl
  have hK := hQ.1
  have hown : s.vm.findClass RX1 = some m.cls := hown
  have hl : lv_has ls 6 [(0, .ref x), (1, .ref h0)] := hl
  refine lv_aload_n hx hb dX1_readHead_0 rfl (lv_at hl 1 rfl) ?_
  refine lv_iconst (v := 1) hx hb dX1_readHead_1 (by decide) ?_
  refine mt_gov (mt_wV (wc := [(h0, .inr (4, [.ref g0, .int 0, .int 0, .int 0, .int 0, .int 0, .int 0]))]) (As := [.int 1]) (rest := []) hx hb hml hown ht (ct_takeThisWord_0) wd_X5_takeThisWord mw_411 hQ hV hS hA (hP.sub [0] rfl) (hD.sub [0] (by decide) rfl) rfl rfl rfl hl.1 rfl (Nat.le_of_ble_eq_true rfl) dX1_readHead_2 ⟨Nat.le_of_ble_eq_true rfl, Nat.le_of_ble_eq_true rfl, rfl, rfl⟩ ⟨Nat.le_of_ble_eq_true rfl, Nat.le_of_ble_eq_true rfl⟩) (wr := []) hP hD hS hA [0] [] rfl rfl (by decide) (by decide) (fun u_1 H locs hw hP hD hS => ?_)
  have hP : va_P D vwCl [(h0, .inr (4, [.ref g0, .int 0, .int 0, .int 0, .int 0, .int 0, .int 1]))] H := hP
  have hD : va_D _ [(h0, .inr (4, [.ref g0, .int 0, .int 0, .int 0, .int 0, .int 0, .int 1]))] := hD
  refine lv_aload_n hx hb dX1_readHead_5 rfl (lv_at hl 1 rfl) ?_
  refine lv_iconst (v := 1) hx hb dX1_readHead_6 (by decide) ?_
  refine lv_bipush (v := 6) hx hb dX1_readHead_7 (by decide) ?_
  refine mt_goi (mt_wV (wc := [(h0, .inr (4, [.ref g0, .int 0, .int 0, .int 0, .int 0, .int 0, .int 1]))]) (As := [.int 1, .int 6]) (rest := []) hx hb hml hown ht (ct_takeNumber_6) wd_X5_takeNumber mw_499 hQ hV hS hA (hP.sub [0] rfl) (hD.sub [0] (by decide) rfl) rfl rfl rfl hl.1 rfl (Nat.le_of_ble_eq_true rfl) dX1_readHead_9 ⟨Nat.le_of_ble_eq_true rfl, Nat.le_of_ble_eq_true rfl, rfl, rfl⟩ ⟨Nat.le_of_ble_eq_true rfl, Nat.le_of_ble_eq_true rfl⟩) (wr := []) hP hD hS hA [0] [] rfl rfl (by decide) (by decide) (fun r_4 u_3 H locs hw hP hD hS => ?_)
  have hP : va_P D vwCl [(h0, .inr (4, [.ref g0, .int 0, .int 0, .int 0, .int 0, .int 0, .int 1]))] H := hP
  have hD : va_D _ [(h0, .inr (4, [.ref g0, .int 0, .int 0, .int 0, .int 0, .int 0, .int 1]))] := hD
  obtain rfl : r_4 = 1 := hw
  refine lv_istore_n (lv' := [(2, .int 1), (0, .ref x), (1, .ref h0)]) hx hb dX1_readHead_12 rfl hl (by decide) rfl (fun ls hl => ?_)
  refine lv_iload_n hx hb dX1_readHead_13 rfl (lv_at hl 0 rfl) ?_
  refine lv_if_le (tgt := 24) hx hb dX1_readHead_14 (by decide) (fun c9 => absurd c9 (by decide)) (fun c_5 => ?_)
  refine lv_bipush (v := 40) hx hb dX1_readHead_17 (by decide) ?_
  refine lv_iload_n hx hb dX1_readHead_19 rfl (lv_at hl 0 rfl) ?_
  refine lv_idiv hx hb dX1_readHead_20 (by decide) ?_
  refine ab_i (v := 40) (by decide) ?_
  refine lv_goto (tgt := 25) hx hb dX1_readHead_21 (by decide) ?_
  refine lv_istore_n (lv' := [(3, .int 40), (2, .int 1), (0, .ref x), (1, .ref h0)]) hx hb dX1_readHead_25 rfl hl (by decide) rfl (fun ls hl => ?_)
  refine lv_aload_n hx hb dX1_readHead_26 rfl (lv_at hl 3 rfl) ?_
  refine lv_iconst (v := 1) hx hb dX1_readHead_27 (by decide) ?_
  refine lv_bipush (v := 10) hx hb dX1_readHead_28 (by decide) ?_
  refine lv_iload_n hx hb dX1_readHead_30 rfl (lv_at hl 0 rfl) ?_
  refine va_mmin hx hb (hml.trans hl.1.symm) hown (ht _ mw_506) (ht _ mw_504) (ht _ mw_110) (ht _ mw_505) (Nat.le_of_ble_eq_true rfl) (Nat.le_of_ble_eq_true rfl) (Nat.le_of_ble_eq_true rfl) (Nat.le_of_ble_eq_true rfl) dX1_readHead_31 ?_
  refine ab_i (v := 10) (by decide) ?_
  refine mt_goi (mt_wV (wc := [(h0, .inr (4, [.ref g0, .int 0, .int 0, .int 0, .int 0, .int 0, .int 1]))]) (As := [.int 1, .int 10]) (rest := []) hx hb hml hown ht (ct_takeNumber_10) wd_X5_takeNumber mw_499 hQ hV hS hA (hP.sub [0] rfl) (hD.sub [0] (by decide) rfl) rfl rfl rfl hl.1 rfl (Nat.le_of_ble_eq_true rfl) dX1_readHead_34 ⟨Nat.le_of_ble_eq_true rfl, Nat.le_of_ble_eq_true rfl, rfl, rfl⟩ ⟨Nat.le_of_ble_eq_true rfl, Nat.le_of_ble_eq_true rfl⟩) (wr := []) hP hD hS hA [0] [] rfl rfl (by decide) (by decide) (fun r_7 u_6 H locs hw hP hD hS => ?_)
  have hP : va_P D vwCl [(h0, .inr (4, [.ref g0, .int 0, .int 0, .int 0, .int 0, .int 0, .int 1]))] H := hP
  have hD : va_D _ [(h0, .inr (4, [.ref g0, .int 0, .int 0, .int 0, .int 0, .int 0, .int 1]))] := hD
  obtain rfl : r_7 = 1 := hw
  refine lv_istore (lv' := [(4, .int 1), (3, .int 40), (2, .int 1), (0, .ref x), (1, .ref h0)]) hx hb dX1_readHead_37 hl (by decide) rfl (fun ls hl => ?_)
  refine lv_aload_n hx hb dX1_readHead_39 rfl (lv_at hl 4 rfl) ?_
  refine lv_iconst (v := 2) hx hb dX1_readHead_40 (by decide) ?_
  refine mt_gov (mt_wV (wc := [(h0, .inr (4, [.ref g0, .int 0, .int 0, .int 0, .int 0, .int 0, .int 1]))]) (As := [.int 2]) (rest := []) hx hb hml hown ht (ct_takeThisWord_1) wd_X5_takeThisWord mw_411 hQ hV hS hA (hP.sub [0] rfl) (hD.sub [0] (by decide) rfl) rfl rfl rfl hl.1 rfl (Nat.le_of_ble_eq_true rfl) dX1_readHead_41 ⟨Nat.le_of_ble_eq_true rfl, Nat.le_of_ble_eq_true rfl, rfl, rfl⟩ ⟨Nat.le_of_ble_eq_true rfl, Nat.le_of_ble_eq_true rfl⟩) (wr := []) hP hD hS hA [0] [] rfl rfl (by decide) (by decide) (fun u_8 H locs hw hP hD hS => ?_)
  have hP : va_P D vwCl [(h0, .inr (4, [.ref g0, .int 0, .int 0, .int 0, .int 0, .int 0, .int 1]))] H := hP
  have hD : va_D _ [(h0, .inr (4, [.ref g0, .int 0, .int 0, .int 0, .int 0, .int 0, .int 1]))] := hD
  refine lv_aload_n hx hb dX1_readHead_44 rfl (lv_at hl 4 rfl) ?_
  refine lv_iconst (v := 1) hx hb dX1_readHead_45 (by decide) ?_
  refine lv_bipush (v := 99) hx hb dX1_readHead_46 (by decide) ?_
  refine mt_goi (mt_wV (wc := [(h0, .inr (4, [.ref g0, .int 0, .int 0, .int 0, .int 0, .int 0, .int 1]))]) (As := [.int 1, .int 99]) (rest := []) hx hb hml hown ht (ct_takeNumber_99) wd_X5_takeNumber mw_499 hQ hV hS hA (hP.sub [0] rfl) (hD.sub [0] (by decide) rfl) rfl rfl rfl hl.1 rfl (Nat.le_of_ble_eq_true rfl) dX1_readHead_48 ⟨Nat.le_of_ble_eq_true rfl, Nat.le_of_ble_eq_true rfl, rfl, rfl⟩ ⟨Nat.le_of_ble_eq_true rfl, Nat.le_of_ble_eq_true rfl⟩) (wr := []) hP hD hS hA [0] [] rfl rfl (by decide) (by decide) (fun r_11 u_10 H locs hw hP hD hS => ?_)
  have hP : va_P D vwCl [(h0, .inr (4, [.ref g0, .int 0, .int 0, .int 0, .int 0, .int 0, .int 1]))] H := hP
  have hD : va_D _ [(h0, .inr (4, [.ref g0, .int 0, .int 0, .int 0, .int 0, .int 0, .int 1]))] := hD
  obtain rfl : r_11 = 1 := hw
  refine lv_istore (lv' := [(5, .int 1), (4, .int 1), (3, .int 40), (2, .int 1), (0, .ref x), (1, .ref h0)]) hx hb dX1_readHead_51 hl (by decide) rfl (fun ls hl => ?_)
  refine lv_aload_n hx hb dX1_readHead_53 rfl (lv_at hl 5 rfl) ?_
  refine vp_callSi (rd_wV (wc := [(h0, .inr (4, [.ref g0, .int 0, .int 0, .int 0, .int 0, .int 0, .int 1]))]) (As := []) (rest := []) hx hb hml hown ht (ct_isSound_1) wd_X5_isSound mw_507 hQ hV hS (hP.sub [0] rfl) rfl rfl rfl hl.1 rfl (Nat.le_of_ble_eq_true rfl) dX1_readHead_54 ⟨Nat.le_of_ble_eq_true rfl, Nat.le_of_ble_eq_true rfl, rfl, rfl⟩ ⟨Nat.le_of_ble_eq_true rfl, Nat.le_of_ble_eq_true rfl⟩) (fun r_12 er_12 => ?_)
  obtain rfl : r_12 = 0 := er_12
  refine lv_if_eq (tgt := 77) hx hb dX1_readHead_57 (by decide) (fun c_13 => ?_) (fun c9 => absurd (by decide) c9)
  have hP := hP.sub (ws' := [(h0, .inr (4, [.ref g0, .int 0, .int 0, .int 0, .int 0, .int 0, .int 1]))]) [0] rfl
  have hD := hD.sub (ws' := [(h0, .inr (4, [.ref g0, .int 0, .int 0, .int 0, .int 0, .int 0, .int 1]))]) [0] (by decide) rfl
  exact mt_vret () hx hb hr hk (trivial) hP hD hS dX1_readHead_77

set_option maxHeartbeats 4000000 in
set_option maxRecDepth 100000 in
theorem ct_makeCell {l : Launch} {D : va_G} {q : Nat → ClassId} {sz : Nat} {h0 g0 g1 g2 g3 g4 g5 g6 g7 g8 g9 g10 g11 : Nat} {x : Int32} (h1 : 0 ≤ x.toInt) (h2 : x.toInt < 40) : Met l yX0_makeCell (Cond.code yX0_makeCell cX0_makeCell 3 none :: w_all) ({ frames := 0, cells := 0, slots := 0, locals := 0 }) (mt_P D q [.ref h0, .int x, .int 0] [(h0, .inr (0, [.int 0, .int 0, .int 0, .int 0, .int 0, .int 0, .ref g0, .ref g1, .ref g2, .ref g3, .ref g4, .ref g5, .ref g6, .ref g7, .ref g8, .ref g9, .ref g10, .ref g11])), (g3, .inl (q 0, 40, .inl (fun _ => 0))), (g4, .inl (q 0, 40, .inl (fun _ => 0))), (g5, .inl (q 0, 40, .inl (fun _ => 0))), (g6, .inl (q 0, 40, .inl (fun _ => 0))), (g7, .inl (q 0, 40, .inl (fun _ => 0))), (g8, .inl (q 0, 40, .inl (fun _ => 0))), (g9, .inl (q 0, 40, .inl (fun _ => 0))), (g10, .inl (q 1, 40, .inr (.inl (fun _ => 0))))] sz) (va_Qv (fun u : Unit => True) (mt_B D [(h0, .inr (0, [.int 0, .int 0, .int 0, .int 0, .int 0, .int 0, .ref g0, .ref g1, .ref g2, .ref g3, .ref g4, .ref g5, .ref g6, .ref g7, .ref g8, .ref g9, .ref g10, .ref g11])), (g3, .inl (q 0, 40, .inl (fun _ => 0))), (g4, .inl (q 0, 40, .inl (fun _ => 0))), (g5, .inl (q 0, 40, .inl (fun _ => 0))), (g6, .inl (q 0, 40, .inl (fun _ => 0))), (g7, .inl (q 0, 40, .inl (fun _ => 0))), (g8, .inl (q 0, 40, .inl (fun _ => 0))), (g9, .inl (q 0, 40, .inl (fun _ => 0))), (g10, .inl (q 1, 40, .inr (.inl (fun _ => 0))))] sz (fun _ => [(h0, .inr (0, [.int 0, .int 0, .int 0, .int 0, .int 0, .int 0, .ref g0, .ref g1, .ref g2, .ref g3, .ref g4, .ref g5, .ref g6, .ref g7, .ref g8, .ref g9, .ref g10, .ref g11])), (g3, .inl (q 0, 40, .inl (fun _ => 0))), (g4, .inl (q 0, 40, .inl (fun _ => 0))), (g5, .inl (q 0, 40, .inl (fun _ => 0))), (g6, .inl (q 0, 40, .inl (fun _ => 0))), (g7, .inl (q 0, 40, .inl (fun _ => 0))), (g8, .inl (q 0, 40, .inl (fun _ => 0))), (g9, .inl (q 0, 40, .inl (fun _ => 0))), (g10, .inl (q 1, 40, .inr (.inl (fun _ => 0))))])) (va_A [(h0, .inr (0, [.int 0, .int 0, .int 0, .int 0, .int 0, .int 0, .ref g0, .ref g1, .ref g2, .ref g3, .ref g4, .ref g5, .ref g6, .ref g7, .ref g8, .ref g9, .ref g10, .ref g11])), (g3, .inl (q 0, 40, .inl (fun _ => 0))), (g4, .inl (q 0, 40, .inl (fun _ => 0))), (g5, .inl (q 0, 40, .inl (fun _ => 0))), (g6, .inl (q 0, 40, .inl (fun _ => 0))), (g7, .inl (q 0, 40, .inl (fun _ => 0))), (g8, .inl (q 0, 40, .inl (fun _ => 0))), (g9, .inl (q 0, 40, .inl (fun _ => 0))), (g10, .inl (q 1, 40, .inr (.inl (fun _ => 0))))] sz)) 0 0 (va_A [(h0, .inr (0, [.int 0, .int 0, .int 0, .int 0, .int 0, .int 0, .ref g0, .ref g1, .ref g2, .ref g3, .ref g4, .ref g5, .ref g6, .ref g7, .ref g8, .ref g9, .ref g10, .ref g11])), (g3, .inl (q 0, 40, .inl (fun _ => 0))), (g4, .inl (q 0, 40, .inl (fun _ => 0))), (g5, .inl (q 0, 40, .inl (fun _ => 0))), (g6, .inl (q 0, 40, .inl (fun _ => 0))), (g7, .inl (q 0, 40, .inl (fun _ => 0))), (g8, .inl (q 0, 40, .inl (fun _ => 0))), (g9, .inl (q 0, 40, .inl (fun _ => 0))), (g10, .inl (q 1, 40, .inr (.inl (fun _ => 0))))] sz) := by
  refine mt_start (by decide) (Nat.le_of_ble_eq_true rfl) ?_
  intro p e s m below meth c ls hx hb hr hml hown ht hk hin hP hQ hD hA hS hV hl
  have hK := hQ.1
  have hown : s.vm.findClass RX0 = some m.cls := hown
  have hl : lv_has ls 3 [(0, .ref h0), (1, .int x), (2, .int 0)] := hl
  refine lv_aload_n hx hb dX0_makeCell_0 rfl (lv_at hl 0 rfl) ?_
  refine fl_get (C := RX0) (T := TX0) (N := 18) (ci := 0) (v := .ref g3) hx hb ht in_X0 hown hK hP 0 rfl rfl 9 (by decide) mw_192 rfl dX0_makeCell_1 ?_
  refine lv_iload_n hx hb dX0_makeCell_4 rfl (lv_at hl 1 rfl) ?_
  refine lv_iload_n hx hb dX0_makeCell_5 rfl (lv_at hl 2 rfl) ?_
  refine va_iast hx hb hK hP hD hS 1 0 rfl rfl (in_r h1 h2) dX0_makeCell_6 (fun H locs hP hD hS => ?_)
  rw [upd_0] at hP hD
  have hP : va_P D vwCl [(h0, .inr (0, [.int 0, .int 0, .int 0, .int 0, .int 0, .int 0, .ref g0, .ref g1, .ref g2, .ref g3, .ref g4, .ref g5, .ref g6, .ref g7, .ref g8, .ref g9, .ref g10, .ref g11])), (g3, .inl (q 0, 40, .inl (fun _ => 0))), (g4, .inl (q 0, 40, .inl (fun _ => 0))), (g5, .inl (q 0, 40, .inl (fun _ => 0))), (g6, .inl (q 0, 40, .inl (fun _ => 0))), (g7, .inl (q 0, 40, .inl (fun _ => 0))), (g8, .inl (q 0, 40, .inl (fun _ => 0))), (g9, .inl (q 0, 40, .inl (fun _ => 0))), (g10, .inl (q 1, 40, .inr (.inl (fun _ => 0))))] H := hP
  have hD : va_D _ [(h0, .inr (0, [.int 0, .int 0, .int 0, .int 0, .int 0, .int 0, .ref g0, .ref g1, .ref g2, .ref g3, .ref g4, .ref g5, .ref g6, .ref g7, .ref g8, .ref g9, .ref g10, .ref g11])), (g3, .inl (q 0, 40, .inl (fun _ => 0))), (g4, .inl (q 0, 40, .inl (fun _ => 0))), (g5, .inl (q 0, 40, .inl (fun _ => 0))), (g6, .inl (q 0, 40, .inl (fun _ => 0))), (g7, .inl (q 0, 40, .inl (fun _ => 0))), (g8, .inl (q 0, 40, .inl (fun _ => 0))), (g9, .inl (q 0, 40, .inl (fun _ => 0))), (g10, .inl (q 1, 40, .inr (.inl (fun _ => 0))))] := hD
  refine lv_aload_n hx hb dX0_makeCell_7 rfl (lv_at hl 0 rfl) ?_
  refine fl_get (C := RX0) (T := TX0) (N := 18) (ci := 0) (v := .ref g4) hx hb ht in_X0 hown hK hP 0 rfl rfl 10 (by decide) mw_194 rfl dX0_makeCell_8 ?_
  refine lv_iload_n hx hb dX0_makeCell_11 rfl (lv_at hl 1 rfl) ?_
  refine lv_iconst (v := 0) hx hb dX0_makeCell_12 (by decide) ?_
  refine va_iast hx hb hK hP hD hS 2 0 rfl rfl (in_r h1 h2) dX0_makeCell_13 (fun H locs hP hD hS => ?_)
  rw [upd_0] at hP hD
  have hP : va_P D vwCl [(h0, .inr (0, [.int 0, .int 0, .int 0, .int 0, .int 0, .int 0, .ref g0, .ref g1, .ref g2, .ref g3, .ref g4, .ref g5, .ref g6, .ref g7, .ref g8, .ref g9, .ref g10, .ref g11])), (g3, .inl (q 0, 40, .inl (fun _ => 0))), (g4, .inl (q 0, 40, .inl (fun _ => 0))), (g5, .inl (q 0, 40, .inl (fun _ => 0))), (g6, .inl (q 0, 40, .inl (fun _ => 0))), (g7, .inl (q 0, 40, .inl (fun _ => 0))), (g8, .inl (q 0, 40, .inl (fun _ => 0))), (g9, .inl (q 0, 40, .inl (fun _ => 0))), (g10, .inl (q 1, 40, .inr (.inl (fun _ => 0))))] H := hP
  have hD : va_D _ [(h0, .inr (0, [.int 0, .int 0, .int 0, .int 0, .int 0, .int 0, .ref g0, .ref g1, .ref g2, .ref g3, .ref g4, .ref g5, .ref g6, .ref g7, .ref g8, .ref g9, .ref g10, .ref g11])), (g3, .inl (q 0, 40, .inl (fun _ => 0))), (g4, .inl (q 0, 40, .inl (fun _ => 0))), (g5, .inl (q 0, 40, .inl (fun _ => 0))), (g6, .inl (q 0, 40, .inl (fun _ => 0))), (g7, .inl (q 0, 40, .inl (fun _ => 0))), (g8, .inl (q 0, 40, .inl (fun _ => 0))), (g9, .inl (q 0, 40, .inl (fun _ => 0))), (g10, .inl (q 1, 40, .inr (.inl (fun _ => 0))))] := hD
  refine lv_aload_n hx hb dX0_makeCell_14 rfl (lv_at hl 0 rfl) ?_
  refine fl_get (C := RX0) (T := TX0) (N := 18) (ci := 0) (v := .ref g5) hx hb ht in_X0 hown hK hP 0 rfl rfl 11 (by decide) mw_196 rfl dX0_makeCell_15 ?_
  refine lv_iload_n hx hb dX0_makeCell_18 rfl (lv_at hl 1 rfl) ?_
  refine lv_iconst (v := 0) hx hb dX0_makeCell_19 (by decide) ?_
  refine va_iast hx hb hK hP hD hS 3 0 rfl rfl (in_r h1 h2) dX0_makeCell_20 (fun H locs hP hD hS => ?_)
  rw [upd_0] at hP hD
  have hP : va_P D vwCl [(h0, .inr (0, [.int 0, .int 0, .int 0, .int 0, .int 0, .int 0, .ref g0, .ref g1, .ref g2, .ref g3, .ref g4, .ref g5, .ref g6, .ref g7, .ref g8, .ref g9, .ref g10, .ref g11])), (g3, .inl (q 0, 40, .inl (fun _ => 0))), (g4, .inl (q 0, 40, .inl (fun _ => 0))), (g5, .inl (q 0, 40, .inl (fun _ => 0))), (g6, .inl (q 0, 40, .inl (fun _ => 0))), (g7, .inl (q 0, 40, .inl (fun _ => 0))), (g8, .inl (q 0, 40, .inl (fun _ => 0))), (g9, .inl (q 0, 40, .inl (fun _ => 0))), (g10, .inl (q 1, 40, .inr (.inl (fun _ => 0))))] H := hP
  have hD : va_D _ [(h0, .inr (0, [.int 0, .int 0, .int 0, .int 0, .int 0, .int 0, .ref g0, .ref g1, .ref g2, .ref g3, .ref g4, .ref g5, .ref g6, .ref g7, .ref g8, .ref g9, .ref g10, .ref g11])), (g3, .inl (q 0, 40, .inl (fun _ => 0))), (g4, .inl (q 0, 40, .inl (fun _ => 0))), (g5, .inl (q 0, 40, .inl (fun _ => 0))), (g6, .inl (q 0, 40, .inl (fun _ => 0))), (g7, .inl (q 0, 40, .inl (fun _ => 0))), (g8, .inl (q 0, 40, .inl (fun _ => 0))), (g9, .inl (q 0, 40, .inl (fun _ => 0))), (g10, .inl (q 1, 40, .inr (.inl (fun _ => 0))))] := hD
  refine lv_aload_n hx hb dX0_makeCell_21 rfl (lv_at hl 0 rfl) ?_
  refine fl_get (C := RX0) (T := TX0) (N := 18) (ci := 0) (v := .ref g6) hx hb ht in_X0 hown hK hP 0 rfl rfl 12 (by decide) mw_198 rfl dX0_makeCell_22 ?_
  refine lv_iload_n hx hb dX0_makeCell_25 rfl (lv_at hl 1 rfl) ?_
  refine lv_iconst (v := 0) hx hb dX0_makeCell_26 (by decide) ?_
  refine va_iast hx hb hK hP hD hS 4 0 rfl rfl (in_r h1 h2) dX0_makeCell_27 (fun H locs hP hD hS => ?_)
  rw [upd_0] at hP hD
  have hP : va_P D vwCl [(h0, .inr (0, [.int 0, .int 0, .int 0, .int 0, .int 0, .int 0, .ref g0, .ref g1, .ref g2, .ref g3, .ref g4, .ref g5, .ref g6, .ref g7, .ref g8, .ref g9, .ref g10, .ref g11])), (g3, .inl (q 0, 40, .inl (fun _ => 0))), (g4, .inl (q 0, 40, .inl (fun _ => 0))), (g5, .inl (q 0, 40, .inl (fun _ => 0))), (g6, .inl (q 0, 40, .inl (fun _ => 0))), (g7, .inl (q 0, 40, .inl (fun _ => 0))), (g8, .inl (q 0, 40, .inl (fun _ => 0))), (g9, .inl (q 0, 40, .inl (fun _ => 0))), (g10, .inl (q 1, 40, .inr (.inl (fun _ => 0))))] H := hP
  have hD : va_D _ [(h0, .inr (0, [.int 0, .int 0, .int 0, .int 0, .int 0, .int 0, .ref g0, .ref g1, .ref g2, .ref g3, .ref g4, .ref g5, .ref g6, .ref g7, .ref g8, .ref g9, .ref g10, .ref g11])), (g3, .inl (q 0, 40, .inl (fun _ => 0))), (g4, .inl (q 0, 40, .inl (fun _ => 0))), (g5, .inl (q 0, 40, .inl (fun _ => 0))), (g6, .inl (q 0, 40, .inl (fun _ => 0))), (g7, .inl (q 0, 40, .inl (fun _ => 0))), (g8, .inl (q 0, 40, .inl (fun _ => 0))), (g9, .inl (q 0, 40, .inl (fun _ => 0))), (g10, .inl (q 1, 40, .inr (.inl (fun _ => 0))))] := hD
  refine lv_aload_n hx hb dX0_makeCell_28 rfl (lv_at hl 0 rfl) ?_
  refine fl_get (C := RX0) (T := TX0) (N := 18) (ci := 0) (v := .ref g7) hx hb ht in_X0 hown hK hP 0 rfl rfl 13 (by decide) mw_200 rfl dX0_makeCell_29 ?_
  refine lv_iload_n hx hb dX0_makeCell_32 rfl (lv_at hl 1 rfl) ?_
  refine lv_iconst (v := 0) hx hb dX0_makeCell_33 (by decide) ?_
  refine va_iast hx hb hK hP hD hS 5 0 rfl rfl (in_r h1 h2) dX0_makeCell_34 (fun H locs hP hD hS => ?_)
  rw [upd_0] at hP hD
  have hP : va_P D vwCl [(h0, .inr (0, [.int 0, .int 0, .int 0, .int 0, .int 0, .int 0, .ref g0, .ref g1, .ref g2, .ref g3, .ref g4, .ref g5, .ref g6, .ref g7, .ref g8, .ref g9, .ref g10, .ref g11])), (g3, .inl (q 0, 40, .inl (fun _ => 0))), (g4, .inl (q 0, 40, .inl (fun _ => 0))), (g5, .inl (q 0, 40, .inl (fun _ => 0))), (g6, .inl (q 0, 40, .inl (fun _ => 0))), (g7, .inl (q 0, 40, .inl (fun _ => 0))), (g8, .inl (q 0, 40, .inl (fun _ => 0))), (g9, .inl (q 0, 40, .inl (fun _ => 0))), (g10, .inl (q 1, 40, .inr (.inl (fun _ => 0))))] H := hP
  have hD : va_D _ [(h0, .inr (0, [.int 0, .int 0, .int 0, .int 0, .int 0, .int 0, .ref g0, .ref g1, .ref g2, .ref g3, .ref g4, .ref g5, .ref g6, .ref g7, .ref g8, .ref g9, .ref g10, .ref g11])), (g3, .inl (q 0, 40, .inl (fun _ => 0))), (g4, .inl (q 0, 40, .inl (fun _ => 0))), (g5, .inl (q 0, 40, .inl (fun _ => 0))), (g6, .inl (q 0, 40, .inl (fun _ => 0))), (g7, .inl (q 0, 40, .inl (fun _ => 0))), (g8, .inl (q 0, 40, .inl (fun _ => 0))), (g9, .inl (q 0, 40, .inl (fun _ => 0))), (g10, .inl (q 1, 40, .inr (.inl (fun _ => 0))))] := hD
  refine lv_aload_n hx hb dX0_makeCell_35 rfl (lv_at hl 0 rfl) ?_
  refine fl_get (C := RX0) (T := TX0) (N := 18) (ci := 0) (v := .ref g8) hx hb ht in_X0 hown hK hP 0 rfl rfl 14 (by decide) mw_202 rfl dX0_makeCell_36 ?_
  refine lv_iload_n hx hb dX0_makeCell_39 rfl (lv_at hl 1 rfl) ?_
  refine lv_iconst (v := 0) hx hb dX0_makeCell_40 (by decide) ?_
  refine va_iast hx hb hK hP hD hS 6 0 rfl rfl (in_r h1 h2) dX0_makeCell_41 (fun H locs hP hD hS => ?_)
  rw [upd_0] at hP hD
  have hP : va_P D vwCl [(h0, .inr (0, [.int 0, .int 0, .int 0, .int 0, .int 0, .int 0, .ref g0, .ref g1, .ref g2, .ref g3, .ref g4, .ref g5, .ref g6, .ref g7, .ref g8, .ref g9, .ref g10, .ref g11])), (g3, .inl (q 0, 40, .inl (fun _ => 0))), (g4, .inl (q 0, 40, .inl (fun _ => 0))), (g5, .inl (q 0, 40, .inl (fun _ => 0))), (g6, .inl (q 0, 40, .inl (fun _ => 0))), (g7, .inl (q 0, 40, .inl (fun _ => 0))), (g8, .inl (q 0, 40, .inl (fun _ => 0))), (g9, .inl (q 0, 40, .inl (fun _ => 0))), (g10, .inl (q 1, 40, .inr (.inl (fun _ => 0))))] H := hP
  have hD : va_D _ [(h0, .inr (0, [.int 0, .int 0, .int 0, .int 0, .int 0, .int 0, .ref g0, .ref g1, .ref g2, .ref g3, .ref g4, .ref g5, .ref g6, .ref g7, .ref g8, .ref g9, .ref g10, .ref g11])), (g3, .inl (q 0, 40, .inl (fun _ => 0))), (g4, .inl (q 0, 40, .inl (fun _ => 0))), (g5, .inl (q 0, 40, .inl (fun _ => 0))), (g6, .inl (q 0, 40, .inl (fun _ => 0))), (g7, .inl (q 0, 40, .inl (fun _ => 0))), (g8, .inl (q 0, 40, .inl (fun _ => 0))), (g9, .inl (q 0, 40, .inl (fun _ => 0))), (g10, .inl (q 1, 40, .inr (.inl (fun _ => 0))))] := hD
  refine lv_aload_n hx hb dX0_makeCell_42 rfl (lv_at hl 0 rfl) ?_
  refine fl_get (C := RX0) (T := TX0) (N := 18) (ci := 0) (v := .ref g9) hx hb ht in_X0 hown hK hP 0 rfl rfl 15 (by decide) mw_204 rfl dX0_makeCell_43 ?_
  refine lv_iload_n hx hb dX0_makeCell_46 rfl (lv_at hl 1 rfl) ?_
  refine lv_iconst (v := 0) hx hb dX0_makeCell_47 (by decide) ?_
  refine va_iast hx hb hK hP hD hS 7 0 rfl rfl (in_r h1 h2) dX0_makeCell_48 (fun H locs hP hD hS => ?_)
  rw [upd_0] at hP hD
  have hP : va_P D vwCl [(h0, .inr (0, [.int 0, .int 0, .int 0, .int 0, .int 0, .int 0, .ref g0, .ref g1, .ref g2, .ref g3, .ref g4, .ref g5, .ref g6, .ref g7, .ref g8, .ref g9, .ref g10, .ref g11])), (g3, .inl (q 0, 40, .inl (fun _ => 0))), (g4, .inl (q 0, 40, .inl (fun _ => 0))), (g5, .inl (q 0, 40, .inl (fun _ => 0))), (g6, .inl (q 0, 40, .inl (fun _ => 0))), (g7, .inl (q 0, 40, .inl (fun _ => 0))), (g8, .inl (q 0, 40, .inl (fun _ => 0))), (g9, .inl (q 0, 40, .inl (fun _ => 0))), (g10, .inl (q 1, 40, .inr (.inl (fun _ => 0))))] H := hP
  have hD : va_D _ [(h0, .inr (0, [.int 0, .int 0, .int 0, .int 0, .int 0, .int 0, .ref g0, .ref g1, .ref g2, .ref g3, .ref g4, .ref g5, .ref g6, .ref g7, .ref g8, .ref g9, .ref g10, .ref g11])), (g3, .inl (q 0, 40, .inl (fun _ => 0))), (g4, .inl (q 0, 40, .inl (fun _ => 0))), (g5, .inl (q 0, 40, .inl (fun _ => 0))), (g6, .inl (q 0, 40, .inl (fun _ => 0))), (g7, .inl (q 0, 40, .inl (fun _ => 0))), (g8, .inl (q 0, 40, .inl (fun _ => 0))), (g9, .inl (q 0, 40, .inl (fun _ => 0))), (g10, .inl (q 1, 40, .inr (.inl (fun _ => 0))))] := hD
  refine lv_aload_n hx hb dX0_makeCell_49 rfl (lv_at hl 0 rfl) ?_
  refine fl_get (C := RX0) (T := TX0) (N := 18) (ci := 0) (v := .ref g10) hx hb ht in_X0 hown hK hP 0 rfl rfl 16 (by decide) mw_206 rfl dX0_makeCell_50 ?_
  refine lv_iload_n hx hb dX0_makeCell_53 rfl (lv_at hl 1 rfl) ?_
  refine lv_lconst (v := 0) hx hb dX0_makeCell_54 (by decide) ?_
  refine va_last hx hb hK hP hD hS 8 1 rfl rfl (in_r h1 h2) dX0_makeCell_55 (fun H locs hP hD hS => ?_)
  rw [vp_updL_0] at hP hD
  have hP : va_P D vwCl [(h0, .inr (0, [.int 0, .int 0, .int 0, .int 0, .int 0, .int 0, .ref g0, .ref g1, .ref g2, .ref g3, .ref g4, .ref g5, .ref g6, .ref g7, .ref g8, .ref g9, .ref g10, .ref g11])), (g3, .inl (q 0, 40, .inl (fun _ => 0))), (g4, .inl (q 0, 40, .inl (fun _ => 0))), (g5, .inl (q 0, 40, .inl (fun _ => 0))), (g6, .inl (q 0, 40, .inl (fun _ => 0))), (g7, .inl (q 0, 40, .inl (fun _ => 0))), (g8, .inl (q 0, 40, .inl (fun _ => 0))), (g9, .inl (q 0, 40, .inl (fun _ => 0))), (g10, .inl (q 1, 40, .inr (.inl (fun _ => 0))))] H := hP
  have hD : va_D _ [(h0, .inr (0, [.int 0, .int 0, .int 0, .int 0, .int 0, .int 0, .ref g0, .ref g1, .ref g2, .ref g3, .ref g4, .ref g5, .ref g6, .ref g7, .ref g8, .ref g9, .ref g10, .ref g11])), (g3, .inl (q 0, 40, .inl (fun _ => 0))), (g4, .inl (q 0, 40, .inl (fun _ => 0))), (g5, .inl (q 0, 40, .inl (fun _ => 0))), (g6, .inl (q 0, 40, .inl (fun _ => 0))), (g7, .inl (q 0, 40, .inl (fun _ => 0))), (g8, .inl (q 0, 40, .inl (fun _ => 0))), (g9, .inl (q 0, 40, .inl (fun _ => 0))), (g10, .inl (q 1, 40, .inr (.inl (fun _ => 0))))] := hD
  have hP := hP.sub (ws' := [(h0, .inr (0, [.int 0, .int 0, .int 0, .int 0, .int 0, .int 0, .ref g0, .ref g1, .ref g2, .ref g3, .ref g4, .ref g5, .ref g6, .ref g7, .ref g8, .ref g9, .ref g10, .ref g11])), (g3, .inl (q 0, 40, .inl (fun _ => 0))), (g4, .inl (q 0, 40, .inl (fun _ => 0))), (g5, .inl (q 0, 40, .inl (fun _ => 0))), (g6, .inl (q 0, 40, .inl (fun _ => 0))), (g7, .inl (q 0, 40, .inl (fun _ => 0))), (g8, .inl (q 0, 40, .inl (fun _ => 0))), (g9, .inl (q 0, 40, .inl (fun _ => 0))), (g10, .inl (q 1, 40, .inr (.inl (fun _ => 0))))]) [0, 1, 2, 3, 4, 5, 6, 7, 8] rfl
  have hD := hD.sub (ws' := [(h0, .inr (0, [.int 0, .int 0, .int 0, .int 0, .int 0, .int 0, .ref g0, .ref g1, .ref g2, .ref g3, .ref g4, .ref g5, .ref g6, .ref g7, .ref g8, .ref g9, .ref g10, .ref g11])), (g3, .inl (q 0, 40, .inl (fun _ => 0))), (g4, .inl (q 0, 40, .inl (fun _ => 0))), (g5, .inl (q 0, 40, .inl (fun _ => 0))), (g6, .inl (q 0, 40, .inl (fun _ => 0))), (g7, .inl (q 0, 40, .inl (fun _ => 0))), (g8, .inl (q 0, 40, .inl (fun _ => 0))), (g9, .inl (q 0, 40, .inl (fun _ => 0))), (g10, .inl (q 1, 40, .inr (.inl (fun _ => 0))))]) [0, 1, 2, 3, 4, 5, 6, 7, 8] (by decide) rfl
  exact mt_vret () hx hb hr hk (trivial) hP hD hS dX0_makeCell_56

set_option maxHeartbeats 4000000 in
set_option maxRecDepth 100000 in
theorem ct_clear {l : Launch} {D : va_G} {q : Nat → ClassId} {sz : Nat} {h0 g0 g1 g2 g3 g4 g5 g6 g7 g8 g9 g10 g11 : Nat} : Met l yX0_clear (Cond.code yX0_clear cX0_clear 2 none :: w_all) ({ frames := 1, cells := 0, slots := 0, locals := 22 }) (mt_P D q [.ref h0] [(h0, .inr (0, [.int 0, .int 0, .int 0, .int 0, .int 0, .int 0, .ref g0, .ref g1, .ref g2, .ref g3, .ref g4, .ref g5, .ref g6, .ref g7, .ref g8, .ref g9, .ref g10, .ref g11])), (g3, .inl (q 0, 40, .inl (fun _ => 0))), (g4, .inl (q 0, 40, .inl (fun _ => 0))), (g5, .inl (q 0, 40, .inl (fun _ => 0))), (g6, .inl (q 0, 40, .inl (fun _ => 0))), (g7, .inl (q 0, 40, .inl (fun _ => 0))), (g8, .inl (q 0, 40, .inl (fun _ => 0))), (g9, .inl (q 0, 40, .inl (fun _ => 0))), (g10, .inl (q 1, 40, .inr (.inl (fun _ => 0))))] sz) (va_Qv (fun u : Unit => True) (mt_B D [(h0, .inr (0, [.int 0, .int 0, .int 0, .int 0, .int 0, .int 0, .ref g0, .ref g1, .ref g2, .ref g3, .ref g4, .ref g5, .ref g6, .ref g7, .ref g8, .ref g9, .ref g10, .ref g11])), (g3, .inl (q 0, 40, .inl (fun _ => 0))), (g4, .inl (q 0, 40, .inl (fun _ => 0))), (g5, .inl (q 0, 40, .inl (fun _ => 0))), (g6, .inl (q 0, 40, .inl (fun _ => 0))), (g7, .inl (q 0, 40, .inl (fun _ => 0))), (g8, .inl (q 0, 40, .inl (fun _ => 0))), (g9, .inl (q 0, 40, .inl (fun _ => 0))), (g10, .inl (q 1, 40, .inr (.inl (fun _ => 0))))] sz (fun _ => [(h0, .inr (0, [.int 0, .int 0, .int 0, .int 0, .int 0, .int 0, .ref g0, .ref g1, .ref g2, .ref g3, .ref g4, .ref g5, .ref g6, .ref g7, .ref g8, .ref g9, .ref g10, .ref g11])), (g3, .inl (q 0, 40, .inl (fun _ => 0))), (g4, .inl (q 0, 40, .inl (fun _ => 0))), (g5, .inl (q 0, 40, .inl (fun _ => 0))), (g6, .inl (q 0, 40, .inl (fun _ => 0))), (g7, .inl (q 0, 40, .inl (fun _ => 0))), (g8, .inl (q 0, 40, .inl (fun _ => 0))), (g9, .inl (q 0, 40, .inl (fun _ => 0))), (g10, .inl (q 1, 40, .inr (.inl (fun _ => 0))))])) (va_A [(h0, .inr (0, [.int 0, .int 0, .int 0, .int 0, .int 0, .int 0, .ref g0, .ref g1, .ref g2, .ref g3, .ref g4, .ref g5, .ref g6, .ref g7, .ref g8, .ref g9, .ref g10, .ref g11])), (g3, .inl (q 0, 40, .inl (fun _ => 0))), (g4, .inl (q 0, 40, .inl (fun _ => 0))), (g5, .inl (q 0, 40, .inl (fun _ => 0))), (g6, .inl (q 0, 40, .inl (fun _ => 0))), (g7, .inl (q 0, 40, .inl (fun _ => 0))), (g8, .inl (q 0, 40, .inl (fun _ => 0))), (g9, .inl (q 0, 40, .inl (fun _ => 0))), (g10, .inl (q 1, 40, .inr (.inl (fun _ => 0))))] sz)) 0 0 (va_A [(h0, .inr (0, [.int 0, .int 0, .int 0, .int 0, .int 0, .int 0, .ref g0, .ref g1, .ref g2, .ref g3, .ref g4, .ref g5, .ref g6, .ref g7, .ref g8, .ref g9, .ref g10, .ref g11])), (g3, .inl (q 0, 40, .inl (fun _ => 0))), (g4, .inl (q 0, 40, .inl (fun _ => 0))), (g5, .inl (q 0, 40, .inl (fun _ => 0))), (g6, .inl (q 0, 40, .inl (fun _ => 0))), (g7, .inl (q 0, 40, .inl (fun _ => 0))), (g8, .inl (q 0, 40, .inl (fun _ => 0))), (g9, .inl (q 0, 40, .inl (fun _ => 0))), (g10, .inl (q 1, 40, .inr (.inl (fun _ => 0))))] sz) := by
  refine mt_start (by decide) (Nat.le_of_ble_eq_true rfl) ?_
  intro p e s m below meth c ls hx hb hr hml hown ht hk hin hP hQ hD hA hS hV hl
  have hK := hQ.1
  have hown : s.vm.findClass RX0 = some m.cls := hown
  have hl : lv_has ls 2 [(0, .ref h0)] := hl
  refine lv_aload_n hx hb dX0_clear_0 rfl (lv_at hl 0 rfl) ?_
  refine lv_iconst (v := 0) hx hb dX0_clear_1 (by decide) ?_
  refine fl_put (C := RX0) (T := TX0) (N := 18) (ci := 0) (v := .int 0) (ws2 := [(h0, .inr (0, [.int 0, .int 0, .int 0, .int 0, .int 0, .int 0, .ref g0, .ref g1, .ref g2, .ref g3, .ref g4, .ref g5, .ref g6, .ref g7, .ref g8, .ref g9, .ref g10, .ref g11])), (g3, .inl (q 0, 40, .inl (fun _ => 0))), (g4, .inl (q 0, 40, .inl (fun _ => 0))), (g5, .inl (q 0, 40, .inl (fun _ => 0))), (g6, .inl (q 0, 40, .inl (fun _ => 0))), (g7, .inl (q 0, 40, .inl (fun _ => 0))), (g8, .inl (q 0, 40, .inl (fun _ => 0))), (g9, .inl (q 0, 40, .inl (fun _ => 0))), (g10, .inl (q 1, 40, .inr (.inl (fun _ => 0))))]) hx hb ht in_X0 tyX0_ok nmX0 hown hK hP hD hS 0 rfl rfl 0 (by decide) mw_167 rfl rfl rfl (Nat.le_of_ble_eq_true rfl) dX0_clear_2 rfl (fun H locs hP hD hS => ?_)
  refine lv_aload_n hx hb dX0_clear_5 rfl (lv_at hl 0 rfl) ?_
  refine lv_iconst (v := 0) hx hb dX0_clear_6 (by decide) ?_
  refine fl_put (C := RX0) (T := TX0) (N := 18) (ci := 0) (v := .int 0) (ws2 := [(h0, .inr (0, [.int 0, .int 0, .int 0, .int 0, .int 0, .int 0, .ref g0, .ref g1, .ref g2, .ref g3, .ref g4, .ref g5, .ref g6, .ref g7, .ref g8, .ref g9, .ref g10, .ref g11])), (g3, .inl (q 0, 40, .inl (fun _ => 0))), (g4, .inl (q 0, 40, .inl (fun _ => 0))), (g5, .inl (q 0, 40, .inl (fun _ => 0))), (g6, .inl (q 0, 40, .inl (fun _ => 0))), (g7, .inl (q 0, 40, .inl (fun _ => 0))), (g8, .inl (q 0, 40, .inl (fun _ => 0))), (g9, .inl (q 0, 40, .inl (fun _ => 0))), (g10, .inl (q 1, 40, .inr (.inl (fun _ => 0))))]) hx hb ht in_X0 tyX0_ok nmX0 hown hK hP hD hS 0 rfl rfl 1 (by decide) mw_171 rfl rfl rfl (Nat.le_of_ble_eq_true rfl) dX0_clear_7 rfl (fun H locs hP hD hS => ?_)
  refine lv_aload_n hx hb dX0_clear_10 rfl (lv_at hl 0 rfl) ?_
  refine lv_iconst (v := 0) hx hb dX0_clear_11 (by decide) ?_
  refine fl_put (C := RX0) (T := TX0) (N := 18) (ci := 0) (v := .int 0) (ws2 := [(h0, .inr (0, [.int 0, .int 0, .int 0, .int 0, .int 0, .int 0, .ref g0, .ref g1, .ref g2, .ref g3, .ref g4, .ref g5, .ref g6, .ref g7, .ref g8, .ref g9, .ref g10, .ref g11])), (g3, .inl (q 0, 40, .inl (fun _ => 0))), (g4, .inl (q 0, 40, .inl (fun _ => 0))), (g5, .inl (q 0, 40, .inl (fun _ => 0))), (g6, .inl (q 0, 40, .inl (fun _ => 0))), (g7, .inl (q 0, 40, .inl (fun _ => 0))), (g8, .inl (q 0, 40, .inl (fun _ => 0))), (g9, .inl (q 0, 40, .inl (fun _ => 0))), (g10, .inl (q 1, 40, .inr (.inl (fun _ => 0))))]) hx hb ht in_X0 tyX0_ok nmX0 hown hK hP hD hS 0 rfl rfl 2 (by decide) mw_175 rfl rfl rfl (Nat.le_of_ble_eq_true rfl) dX0_clear_12 rfl (fun H locs hP hD hS => ?_)
  refine lv_aload_n hx hb dX0_clear_15 rfl (lv_at hl 0 rfl) ?_
  refine lv_iconst (v := 0) hx hb dX0_clear_16 (by decide) ?_
  refine fl_put (C := RX0) (T := TX0) (N := 18) (ci := 0) (v := .int 0) (ws2 := [(h0, .inr (0, [.int 0, .int 0, .int 0, .int 0, .int 0, .int 0, .ref g0, .ref g1, .ref g2, .ref g3, .ref g4, .ref g5, .ref g6, .ref g7, .ref g8, .ref g9, .ref g10, .ref g11])), (g3, .inl (q 0, 40, .inl (fun _ => 0))), (g4, .inl (q 0, 40, .inl (fun _ => 0))), (g5, .inl (q 0, 40, .inl (fun _ => 0))), (g6, .inl (q 0, 40, .inl (fun _ => 0))), (g7, .inl (q 0, 40, .inl (fun _ => 0))), (g8, .inl (q 0, 40, .inl (fun _ => 0))), (g9, .inl (q 0, 40, .inl (fun _ => 0))), (g10, .inl (q 1, 40, .inr (.inl (fun _ => 0))))]) hx hb ht in_X0 tyX0_ok nmX0 hown hK hP hD hS 0 rfl rfl 3 (by decide) mw_179 rfl rfl rfl (Nat.le_of_ble_eq_true rfl) dX0_clear_17 rfl (fun H locs hP hD hS => ?_)
  refine lv_aload_n hx hb dX0_clear_20 rfl (lv_at hl 0 rfl) ?_
  refine lv_iconst (v := 0) hx hb dX0_clear_21 (by decide) ?_
  refine fl_put (C := RX0) (T := TX0) (N := 18) (ci := 0) (v := .int 0) (ws2 := [(h0, .inr (0, [.int 0, .int 0, .int 0, .int 0, .int 0, .int 0, .ref g0, .ref g1, .ref g2, .ref g3, .ref g4, .ref g5, .ref g6, .ref g7, .ref g8, .ref g9, .ref g10, .ref g11])), (g3, .inl (q 0, 40, .inl (fun _ => 0))), (g4, .inl (q 0, 40, .inl (fun _ => 0))), (g5, .inl (q 0, 40, .inl (fun _ => 0))), (g6, .inl (q 0, 40, .inl (fun _ => 0))), (g7, .inl (q 0, 40, .inl (fun _ => 0))), (g8, .inl (q 0, 40, .inl (fun _ => 0))), (g9, .inl (q 0, 40, .inl (fun _ => 0))), (g10, .inl (q 1, 40, .inr (.inl (fun _ => 0))))]) hx hb ht in_X0 tyX0_ok nmX0 hown hK hP hD hS 0 rfl rfl 4 (by decide) mw_182 rfl rfl rfl (Nat.le_of_ble_eq_true rfl) dX0_clear_22 rfl (fun H locs hP hD hS => ?_)
  refine lv_aload_n hx hb dX0_clear_25 rfl (lv_at hl 0 rfl) ?_
  refine lv_iconst (v := 0) hx hb dX0_clear_26 (by decide) ?_
  refine fl_put (C := RX0) (T := TX0) (N := 18) (ci := 0) (v := .int 0) (ws2 := [(h0, .inr (0, [.int 0, .int 0, .int 0, .int 0, .int 0, .int 0, .ref g0, .ref g1, .ref g2, .ref g3, .ref g4, .ref g5, .ref g6, .ref g7, .ref g8, .ref g9, .ref g10, .ref g11])), (g3, .inl (q 0, 40, .inl (fun _ => 0))), (g4, .inl (q 0, 40, .inl (fun _ => 0))), (g5, .inl (q 0, 40, .inl (fun _ => 0))), (g6, .inl (q 0, 40, .inl (fun _ => 0))), (g7, .inl (q 0, 40, .inl (fun _ => 0))), (g8, .inl (q 0, 40, .inl (fun _ => 0))), (g9, .inl (q 0, 40, .inl (fun _ => 0))), (g10, .inl (q 1, 40, .inr (.inl (fun _ => 0))))]) hx hb ht in_X0 tyX0_ok nmX0 hown hK hP hD hS 0 rfl rfl 5 (by decide) mw_185 rfl rfl rfl (Nat.le_of_ble_eq_true rfl) dX0_clear_27 rfl (fun H locs hP hD hS => ?_)
  refine lv_iconst (v := 0) hx hb dX0_clear_30 (by decide) ?_
  refine lv_istore_n (lv' := [(1, .int 0), (0, .ref h0)]) hx hb dX0_clear_31 rfl hl (by decide) rfl (fun ls hl => ?_)
  have lp : ∀ (n i : Nat), i + n = 40 → ∀ (H : Heap) (locs : List Loc) (ls : Array Slot), va_P D vwCl [(h0, .inr (0, [.int 0, .int 0, .int 0, .int 0, .int 0, .int 0, .ref g0, .ref g1, .ref g2, .ref g3, .ref g4, .ref g5, .ref g6, .ref g7, .ref g8, .ref g9, .ref g10, .ref g11])), (g3, .inl (q 0, 40, .inl (fun _ => 0))), (g4, .inl (q 0, 40, .inl (fun _ => 0))), (g5, .inl (q 0, 40, .inl (fun _ => 0))), (g6, .inl (q 0, 40, .inl (fun _ => 0))), (g7, .inl (q 0, 40, .inl (fun _ => 0))), (g8, .inl (q 0, 40, .inl (fun _ => 0))), (g9, .inl (q 0, 40, .inl (fun _ => 0))), (g10, .inl (q 1, 40, .inr (.inl (fun _ => 0))))] H → va_D (va_A [(h0, .inr (0, [.int 0, .int 0, .int 0, .int 0, .int 0, .int 0, .ref g0, .ref g1, .ref g2, .ref g3, .ref g4, .ref g5, .ref g6, .ref g7, .ref g8, .ref g9, .ref g10, .ref g11])), (g3, .inl (q 0, 40, .inl (fun _ => 0))), (g4, .inl (q 0, 40, .inl (fun _ => 0))), (g5, .inl (q 0, 40, .inl (fun _ => 0))), (g6, .inl (q 0, 40, .inl (fun _ => 0))), (g7, .inl (q 0, 40, .inl (fun _ => 0))), (g8, .inl (q 0, 40, .inl (fun _ => 0))), (g9, .inl (q 0, 40, .inl (fun _ => 0))), (g10, .inl (q 1, 40, .inr (.inl (fun _ => 0))))] sz) [(h0, .inr (0, [.int 0, .int 0, .int 0, .int 0, .int 0, .int 0, .ref g0, .ref g1, .ref g2, .ref g3, .ref g4, .ref g5, .ref g6, .ref g7, .ref g8, .ref g9, .ref g10, .ref g11])), (g3, .inl (q 0, 40, .inl (fun _ => 0))), (g4, .inl (q 0, 40, .inl (fun _ => 0))), (g5, .inl (q 0, 40, .inl (fun _ => 0))), (g6, .inl (q 0, 40, .inl (fun _ => 0))), (g7, .inl (q 0, 40, .inl (fun _ => 0))), (g8, .inl (q 0, 40, .inl (fun _ => 0))), (g9, .inl (q 0, 40, .inl (fun _ => 0))), (g10, .inl (q 1, 40, .inr (.inl (fun _ => 0))))] → va_S (va_A [(h0, .inr (0, [.int 0, .int 0, .int 0, .int 0, .int 0, .int 0, .ref g0, .ref g1, .ref g2, .ref g3, .ref g4, .ref g5, .ref g6, .ref g7, .ref g8, .ref g9, .ref g10, .ref g11])), (g3, .inl (q 0, 40, .inl (fun _ => 0))), (g4, .inl (q 0, 40, .inl (fun _ => 0))), (g5, .inl (q 0, 40, .inl (fun _ => 0))), (g6, .inl (q 0, 40, .inl (fun _ => 0))), (g7, .inl (q 0, 40, .inl (fun _ => 0))), (g8, .inl (q 0, 40, .inl (fun _ => 0))), (g9, .inl (q 0, 40, .inl (fun _ => 0))), (g10, .inl (q 1, 40, .inr (.inl (fun _ => 0))))] sz) s.heap H locs → lv_has ls 2 [(1, .int (nI i)), (0, .ref h0)] → W p l e ({ frames := 1, cells := 0, slots := 0, locals := 22 }) s m [.ref h0].toArray below meth c H locs 0 0 (MQ below (va_Qv (fun u : Unit => True) (mt_B D [(h0, .inr (0, [.int 0, .int 0, .int 0, .int 0, .int 0, .int 0, .ref g0, .ref g1, .ref g2, .ref g3, .ref g4, .ref g5, .ref g6, .ref g7, .ref g8, .ref g9, .ref g10, .ref g11])), (g3, .inl (q 0, 40, .inl (fun _ => 0))), (g4, .inl (q 0, 40, .inl (fun _ => 0))), (g5, .inl (q 0, 40, .inl (fun _ => 0))), (g6, .inl (q 0, 40, .inl (fun _ => 0))), (g7, .inl (q 0, 40, .inl (fun _ => 0))), (g8, .inl (q 0, 40, .inl (fun _ => 0))), (g9, .inl (q 0, 40, .inl (fun _ => 0))), (g10, .inl (q 1, 40, .inr (.inl (fun _ => 0))))] sz (fun _ => [(h0, .inr (0, [.int 0, .int 0, .int 0, .int 0, .int 0, .int 0, .ref g0, .ref g1, .ref g2, .ref g3, .ref g4, .ref g5, .ref g6, .ref g7, .ref g8, .ref g9, .ref g10, .ref g11])), (g3, .inl (q 0, 40, .inl (fun _ => 0))), (g4, .inl (q 0, 40, .inl (fun _ => 0))), (g5, .inl (q 0, 40, .inl (fun _ => 0))), (g6, .inl (q 0, 40, .inl (fun _ => 0))), (g7, .inl (q 0, 40, .inl (fun _ => 0))), (g8, .inl (q 0, 40, .inl (fun _ => 0))), (g9, .inl (q 0, 40, .inl (fun _ => 0))), (g10, .inl (q 1, 40, .inr (.inl (fun _ => 0))))])) (va_A [(h0, .inr (0, [.int 0, .int 0, .int 0, .int 0, .int 0, .int 0, .ref g0, .ref g1, .ref g2, .ref g3, .ref g4, .ref g5, .ref g6, .ref g7, .ref g8, .ref g9, .ref g10, .ref g11])), (g3, .inl (q 0, 40, .inl (fun _ => 0))), (g4, .inl (q 0, 40, .inl (fun _ => 0))), (g5, .inl (q 0, 40, .inl (fun _ => 0))), (g6, .inl (q 0, 40, .inl (fun _ => 0))), (g7, .inl (q 0, 40, .inl (fun _ => 0))), (g8, .inl (q 0, 40, .inl (fun _ => 0))), (g9, .inl (q 0, 40, .inl (fun _ => 0))), (g10, .inl (q 1, 40, .inr (.inl (fun _ => 0))))] sz)) [.ref h0].toArray s 0 0 (va_A [(h0, .inr (0, [.int 0, .int 0, .int 0, .int 0, .int 0, .int 0, .ref g0, .ref g1, .ref g2, .ref g3, .ref g4, .ref g5, .ref g6, .ref g7, .ref g8, .ref g9, .ref g10, .ref g11])), (g3, .inl (q 0, 40, .inl (fun _ => 0))), (g4, .inl (q 0, 40, .inl (fun _ => 0))), (g5, .inl (q 0, 40, .inl (fun _ => 0))), (g6, .inl (q 0, 40, .inl (fun _ => 0))), (g7, .inl (q 0, 40, .inl (fun _ => 0))), (g8, .inl (q 0, 40, .inl (fun _ => 0))), (g9, .inl (q 0, 40, .inl (fun _ => 0))), (g10, .inl (q 1, 40, .inr (.inl (fun _ => 0))))] sz)) (F0 m 32 ls []) := by
    intro n
    induction n with
    | zero =>
      intro i hi H locs ls hP hD hS hl
      obtain rfl : i = 40 := by omega
      have hl : lv_has ls 2 [(1, .int 40), (0, .ref h0)] := hl
      refine lv_iload_n hx hb dX0_clear_32 rfl (lv_at hl 0 rfl) ?_
      refine lv_bipush (v := 40) hx hb dX0_clear_33 (by decide) ?_
      refine lv_icmp_ge (tgt := 50) hx hb dX0_clear_35 (by decide) (fun c_1 => ?_) (fun c9 => absurd (by decide) c9)
      have hP := hP.sub (ws' := [(h0, .inr (0, [.int 0, .int 0, .int 0, .int 0, .int 0, .int 0, .ref g0, .ref g1, .ref g2, .ref g3, .ref g4, .ref g5, .ref g6, .ref g7, .ref g8, .ref g9, .ref g10, .ref g11])), (g3, .inl (q 0, 40, .inl (fun _ => 0))), (g4, .inl (q 0, 40, .inl (fun _ => 0))), (g5, .inl (q 0, 40, .inl (fun _ => 0))), (g6, .inl (q 0, 40, .inl (fun _ => 0))), (g7, .inl (q 0, 40, .inl (fun _ => 0))), (g8, .inl (q 0, 40, .inl (fun _ => 0))), (g9, .inl (q 0, 40, .inl (fun _ => 0))), (g10, .inl (q 1, 40, .inr (.inl (fun _ => 0))))]) [0, 1, 2, 3, 4, 5, 6, 7, 8] rfl
      have hD := hD.sub (ws' := [(h0, .inr (0, [.int 0, .int 0, .int 0, .int 0, .int 0, .int 0, .ref g0, .ref g1, .ref g2, .ref g3, .ref g4, .ref g5, .ref g6, .ref g7, .ref g8, .ref g9, .ref g10, .ref g11])), (g3, .inl (q 0, 40, .inl (fun _ => 0))), (g4, .inl (q 0, 40, .inl (fun _ => 0))), (g5, .inl (q 0, 40, .inl (fun _ => 0))), (g6, .inl (q 0, 40, .inl (fun _ => 0))), (g7, .inl (q 0, 40, .inl (fun _ => 0))), (g8, .inl (q 0, 40, .inl (fun _ => 0))), (g9, .inl (q 0, 40, .inl (fun _ => 0))), (g10, .inl (q 1, 40, .inr (.inl (fun _ => 0))))]) [0, 1, 2, 3, 4, 5, 6, 7, 8] (by decide) rfl
      exact mt_vret () hx hb hr hk (trivial) hP hD hS dX0_clear_50
    | succ n ih =>
      intro i hi H locs ls hP hD hS hl
      have e_i : (nI i).toInt = (i : Int) := nI_toInt (by omega)
      refine lv_iload_n hx hb dX0_clear_32 rfl (lv_at hl 0 rfl) ?_
      refine lv_bipush (v := 40) hx hb dX0_clear_33 (by decide) ?_
      refine lv_icmp_ge (tgt := 50) hx hb dX0_clear_35 (by decide) (fun c9 => by have g0 := e_i; have g1 := hi; have g2 := c9; (try simp only [lg_cmp_ge, lg_cmp_le, lg_cmp_gt, lg_cmp_lt, lg_cmp_eq] at g0 g1 g2); (try simp only [Int32.lt_iff_toInt_lt, Int32.le_iff_toInt_le, ← Int32.toInt_inj, Int32.reduceToInt, Int64.lt_iff_toInt_lt, Int64.le_iff_toInt_le, ← Int64.toInt_inj, Int64.reduceToInt, Int32.toInt_toInt64] at g0 g1 g2); omega) (fun c_2 => ?_)
      refine lv_aload_n hx hb dX0_clear_38 rfl (lv_at hl 1 rfl) ?_
      refine lv_iload_n hx hb dX0_clear_39 rfl (lv_at hl 0 rfl) ?_
      refine lv_iconst (v := 0) hx hb dX0_clear_40 (by decide) ?_
      refine mt_gov (mt_wV (wc := [(h0, .inr (0, [.int 0, .int 0, .int 0, .int 0, .int 0, .int 0, .ref g0, .ref g1, .ref g2, .ref g3, .ref g4, .ref g5, .ref g6, .ref g7, .ref g8, .ref g9, .ref g10, .ref g11])), (g3, .inl (q 0, 40, .inl (fun _ => 0))), (g4, .inl (q 0, 40, .inl (fun _ => 0))), (g5, .inl (q 0, 40, .inl (fun _ => 0))), (g6, .inl (q 0, 40, .inl (fun _ => 0))), (g7, .inl (q 0, 40, .inl (fun _ => 0))), (g8, .inl (q 0, 40, .inl (fun _ => 0))), (g9, .inl (q 0, 40, .inl (fun _ => 0))), (g10, .inl (q 1, 40, .inr (.inl (fun _ => 0))))]) (As := [.int (nI i), .int 0]) (rest := []) hx hb hml hown ht (ct_makeCell (by rw [e_i]; omega) (by rw [e_i]; omega)) wd_X0_makeCell mw_400 hQ hV hS hA (hP.sub [0, 1, 2, 3, 4, 5, 6, 7, 8] rfl) (hD.sub [0, 1, 2, 3, 4, 5, 6, 7, 8] (by decide) rfl) rfl rfl rfl hl.1 rfl (Nat.le_of_ble_eq_true rfl) dX0_clear_41 ⟨Nat.le_of_ble_eq_true rfl, Nat.le_of_ble_eq_true rfl, rfl, rfl⟩ ⟨Nat.le_of_ble_eq_true rfl, Nat.le_of_ble_eq_true rfl⟩) (wr := []) hP hD hS hA [0, 1, 2, 3, 4, 5, 6, 7, 8] [] rfl rfl (by decide) (by decide) (fun u_3 H locs hw hP hD hS => ?_)
      have hP : va_P D vwCl [(h0, .inr (0, [.int 0, .int 0, .int 0, .int 0, .int 0, .int 0, .ref g0, .ref g1, .ref g2, .ref g3, .ref g4, .ref g5, .ref g6, .ref g7, .ref g8, .ref g9, .ref g10, .ref g11])), (g3, .inl (q 0, 40, .inl (fun _ => 0))), (g4, .inl (q 0, 40, .inl (fun _ => 0))), (g5, .inl (q 0, 40, .inl (fun _ => 0))), (g6, .inl (q 0, 40, .inl (fun _ => 0))), (g7, .inl (q 0, 40, .inl (fun _ => 0))), (g8, .inl (q 0, 40, .inl (fun _ => 0))), (g9, .inl (q 0, 40, .inl (fun _ => 0))), (g10, .inl (q 1, 40, .inr (.inl (fun _ => 0))))] H := hP
      have hD : va_D _ [(h0, .inr (0, [.int 0, .int 0, .int 0, .int 0, .int 0, .int 0, .ref g0, .ref g1, .ref g2, .ref g3, .ref g4, .ref g5, .ref g6, .ref g7, .ref g8, .ref g9, .ref g10, .ref g11])), (g3, .inl (q 0, 40, .inl (fun _ => 0))), (g4, .inl (q 0, 40, .inl (fun _ => 0))), (g5, .inl (q 0, 40, .inl (fun _ => 0))), (g6, .inl (q 0, 40, .inl (fun _ => 0))), (g7, .inl (q 0, 40, .inl (fun _ => 0))), (g8, .inl (q 0, 40, .inl (fun _ => 0))), (g9, .inl (q 0, 40, .inl (fun _ => 0))), (g10, .inl (q 1, 40, .inr (.inl (fun _ => 0))))] := hD
      refine lv_iinc (v := (nI (i + 1))) (lv' := [(1, .int (nI (i + 1))), (0, .ref h0)]) hx hb dX0_clear_44 hl (k := 0) rfl (nI_inc _) (by decide) rfl (fun ls hl => ?_)
      refine lv_goto (tgt := 32) hx hb dX0_clear_47 (by decide) ?_
      exact ih (i + 1) (by omega) H locs ls (hP.sub [0, 1, 2, 3, 4, 5, 6, 7, 8] rfl) (hD.sub [0, 1, 2, 3, 4, 5, 6, 7, 8] (by decide) rfl) hS (lv_sub hl [0, 1] rfl)
  exact lp 40 0 rfl _ _ ls hP hD hS (lv_sub hl [0, 1] rfl)

set_option maxHeartbeats 4000000 in
set_option maxRecDepth 100000 in
theorem ct_readInto {l : Launch} {D : va_G} {q : Nat → ClassId} {sz : Nat} {h0 g0 : Nat} {k0 k1 k2 k3 k4 k5 k6 k7 k8 k9 k10 k11 k12 : Nat} : Met l yX1_readInto (Cond.code yX1_readInto cX1_readInto 3 none :: w_all) ({ frames := 7, cells := 0, slots := 0, locals := 148 }) (mt_P D q [.ref k0, .ref h0] [(k0, .inr (0, [.int 0, .int 0, .int 0, .int 0, .int 0, .int 0, .ref k1, .ref k2, .ref k3, .ref k4, .ref k5, .ref k6, .ref k7, .ref k8, .ref k9, .ref k10, .ref k11, .ref k12])), (k4, .inl (q 0, 40, .inl (fun _ => 0))), (k5, .inl (q 0, 40, .inl (fun _ => 0))), (k6, .inl (q 0, 40, .inl (fun _ => 0))), (k7, .inl (q 0, 40, .inl (fun _ => 0))), (k8, .inl (q 0, 40, .inl (fun _ => 0))), (k9, .inl (q 0, 40, .inl (fun _ => 0))), (k10, .inl (q 0, 40, .inl (fun _ => 0))), (k11, .inl (q 1, 40, .inr (.inl (fun _ => 0)))), (h0, .inr (4, [.ref g0, .int 0, .int 0, .int 0, .int 0, .int 0, .int 0]))] sz) (va_Qv (fun u : Unit => True) (mt_B D [(k0, .inr (0, [.int 0, .int 0, .int 0, .int 0, .int 0, .int 0, .ref k1, .ref k2, .ref k3, .ref k4, .ref k5, .ref k6, .ref k7, .ref k8, .ref k9, .ref k10, .ref k11, .ref k12])), (k4, .inl (q 0, 40, .inl (fun _ => 0))), (k5, .inl (q 0, 40, .inl (fun _ => 0))), (k6, .inl (q 0, 40, .inl (fun _ => 0))), (k7, .inl (q 0, 40, .inl (fun _ => 0))), (k8, .inl (q 0, 40, .inl (fun _ => 0))), (k9, .inl (q 0, 40, .inl (fun _ => 0))), (k10, .inl (q 0, 40, .inl (fun _ => 0))), (k11, .inl (q 1, 40, .inr (.inl (fun _ => 0)))), (h0, .inr (4, [.ref g0, .int 0, .int 0, .int 0, .int 0, .int 0, .int 0]))] sz (fun _ => [(k0, .inr (0, [.int 0, .int 0, .int 0, .int 0, .int 0, .int 0, .ref k1, .ref k2, .ref k3, .ref k4, .ref k5, .ref k6, .ref k7, .ref k8, .ref k9, .ref k10, .ref k11, .ref k12])), (k4, .inl (q 0, 40, .inl (fun _ => 0))), (k5, .inl (q 0, 40, .inl (fun _ => 0))), (k6, .inl (q 0, 40, .inl (fun _ => 0))), (k7, .inl (q 0, 40, .inl (fun _ => 0))), (k8, .inl (q 0, 40, .inl (fun _ => 0))), (k9, .inl (q 0, 40, .inl (fun _ => 0))), (k10, .inl (q 0, 40, .inl (fun _ => 0))), (k11, .inl (q 1, 40, .inr (.inl (fun _ => 0)))), (h0, .inr (4, [.ref g0, .int 0, .int 0, .int 0, .int 0, .int 0, .int 1]))])) (va_A [(k0, .inr (0, [.int 0, .int 0, .int 0, .int 0, .int 0, .int 0, .ref k1, .ref k2, .ref k3, .ref k4, .ref k5, .ref k6, .ref k7, .ref k8, .ref k9, .ref k10, .ref k11, .ref k12])), (k4, .inl (q 0, 40, .inl (fun _ => 0))), (k5, .inl (q 0, 40, .inl (fun _ => 0))), (k6, .inl (q 0, 40, .inl (fun _ => 0))), (k7, .inl (q 0, 40, .inl (fun _ => 0))), (k8, .inl (q 0, 40, .inl (fun _ => 0))), (k9, .inl (q 0, 40, .inl (fun _ => 0))), (k10, .inl (q 0, 40, .inl (fun _ => 0))), (k11, .inl (q 1, 40, .inr (.inl (fun _ => 0)))), (h0, .inr (4, [.ref g0, .int 0, .int 0, .int 0, .int 0, .int 0, .int 0]))] sz)) 0 0 (va_A [(k0, .inr (0, [.int 0, .int 0, .int 0, .int 0, .int 0, .int 0, .ref k1, .ref k2, .ref k3, .ref k4, .ref k5, .ref k6, .ref k7, .ref k8, .ref k9, .ref k10, .ref k11, .ref k12])), (k4, .inl (q 0, 40, .inl (fun _ => 0))), (k5, .inl (q 0, 40, .inl (fun _ => 0))), (k6, .inl (q 0, 40, .inl (fun _ => 0))), (k7, .inl (q 0, 40, .inl (fun _ => 0))), (k8, .inl (q 0, 40, .inl (fun _ => 0))), (k9, .inl (q 0, 40, .inl (fun _ => 0))), (k10, .inl (q 0, 40, .inl (fun _ => 0))), (k11, .inl (q 1, 40, .inr (.inl (fun _ => 0)))), (h0, .inr (4, [.ref g0, .int 0, .int 0, .int 0, .int 0, .int 0, .int 0]))] sz) := by
  refine mt_start (by decide) (Nat.le_of_ble_eq_true rfl) ?_
  intro p e s m below meth c ls hx hb hr hml hown ht hk hin hP hQ hD hA hS hV hl
  have hK := hQ.1
  have hown : s.vm.findClass RX1 = some m.cls := hown
  have hl : lv_has ls 3 [(0, .ref k0), (1, .ref h0)] := hl
  refine lv_aload_n hx hb dX1_readInto_0 rfl (lv_at hl 0 rfl) ?_
  refine mt_gov (mt_wV (wc := [(k0, .inr (0, [.int 0, .int 0, .int 0, .int 0, .int 0, .int 0, .ref k1, .ref k2, .ref k3, .ref k4, .ref k5, .ref k6, .ref k7, .ref k8, .ref k9, .ref k10, .ref k11, .ref k12])), (k4, .inl (q 0, 40, .inl (fun _ => 0))), (k5, .inl (q 0, 40, .inl (fun _ => 0))), (k6, .inl (q 0, 40, .inl (fun _ => 0))), (k7, .inl (q 0, 40, .inl (fun _ => 0))), (k8, .inl (q 0, 40, .inl (fun _ => 0))), (k9, .inl (q 0, 40, .inl (fun _ => 0))), (k10, .inl (q 0, 40, .inl (fun _ => 0))), (k11, .inl (q 1, 40, .inr (.inl (fun _ => 0))))]) (As := []) (rest := []) hx hb hml hown ht (ct_clear) wd_X0_clear mw_396 hQ hV hS hA (hP.sub [0, 1, 2, 3, 4, 5, 6, 7, 8] rfl) (hD.sub [0, 1, 2, 3, 4, 5, 6, 7, 8] (by decide) rfl) rfl rfl rfl hl.1 rfl (Nat.le_of_ble_eq_true rfl) dX1_readInto_1 ⟨Nat.le_of_ble_eq_true rfl, Nat.le_of_ble_eq_true rfl, rfl, rfl⟩ ⟨Nat.le_of_ble_eq_true rfl, Nat.le_of_ble_eq_true rfl⟩) (wr := [(h0, .inr (4, [.ref g0, .int 0, .int 0, .int 0, .int 0, .int 0, .int 0]))]) hP hD hS hA [0, 1, 2, 3, 4, 5, 6, 7, 8] [9] rfl rfl (by decide) (by decide) (fun u_1 H locs hw hP hD hS => ?_)
  have hP : va_P D vwCl [(h0, .inr (4, [.ref g0, .int 0, .int 0, .int 0, .int 0, .int 0, .int 0])), (k0, .inr (0, [.int 0, .int 0, .int 0, .int 0, .int 0, .int 0, .ref k1, .ref k2, .ref k3, .ref k4, .ref k5, .ref k6, .ref k7, .ref k8, .ref k9, .ref k10, .ref k11, .ref k12])), (k4, .inl (q 0, 40, .inl (fun _ => 0))), (k5, .inl (q 0, 40, .inl (fun _ => 0))), (k6, .inl (q 0, 40, .inl (fun _ => 0))), (k7, .inl (q 0, 40, .inl (fun _ => 0))), (k8, .inl (q 0, 40, .inl (fun _ => 0))), (k9, .inl (q 0, 40, .inl (fun _ => 0))), (k10, .inl (q 0, 40, .inl (fun _ => 0))), (k11, .inl (q 1, 40, .inr (.inl (fun _ => 0))))] H := hP
  have hD : va_D _ [(h0, .inr (4, [.ref g0, .int 0, .int 0, .int 0, .int 0, .int 0, .int 0])), (k0, .inr (0, [.int 0, .int 0, .int 0, .int 0, .int 0, .int 0, .ref k1, .ref k2, .ref k3, .ref k4, .ref k5, .ref k6, .ref k7, .ref k8, .ref k9, .ref k10, .ref k11, .ref k12])), (k4, .inl (q 0, 40, .inl (fun _ => 0))), (k5, .inl (q 0, 40, .inl (fun _ => 0))), (k6, .inl (q 0, 40, .inl (fun _ => 0))), (k7, .inl (q 0, 40, .inl (fun _ => 0))), (k8, .inl (q 0, 40, .inl (fun _ => 0))), (k9, .inl (q 0, 40, .inl (fun _ => 0))), (k10, .inl (q 0, 40, .inl (fun _ => 0))), (k11, .inl (q 1, 40, .inr (.inl (fun _ => 0))))] := hD
  refine lv_aload_n hx hb dX1_readInto_4 rfl (lv_at hl 1 rfl) ?_
  refine mt_gov (mt_wV (wc := [(h0, .inr (4, [.ref g0, .int 0, .int 0, .int 0, .int 0, .int 0, .int 0]))]) (As := []) (rest := []) hx hb hml hown ht (ct_startReading) wd_X5_startReading mw_404 hQ hV hS hA (hP.sub [0] rfl) (hD.sub [0] (by decide) rfl) rfl rfl rfl hl.1 rfl (Nat.le_of_ble_eq_true rfl) dX1_readInto_5 ⟨Nat.le_of_ble_eq_true rfl, Nat.le_of_ble_eq_true rfl, rfl, rfl⟩ ⟨Nat.le_of_ble_eq_true rfl, Nat.le_of_ble_eq_true rfl⟩) (wr := [(k0, .inr (0, [.int 0, .int 0, .int 0, .int 0, .int 0, .int 0, .ref k1, .ref k2, .ref k3, .ref k4, .ref k5, .ref k6, .ref k7, .ref k8, .ref k9, .ref k10, .ref k11, .ref k12])), (k4, .inl (q 0, 40, .inl (fun _ => 0))), (k5, .inl (q 0, 40, .inl (fun _ => 0))), (k6, .inl (q 0, 40, .inl (fun _ => 0))), (k7, .inl (q 0, 40, .inl (fun _ => 0))), (k8, .inl (q 0, 40, .inl (fun _ => 0))), (k9, .inl (q 0, 40, .inl (fun _ => 0))), (k10, .inl (q 0, 40, .inl (fun _ => 0))), (k11, .inl (q 1, 40, .inr (.inl (fun _ => 0))))]) hP hD hS hA [0] [1, 2, 3, 4, 5, 6, 7, 8, 9] rfl rfl (by decide) (by decide) (fun u_3 H locs hw hP hD hS => ?_)
  have hP : va_P D vwCl [(k0, .inr (0, [.int 0, .int 0, .int 0, .int 0, .int 0, .int 0, .ref k1, .ref k2, .ref k3, .ref k4, .ref k5, .ref k6, .ref k7, .ref k8, .ref k9, .ref k10, .ref k11, .ref k12])), (k4, .inl (q 0, 40, .inl (fun _ => 0))), (k5, .inl (q 0, 40, .inl (fun _ => 0))), (k6, .inl (q 0, 40, .inl (fun _ => 0))), (k7, .inl (q 0, 40, .inl (fun _ => 0))), (k8, .inl (q 0, 40, .inl (fun _ => 0))), (k9, .inl (q 0, 40, .inl (fun _ => 0))), (k10, .inl (q 0, 40, .inl (fun _ => 0))), (k11, .inl (q 1, 40, .inr (.inl (fun _ => 0)))), (h0, .inr (4, [.ref g0, .int 0, .int 0, .int 0, .int 0, .int 0, .int 0]))] H := hP
  have hD : va_D _ [(k0, .inr (0, [.int 0, .int 0, .int 0, .int 0, .int 0, .int 0, .ref k1, .ref k2, .ref k3, .ref k4, .ref k5, .ref k6, .ref k7, .ref k8, .ref k9, .ref k10, .ref k11, .ref k12])), (k4, .inl (q 0, 40, .inl (fun _ => 0))), (k5, .inl (q 0, 40, .inl (fun _ => 0))), (k6, .inl (q 0, 40, .inl (fun _ => 0))), (k7, .inl (q 0, 40, .inl (fun _ => 0))), (k8, .inl (q 0, 40, .inl (fun _ => 0))), (k9, .inl (q 0, 40, .inl (fun _ => 0))), (k10, .inl (q 0, 40, .inl (fun _ => 0))), (k11, .inl (q 1, 40, .inr (.inl (fun _ => 0)))), (h0, .inr (4, [.ref g0, .int 0, .int 0, .int 0, .int 0, .int 0, .int 0]))] := hD
  refine lv_aload_n hx hb dX1_readInto_8 rfl (lv_at hl 0 rfl) ?_
  refine lv_aload_n hx hb dX1_readInto_9 rfl (lv_at hl 1 rfl) ?_
  refine mt_gov (mt_wS (wc := [(h0, .inr (4, [.ref g0, .int 0, .int 0, .int 0, .int 0, .int 0, .int 0]))]) (As := [.ref k0, .ref h0]) (rest := []) hx hb hml hown ht (ct_readHead) wd_X1_readHead mw_408 hQ hV hS hA (hP.sub [9] rfl) (hD.sub [9] (by decide) rfl) rfl hl.1 rfl (Nat.le_of_ble_eq_true rfl) dX1_readInto_10 ⟨Nat.le_of_ble_eq_true rfl, Nat.le_of_ble_eq_true rfl, rfl, rfl⟩ ⟨Nat.le_of_ble_eq_true rfl, Nat.le_of_ble_eq_true rfl⟩) (wr := [(k0, .inr (0, [.int 0, .int 0, .int 0, .int 0, .int 0, .int 0, .ref k1, .ref k2, .ref k3, .ref k4, .ref k5, .ref k6, .ref k7, .ref k8, .ref k9, .ref k10, .ref k11, .ref k12])), (k4, .inl (q 0, 40, .inl (fun _ => 0))), (k5, .inl (q 0, 40, .inl (fun _ => 0))), (k6, .inl (q 0, 40, .inl (fun _ => 0))), (k7, .inl (q 0, 40, .inl (fun _ => 0))), (k8, .inl (q 0, 40, .inl (fun _ => 0))), (k9, .inl (q 0, 40, .inl (fun _ => 0))), (k10, .inl (q 0, 40, .inl (fun _ => 0))), (k11, .inl (q 1, 40, .inr (.inl (fun _ => 0))))]) hP hD hS hA [9] [0, 1, 2, 3, 4, 5, 6, 7, 8] rfl rfl (by decide) (by decide) (fun u_5 H locs hw hP hD hS => ?_)
  have hP : va_P D vwCl [(k0, .inr (0, [.int 0, .int 0, .int 0, .int 0, .int 0, .int 0, .ref k1, .ref k2, .ref k3, .ref k4, .ref k5, .ref k6, .ref k7, .ref k8, .ref k9, .ref k10, .ref k11, .ref k12])), (k4, .inl (q 0, 40, .inl (fun _ => 0))), (k5, .inl (q 0, 40, .inl (fun _ => 0))), (k6, .inl (q 0, 40, .inl (fun _ => 0))), (k7, .inl (q 0, 40, .inl (fun _ => 0))), (k8, .inl (q 0, 40, .inl (fun _ => 0))), (k9, .inl (q 0, 40, .inl (fun _ => 0))), (k10, .inl (q 0, 40, .inl (fun _ => 0))), (k11, .inl (q 1, 40, .inr (.inl (fun _ => 0)))), (h0, .inr (4, [.ref g0, .int 0, .int 0, .int 0, .int 0, .int 0, .int 1]))] H := hP
  have hD : va_D _ [(k0, .inr (0, [.int 0, .int 0, .int 0, .int 0, .int 0, .int 0, .ref k1, .ref k2, .ref k3, .ref k4, .ref k5, .ref k6, .ref k7, .ref k8, .ref k9, .ref k10, .ref k11, .ref k12])), (k4, .inl (q 0, 40, .inl (fun _ => 0))), (k5, .inl (q 0, 40, .inl (fun _ => 0))), (k6, .inl (q 0, 40, .inl (fun _ => 0))), (k7, .inl (q 0, 40, .inl (fun _ => 0))), (k8, .inl (q 0, 40, .inl (fun _ => 0))), (k9, .inl (q 0, 40, .inl (fun _ => 0))), (k10, .inl (q 0, 40, .inl (fun _ => 0))), (k11, .inl (q 1, 40, .inr (.inl (fun _ => 0)))), (h0, .inr (4, [.ref g0, .int 0, .int 0, .int 0, .int 0, .int 0, .int 1]))] := hD
  refine lv_iconst (v := 0) hx hb dX1_readInto_13 (by decide) ?_
  refine lv_istore_n (lv' := [(2, .int 0), (0, .ref k0), (1, .ref h0)]) hx hb dX1_readInto_14 rfl hl (by decide) rfl (fun ls hl => ?_)
  refine lv_iload_n hx hb dX1_readInto_15 rfl (lv_at hl 0 rfl) ?_
  refine lv_sipush (v := 400) hx hb dX1_readInto_16 (by decide) ?_
  refine lv_icmp_ge (tgt := 54) hx hb dX1_readInto_19 (by decide) (fun c9 => absurd c9 (by decide)) (fun c_7 => ?_)
  refine lv_aload_n hx hb dX1_readInto_22 rfl (lv_at hl 2 rfl) ?_
  refine vp_callSi (rd_wV (wc := [(h0, .inr (4, [.ref g0, .int 0, .int 0, .int 0, .int 0, .int 0, .int 1]))]) (As := []) (rest := []) hx hb hml hown ht (ct_isSound_1) wd_X5_isSound mw_507 hQ hV hS (hP.sub [9] rfl) rfl rfl rfl hl.1 rfl (Nat.le_of_ble_eq_true rfl) dX1_readInto_23 ⟨Nat.le_of_ble_eq_true rfl, Nat.le_of_ble_eq_true rfl, rfl, rfl⟩ ⟨Nat.le_of_ble_eq_true rfl, Nat.le_of_ble_eq_true rfl⟩) (fun r_8 er_8 => ?_)
  obtain rfl : r_8 = 0 := er_8
  refine lv_if_eq (tgt := 54) hx hb dX1_readInto_26 (by decide) (fun c_9 => ?_) (fun c9 => absurd (by decide) c9)
  refine lv_aload_n hx hb dX1_readInto_54 rfl (lv_at hl 1 rfl) ?_
  refine fl_get (C := RX0) (T := TX0) (N := 18) (ci := 0) (v := .int 0) hx hb ht in_X0 hown hK hP 0 rfl rfl 3 (by decide) mw_180 rfl dX1_readInto_55 ?_
  refine lv_if_ne (tgt := 70) hx hb dX1_readInto_58 (by decide) (fun c9 => absurd c9 (by decide)) (fun c_10 => ?_)
  refine lv_aload_n hx hb dX1_readInto_61 rfl (lv_at hl 2 rfl) ?_
  refine lv_aload_n hx hb dX1_readInto_62 rfl (lv_at hl 2 rfl) ?_
  refine fl_get (C := RX5) (T := TX5) (N := 7) (ci := 4) (v := .int 0) hx hb ht in_X5 hown hK hP 9 rfl rfl 1 (by decide) mw_131 rfl dX1_readInto_63 ?_
  refine lv_iconst (v := 4) hx hb dX1_readInto_66 (by decide) ?_
  refine mt_gov (mt_wV (wc := [(h0, .inr (4, [.ref g0, .int 0, .int 0, .int 0, .int 0, .int 0, .int 1]))]) (As := [.int 0, .int 4]) (rest := []) hx hb hml hown ht (ct_blame_1) wd_X5_blame mw_520 hQ hV hS hA (hP.sub [9] rfl) (hD.sub [9] (by decide) rfl) rfl rfl rfl hl.1 rfl (Nat.le_of_ble_eq_true rfl) dX1_readInto_67 ⟨Nat.le_of_ble_eq_true rfl, Nat.le_of_ble_eq_true rfl, rfl, rfl⟩ ⟨Nat.le_of_ble_eq_true rfl, Nat.le_of_ble_eq_true rfl⟩) (wr := [(k0, .inr (0, [.int 0, .int 0, .int 0, .int 0, .int 0, .int 0, .ref k1, .ref k2, .ref k3, .ref k4, .ref k5, .ref k6, .ref k7, .ref k8, .ref k9, .ref k10, .ref k11, .ref k12])), (k4, .inl (q 0, 40, .inl (fun _ => 0))), (k5, .inl (q 0, 40, .inl (fun _ => 0))), (k6, .inl (q 0, 40, .inl (fun _ => 0))), (k7, .inl (q 0, 40, .inl (fun _ => 0))), (k8, .inl (q 0, 40, .inl (fun _ => 0))), (k9, .inl (q 0, 40, .inl (fun _ => 0))), (k10, .inl (q 0, 40, .inl (fun _ => 0))), (k11, .inl (q 1, 40, .inr (.inl (fun _ => 0))))]) hP hD hS hA [9] [0, 1, 2, 3, 4, 5, 6, 7, 8] rfl rfl (by decide) (by decide) (fun u_11 H locs hw hP hD hS => ?_)
  have hP : va_P D vwCl [(k0, .inr (0, [.int 0, .int 0, .int 0, .int 0, .int 0, .int 0, .ref k1, .ref k2, .ref k3, .ref k4, .ref k5, .ref k6, .ref k7, .ref k8, .ref k9, .ref k10, .ref k11, .ref k12])), (k4, .inl (q 0, 40, .inl (fun _ => 0))), (k5, .inl (q 0, 40, .inl (fun _ => 0))), (k6, .inl (q 0, 40, .inl (fun _ => 0))), (k7, .inl (q 0, 40, .inl (fun _ => 0))), (k8, .inl (q 0, 40, .inl (fun _ => 0))), (k9, .inl (q 0, 40, .inl (fun _ => 0))), (k10, .inl (q 0, 40, .inl (fun _ => 0))), (k11, .inl (q 1, 40, .inr (.inl (fun _ => 0)))), (h0, .inr (4, [.ref g0, .int 0, .int 0, .int 0, .int 0, .int 0, .int 1]))] H := hP
  have hD : va_D _ [(k0, .inr (0, [.int 0, .int 0, .int 0, .int 0, .int 0, .int 0, .ref k1, .ref k2, .ref k3, .ref k4, .ref k5, .ref k6, .ref k7, .ref k8, .ref k9, .ref k10, .ref k11, .ref k12])), (k4, .inl (q 0, 40, .inl (fun _ => 0))), (k5, .inl (q 0, 40, .inl (fun _ => 0))), (k6, .inl (q 0, 40, .inl (fun _ => 0))), (k7, .inl (q 0, 40, .inl (fun _ => 0))), (k8, .inl (q 0, 40, .inl (fun _ => 0))), (k9, .inl (q 0, 40, .inl (fun _ => 0))), (k10, .inl (q 0, 40, .inl (fun _ => 0))), (k11, .inl (q 1, 40, .inr (.inl (fun _ => 0)))), (h0, .inr (4, [.ref g0, .int 0, .int 0, .int 0, .int 0, .int 0, .int 1]))] := hD
  have hP := hP.sub (ws' := [(k0, .inr (0, [.int 0, .int 0, .int 0, .int 0, .int 0, .int 0, .ref k1, .ref k2, .ref k3, .ref k4, .ref k5, .ref k6, .ref k7, .ref k8, .ref k9, .ref k10, .ref k11, .ref k12])), (k4, .inl (q 0, 40, .inl (fun _ => 0))), (k5, .inl (q 0, 40, .inl (fun _ => 0))), (k6, .inl (q 0, 40, .inl (fun _ => 0))), (k7, .inl (q 0, 40, .inl (fun _ => 0))), (k8, .inl (q 0, 40, .inl (fun _ => 0))), (k9, .inl (q 0, 40, .inl (fun _ => 0))), (k10, .inl (q 0, 40, .inl (fun _ => 0))), (k11, .inl (q 1, 40, .inr (.inl (fun _ => 0)))), (h0, .inr (4, [.ref g0, .int 0, .int 0, .int 0, .int 0, .int 0, .int 1]))]) [0, 1, 2, 3, 4, 5, 6, 7, 8, 9] rfl
  have hD := hD.sub (ws' := [(k0, .inr (0, [.int 0, .int 0, .int 0, .int 0, .int 0, .int 0, .ref k1, .ref k2, .ref k3, .ref k4, .ref k5, .ref k6, .ref k7, .ref k8, .ref k9, .ref k10, .ref k11, .ref k12])), (k4, .inl (q 0, 40, .inl (fun _ => 0))), (k5, .inl (q 0, 40, .inl (fun _ => 0))), (k6, .inl (q 0, 40, .inl (fun _ => 0))), (k7, .inl (q 0, 40, .inl (fun _ => 0))), (k8, .inl (q 0, 40, .inl (fun _ => 0))), (k9, .inl (q 0, 40, .inl (fun _ => 0))), (k10, .inl (q 0, 40, .inl (fun _ => 0))), (k11, .inl (q 1, 40, .inr (.inl (fun _ => 0)))), (h0, .inr (4, [.ref g0, .int 0, .int 0, .int 0, .int 0, .int 0, .int 1]))]) [0, 1, 2, 3, 4, 5, 6, 7, 8, 9] (by decide) rfl
  exact mt_vret () hx hb hr hk (trivial) hP hD hS dX1_readInto_70
