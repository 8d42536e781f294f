set_option maxHeartbeats 4000000 in
set_option maxRecDepth 100000 in
theorem ct_coder_0 {l : Launch} {D : va_G} {q : Nat → ClassId}  : Met l yJ0_coder_7d493 (Cond.code yJ0_coder_7d493 cJ0_coder_7d493 1 (some .byte) :: w_all) ({ frames := 0, cells := 0, slots := 0, locals := 0 }) (rd_P D q [.ref (q 100)] []) (vp_Si (fun r => r = 0)) 0 0 (fun _ => False) := by
  refine rd_start (by decide) (Nat.le_of_ble_eq_true rfl) ?_
  intro p e s m below meth c ls hx hb hr hml hown ht hk hP hQ hV hl
  have hK := hQ.1
  have hown : s.vm.findClass RJ0 = some m.cls := hown
  have hl : lv_has ls 1 [(0, .ref (q 100))] := hl
  refine va_gets (v := .int 1) hx hb hV.2.1 va_S.rf hown (ht _ mw_444) (fun _ h => h) dJ0_coder_7d493_0 ?_
  refine lv_if_eq (tgt := 13) hx hb dJ0_coder_7d493_3 (by decide) (fun c9 => absurd c9 (by decide)) (fun c_1 => ?_)
  refine lv_aload_n hx hb dJ0_coder_7d493_6 rfl (lv_at hl 0 rfl) ?_
  refine vk_getf (v := .int 0) hx hb (hV.1.1 0 (by decide)).2.1 va_S.rf hown (ht _ mw_1706) (fun _ h => h) dJ0_coder_7d493_7 ?_
  refine lv_goto (tgt := 14) hx hb dJ0_coder_7d493_10 (by decide) ?_
  exact rd_zret hx hb hr hk rfl (rfl) dJ0_coder_7d493_14

set_option maxHeartbeats 4000000 in
set_option maxRecDepth 100000 in
theorem ct_length_0 {l : Launch} {D : va_G} {q : Nat → ClassId}  : Met l yJ0_length_8abf5 (Cond.code yJ0_length_8abf5 cJ0_length_8abf5 1 (some .int) :: w_all) ({ frames := 1, cells := 0, slots := 0, locals := 20 }) (rd_P D q [.ref (q 100)] []) (vp_Si (fun r => r = 5)) 0 0 (fun _ => False) := by
  refine rd_start (by decide) (Nat.le_of_ble_eq_true rfl) ?_
  intro p e s m below meth c ls hx hb hr hml hown ht hk hP hQ hV hl
  have hK := hQ.1
  have hown : s.vm.findClass RJ0 = some m.cls := hown
  have hl : lv_has ls 1 [(0, .ref (q 100))] := hl
  refine lv_aload_n hx hb dJ0_length_8abf5_0 rfl (lv_at hl 0 rfl) ?_
  refine vk_getf (v := .ref (q 200)) hx hb (hV.1.1 0 (by decide)).2.2.1 va_S.rf hown (ht _ mw_1705) (fun _ h => h) dJ0_length_8abf5_1 ?_
  refine va_tlen (v := 5) hx hb (hV.1.1 0 (by decide)).2.2.2 va_S.rf rfl dJ0_length_8abf5_4 ?_
  refine lv_aload_n hx hb dJ0_length_8abf5_5 rfl (lv_at hl 0 rfl) ?_
  refine vp_callSi (rd_wVs (i := 0) (wc := []) (As := []) (rest := [.int 5]) hx hb hml hown ht (ct_coder_0) wd_J0_coder_7d493 mw_440 hQ hV va_S.rf (hP.sub [] rfl) (by decide) rfl rfl hl.1 rfl (Nat.le_of_ble_eq_true rfl) dJ0_length_8abf5_6 ⟨Nat.le_of_ble_eq_true rfl, Nat.le_of_ble_eq_true rfl, rfl, rfl⟩ ⟨Nat.le_of_ble_eq_true rfl, Nat.le_of_ble_eq_true rfl⟩) (fun r_1 er_1 => ?_)
  obtain rfl : r_1 = 0 := er_1
  refine lv_ishr hx hb dJ0_length_8abf5_9 ?_
  refine ab_i (v := 5) (by decide) ?_
  exact rd_iret hx hb hr hk (rfl) dJ0_length_8abf5_10

set_option maxHeartbeats 4000000 in
set_option maxRecDepth 100000 in
theorem ct_isRead_0 {l : Launch} {D : va_G} {q : Nat → ClassId} {h0 g0 : Nat} {i4 i5 i6 : Int32} : Met l yX5_isRead (Cond.code yX5_isRead cX5_isRead 3 (some .boolean) :: w_all) ({ frames := 2, cells := 0, slots := 0, locals := 40 }) (rd_P D q [.ref h0, .ref (q 100)] [(h0, .inr (4, [.ref g0, .int 0, .int 0, .int 0, .int i4, .int i5, .int i6]))]) (vp_Si (fun r => r = 0)) 0 0 (fun _ => False) := by
  refine rd_start (by decide) (Nat.le_of_ble_eq_true rfl) ?_
  intro p e s m below meth c ls hx hb hr hml hown ht hk hP hQ hV hl
  have hK := hQ.1
  have hown : s.vm.findClass RX5 = some m.cls := hown
  have hl : lv_has ls 3 [(0, .ref h0), (1, .ref (q 100))] := hl
  refine lv_aload_n hx hb dX5_isRead_0 rfl (lv_at hl 1 rfl) ?_
  refine vp_callSi (rd_wVs (i := 0) (wc := []) (As := []) (rest := []) hx hb hml hown ht (ct_length_0) wd_J0_length_8abf5 mw_436 hQ hV va_S.rf (hP.sub [] rfl) (by decide) rfl rfl hl.1 rfl (Nat.le_of_ble_eq_true rfl) dX5_isRead_1 ⟨Nat.le_of_ble_eq_true rfl, Nat.le_of_ble_eq_true rfl, rfl, rfl⟩ ⟨Nat.le_of_ble_eq_true rfl, Nat.le_of_ble_eq_true rfl⟩) (fun r_1 er_1 => ?_)
  obtain rfl : r_1 = 5 := er_1
  refine lv_aload_n hx hb dX5_isRead_4 rfl (lv_at hl 0 rfl) ?_
  refine fl_get (C := RX5) (T := TX5) (N := 7) (ci := 4) (v := .int 0) hx hb ht in_X5 hown hK hP 0 rfl rfl 2 (by decide) mw_132 rfl dX5_isRead_5 ?_
  refine lv_aload_n hx hb dX5_isRead_8 rfl (lv_at hl 0 rfl) ?_
  refine fl_get (C := RX5) (T := TX5) (N := 7) (ci := 4) (v := .int 0) hx hb ht in_X5 hown hK hP 0 rfl rfl 3 (by decide) mw_135 rfl dX5_isRead_9 ?_
  refine lv_isub hx hb dX5_isRead_12 ?_
  refine ab_i (v := 0) (by decide) ?_
  refine lv_icmp_eq (tgt := 18) hx hb dX5_isRead_13 (by decide) (fun c9 => absurd c9 (by decide)) (fun c_2 => ?_)
  refine lv_iconst (v := 0) hx hb dX5_isRead_16 (by decide) ?_
  exact rd_zret hx hb hr hk rfl (rfl) dX5_isRead_17

set_option maxHeartbeats 4000000 in
set_option maxRecDepth 100000 in
theorem ct_coder_1 {l : Launch} {D : va_G} {q : Nat → ClassId}  : Met l yJ0_coder_7d493 (Cond.code yJ0_coder_7d493 cJ0_coder_7d493 1 (some .byte) :: w_all) ({ frames := 0, cells := 0, slots := 0, locals := 0 }) (rd_P D q [.ref (q 101)] []) (vp_Si (fun r => r = 0)) 0 0 (fun _ => False) := by
  refine rd_start (by decide) (Nat.le_of_ble_eq_true rfl) ?_
  intro p e s m below meth c ls hx hb hr hml hown ht hk hP hQ hV hl
  have hK := hQ.1
  have hown : s.vm.findClass RJ0 = some m.cls := hown
  have hl : lv_has ls 1 [(0, .ref (q 101))] := hl
  refine va_gets (v := .int 1) hx hb hV.2.1 va_S.rf hown (ht _ mw_444) (fun _ h => h) dJ0_coder_7d493_0 ?_
  refine lv_if_eq (tgt := 13) hx hb dJ0_coder_7d493_3 (by decide) (fun c9 => absurd c9 (by decide)) (fun c_1 => ?_)
  refine lv_aload_n hx hb dJ0_coder_7d493_6 rfl (lv_at hl 0 rfl) ?_
  refine vk_getf (v := .int 0) hx hb (hV.1.1 1 (by decide)).2.1 va_S.rf hown (ht _ mw_1706) (fun _ h => h) dJ0_coder_7d493_7 ?_
  refine lv_goto (tgt := 14) hx hb dJ0_coder_7d493_10 (by decide) ?_
  exact rd_zret hx hb hr hk rfl (rfl) dJ0_coder_7d493_14

set_option maxHeartbeats 4000000 in
set_option maxRecDepth 100000 in
theorem ct_length_1 {l : Launch} {D : va_G} {q : Nat → ClassId}  : Met l yJ0_length_8abf5 (Cond.code yJ0_length_8abf5 cJ0_length_8abf5 1 (some .int) :: w_all) ({ frames := 1, cells := 0, slots := 0, locals := 20 }) (rd_P D q [.ref (q 101)] []) (vp_Si (fun r => r = 5)) 0 0 (fun _ => False) := by
  refine rd_start (by decide) (Nat.le_of_ble_eq_true rfl) ?_
  intro p e s m below meth c ls hx hb hr hml hown ht hk hP hQ hV hl
  have hK := hQ.1
  have hown : s.vm.findClass RJ0 = some m.cls := hown
  have hl : lv_has ls 1 [(0, .ref (q 101))] := hl
  refine lv_aload_n hx hb dJ0_length_8abf5_0 rfl (lv_at hl 0 rfl) ?_
  refine vk_getf (v := .ref (q 201)) hx hb (hV.1.1 1 (by decide)).2.2.1 va_S.rf hown (ht _ mw_1705) (fun _ h => h) dJ0_length_8abf5_1 ?_
  refine va_tlen (v := 5) hx hb (hV.1.1 1 (by decide)).2.2.2 va_S.rf rfl dJ0_length_8abf5_4 ?_
  refine lv_aload_n hx hb dJ0_length_8abf5_5 rfl (lv_at hl 0 rfl) ?_
  refine vp_callSi (rd_wVs (i := 1) (wc := []) (As := []) (rest := [.int 5]) hx hb hml hown ht (ct_coder_1) wd_J0_coder_7d493 mw_440 hQ hV va_S.rf (hP.sub [] rfl) (by decide) rfl rfl hl.1 rfl (Nat.le_of_ble_eq_true rfl) dJ0_length_8abf5_6 ⟨Nat.le_of_ble_eq_true rfl, Nat.le_of_ble_eq_true rfl, rfl, rfl⟩ ⟨Nat.le_of_ble_eq_true rfl, Nat.le_of_ble_eq_true rfl⟩) (fun r_1 er_1 => ?_)
  obtain rfl : r_1 = 0 := er_1
  refine lv_ishr hx hb dJ0_length_8abf5_9 ?_
  refine ab_i (v := 5) (by decide) ?_
  exact rd_iret hx hb hr hk (rfl) dJ0_length_8abf5_10

set_option maxHeartbeats 4000000 in
set_option maxRecDepth 100000 in
theorem ct_isRead_1 {l : Launch} {D : va_G} {q : Nat → ClassId} {h0 g0 : Nat} {i4 i5 i6 : Int32} : Met l yX5_isRead (Cond.code yX5_isRead cX5_isRead 3 (some .boolean) :: w_all) ({ frames := 2, cells := 0, slots := 0, locals := 40 }) (rd_P D q [.ref h0, .ref (q 101)] [(h0, .inr (4, [.ref g0, .int 0, .int 0, .int 0, .int i4, .int i5, .int i6]))]) (vp_Si (fun r => r = 0)) 0 0 (fun _ => False) := by
  refine rd_start (by decide) (Nat.le_of_ble_eq_true rfl) ?_
  intro p e s m below meth c ls hx hb hr hml hown ht hk hP hQ hV hl
  have hK := hQ.1
  have hown : s.vm.findClass RX5 = some m.cls := hown
  have hl : lv_has ls 3 [(0, .ref h0), (1, .ref (q 101))] := hl
  refine lv_aload_n hx hb dX5_isRead_0 rfl (lv_at hl 1 rfl) ?_
  refine vp_callSi (rd_wVs (i := 1) (wc := []) (As := []) (rest := []) hx hb hml hown ht (ct_length_1) wd_J0_length_8abf5 mw_436 hQ hV va_S.rf (hP.sub [] rfl) (by decide) rfl rfl hl.1 rfl (Nat.le_of_ble_eq_true rfl) dX5_isRead_1 ⟨Nat.le_of_ble_eq_true rfl, Nat.le_of_ble_eq_true rfl, rfl, rfl⟩ ⟨Nat.le_of_ble_eq_true rfl, Nat.le_of_ble_eq_true rfl⟩) (fun r_1 er_1 => ?_)
  obtain rfl : r_1 = 5 := er_1
  refine lv_aload_n hx hb dX5_isRead_4 rfl (lv_at hl 0 rfl) ?_
  refine fl_get (C := RX5) (T := TX5) (N := 7) (ci := 4) (v := .int 0) hx hb ht in_X5 hown hK hP 0 rfl rfl 2 (by decide) mw_132 rfl dX5_isRead_5 ?_
  refine lv_aload_n hx hb dX5_isRead_8 rfl (lv_at hl 0 rfl) ?_
  refine fl_get (C := RX5) (T := TX5) (N := 7) (ci := 4) (v := .int 0) hx hb ht in_X5 hown hK hP 0 rfl rfl 3 (by decide) mw_135 rfl dX5_isRead_9 ?_
  refine lv_isub hx hb dX5_isRead_12 ?_
  refine ab_i (v := 0) (by decide) ?_
  refine lv_icmp_eq (tgt := 18) hx hb dX5_isRead_13 (by decide) (fun c9 => absurd c9 (by decide)) (fun c_2 => ?_)
  refine lv_iconst (v := 0) hx hb dX5_isRead_16 (by decide) ?_
  exact rd_zret hx hb hr hk rfl (rfl) dX5_isRead_17

set_option maxHeartbeats 4000000 in
set_option maxRecDepth 100000 in
theorem ct_coder_2 {l : Launch} {D : va_G} {q : Nat → ClassId}  : Met l yJ0_coder_7d493 (Cond.code yJ0_coder_7d493 cJ0_coder_7d493 1 (some .byte) :: w_all) ({ frames := 0, cells := 0, slots := 0, locals := 0 }) (rd_P D q [.ref (q 102)] []) (vp_Si (fun r => r = 0)) 0 0 (fun _ => False) := by
  refine rd_start (by decide) (Nat.le_of_ble_eq_true rfl) ?_
  intro p e s m below meth c ls hx hb hr hml hown ht hk hP hQ hV hl
  have hK := hQ.1
  have hown : s.vm.findClass RJ0 = some m.cls := hown
  have hl : lv_has ls 1 [(0, .ref (q 102))] := hl
  refine va_gets (v := .int 1) hx hb hV.2.1 va_S.rf hown (ht _ mw_444) (fun _ h => h) dJ0_coder_7d493_0 ?_
  refine lv_if_eq (tgt := 13) hx hb dJ0_coder_7d493_3 (by decide) (fun c9 => absurd c9 (by decide)) (fun c_1 => ?_)
  refine lv_aload_n hx hb dJ0_coder_7d493_6 rfl (lv_at hl 0 rfl) ?_
  refine vk_getf (v := .int 0) hx hb (hV.1.1 2 (by decide)).2.1 va_S.rf hown (ht _ mw_1706) (fun _ h => h) dJ0_coder_7d493_7 ?_
  refine lv_goto (tgt := 14) hx hb dJ0_coder_7d493_10 (by decide) ?_
  exact rd_zret hx hb hr hk rfl (rfl) dJ0_coder_7d493_14

set_option maxHeartbeats 4000000 in
set_option maxRecDepth 100000 in
theorem ct_length_2 {l : Launch} {D : va_G} {q : Nat → ClassId}  : Met l yJ0_length_8abf5 (Cond.code yJ0_length_8abf5 cJ0_length_8abf5 1 (some .int) :: w_all) ({ frames := 1, cells := 0, slots := 0, locals := 20 }) (rd_P D q [.ref (q 102)] []) (vp_Si (fun r => r = 4)) 0 0 (fun _ => False) := by
  refine rd_start (by decide) (Nat.le_of_ble_eq_true rfl) ?_
  intro p e s m below meth c ls hx hb hr hml hown ht hk hP hQ hV hl
  have hK := hQ.1
  have hown : s.vm.findClass RJ0 = some m.cls := hown
  have hl : lv_has ls 1 [(0, .ref (q 102))] := hl
  refine lv_aload_n hx hb dJ0_length_8abf5_0 rfl (lv_at hl 0 rfl) ?_
  refine vk_getf (v := .ref (q 202)) hx hb (hV.1.1 2 (by decide)).2.2.1 va_S.rf hown (ht _ mw_1705) (fun _ h => h) dJ0_length_8abf5_1 ?_
  refine va_tlen (v := 4) hx hb (hV.1.1 2 (by decide)).2.2.2 va_S.rf rfl dJ0_length_8abf5_4 ?_
  refine lv_aload_n hx hb dJ0_length_8abf5_5 rfl (lv_at hl 0 rfl) ?_
  refine vp_callSi (rd_wVs (i := 2) (wc := []) (As := []) (rest := [.int 4]) hx hb hml hown ht (ct_coder_2) wd_J0_coder_7d493 mw_440 hQ hV va_S.rf (hP.sub [] rfl) (by decide) rfl rfl hl.1 rfl (Nat.le_of_ble_eq_true rfl) dJ0_length_8abf5_6 ⟨Nat.le_of_ble_eq_true rfl, Nat.le_of_ble_eq_true rfl, rfl, rfl⟩ ⟨Nat.le_of_ble_eq_true rfl, Nat.le_of_ble_eq_true rfl⟩) (fun r_1 er_1 => ?_)
  obtain rfl : r_1 = 0 := er_1
  refine lv_ishr hx hb dJ0_length_8abf5_9 ?_
  refine ab_i (v := 4) (by decide) ?_
  exact rd_iret hx hb hr hk (rfl) dJ0_length_8abf5_10

set_option maxHeartbeats 4000000 in
set_option maxRecDepth 100000 in
theorem ct_isRead_2 {l : Launch} {D : va_G} {q : Nat → ClassId} {h0 g0 : Nat} {i4 i5 i6 : Int32} : Met l yX5_isRead (Cond.code yX5_isRead cX5_isRead 3 (some .boolean) :: w_all) ({ frames := 2, cells := 0, slots := 0, locals := 40 }) (rd_P D q [.ref h0, .ref (q 102)] [(h0, .inr (4, [.ref g0, .int 0, .int 0, .int 0, .int i4, .int i5, .int i6]))]) (vp_Si (fun r => r = 0)) 0 0 (fun _ => False) := by
  refine rd_start (by decide) (Nat.le_of_ble_eq_true rfl) ?_
  intro p e s m below meth c ls hx hb hr hml hown ht hk hP hQ hV hl
  have hK := hQ.1
  have hown : s.vm.findClass RX5 = some m.cls := hown
  have hl : lv_has ls 3 [(0, .ref h0), (1, .ref (q 102))] := hl
  refine lv_aload_n hx hb dX5_isRead_0 rfl (lv_at hl 1 rfl) ?_
  refine vp_callSi (rd_wVs (i := 2) (wc := []) (As := []) (rest := []) hx hb hml hown ht (ct_length_2) wd_J0_length_8abf5 mw_436 hQ hV va_S.rf (hP.sub [] rfl) (by decide) rfl rfl hl.1 rfl (Nat.le_of_ble_eq_true rfl) dX5_isRead_1 ⟨Nat.le_of_ble_eq_true rfl, Nat.le_of_ble_eq_true rfl, rfl, rfl⟩ ⟨Nat.le_of_ble_eq_true rfl, Nat.le_of_ble_eq_true rfl⟩) (fun r_1 er_1 => ?_)
  obtain rfl : r_1 = 4 := er_1
  refine lv_aload_n hx hb dX5_isRead_4 rfl (lv_at hl 0 rfl) ?_
  refine fl_get (C := RX5) (T := TX5) (N := 7) (ci := 4) (v := .int 0) hx hb ht in_X5 hown hK hP 0 rfl rfl 2 (by decide) mw_132 rfl dX5_isRead_5 ?_
  refine lv_aload_n hx hb dX5_isRead_8 rfl (lv_at hl 0 rfl) ?_
  refine fl_get (C := RX5) (T := TX5) (N := 7) (ci := 4) (v := .int 0) hx hb ht in_X5 hown hK hP 0 rfl rfl 3 (by decide) mw_135 rfl dX5_isRead_9 ?_
  refine lv_isub hx hb dX5_isRead_12 ?_
  refine ab_i (v := 0) (by decide) ?_
  refine lv_icmp_eq (tgt := 18) hx hb dX5_isRead_13 (by decide) (fun c9 => absurd c9 (by decide)) (fun c_2 => ?_)
  refine lv_iconst (v := 0) hx hb dX5_isRead_16 (by decide) ?_
  exact rd_zret hx hb hr hk rfl (rfl) dX5_isRead_17

set_option maxHeartbeats 4000000 in
set_option maxRecDepth 100000 in
theorem ct_coder_3 {l : Launch} {D : va_G} {q : Nat → ClassId}  : Met l yJ0_coder_7d493 (Cond.code yJ0_coder_7d493 cJ0_coder_7d493 1 (some .byte) :: w_all) ({ frames := 0, cells := 0, slots := 0, locals := 0 }) (rd_P D q [.ref (q 103)] []) (vp_Si (fun r => r = 0)) 0 0 (fun _ => False) := by
  refine rd_start (by decide) (Nat.le_of_ble_eq_true rfl) ?_
  intro p e s m below meth c ls hx hb hr hml hown ht hk hP hQ hV hl
  have hK := hQ.1
  have hown : s.vm.findClass RJ0 = some m.cls := hown
  have hl : lv_has ls 1 [(0, .ref (q 103))] := hl
  refine va_gets (v := .int 1) hx hb hV.2.1 va_S.rf hown (ht _ mw_444) (fun _ h => h) dJ0_coder_7d493_0 ?_
  refine lv_if_eq (tgt := 13) hx hb dJ0_coder_7d493_3 (by decide) (fun c9 => absurd c9 (by decide)) (fun c_1 => ?_)
  refine lv_aload_n hx hb dJ0_coder_7d493_6 rfl (lv_at hl 0 rfl) ?_
  refine vk_getf (v := .int 0) hx hb (hV.1.1 3 (by decide)).2.1 va_S.rf hown (ht _ mw_1706) (fun _ h => h) dJ0_coder_7d493_7 ?_
  refine lv_goto (tgt := 14) hx hb dJ0_coder_7d493_10 (by decide) ?_
  exact rd_zret hx hb hr hk rfl (rfl) dJ0_coder_7d493_14

set_option maxHeartbeats 4000000 in
set_option maxRecDepth 100000 in
theorem ct_length_3 {l : Launch} {D : va_G} {q : Nat → ClassId}  : Met l yJ0_length_8abf5 (Cond.code yJ0_length_8abf5 cJ0_length_8abf5 1 (some .int) :: w_all) ({ frames := 1, cells := 0, slots := 0, locals := 20 }) (rd_P D q [.ref (q 103)] []) (vp_Si (fun r => r = 5)) 0 0 (fun _ => False) := by
  refine rd_start (by decide) (Nat.le_of_ble_eq_true rfl) ?_
  intro p e s m below meth c ls hx hb hr hml hown ht hk hP hQ hV hl
  have hK := hQ.1
  have hown : s.vm.findClass RJ0 = some m.cls := hown
  have hl : lv_has ls 1 [(0, .ref (q 103))] := hl
  refine lv_aload_n hx hb dJ0_length_8abf5_0 rfl (lv_at hl 0 rfl) ?_
  refine vk_getf (v := .ref (q 203)) hx hb (hV.1.1 3 (by decide)).2.2.1 va_S.rf hown (ht _ mw_1705) (fun _ h => h) dJ0_length_8abf5_1 ?_
  refine va_tlen (v := 5) hx hb (hV.1.1 3 (by decide)).2.2.2 va_S.rf rfl dJ0_length_8abf5_4 ?_
  refine lv_aload_n hx hb dJ0_length_8abf5_5 rfl (lv_at hl 0 rfl) ?_
  refine vp_callSi (rd_wVs (i := 3) (wc := []) (As := []) (rest := [.int 5]) hx hb hml hown ht (ct_coder_3) wd_J0_coder_7d493 mw_440 hQ hV va_S.rf (hP.sub [] rfl) (by decide) rfl rfl hl.1 rfl (Nat.le_of_ble_eq_true rfl) dJ0_length_8abf5_6 ⟨Nat.le_of_ble_eq_true rfl, Nat.le_of_ble_eq_true rfl, rfl, rfl⟩ ⟨Nat.le_of_ble_eq_true rfl, Nat.le_of_ble_eq_true rfl⟩) (fun r_1 er_1 => ?_)
  obtain rfl : r_1 = 0 := er_1
  refine lv_ishr hx hb dJ0_length_8abf5_9 ?_
  refine ab_i (v := 5) (by decide) ?_
  exact rd_iret hx hb hr hk (rfl) dJ0_length_8abf5_10

set_option maxHeartbeats 4000000 in
set_option maxRecDepth 100000 in
theorem ct_isRead_3 {l : Launch} {D : va_G} {q : Nat → ClassId} {h0 g0 : Nat} {i4 i5 i6 : Int32} : Met l yX5_isRead (Cond.code yX5_isRead cX5_isRead 3 (some .boolean) :: w_all) ({ frames := 2, cells := 0, slots := 0, locals := 40 }) (rd_P D q [.ref h0, .ref (q 103)] [(h0, .inr (4, [.ref g0, .int 0, .int 0, .int 0, .int i4, .int i5, .int i6]))]) (vp_Si (fun r => r = 0)) 0 0 (fun _ => False) := by
  refine rd_start (by decide) (Nat.le_of_ble_eq_true rfl) ?_
  intro p e s m below meth c ls hx hb hr hml hown ht hk hP hQ hV hl
  have hK := hQ.1
  have hown : s.vm.findClass RX5 = some m.cls := hown
  have hl : lv_has ls 3 [(0, .ref h0), (1, .ref (q 103))] := hl
  refine lv_aload_n hx hb dX5_isRead_0 rfl (lv_at hl 1 rfl) ?_
  refine vp_callSi (rd_wVs (i := 3) (wc := []) (As := []) (rest := []) hx hb hml hown ht (ct_length_3) wd_J0_length_8abf5 mw_436 hQ hV va_S.rf (hP.sub [] rfl) (by decide) rfl rfl hl.1 rfl (Nat.le_of_ble_eq_true rfl) dX5_isRead_1 ⟨Nat.le_of_ble_eq_true rfl, Nat.le_of_ble_eq_true rfl, rfl, rfl⟩ ⟨Nat.le_of_ble_eq_true rfl, Nat.le_of_ble_eq_true rfl⟩) (fun r_1 er_1 => ?_)
  obtain rfl : r_1 = 5 := er_1
  refine lv_aload_n hx hb dX5_isRead_4 rfl (lv_at hl 0 rfl) ?_
  refine fl_get (C := RX5) (T := TX5) (N := 7) (ci := 4) (v := .int 0) hx hb ht in_X5 hown hK hP 0 rfl rfl 2 (by decide) mw_132 rfl dX5_isRead_5 ?_
  refine lv_aload_n hx hb dX5_isRead_8 rfl (lv_at hl 0 rfl) ?_
  refine fl_get (C := RX5) (T := TX5) (N := 7) (ci := 4) (v := .int 0) hx hb ht in_X5 hown hK hP 0 rfl rfl 3 (by decide) mw_135 rfl dX5_isRead_9 ?_
  refine lv_isub hx hb dX5_isRead_12 ?_
  refine ab_i (v := 0) (by decide) ?_
  refine lv_icmp_eq (tgt := 18) hx hb dX5_isRead_13 (by decide) (fun c9 => absurd c9 (by decide)) (fun c_2 => ?_)
  refine lv_iconst (v := 0) hx hb dX5_isRead_16 (by decide) ?_
  exact rd_zret hx hb hr hk rfl (rfl) dX5_isRead_17

set_option maxHeartbeats 4000000 in
set_option maxRecDepth 100000 in
theorem ct_coder_4 {l : Launch} {D : va_G} {q : Nat → ClassId}  : Met l yJ0_coder_7d493 (Cond.code yJ0_coder_7d493 cJ0_coder_7d493 1 (some .byte) :: w_all) ({ frames := 0, cells := 0, slots := 0, locals := 0 }) (rd_P D q [.ref (q 104)] []) (vp_Si (fun r => r = 0)) 0 0 (fun _ => False) := by
  refine rd_start (by decide) (Nat.le_of_ble_eq_true rfl) ?_
  intro p e s m below meth c ls hx hb hr hml hown ht hk hP hQ hV hl
  have hK := hQ.1
  have hown : s.vm.findClass RJ0 = some m.cls := hown
  have hl : lv_has ls 1 [(0, .ref (q 104))] := hl
  refine va_gets (v := .int 1) hx hb hV.2.1 va_S.rf hown (ht _ mw_444) (fun _ h => h) dJ0_coder_7d493_0 ?_
  refine lv_if_eq (tgt := 13) hx hb dJ0_coder_7d493_3 (by decide) (fun c9 => absurd c9 (by decide)) (fun c_1 => ?_)
  refine lv_aload_n hx hb dJ0_coder_7d493_6 rfl (lv_at hl 0 rfl) ?_
  refine vk_getf (v := .int 0) hx hb (hV.1.1 4 (by decide)).2.1 va_S.rf hown (ht _ mw_1706) (fun _ h => h) dJ0_coder_7d493_7 ?_
  refine lv_goto (tgt := 14) hx hb dJ0_coder_7d493_10 (by decide) ?_
  exact rd_zret hx hb hr hk rfl (rfl) dJ0_coder_7d493_14

set_option maxHeartbeats 4000000 in
set_option maxRecDepth 100000 in
theorem ct_length_4 {l : Launch} {D : va_G} {q : Nat → ClassId}  : Met l yJ0_length_8abf5 (Cond.code yJ0_length_8abf5 cJ0_length_8abf5 1 (some .int) :: w_all) ({ frames := 1, cells := 0, slots := 0, locals := 20 }) (rd_P D q [.ref (q 104)] []) (vp_Si (fun r => r = 4)) 0 0 (fun _ => False) := by
  refine rd_start (by decide) (Nat.le_of_ble_eq_true rfl) ?_
  intro p e s m below meth c ls hx hb hr hml hown ht hk hP hQ hV hl
  have hK := hQ.1
  have hown : s.vm.findClass RJ0 = some m.cls := hown
  have hl : lv_has ls 1 [(0, .ref (q 104))] := hl
  refine lv_aload_n hx hb dJ0_length_8abf5_0 rfl (lv_at hl 0 rfl) ?_
  refine vk_getf (v := .ref (q 204)) hx hb (hV.1.1 4 (by decide)).2.2.1 va_S.rf hown (ht _ mw_1705) (fun _ h => h) dJ0_length_8abf5_1 ?_
  refine va_tlen (v := 4) hx hb (hV.1.1 4 (by decide)).2.2.2 va_S.rf rfl dJ0_length_8abf5_4 ?_
  refine lv_aload_n hx hb dJ0_length_8abf5_5 rfl (lv_at hl 0 rfl) ?_
  refine vp_callSi (rd_wVs (i := 4) (wc := []) (As := []) (rest := [.int 4]) hx hb hml hown ht (ct_coder_4) wd_J0_coder_7d493 mw_440 hQ hV va_S.rf (hP.sub [] rfl) (by decide) rfl rfl hl.1 rfl (Nat.le_of_ble_eq_true rfl) dJ0_length_8abf5_6 ⟨Nat.le_of_ble_eq_true rfl, Nat.le_of_ble_eq_true rfl, rfl, rfl⟩ ⟨Nat.le_of_ble_eq_true rfl, Nat.le_of_ble_eq_true rfl⟩) (fun r_1 er_1 => ?_)
  obtain rfl : r_1 = 0 := er_1
  refine lv_ishr hx hb dJ0_length_8abf5_9 ?_
  refine ab_i (v := 4) (by decide) ?_
  exact rd_iret hx hb hr hk (rfl) dJ0_length_8abf5_10

set_option maxHeartbeats 4000000 in
set_option maxRecDepth 100000 in
theorem ct_isRead_4 {l : Launch} {D : va_G} {q : Nat → ClassId} {h0 g0 : Nat} {i4 i5 i6 : Int32} : Met l yX5_isRead (Cond.code yX5_isRead cX5_isRead 3 (some .boolean) :: w_all) ({ frames := 2, cells := 0, slots := 0, locals := 40 }) (rd_P D q [.ref h0, .ref (q 104)] [(h0, .inr (4, [.ref g0, .int 0, .int 0, .int 0, .int i4, .int i5, .int i6]))]) (vp_Si (fun r => r = 0)) 0 0 (fun _ => False) := by
  refine rd_start (by decide) (Nat.le_of_ble_eq_true rfl) ?_
  intro p e s m below meth c ls hx hb hr hml hown ht hk hP hQ hV hl
  have hK := hQ.1
  have hown : s.vm.findClass RX5 = some m.cls := hown
  have hl : lv_has ls 3 [(0, .ref h0), (1, .ref (q 104))] := hl
  refine lv_aload_n hx hb dX5_isRead_0 rfl (lv_at hl 1 rfl) ?_
  refine vp_callSi (rd_wVs (i := 4) (wc := []) (As := []) (rest := []) hx hb hml hown ht (ct_length_4) wd_J0_length_8abf5 mw_436 hQ hV va_S.rf (hP.sub [] rfl) (by decide) rfl rfl hl.1 rfl (Nat.le_of_ble_eq_true rfl) dX5_isRead_1 ⟨Nat.le_of_ble_eq_true rfl, Nat.le_of_ble_eq_true rfl, rfl, rfl⟩ ⟨Nat.le_of_ble_eq_true rfl, Nat.le_of_ble_eq_true rfl⟩) (fun r_1 er_1 => ?_)
  obtain rfl : r_1 = 4 := er_1
  refine lv_aload_n hx hb dX5_isRead_4 rfl (lv_at hl 0 rfl) ?_
  refine fl_get (C := RX5) (T := TX5) (N := 7) (ci := 4) (v := .int 0) hx hb ht in_X5 hown hK hP 0 rfl rfl 2 (by decide) mw_132 rfl dX5_isRead_5 ?_
  refine lv_aload_n hx hb dX5_isRead_8 rfl (lv_at hl 0 rfl) ?_
  refine fl_get (C := RX5) (T := TX5) (N := 7) (ci := 4) (v := .int 0) hx hb ht in_X5 hown hK hP 0 rfl rfl 3 (by decide) mw_135 rfl dX5_isRead_9 ?_
  refine lv_isub hx hb dX5_isRead_12 ?_
  refine ab_i (v := 0) (by decide) ?_
  refine lv_icmp_eq (tgt := 18) hx hb dX5_isRead_13 (by decide) (fun c9 => absurd c9 (by decide)) (fun c_2 => ?_)
  refine lv_iconst (v := 0) hx hb dX5_isRead_16 (by decide) ?_
  exact rd_zret hx hb hr hk rfl (rfl) dX5_isRead_17

set_option maxHeartbeats 4000000 in
set_option maxRecDepth 100000 in
theorem ct_coder_5 {l : Launch} {D : va_G} {q : Nat → ClassId}  : Met l yJ0_coder_7d493 (Cond.code yJ0_coder_7d493 cJ0_coder_7d493 1 (some .byte) :: w_all) ({ frames := 0, cells := 0, slots := 0, locals := 0 }) (rd_P D q [.ref (q 105)] []) (vp_Si (fun r => r = 0)) 0 0 (fun _ => False) := by
  refine rd_start (by decide) (Nat.le_of_ble_eq_true rfl) ?_
  intro p e s m below meth c ls hx hb hr hml hown ht hk hP hQ hV hl
  have hK := hQ.1
  have hown : s.vm.findClass RJ0 = some m.cls := hown
  have hl : lv_has ls 1 [(0, .ref (q 105))] := hl
  refine va_gets (v := .int 1) hx hb hV.2.1 va_S.rf hown (ht _ mw_444) (fun _ h => h) dJ0_coder_7d493_0 ?_
  refine lv_if_eq (tgt := 13) hx hb dJ0_coder_7d493_3 (by decide) (fun c9 => absurd c9 (by decide)) (fun c_1 => ?_)
  refine lv_aload_n hx hb dJ0_coder_7d493_6 rfl (lv_at hl 0 rfl) ?_
  refine vk_getf (v := .int 0) hx hb (hV.1.1 5 (by decide)).2.1 va_S.rf hown (ht _ mw_1706) (fun _ h => h) dJ0_coder_7d493_7 ?_
  refine lv_goto (tgt := 14) hx hb dJ0_coder_7d493_10 (by decide) ?_
  exact rd_zret hx hb hr hk rfl (rfl) dJ0_coder_7d493_14

set_option maxHeartbeats 4000000 in
set_option maxRecDepth 100000 in
theorem ct_length_5 {l : Launch} {D : va_G} {q : Nat → ClassId}  : Met l yJ0_length_8abf5 (Cond.code yJ0_length_8abf5 cJ0_length_8abf5 1 (some .int) :: w_all) ({ frames := 1, cells := 0, slots := 0, locals := 20 }) (rd_P D q [.ref (q 105)] []) (vp_Si (fun r => r = 3)) 0 0 (fun _ => False) := by
  refine rd_start (by decide) (Nat.le_of_ble_eq_true rfl) ?_
  intro p e s m below meth c ls hx hb hr hml hown ht hk hP hQ hV hl
  have hK := hQ.1
  have hown : s.vm.findClass RJ0 = some m.cls := hown
  have hl : lv_has ls 1 [(0, .ref (q 105))] := hl
  refine lv_aload_n hx hb dJ0_length_8abf5_0 rfl (lv_at hl 0 rfl) ?_
  refine vk_getf (v := .ref (q 205)) hx hb (hV.1.1 5 (by decide)).2.2.1 va_S.rf hown (ht _ mw_1705) (fun _ h => h) dJ0_length_8abf5_1 ?_
  refine va_tlen (v := 3) hx hb (hV.1.1 5 (by decide)).2.2.2 va_S.rf rfl dJ0_length_8abf5_4 ?_
  refine lv_aload_n hx hb dJ0_length_8abf5_5 rfl (lv_at hl 0 rfl) ?_
  refine vp_callSi (rd_wVs (i := 5) (wc := []) (As := []) (rest := [.int 3]) hx hb hml hown ht (ct_coder_5) wd_J0_coder_7d493 mw_440 hQ hV va_S.rf (hP.sub [] rfl) (by decide) rfl rfl hl.1 rfl (Nat.le_of_ble_eq_true rfl) dJ0_length_8abf5_6 ⟨Nat.le_of_ble_eq_true rfl, Nat.le_of_ble_eq_true rfl, rfl, rfl⟩ ⟨Nat.le_of_ble_eq_true rfl, Nat.le_of_ble_eq_true rfl⟩) (fun r_1 er_1 => ?_)
  obtain rfl : r_1 = 0 := er_1
  refine lv_ishr hx hb dJ0_length_8abf5_9 ?_
  refine ab_i (v := 3) (by decide) ?_
  exact rd_iret hx hb hr hk (rfl) dJ0_length_8abf5_10

set_option maxHeartbeats 4000000 in
set_option maxRecDepth 100000 in
theorem ct_isRead_5 {l : Launch} {D : va_G} {q : Nat → ClassId} {h0 g0 : Nat} {i4 i5 i6 : Int32} : Met l yX5_isRead (Cond.code yX5_isRead cX5_isRead 3 (some .boolean) :: w_all) ({ frames := 2, cells := 0, slots := 0, locals := 40 }) (rd_P D q [.ref h0, .ref (q 105)] [(h0, .inr (4, [.ref g0, .int 0, .int 0, .int 0, .int i4, .int i5, .int i6]))]) (vp_Si (fun r => r = 0)) 0 0 (fun _ => False) := by
  refine rd_start (by decide) (Nat.le_of_ble_eq_true rfl) ?_
  intro p e s m below meth c ls hx hb hr hml hown ht hk hP hQ hV hl
  have hK := hQ.1
  have hown : s.vm.findClass RX5 = some m.cls := hown
  have hl : lv_has ls 3 [(0, .ref h0), (1, .ref (q 105))] := hl
  refine lv_aload_n hx hb dX5_isRead_0 rfl (lv_at hl 1 rfl) ?_
  refine vp_callSi (rd_wVs (i := 5) (wc := []) (As := []) (rest := []) hx hb hml hown ht (ct_length_5) wd_J0_length_8abf5 mw_436 hQ hV va_S.rf (hP.sub [] rfl) (by decide) rfl rfl hl.1 rfl (Nat.le_of_ble_eq_true rfl) dX5_isRead_1 ⟨Nat.le_of_ble_eq_true rfl, Nat.le_of_ble_eq_true rfl, rfl, rfl⟩ ⟨Nat.le_of_ble_eq_true rfl, Nat.le_of_ble_eq_true rfl⟩) (fun r_1 er_1 => ?_)
  obtain rfl : r_1 = 3 := er_1
  refine lv_aload_n hx hb dX5_isRead_4 rfl (lv_at hl 0 rfl) ?_
  refine fl_get (C := RX5) (T := TX5) (N := 7) (ci := 4) (v := .int 0) hx hb ht in_X5 hown hK hP 0 rfl rfl 2 (by decide) mw_132 rfl dX5_isRead_5 ?_
  refine lv_aload_n hx hb dX5_isRead_8 rfl (lv_at hl 0 rfl) ?_
  refine fl_get (C := RX5) (T := TX5) (N := 7) (ci := 4) (v := .int 0) hx hb ht in_X5 hown hK hP 0 rfl rfl 3 (by decide) mw_135 rfl dX5_isRead_9 ?_
  refine lv_isub hx hb dX5_isRead_12 ?_
  refine ab_i (v := 0) (by decide) ?_
  refine lv_icmp_eq (tgt := 18) hx hb dX5_isRead_13 (by decide) (fun c9 => absurd c9 (by decide)) (fun c_2 => ?_)
  refine lv_iconst (v := 0) hx hb dX5_isRead_16 (by decide) ?_
  exact rd_zret hx hb hr hk rfl (rfl) dX5_isRead_17

set_option maxHeartbeats 4000000 in
set_option maxRecDepth 100000 in
theorem ct_coder_6 {l : Launch} {D : va_G} {q : Nat → ClassId}  : Met l yJ0_coder_7d493 (Cond.code yJ0_coder_7d493 cJ0_coder_7d493 1 (some .byte) :: w_all) ({ frames := 0, cells := 0, slots := 0, locals := 0 }) (rd_P D q [.ref (q 106)] []) (vp_Si (fun r => r = 0)) 0 0 (fun _ => False) := by
  refine rd_start (by decide) (Nat.le_of_ble_eq_true rfl) ?_
  intro p e s m below meth c ls hx hb hr hml hown ht hk hP hQ hV hl
  have hK := hQ.1
  have hown : s.vm.findClass RJ0 = some m.cls := hown
  have hl : lv_has ls 1 [(0, .ref (q 106))] := hl
  refine va_gets (v := .int 1) hx hb hV.2.1 va_S.rf hown (ht _ mw_444) (fun _ h => h) dJ0_coder_7d493_0 ?_
  refine lv_if_eq (tgt := 13) hx hb dJ0_coder_7d493_3 (by decide) (fun c9 => absurd c9 (by decide)) (fun c_1 => ?_)
  refine lv_aload_n hx hb dJ0_coder_7d493_6 rfl (lv_at hl 0 rfl) ?_
  refine vk_getf (v := .int 0) hx hb (hV.1.1 6 (by decide)).2.1 va_S.rf hown (ht _ mw_1706) (fun _ h => h) dJ0_coder_7d493_7 ?_
  refine lv_goto (tgt := 14) hx hb dJ0_coder_7d493_10 (by decide) ?_
  exact rd_zret hx hb hr hk rfl (rfl) dJ0_coder_7d493_14

set_option maxHeartbeats 4000000 in
set_option maxRecDepth 100000 in
theorem ct_length_6 {l : Launch} {D : va_G} {q : Nat → ClassId}  : Met l yJ0_length_8abf5 (Cond.code yJ0_length_8abf5 cJ0_length_8abf5 1 (some .int) :: w_all) ({ frames := 1, cells := 0, slots := 0, locals := 20 }) (rd_P D q [.ref (q 106)] []) (vp_Si (fun r => r = 4)) 0 0 (fun _ => False) := by
  refine rd_start (by decide) (Nat.le_of_ble_eq_true rfl) ?_
  intro p e s m below meth c ls hx hb hr hml hown ht hk hP hQ hV hl
  have hK := hQ.1
  have hown : s.vm.findClass RJ0 = some m.cls := hown
  have hl : lv_has ls 1 [(0, .ref (q 106))] := hl
  refine lv_aload_n hx hb dJ0_length_8abf5_0 rfl (lv_at hl 0 rfl) ?_
  refine vk_getf (v := .ref (q 206)) hx hb (hV.1.1 6 (by decide)).2.2.1 va_S.rf hown (ht _ mw_1705) (fun _ h => h) dJ0_length_8abf5_1 ?_
  refine va_tlen (v := 4) hx hb (hV.1.1 6 (by decide)).2.2.2 va_S.rf rfl dJ0_length_8abf5_4 ?_
  refine lv_aload_n hx hb dJ0_length_8abf5_5 rfl (lv_at hl 0 rfl) ?_
  refine vp_callSi (rd_wVs (i := 6) (wc := []) (As := []) (rest := [.int 4]) hx hb hml hown ht (ct_coder_6) wd_J0_coder_7d493 mw_440 hQ hV va_S.rf (hP.sub [] rfl) (by decide) rfl rfl hl.1 rfl (Nat.le_of_ble_eq_true rfl) dJ0_length_8abf5_6 ⟨Nat.le_of_ble_eq_true rfl, Nat.le_of_ble_eq_true rfl, rfl, rfl⟩ ⟨Nat.le_of_ble_eq_true rfl, Nat.le_of_ble_eq_true rfl⟩) (fun r_1 er_1 => ?_)
  obtain rfl : r_1 = 0 := er_1
  refine lv_ishr hx hb dJ0_length_8abf5_9 ?_
  refine ab_i (v := 4) (by decide) ?_
  exact rd_iret hx hb hr hk (rfl) dJ0_length_8abf5_10

set_option maxHeartbeats 4000000 in
set_option maxRecDepth 100000 in
theorem ct_isRead_6 {l : Launch} {D : va_G} {q : Nat → ClassId} {h0 g0 : Nat} {i4 i5 i6 : Int32} : Met l yX5_isRead (Cond.code yX5_isRead cX5_isRead 3 (some .boolean) :: w_all) ({ frames := 2, cells := 0, slots := 0, locals := 40 }) (rd_P D q [.ref h0, .ref (q 106)] [(h0, .inr (4, [.ref g0, .int 0, .int 0, .int 0, .int i4, .int i5, .int i6]))]) (vp_Si (fun r => r = 0)) 0 0 (fun _ => False) := by
  refine rd_start (by decide) (Nat.le_of_ble_eq_true rfl) ?_
  intro p e s m below meth c ls hx hb hr hml hown ht hk hP hQ hV hl
  have hK := hQ.1
  have hown : s.vm.findClass RX5 = some m.cls := hown
  have hl : lv_has ls 3 [(0, .ref h0), (1, .ref (q 106))] := hl
  refine lv_aload_n hx hb dX5_isRead_0 rfl (lv_at hl 1 rfl) ?_
  refine vp_callSi (rd_wVs (i := 6) (wc := []) (As := []) (rest := []) hx hb hml hown ht (ct_length_6) wd_J0_length_8abf5 mw_436 hQ hV va_S.rf (hP.sub [] rfl) (by decide) rfl rfl hl.1 rfl (Nat.le_of_ble_eq_true rfl) dX5_isRead_1 ⟨Nat.le_of_ble_eq_true rfl, Nat.le_of_ble_eq_true rfl, rfl, rfl⟩ ⟨Nat.le_of_ble_eq_true rfl, Nat.le_of_ble_eq_true rfl⟩) (fun r_1 er_1 => ?_)
  obtain rfl : r_1 = 4 := er_1
  refine lv_aload_n hx hb dX5_isRead_4 rfl (lv_at hl 0 rfl) ?_
  refine fl_get (C := RX5) (T := TX5) (N := 7) (ci := 4) (v := .int 0) hx hb ht in_X5 hown hK hP 0 rfl rfl 2 (by decide) mw_132 rfl dX5_isRead_5 ?_
  refine lv_aload_n hx hb dX5_isRead_8 rfl (lv_at hl 0 rfl) ?_
  refine fl_get (C := RX5) (T := TX5) (N := 7) (ci := 4) (v := .int 0) hx hb ht in_X5 hown hK hP 0 rfl rfl 3 (by decide) mw_135 rfl dX5_isRead_9 ?_
  refine lv_isub hx hb dX5_isRead_12 ?_
  refine ab_i (v := 0) (by decide) ?_
  refine lv_icmp_eq (tgt := 18) hx hb dX5_isRead_13 (by decide) (fun c9 => absurd c9 (by decide)) (fun c_2 => ?_)
  refine lv_iconst (v := 0) hx hb dX5_isRead_16 (by decide) ?_
  exact rd_zret hx hb hr hk rfl (rfl) dX5_isRead_17

set_option maxHeartbeats 4000000 in
set_option maxRecDepth 100000 in
theorem ct_coder_7 {l : Launch} {D : va_G} {q : Nat → ClassId}  : Met l yJ0_coder_7d493 (Cond.code yJ0_coder_7d493 cJ0_coder_7d493 1 (some .byte) :: w_all) ({ frames := 0, cells := 0, slots := 0, locals := 0 }) (rd_P D q [.ref (q 107)] []) (vp_Si (fun r => r = 0)) 0 0 (fun _ => False) := by
  refine rd_start (by decide) (Nat.le_of_ble_eq_true rfl) ?_
  intro p e s m below meth c ls hx hb hr hml hown ht hk hP hQ hV hl
  have hK := hQ.1
  have hown : s.vm.findClass RJ0 = some m.cls := hown
  have hl : lv_has ls 1 [(0, .ref (q 107))] := hl
  refine va_gets (v := .int 1) hx hb hV.2.1 va_S.rf hown (ht _ mw_444) (fun _ h => h) dJ0_coder_7d493_0 ?_
  refine lv_if_eq (tgt := 13) hx hb dJ0_coder_7d493_3 (by decide) (fun c9 => absurd c9 (by decide)) (fun c_1 => ?_)
  refine lv_aload_n hx hb dJ0_coder_7d493_6 rfl (lv_at hl 0 rfl) ?_
  refine vk_getf (v := .int 0) hx hb (hV.1.1 7 (by decide)).2.1 va_S.rf hown (ht _ mw_1706) (fun _ h => h) dJ0_coder_7d493_7 ?_
  refine lv_goto (tgt := 14) hx hb dJ0_coder_7d493_10 (by decide) ?_
  exact rd_zret hx hb hr hk rfl (rfl) dJ0_coder_7d493_14

set_option maxHeartbeats 4000000 in
set_option maxRecDepth 100000 in
theorem ct_length_7 {l : Launch} {D : va_G} {q : Nat → ClassId}  : Met l yJ0_length_8abf5 (Cond.code yJ0_length_8abf5 cJ0_length_8abf5 1 (some .int) :: w_all) ({ frames := 1, cells := 0, slots := 0, locals := 20 }) (rd_P D q [.ref (q 107)] []) (vp_Si (fun r => r = 6)) 0 0 (fun _ => False) := by
  refine rd_start (by decide) (Nat.le_of_ble_eq_true rfl) ?_
  intro p e s m below meth c ls hx hb hr hml hown ht hk hP hQ hV hl
  have hK := hQ.1
  have hown : s.vm.findClass RJ0 = some m.cls := hown
  have hl : lv_has ls 1 [(0, .ref (q 107))] := hl
  refine lv_aload_n hx hb dJ0_length_8abf5_0 rfl (lv_at hl 0 rfl) ?_
  refine vk_getf (v := .ref (q 207)) hx hb (hV.1.1 7 (by decide)).2.2.1 va_S.rf hown (ht _ mw_1705) (fun _ h => h) dJ0_length_8abf5_1 ?_
  refine va_tlen (v := 6) hx hb (hV.1.1 7 (by decide)).2.2.2 va_S.rf rfl dJ0_length_8abf5_4 ?_
  refine lv_aload_n hx hb dJ0_length_8abf5_5 rfl (lv_at hl 0 rfl) ?_
  refine vp_callSi (rd_wVs (i := 7) (wc := []) (As := []) (rest := [.int 6]) hx hb hml hown ht (ct_coder_7) wd_J0_coder_7d493 mw_440 hQ hV va_S.rf (hP.sub [] rfl) (by decide) rfl rfl hl.1 rfl (Nat.le_of_ble_eq_true rfl) dJ0_length_8abf5_6 ⟨Nat.le_of_ble_eq_true rfl, Nat.le_of_ble_eq_true rfl, rfl, rfl⟩ ⟨Nat.le_of_ble_eq_true rfl, Nat.le_of_ble_eq_true rfl⟩) (fun r_1 er_1 => ?_)
  obtain rfl : r_1 = 0 := er_1
  refine lv_ishr hx hb dJ0_length_8abf5_9 ?_
  refine ab_i (v := 6) (by decide) ?_
  exact rd_iret hx hb hr hk (rfl) dJ0_length_8abf5_10

set_option maxHeartbeats 4000000 in
set_option maxRecDepth 100000 in
theorem ct_isRead_7 {l : Launch} {D : va_G} {q : Nat → ClassId} {h0 g0 : Nat} {i4 i5 i6 : Int32} : Met l yX5_isRead (Cond.code yX5_isRead cX5_isRead 3 (some .boolean) :: w_all) ({ frames := 2, cells := 0, slots := 0, locals := 40 }) (rd_P D q [.ref h0, .ref (q 107)] [(h0, .inr (4, [.ref g0, .int 0, .int 0, .int 0, .int i4, .int i5, .int i6]))]) (vp_Si (fun r => r = 0)) 0 0 (fun _ => False) := by
  refine rd_start (by decide) (Nat.le_of_ble_eq_true rfl) ?_
  intro p e s m below meth c ls hx hb hr hml hown ht hk hP hQ hV hl
  have hK := hQ.1
  have hown : s.vm.findClass RX5 = some m.cls := hown
  have hl : lv_has ls 3 [(0, .ref h0), (1, .ref (q 107))] := hl
  refine lv_aload_n hx hb dX5_isRead_0 rfl (lv_at hl 1 rfl) ?_
  refine vp_callSi (rd_wVs (i := 7) (wc := []) (As := []) (rest := []) hx hb hml hown ht (ct_length_7) wd_J0_length_8abf5 mw_436 hQ hV va_S.rf (hP.sub [] rfl) (by decide) rfl rfl hl.1 rfl (Nat.le_of_ble_eq_true rfl) dX5_isRead_1 ⟨Nat.le_of_ble_eq_true rfl, Nat.le_of_ble_eq_true rfl, rfl, rfl⟩ ⟨Nat.le_of_ble_eq_true rfl, Nat.le_of_ble_eq_true rfl⟩) (fun r_1 er_1 => ?_)
  obtain rfl : r_1 = 6 := er_1
  refine lv_aload_n hx hb dX5_isRead_4 rfl (lv_at hl 0 rfl) ?_
  refine fl_get (C := RX5) (T := TX5) (N := 7) (ci := 4) (v := .int 0) hx hb ht in_X5 hown hK hP 0 rfl rfl 2 (by decide) mw_132 rfl dX5_isRead_5 ?_
  refine lv_aload_n hx hb dX5_isRead_8 rfl (lv_at hl 0 rfl) ?_
  refine fl_get (C := RX5) (T := TX5) (N := 7) (ci := 4) (v := .int 0) hx hb ht in_X5 hown hK hP 0 rfl rfl 3 (by decide) mw_135 rfl dX5_isRead_9 ?_
  refine lv_isub hx hb dX5_isRead_12 ?_
  refine ab_i (v := 0) (by decide) ?_
  refine lv_icmp_eq (tgt := 18) hx hb dX5_isRead_13 (by decide) (fun c9 => absurd c9 (by decide)) (fun c_2 => ?_)
  refine lv_iconst (v := 0) hx hb dX5_isRead_16 (by decide) ?_
  exact rd_zret hx hb hr hk rfl (rfl) dX5_isRead_17

set_option maxHeartbeats 4000000 in
set_option maxRecDepth 100000 in
theorem ct_coder_8 {l : Launch} {D : va_G} {q : Nat → ClassId}  : Met l yJ0_coder_7d493 (Cond.code yJ0_coder_7d493 cJ0_coder_7d493 1 (some .byte) :: w_all) ({ frames := 0, cells := 0, slots := 0, locals := 0 }) (rd_P D q [.ref (q 108)] []) (vp_Si (fun r => r = 0)) 0 0 (fun _ => False) := by
  refine rd_start (by decide) (Nat.le_of_ble_eq_true rfl) ?_
  intro p e s m below meth c ls hx hb hr hml hown ht hk hP hQ hV hl
  have hK := hQ.1
  have hown : s.vm.findClass RJ0 = some m.cls := hown
  have hl : lv_has ls 1 [(0, .ref (q 108))] := hl
  refine va_gets (v := .int 1) hx hb hV.2.1 va_S.rf hown (ht _ mw_444) (fun _ h => h) dJ0_coder_7d493_0 ?_
  refine lv_if_eq (tgt := 13) hx hb dJ0_coder_7d493_3 (by decide) (fun c9 => absurd c9 (by decide)) (fun c_1 => ?_)
  refine lv_aload_n hx hb dJ0_coder_7d493_6 rfl (lv_at hl 0 rfl) ?_
  refine vk_getf (v := .int 0) hx hb (hV.1.1 8 (by decide)).2.1 va_S.rf hown (ht _ mw_1706) (fun _ h => h) dJ0_coder_7d493_7 ?_
  refine lv_goto (tgt := 14) hx hb dJ0_coder_7d493_10 (by decide) ?_
  exact rd_zret hx hb hr hk rfl (rfl) dJ0_coder_7d493_14

set_option maxHeartbeats 4000000 in
set_option maxRecDepth 100000 in
theorem ct_length_8 {l : Launch} {D : va_G} {q : Nat → ClassId}  : Met l yJ0_length_8abf5 (Cond.code yJ0_length_8abf5 cJ0_length_8abf5 1 (some .int) :: w_all) ({ frames := 1, cells := 0, slots := 0, locals := 20 }) (rd_P D q [.ref (q 108)] []) (vp_Si (fun r => r = 4)) 0 0 (fun _ => False) := by
  refine rd_start (by decide) (Nat.le_of_ble_eq_true rfl) ?_
  intro p e s m below meth c ls hx hb hr hml hown ht hk hP hQ hV hl
  have hK := hQ.1
  have hown : s.vm.findClass RJ0 = some m.cls := hown
  have hl : lv_has ls 1 [(0, .ref (q 108))] := hl
  refine lv_aload_n hx hb dJ0_length_8abf5_0 rfl (lv_at hl 0 rfl) ?_
  refine vk_getf (v := .ref (q 208)) hx hb (hV.1.1 8 (by decide)).2.2.1 va_S.rf hown (ht _ mw_1705) (fun _ h => h) dJ0_length_8abf5_1 ?_
  refine va_tlen (v := 4) hx hb (hV.1.1 8 (by decide)).2.2.2 va_S.rf rfl dJ0_length_8abf5_4 ?_
  refine lv_aload_n hx hb dJ0_length_8abf5_5 rfl (lv_at hl 0 rfl) ?_
  refine vp_callSi (rd_wVs (i := 8) (wc := []) (As := []) (rest := [.int 4]) hx hb hml hown ht (ct_coder_8) wd_J0_coder_7d493 mw_440 hQ hV va_S.rf (hP.sub [] rfl) (by decide) rfl rfl hl.1 rfl (Nat.le_of_ble_eq_true rfl) dJ0_length_8abf5_6 ⟨Nat.le_of_ble_eq_true rfl, Nat.le_of_ble_eq_true rfl, rfl, rfl⟩ ⟨Nat.le_of_ble_eq_true rfl, Nat.le_of_ble_eq_true rfl⟩) (fun r_1 er_1 => ?_)
  obtain rfl : r_1 = 0 := er_1
  refine lv_ishr hx hb dJ0_length_8abf5_9 ?_
  refine ab_i (v := 4) (by decide) ?_
  exact rd_iret hx hb hr hk (rfl) dJ0_length_8abf5_10

set_option maxHeartbeats 4000000 in
set_option maxRecDepth 100000 in
theorem ct_isRead_8 {l : Launch} {D : va_G} {q : Nat → ClassId} {h0 g0 : Nat} {i4 i5 i6 : Int32} : Met l yX5_isRead (Cond.code yX5_isRead cX5_isRead 3 (some .boolean) :: w_all) ({ frames := 2, cells := 0, slots := 0, locals := 40 }) (rd_P D q [.ref h0, .ref (q 108)] [(h0, .inr (4, [.ref g0, .int 0, .int 0, .int 0, .int i4, .int i5, .int i6]))]) (vp_Si (fun r => r = 0)) 0 0 (fun _ => False) := by
  refine rd_start (by decide) (Nat.le_of_ble_eq_true rfl) ?_
  intro p e s m below meth c ls hx hb hr hml hown ht hk hP hQ hV hl
  have hK := hQ.1
  have hown : s.vm.findClass RX5 = some m.cls := hown
  have hl : lv_has ls 3 [(0, .ref h0), (1, .ref (q 108))] := hl
  refine lv_aload_n hx hb dX5_isRead_0 rfl (lv_at hl 1 rfl) ?_
  refine vp_callSi (rd_wVs (i := 8) (wc := []) (As := []) (rest := []) hx hb hml hown ht (ct_length_8) wd_J0_length_8abf5 mw_436 hQ hV va_S.rf (hP.sub [] rfl) (by decide) rfl rfl hl.1 rfl (Nat.le_of_ble_eq_true rfl) dX5_isRead_1 ⟨Nat.le_of_ble_eq_true rfl, Nat.le_of_ble_eq_true rfl, rfl, rfl⟩ ⟨Nat.le_of_ble_eq_true rfl, Nat.le_of_ble_eq_true rfl⟩) (fun r_1 er_1 => ?_)
  obtain rfl : r_1 = 4 := er_1
  refine lv_aload_n hx hb dX5_isRead_4 rfl (lv_at hl 0 rfl) ?_
  refine fl_get (C := RX5) (T := TX5) (N := 7) (ci := 4) (v := .int 0) hx hb ht in_X5 hown hK hP 0 rfl rfl 2 (by decide) mw_132 rfl dX5_isRead_5 ?_
  refine lv_aload_n hx hb dX5_isRead_8 rfl (lv_at hl 0 rfl) ?_
  refine fl_get (C := RX5) (T := TX5) (N := 7) (ci := 4) (v := .int 0) hx hb ht in_X5 hown hK hP 0 rfl rfl 3 (by decide) mw_135 rfl dX5_isRead_9 ?_
  refine lv_isub hx hb dX5_isRead_12 ?_
  refine ab_i (v := 0) (by decide) ?_
  refine lv_icmp_eq (tgt := 18) hx hb dX5_isRead_13 (by decide) (fun c9 => absurd c9 (by decide)) (fun c_2 => ?_)
  refine lv_iconst (v := 0) hx hb dX5_isRead_16 (by decide) ?_
  exact rd_zret hx hb hr hk rfl (rfl) dX5_isRead_17

set_option maxHeartbeats 4000000 in
set_option maxRecDepth 100000 in
theorem ct_coder_9 {l : Launch} {D : va_G} {q : Nat → ClassId}  : Met l yJ0_coder_7d493 (Cond.code yJ0_coder_7d493 cJ0_coder_7d493 1 (some .byte) :: w_all) ({ frames := 0, cells := 0, slots := 0, locals := 0 }) (rd_P D q [.ref (q 109)] []) (vp_Si (fun r => r = 0)) 0 0 (fun _ => False) := by
  refine rd_start (by decide) (Nat.le_of_ble_eq_true rfl) ?_
  intro p e s m below meth c ls hx hb hr hml hown ht hk hP hQ hV hl
  have hK := hQ.1
  have hown : s.vm.findClass RJ0 = some m.cls := hown
  have hl : lv_has ls 1 [(0, .ref (q 109))] := hl
  refine va_gets (v := .int 1) hx hb hV.2.1 va_S.rf hown (ht _ mw_444) (fun _ h => h) dJ0_coder_7d493_0 ?_
  refine lv_if_eq (tgt := 13) hx hb dJ0_coder_7d493_3 (by decide) (fun c9 => absurd c9 (by decide)) (fun c_1 => ?_)
  refine lv_aload_n hx hb dJ0_coder_7d493_6 rfl (lv_at hl 0 rfl) ?_
  refine vk_getf (v := .int 0) hx hb (hV.1.1 9 (by decide)).2.1 va_S.rf hown (ht _ mw_1706) (fun _ h => h) dJ0_coder_7d493_7 ?_
  refine lv_goto (tgt := 14) hx hb dJ0_coder_7d493_10 (by decide) ?_
  exact rd_zret hx hb hr hk rfl (rfl) dJ0_coder_7d493_14

set_option maxHeartbeats 4000000 in
set_option maxRecDepth 100000 in
theorem ct_length_9 {l : Launch} {D : va_G} {q : Nat → ClassId}  : Met l yJ0_length_8abf5 (Cond.code yJ0_length_8abf5 cJ0_length_8abf5 1 (some .int) :: w_all) ({ frames := 1, cells := 0, slots := 0, locals := 20 }) (rd_P D q [.ref (q 109)] []) (vp_Si (fun r => r = 4)) 0 0 (fun _ => False) := by
  refine rd_start (by decide) (Nat.le_of_ble_eq_true rfl) ?_
  intro p e s m below meth c ls hx hb hr hml hown ht hk hP hQ hV hl
  have hK := hQ.1
  have hown : s.vm.findClass RJ0 = some m.cls := hown
  have hl : lv_has ls 1 [(0, .ref (q 109))] := hl
  refine lv_aload_n hx hb dJ0_length_8abf5_0 rfl (lv_at hl 0 rfl) ?_
  refine vk_getf (v := .ref (q 209)) hx hb (hV.1.1 9 (by decide)).2.2.1 va_S.rf hown (ht _ mw_1705) (fun _ h => h) dJ0_length_8abf5_1 ?_
  refine va_tlen (v := 4) hx hb (hV.1.1 9 (by decide)).2.2.2 va_S.rf rfl dJ0_length_8abf5_4 ?_
  refine lv_aload_n hx hb dJ0_length_8abf5_5 rfl (lv_at hl 0 rfl) ?_
  refine vp_callSi (rd_wVs (i := 9) (wc := []) (As := []) (rest := [.int 4]) hx hb hml hown ht (ct_coder_9) wd_J0_coder_7d493 mw_440 hQ hV va_S.rf (hP.sub [] rfl) (by decide) rfl rfl hl.1 rfl (Nat.le_of_ble_eq_true rfl) dJ0_length_8abf5_6 ⟨Nat.le_of_ble_eq_true rfl, Nat.le_of_ble_eq_true rfl, rfl, rfl⟩ ⟨Nat.le_of_ble_eq_true rfl, Nat.le_of_ble_eq_true rfl⟩) (fun r_1 er_1 => ?_)
  obtain rfl : r_1 = 0 := er_1
  refine lv_ishr hx hb dJ0_length_8abf5_9 ?_
  refine ab_i (v := 4) (by decide) ?_
  exact rd_iret hx hb hr hk (rfl) dJ0_length_8abf5_10

set_option maxHeartbeats 4000000 in
set_option maxRecDepth 100000 in
theorem ct_isRead_9 {l : Launch} {D : va_G} {q : Nat → ClassId} {h0 g0 : Nat} {i4 i5 i6 : Int32} : Met l yX5_isRead (Cond.code yX5_isRead cX5_isRead 3 (some .boolean) :: w_all) ({ frames := 2, cells := 0, slots := 0, locals := 40 }) (rd_P D q [.ref h0, .ref (q 109)] [(h0, .inr (4, [.ref g0, .int 0, .int 0, .int 0, .int i4, .int i5, .int i6]))]) (vp_Si (fun r => r = 0)) 0 0 (fun _ => False) := by
  refine rd_start (by decide) (Nat.le_of_ble_eq_true rfl) ?_
  intro p e s m below meth c ls hx hb hr hml hown ht hk hP hQ hV hl
  have hK := hQ.1
  have hown : s.vm.findClass RX5 = some m.cls := hown
  have hl : lv_has ls 3 [(0, .ref h0), (1, .ref (q 109))] := hl
  refine lv_aload_n hx hb dX5_isRead_0 rfl (lv_at hl 1 rfl) ?_
  refine vp_callSi (rd_wVs (i := 9) (wc := []) (As := []) (rest := []) hx hb hml hown ht (ct_length_9) wd_J0_length_8abf5 mw_436 hQ hV va_S.rf (hP.sub [] rfl) (by decide) rfl rfl hl.1 rfl (Nat.le_of_ble_eq_true rfl) dX5_isRead_1 ⟨Nat.le_of_ble_eq_true rfl, Nat.le_of_ble_eq_true rfl, rfl, rfl⟩ ⟨Nat.le_of_ble_eq_true rfl, Nat.le_of_ble_eq_true rfl⟩) (fun r_1 er_1 => ?_)
  obtain rfl : r_1 = 4 := er_1
  refine lv_aload_n hx hb dX5_isRead_4 rfl (lv_at hl 0 rfl) ?_
  refine fl_get (C := RX5) (T := TX5) (N := 7) (ci := 4) (v := .int 0) hx hb ht in_X5 hown hK hP 0 rfl rfl 2 (by decide) mw_132 rfl dX5_isRead_5 ?_
  refine lv_aload_n hx hb dX5_isRead_8 rfl (lv_at hl 0 rfl) ?_
  refine fl_get (C := RX5) (T := TX5) (N := 7) (ci := 4) (v := .int 0) hx hb ht in_X5 hown hK hP 0 rfl rfl 3 (by decide) mw_135 rfl dX5_isRead_9 ?_
  refine lv_isub hx hb dX5_isRead_12 ?_
  refine ab_i (v := 0) (by decide) ?_
  refine lv_icmp_eq (tgt := 18) hx hb dX5_isRead_13 (by decide) (fun c9 => absurd c9 (by decide)) (fun c_2 => ?_)
  refine lv_iconst (v := 0) hx hb dX5_isRead_16 (by decide) ?_
  exact rd_zret hx hb hr hk rfl (rfl) dX5_isRead_17

set_option maxHeartbeats 4000000 in
set_option maxRecDepth 100000 in
theorem ct_coder_10 {l : Launch} {D : va_G} {q : Nat → ClassId}  : Met l yJ0_coder_7d493 (Cond.code yJ0_coder_7d493 cJ0_coder_7d493 1 (some .byte) :: w_all) ({ frames := 0, cells := 0, slots := 0, locals := 0 }) (rd_P D q [.ref (q 110)] []) (vp_Si (fun r => r = 0)) 0 0 (fun _ => False) := by
  refine rd_start (by decide) (Nat.le_of_ble_eq_true rfl) ?_
  intro p e s m below meth c ls hx hb hr hml hown ht hk hP hQ hV hl
  have hK := hQ.1
  have hown : s.vm.findClass RJ0 = some m.cls := hown
  have hl : lv_has ls 1 [(0, .ref (q 110))] := hl
  refine va_gets (v := .int 1) hx hb hV.2.1 va_S.rf hown (ht _ mw_444) (fun _ h => h) dJ0_coder_7d493_0 ?_
  refine lv_if_eq (tgt := 13) hx hb dJ0_coder_7d493_3 (by decide) (fun c9 => absurd c9 (by decide)) (fun c_1 => ?_)
  refine lv_aload_n hx hb dJ0_coder_7d493_6 rfl (lv_at hl 0 rfl) ?_
  refine vk_getf (v := .int 0) hx hb (hV.1.1 10 (by decide)).2.1 va_S.rf hown (ht _ mw_1706) (fun _ h => h) dJ0_coder_7d493_7 ?_
  refine lv_goto (tgt := 14) hx hb dJ0_coder_7d493_10 (by decide) ?_
  exact rd_zret hx hb hr hk rfl (rfl) dJ0_coder_7d493_14

set_option maxHeartbeats 4000000 in
set_option maxRecDepth 100000 in
theorem ct_length_10 {l : Launch} {D : va_G} {q : Nat → ClassId}  : Met l yJ0_length_8abf5 (Cond.code yJ0_length_8abf5 cJ0_length_8abf5 1 (some .int) :: w_all) ({ frames := 1, cells := 0, slots := 0, locals := 20 }) (rd_P D q [.ref (q 110)] []) (vp_Si (fun r => r = 6)) 0 0 (fun _ => False) := by
  refine rd_start (by decide) (Nat.le_of_ble_eq_true rfl) ?_
  intro p e s m below meth c ls hx hb hr hml hown ht hk hP hQ hV hl
  have hK := hQ.1
  have hown : s.vm.findClass RJ0 = some m.cls := hown
  have hl : lv_has ls 1 [(0, .ref (q 110))] := hl
  refine lv_aload_n hx hb dJ0_length_8abf5_0 rfl (lv_at hl 0 rfl) ?_
  refine vk_getf (v := .ref (q 210)) hx hb (hV.1.1 10 (by decide)).2.2.1 va_S.rf hown (ht _ mw_1705) (fun _ h => h) dJ0_length_8abf5_1 ?_
  refine va_tlen (v := 6) hx hb (hV.1.1 10 (by decide)).2.2.2 va_S.rf rfl dJ0_length_8abf5_4 ?_
  refine lv_aload_n hx hb dJ0_length_8abf5_5 rfl (lv_at hl 0 rfl) ?_
  refine vp_callSi (rd_wVs (i := 10) (wc := []) (As := []) (rest := [.int 6]) hx hb hml hown ht (ct_coder_10) wd_J0_coder_7d493 mw_440 hQ hV va_S.rf (hP.sub [] rfl) (by decide) rfl rfl hl.1 rfl (Nat.le_of_ble_eq_true rfl) dJ0_length_8abf5_6 ⟨Nat.le_of_ble_eq_true rfl, Nat.le_of_ble_eq_true rfl, rfl, rfl⟩ ⟨Nat.le_of_ble_eq_true rfl, Nat.le_of_ble_eq_true rfl⟩) (fun r_1 er_1 => ?_)
  obtain rfl : r_1 = 0 := er_1
  refine lv_ishr hx hb dJ0_length_8abf5_9 ?_
  refine ab_i (v := 6) (by decide) ?_
  exact rd_iret hx hb hr hk (rfl) dJ0_length_8abf5_10

set_option maxHeartbeats 4000000 in
set_option maxRecDepth 100000 in
theorem ct_isRead_10 {l : Launch} {D : va_G} {q : Nat → ClassId} {h0 g0 : Nat} {i4 i5 i6 : Int32} : Met l yX5_isRead (Cond.code yX5_isRead cX5_isRead 3 (some .boolean) :: w_all) ({ frames := 2, cells := 0, slots := 0, locals := 40 }) (rd_P D q [.ref h0, .ref (q 110)] [(h0, .inr (4, [.ref g0, .int 0, .int 0, .int 0, .int i4, .int i5, .int i6]))]) (vp_Si (fun r => r = 0)) 0 0 (fun _ => False) := by
  refine rd_start (by decide) (Nat.le_of_ble_eq_true rfl) ?_
  intro p e s m below meth c ls hx hb hr hml hown ht hk hP hQ hV hl
  have hK := hQ.1
  have hown : s.vm.findClass RX5 = some m.cls := hown
  have hl : lv_has ls 3 [(0, .ref h0), (1, .ref (q 110))] := hl
  refine lv_aload_n hx hb dX5_isRead_0 rfl (lv_at hl 1 rfl) ?_
  refine vp_callSi (rd_wVs (i := 10) (wc := []) (As := []) (rest := []) hx hb hml hown ht (ct_length_10) wd_J0_length_8abf5 mw_436 hQ hV va_S.rf (hP.sub [] rfl) (by decide) rfl rfl hl.1 rfl (Nat.le_of_ble_eq_true rfl) dX5_isRead_1 ⟨Nat.le_of_ble_eq_true rfl, Nat.le_of_ble_eq_true rfl, rfl, rfl⟩ ⟨Nat.le_of_ble_eq_true rfl, Nat.le_of_ble_eq_true rfl⟩) (fun r_1 er_1 => ?_)
  obtain rfl : r_1 = 6 := er_1
  refine lv_aload_n hx hb dX5_isRead_4 rfl (lv_at hl 0 rfl) ?_
  refine fl_get (C := RX5) (T := TX5) (N := 7) (ci := 4) (v := .int 0) hx hb ht in_X5 hown hK hP 0 rfl rfl 2 (by decide) mw_132 rfl dX5_isRead_5 ?_
  refine lv_aload_n hx hb dX5_isRead_8 rfl (lv_at hl 0 rfl) ?_
  refine fl_get (C := RX5) (T := TX5) (N := 7) (ci := 4) (v := .int 0) hx hb ht in_X5 hown hK hP 0 rfl rfl 3 (by decide) mw_135 rfl dX5_isRead_9 ?_
  refine lv_isub hx hb dX5_isRead_12 ?_
  refine ab_i (v := 0) (by decide) ?_
  refine lv_icmp_eq (tgt := 18) hx hb dX5_isRead_13 (by decide) (fun c9 => absurd c9 (by decide)) (fun c_2 => ?_)
  refine lv_iconst (v := 0) hx hb dX5_isRead_16 (by decide) ?_
  exact rd_zret hx hb hr hk rfl (rfl) dX5_isRead_17

set_option maxHeartbeats 4000000 in
set_option maxRecDepth 100000 in
theorem ct_coder_11 {l : Launch} {D : va_G} {q : Nat → ClassId}  : Met l yJ0_coder_7d493 (Cond.code yJ0_coder_7d493 cJ0_coder_7d493 1 (some .byte) :: w_all) ({ frames := 0, cells := 0, slots := 0, locals := 0 }) (rd_P D q [.ref (q 111)] []) (vp_Si (fun r => r = 0)) 0 0 (fun _ => False) := by
  refine rd_start (by decide) (Nat.le_of_ble_eq_true rfl) ?_
  intro p e s m below meth c ls hx hb hr hml hown ht hk hP hQ hV hl
  have hK := hQ.1
  have hown : s.vm.findClass RJ0 = some m.cls := hown
  have hl : lv_has ls 1 [(0, .ref (q 111))] := hl
  refine va_gets (v := .int 1) hx hb hV.2.1 va_S.rf hown (ht _ mw_444) (fun _ h => h) dJ0_coder_7d493_0 ?_
  refine lv_if_eq (tgt := 13) hx hb dJ0_coder_7d493_3 (by decide) (fun c9 => absurd c9 (by decide)) (fun c_1 => ?_)
  refine lv_aload_n hx hb dJ0_coder_7d493_6 rfl (lv_at hl 0 rfl) ?_
  refine vk_getf (v := .int 0) hx hb (hV.1.1 11 (by decide)).2.1 va_S.rf hown (ht _ mw_1706) (fun _ h => h) dJ0_coder_7d493_7 ?_
  refine lv_goto (tgt := 14) hx hb dJ0_coder_7d493_10 (by decide) ?_
  exact rd_zret hx hb hr hk rfl (rfl) dJ0_coder_7d493_14

set_option maxHeartbeats 4000000 in
set_option maxRecDepth 100000 in
theorem ct_length_11 {l : Launch} {D : va_G} {q : Nat → ClassId}  : Met l yJ0_length_8abf5 (Cond.code yJ0_length_8abf5 cJ0_length_8abf5 1 (some .int) :: w_all) ({ frames := 1, cells := 0, slots := 0, locals := 20 }) (rd_P D q [.ref (q 111)] []) (vp_Si (fun r => r = 5)) 0 0 (fun _ => False) := by
  refine rd_start (by decide) (Nat.le_of_ble_eq_true rfl) ?_
  intro p e s m below meth c ls hx hb hr hml hown ht hk hP hQ hV hl
  have hK := hQ.1
  have hown : s.vm.findClass RJ0 = some m.cls := hown
  have hl : lv_has ls 1 [(0, .ref (q 111))] := hl
  refine lv_aload_n hx hb dJ0_length_8abf5_0 rfl (lv_at hl 0 rfl) ?_
  refine vk_getf (v := .ref (q 211)) hx hb (hV.1.1 11 (by decide)).2.2.1 va_S.rf hown (ht _ mw_1705) (fun _ h => h) dJ0_length_8abf5_1 ?_
  refine va_tlen (v := 5) hx hb (hV.1.1 11 (by decide)).2.2.2 va_S.rf rfl dJ0_length_8abf5_4 ?_
  refine lv_aload_n hx hb dJ0_length_8abf5_5 rfl (lv_at hl 0 rfl) ?_
  refine vp_callSi (rd_wVs (i := 11) (wc := []) (As := []) (rest := [.int 5]) hx hb hml hown ht (ct_coder_11) wd_J0_coder_7d493 mw_440 hQ hV va_S.rf (hP.sub [] rfl) (by decide) rfl rfl hl.1 rfl (Nat.le_of_ble_eq_true rfl) dJ0_length_8abf5_6 ⟨Nat.le_of_ble_eq_true rfl, Nat.le_of_ble_eq_true rfl, rfl, rfl⟩ ⟨Nat.le_of_ble_eq_true rfl, Nat.le_of_ble_eq_true rfl⟩) (fun r_1 er_1 => ?_)
  obtain rfl : r_1 = 0 := er_1
  refine lv_ishr hx hb dJ0_length_8abf5_9 ?_
  refine ab_i (v := 5) (by decide) ?_
  exact rd_iret hx hb hr hk (rfl) dJ0_length_8abf5_10

set_option maxHeartbeats 4000000 in
set_option maxRecDepth 100000 in
theorem ct_isRead_11 {l : Launch} {D : va_G} {q : Nat → ClassId} {h0 g0 : Nat} {i4 i5 i6 : Int32} : Met l yX5_isRead (Cond.code yX5_isRead cX5_isRead 3 (some .boolean) :: w_all) ({ frames := 2, cells := 0, slots := 0, locals := 40 }) (rd_P D q [.ref h0, .ref (q 111)] [(h0, .inr (4, [.ref g0, .int 0, .int 0, .int 0, .int i4, .int i5, .int i6]))]) (vp_Si (fun r => r = 0)) 0 0 (fun _ => False) := by
  refine rd_start (by decide) (Nat.le_of_ble_eq_true rfl) ?_
  intro p e s m below meth c ls hx hb hr hml hown ht hk hP hQ hV hl
  have hK := hQ.1
  have hown : s.vm.findClass RX5 = some m.cls := hown
  have hl : lv_has ls 3 [(0, .ref h0), (1, .ref (q 111))] := hl
  refine lv_aload_n hx hb dX5_isRead_0 rfl (lv_at hl 1 rfl) ?_
  refine vp_callSi (rd_wVs (i := 11) (wc := []) (As := []) (rest := []) hx hb hml hown ht (ct_length_11) wd_J0_length_8abf5 mw_436 hQ hV va_S.rf (hP.sub [] rfl) (by decide) rfl rfl hl.1 rfl (Nat.le_of_ble_eq_true rfl) dX5_isRead_1 ⟨Nat.le_of_ble_eq_true rfl, Nat.le_of_ble_eq_true rfl, rfl, rfl⟩ ⟨Nat.le_of_ble_eq_true rfl, Nat.le_of_ble_eq_true rfl⟩) (fun r_1 er_1 => ?_)
  obtain rfl : r_1 = 5 := er_1
  refine lv_aload_n hx hb dX5_isRead_4 rfl (lv_at hl 0 rfl) ?_
  refine fl_get (C := RX5) (T := TX5) (N := 7) (ci := 4) (v := .int 0) hx hb ht in_X5 hown hK hP 0 rfl rfl 2 (by decide) mw_132 rfl dX5_isRead_5 ?_
  refine lv_aload_n hx hb dX5_isRead_8 rfl (lv_at hl 0 rfl) ?_
  refine fl_get (C := RX5) (T := TX5) (N := 7) (ci := 4) (v := .int 0) hx hb ht in_X5 hown hK hP 0 rfl rfl 3 (by decide) mw_135 rfl dX5_isRead_9 ?_
  refine lv_isub hx hb dX5_isRead_12 ?_
  refine ab_i (v := 0) (by decide) ?_
  refine lv_icmp_eq (tgt := 18) hx hb dX5_isRead_13 (by decide) (fun c9 => absurd c9 (by decide)) (fun c_2 => ?_)
  refine lv_iconst (v := 0) hx hb dX5_isRead_16 (by decide) ?_
  exact rd_zret hx hb hr hk rfl (rfl) dX5_isRead_17

set_option maxHeartbeats 4000000 in
set_option maxRecDepth 100000 in
theorem ct_isLatin1_0 {l : Launch} {D : va_G} {q : Nat → ClassId}  : Met l yJ0_isLatin1_aae02 (Cond.code yJ0_isLatin1_aae02 cJ0_isLatin1_aae02 1 (some .boolean) :: w_all) ({ frames := 0, cells := 0, slots := 0, locals := 0 }) (rd_P D q [.ref (q 100)] []) (vp_Si (fun r => r = 1)) 0 0 (fun _ => False) := by
  refine rd_start (by decide) (Nat.le_of_ble_eq_true rfl) ?_
  intro p e s m below meth c ls hx hb hr hml hown ht hk hP hQ hV hl
  have hK := hQ.1
  have hown : s.vm.findClass RJ0 = some m.cls := hown
  have hl : lv_has ls 1 [(0, .ref (q 100))] := hl
  refine va_gets (v := .int 1) hx hb hV.2.1 va_S.rf hown (ht _ mw_444) (fun _ h => h) dJ0_isLatin1_aae02_0 ?_
  refine lv_if_eq (tgt := 17) hx hb dJ0_isLatin1_aae02_3 (by decide) (fun c9 => absurd c9 (by decide)) (fun c_1 => ?_)
  refine lv_aload_n hx hb dJ0_isLatin1_aae02_6 rfl (lv_at hl 0 rfl) ?_
  refine vk_getf (v := .int 0) hx hb (hV.1.1 0 (by decide)).2.1 va_S.rf hown (ht _ mw_1706) (fun _ h => h) dJ0_isLatin1_aae02_7 ?_
  refine lv_if_ne (tgt := 17) hx hb dJ0_isLatin1_aae02_10 (by decide) (fun c9 => absurd c9 (by decide)) (fun c_2 => ?_)
  refine lv_iconst (v := 1) hx hb dJ0_isLatin1_aae02_13 (by decide) ?_
  refine lv_goto (tgt := 18) hx hb dJ0_isLatin1_aae02_14 (by decide) ?_
  exact rd_zret hx hb hr hk rfl (rfl) dJ0_isLatin1_aae02_18

set_option maxHeartbeats 4000000 in
set_option maxRecDepth 100000 in
theorem ct_pCheck_n {l : Launch} {D : va_G} {q : Nat → ClassId}  : Met l yJ3_checkIndex_8e157 (Cond.code yJ3_checkIndex_8e157 cJ3_checkIndex_8e157 3 (some .int) :: w_all) ({ frames := 0, cells := 0, slots := 0, locals := 0 }) (rd_P D q [.int 0, .int 5, .null] []) (vp_Si (fun r => r = 0)) 0 0 (fun _ => False) := by
  refine rd_start (by decide) (Nat.le_of_ble_eq_true rfl) ?_
  intro p e s m below meth c ls hx hb hr hml hown ht hk hP hQ hV hl
  have hK := hQ.1
  have hown : s.vm.findClass RJ3 = some m.cls := hown
  have hl : lv_has ls 3 [(0, .int 0), (1, .int 5), (2, .null)] := hl
  refine lv_iload_n hx hb dJ3_checkIndex_8e157_0 rfl (lv_at hl 0 rfl) ?_
  refine lv_if_lt (tgt := 9) hx hb dJ3_checkIndex_8e157_1 (by decide) (fun c9 => absurd c9 (by decide)) (fun c_1 => ?_)
  refine lv_iload_n hx hb dJ3_checkIndex_8e157_4 rfl (lv_at hl 0 rfl) ?_
  refine lv_iload_n hx hb dJ3_checkIndex_8e157_5 rfl (lv_at hl 1 rfl) ?_
  refine lv_icmp_lt (tgt := 16) hx hb dJ3_checkIndex_8e157_6 (by decide) (fun c_2 => ?_) (fun c9 => absurd (by decide) c9)
  refine lv_iload_n hx hb dJ3_checkIndex_8e157_16 rfl (lv_at hl 0 rfl) ?_
  exact rd_iret hx hb hr hk (rfl) dJ3_checkIndex_8e157_17

set_option maxHeartbeats 4000000 in
set_option maxRecDepth 100000 in
theorem ct_pCheck_r {l : Launch} {D : va_G} {q : Nat → ClassId} {tz : Nat} : Met l yJ3_checkIndex_8e157 (Cond.code yJ3_checkIndex_8e157 cJ3_checkIndex_8e157 3 (some .int) :: w_all) ({ frames := 0, cells := 0, slots := 0, locals := 0 }) (rd_P D q [.int 0, .int 5, .ref tz] []) (vp_Si (fun r => r = 0)) 0 0 (fun _ => False) := by
  refine rd_start (by decide) (Nat.le_of_ble_eq_true rfl) ?_
  intro p e s m below meth c ls hx hb hr hml hown ht hk hP hQ hV hl
  have hK := hQ.1
  have hown : s.vm.findClass RJ3 = some m.cls := hown
  have hl : lv_has ls 3 [(0, .int 0), (1, .int 5), (2, .ref tz)] := hl
  refine lv_iload_n hx hb dJ3_checkIndex_8e157_0 rfl (lv_at hl 0 rfl) ?_
  refine lv_if_lt (tgt := 9) hx hb dJ3_checkIndex_8e157_1 (by decide) (fun c9 => absurd c9 (by decide)) (fun c_1 => ?_)
  refine lv_iload_n hx hb dJ3_checkIndex_8e157_4 rfl (lv_at hl 0 rfl) ?_
  refine lv_iload_n hx hb dJ3_checkIndex_8e157_5 rfl (lv_at hl 1 rfl) ?_
  refine lv_icmp_lt (tgt := 16) hx hb dJ3_checkIndex_8e157_6 (by decide) (fun c_2 => ?_) (fun c9 => absurd (by decide) c9)
  refine lv_iload_n hx hb dJ3_checkIndex_8e157_16 rfl (lv_at hl 0 rfl) ?_
  exact rd_iret hx hb hr hk (rfl) dJ3_checkIndex_8e157_17

set_option maxHeartbeats 4000000 in
set_option maxRecDepth 100000 in
theorem ct_sCheck {l : Launch} {D : va_G} {q : Nat → ClassId}  : Met l yJ0_checkIndex_df160 (Cond.code yJ0_checkIndex_df160 cJ0_checkIndex_df160 2 none :: w_all) ({ frames := 1, cells := 0, slots := 0, locals := 22 }) (rd_P D q [.int 0, .int 5] []) (va_Sv (fun _ => True)) 0 0 (fun _ => False) := by
  refine rd_start (by decide) (Nat.le_of_ble_eq_true rfl) ?_
  intro p e s m below meth c ls hx hb hr hml hown ht hk hP hQ hV hl
  have hK := hQ.1
  have hown : s.vm.findClass RJ0 = some m.cls := hown
  have hl : lv_has ls 2 [(0, .int 0), (1, .int 5)] := hl
  refine lv_iload_n hx hb dJ0_checkIndex_df160_0 rfl (lv_at hl 0 rfl) ?_
  refine lv_iload_n hx hb dJ0_checkIndex_df160_1 rfl (lv_at hl 1 rfl) ?_
  rcases hV.2.2 with hz | ⟨tz, hz⟩
  · refine va_gets (v := .null) hx hb hz va_S.rf hown (ht _ mw_460) (fun _ h => h) dJ0_checkIndex_df160_2 ?_
    refine vp_callSi (rd_wS (wc := []) (As := [.int 0, .int 5, .null]) (rest := []) hx hb hml hown ht (ct_pCheck_n) wd_J3_checkIndex_8e157 mw_462 hQ hV va_S.rf (hP.sub [] rfl) rfl hl.1 rfl (Nat.le_of_ble_eq_true rfl) dJ0_checkIndex_df160_5 ⟨Nat.le_of_ble_eq_true rfl, Nat.le_of_ble_eq_true rfl, rfl, rfl⟩ ⟨Nat.le_of_ble_eq_true rfl, Nat.le_of_ble_eq_true rfl⟩) (fun r_1 er_1 => ?_)
    obtain rfl : r_1 = 0 := er_1
    refine lv_pop hx hb dJ0_checkIndex_df160_8 rfl ?_
    exact rd_vret hx hb hr hk dJ0_checkIndex_df160_9
  · refine va_gets (v := .ref tz) hx hb hz va_S.rf hown (ht _ mw_460) (fun _ h => h) dJ0_checkIndex_df160_2 ?_
    refine vp_callSi (rd_wS (wc := []) (As := [.int 0, .int 5, .ref tz]) (rest := []) hx hb hml hown ht (ct_pCheck_r) wd_J3_checkIndex_8e157 mw_462 hQ hV va_S.rf (hP.sub [] rfl) rfl hl.1 rfl (Nat.le_of_ble_eq_true rfl) dJ0_checkIndex_df160_5 ⟨Nat.le_of_ble_eq_true rfl, Nat.le_of_ble_eq_true rfl, rfl, rfl⟩ ⟨Nat.le_of_ble_eq_true rfl, Nat.le_of_ble_eq_true rfl⟩) (fun r_2 er_2 => ?_)
    obtain rfl : r_2 = 0 := er_2
    refine lv_pop hx hb dJ0_checkIndex_df160_8 rfl ?_
    exact rd_vret hx hb hr hk dJ0_checkIndex_df160_9

set_option maxHeartbeats 4000000 in
set_option maxRecDepth 100000 in
theorem ct_lCharAt {l : Launch} {D : va_G} {q : Nat → ClassId}  : Met l yJ1_charAt_3b067 (Cond.code yJ1_charAt_3b067 cJ1_charAt_3b067 2 (some .char) :: w_all) ({ frames := 2, cells := 0, slots := 0, locals := 43 }) (rd_P D q [.ref (q 200), .int 0] []) (vp_Si (fun r => r = 98)) 0 0 (fun _ => False) := by
  refine rd_start (by decide) (Nat.le_of_ble_eq_true rfl) ?_
  intro p e s m below meth c ls hx hb hr hml hown ht hk hP hQ hV hl
  have hK := hQ.1
  have hown : s.vm.findClass RJ1 = some m.cls := hown
  have hl : lv_has ls 2 [(0, .ref (q 200)), (1, .int 0)] := hl
  refine lv_iload_n hx hb dJ1_charAt_3b067_0 rfl (lv_at hl 1 rfl) ?_
  refine lv_aload_n hx hb dJ1_charAt_3b067_1 rfl (lv_at hl 0 rfl) ?_
  refine va_tlen (v := 5) hx hb (hV.1.1 0 (by decide)).2.2.2 va_S.rf rfl dJ1_charAt_3b067_2 ?_
  refine va_csv (rd_wS (wc := []) (As := [.int 0, .int 5]) (rest := []) hx hb hml hown ht (ct_sCheck) wd_J0_checkIndex_df160 mw_457 hQ hV va_S.rf (hP.sub [] rfl) rfl hl.1 rfl (Nat.le_of_ble_eq_true rfl) dJ1_charAt_3b067_3 ⟨Nat.le_of_ble_eq_true rfl, Nat.le_of_ble_eq_true rfl, rfl, rfl⟩ ⟨Nat.le_of_ble_eq_true rfl, Nat.le_of_ble_eq_true rfl⟩) (fun _ => ?_)
  refine lv_aload_n hx hb dJ1_charAt_3b067_6 rfl (lv_at hl 0 rfl) ?_
  refine lv_iload_n hx hb dJ1_charAt_3b067_7 rfl (lv_at hl 1 rfl) ?_
  refine va_tb (v := .int 98) hx hb (hV.1.1 0 (by decide)).2.2.2 va_S.rf (in_c rfl) rfl dJ1_charAt_3b067_8 ?_
  refine lv_sipush (v := 255) hx hb dJ1_charAt_3b067_9 (by decide) ?_
  refine lv_iand hx hb dJ1_charAt_3b067_12 ?_
  refine ab_i (v := 98) (by decide) ?_
  refine lv_i2c (v := 98) hx hb dJ1_charAt_3b067_13 (by decide) ?_
  exact rd_zret hx hb hr hk rfl (rfl) dJ1_charAt_3b067_14

set_option maxHeartbeats 4000000 in
set_option maxRecDepth 100000 in
theorem ct_charAt {l : Launch} {D : va_G} {q : Nat → ClassId}  : Met l yJ0_charAt_5068e (Cond.code yJ0_charAt_5068e cJ0_charAt_5068e 2 (some .char) :: w_all) ({ frames := 3, cells := 0, slots := 0, locals := 64 }) (rd_P D q [.ref (q 100), .int 0] []) (vp_Si (fun r => r = 98)) 0 0 (fun _ => False) := by
  refine rd_start (by decide) (Nat.le_of_ble_eq_true rfl) ?_
  intro p e s m below meth c ls hx hb hr hml hown ht hk hP hQ hV hl
  have hK := hQ.1
  have hown : s.vm.findClass RJ0 = some m.cls := hown
  have hl : lv_has ls 2 [(0, .ref (q 100)), (1, .int 0)] := hl
  refine lv_aload_n hx hb dJ0_charAt_5068e_0 rfl (lv_at hl 0 rfl) ?_
  refine vp_callSi (rd_wVs (i := 0) (wc := []) (As := []) (rest := []) hx hb hml hown ht (ct_isLatin1_0) wd_J0_isLatin1_aae02 mw_450 hQ hV va_S.rf (hP.sub [] rfl) (by decide) rfl rfl hl.1 rfl (Nat.le_of_ble_eq_true rfl) dJ0_charAt_5068e_1 ⟨Nat.le_of_ble_eq_true rfl, Nat.le_of_ble_eq_true rfl, rfl, rfl⟩ ⟨Nat.le_of_ble_eq_true rfl, Nat.le_of_ble_eq_true rfl⟩) (fun r_1 er_1 => ?_)
  obtain rfl : r_1 = 1 := er_1
  refine lv_if_eq (tgt := 16) hx hb dJ0_charAt_5068e_4 (by decide) (fun c9 => absurd c9 (by decide)) (fun c_2 => ?_)
  refine lv_aload_n hx hb dJ0_charAt_5068e_7 rfl (lv_at hl 0 rfl) ?_
  refine vk_getf (v := .ref (q 200)) hx hb (hV.1.1 0 (by decide)).2.2.1 va_S.rf hown (ht _ mw_1705) (fun _ h => h) dJ0_charAt_5068e_8 ?_
  refine lv_iload_n hx hb dJ0_charAt_5068e_11 rfl (lv_at hl 1 rfl) ?_
  refine vp_callSi (rd_wS (wc := []) (As := [.ref (q 200), .int 0]) (rest := []) hx hb hml hown ht (ct_lCharAt) wd_J1_charAt_3b067 mw_454 hQ hV va_S.rf (hP.sub [] rfl) rfl hl.1 rfl (Nat.le_of_ble_eq_true rfl) dJ0_charAt_5068e_12 ⟨Nat.le_of_ble_eq_true rfl, Nat.le_of_ble_eq_true rfl, rfl, rfl⟩ ⟨Nat.le_of_ble_eq_true rfl, Nat.le_of_ble_eq_true rfl⟩) (fun r_3 er_3 => ?_)
  obtain rfl : r_3 = 98 := er_3
  exact rd_zret hx hb hr hk rfl (rfl) dJ0_charAt_5068e_15
