def wp_J0_coder_7d493 (post : Int32 → Prop) (i0 : Nat) : Prop := post 0
set_option maxHeartbeats 4000000 in
set_option maxRecDepth 100000 in
theorem c2_J0_coder_7d493 {l : Launch} {D : va_G} {q : Nat → ClassId} {i0 : Nat} {post : Int32 → Prop} (hs : i0 < 12) (h : wp_J0_coder_7d493 post i0) : Met l yJ0_coder_7d493 (Cond.code yJ0_coder_7d493 cJ0_coder_7d493 1 (some .byte) :: w_all) ({ frames := 0, cells := 0, slots := 0, locals := 0 } : Room) (rd_P D q [.ref (q (100 + i0))] (([] : va_W))) (vp_Si post) 0 0 (fun _ => False) := by
  refine rd_start (by decide) (Nat.le_of_ble_eq_true rfl) ?_
  intro p e s m below meth c ls hx hb hr hml hown ht hk hP hQ hV hl
  have hK := hQ.1
  have hown : s.vm.findClass RJ0 = some m.cls := hown
  have hl : lv_has ls 1 [(0, .ref (q (100 + i0)))] := hl
  unfold wp_J0_coder_7d493 at h
  refine va_gets (v := .int 1) hx hb hV.2.1 va_S.rf hown (ht _ mw_444) (fun _ h => h) dJ0_coder_7d493_0 ?_
  refine lv_if_eq (tgt := 13) hx hb dJ0_coder_7d493_3 (by decide) (fun c9 => absurd c9 (by decide)) (fun _ => ?_)
  refine lv_aload_n hx hb dJ0_coder_7d493_6 rfl (lv_at hl 0 rfl) ?_
  refine vk_getf (v := .int 0) hx hb (hV.1.1 i0 hs).2.1 va_S.rf hown (ht _ mw_1706) (fun _ h => h) dJ0_coder_7d493_7 ?_
  refine lv_goto (tgt := 14) hx hb dJ0_coder_7d493_10 (by decide) ?_
  exact rd_zret hx hb hr hk rfl h dJ0_coder_7d493_14

def wp_J0_length_8abf5 (post : Int32 → Prop) (i0 : Nat) : Prop := wp_J0_coder_7d493 (fun r_1 => post ((Int32.ofNat (st_len.getD i0 0)) >>> (r_1 &&& 31))) i0
set_option maxHeartbeats 4000000 in
set_option maxRecDepth 100000 in
theorem c2_J0_length_8abf5 {l : Launch} {D : va_G} {q : Nat → ClassId} {i0 : Nat} {post : Int32 → Prop} (hs : i0 < 12) (h : wp_J0_length_8abf5 post i0) : Met l yJ0_length_8abf5 (Cond.code yJ0_length_8abf5 cJ0_length_8abf5 1 (some .int) :: w_all) ({ frames := 1, cells := 0, slots := 0, locals := 20 } : Room) (rd_P D q [.ref (q (100 + i0))] (([] : va_W))) (vp_Si post) 0 0 (fun _ => False) := by
  refine rd_start (by decide) (Nat.le_of_ble_eq_true rfl) ?_
  intro p e s m below meth c ls hx hb hr hml hown ht hk hP hQ hV hl
  have hK := hQ.1
  have hown : s.vm.findClass RJ0 = some m.cls := hown
  have hl : lv_has ls 1 [(0, .ref (q (100 + i0)))] := hl
  unfold wp_J0_length_8abf5 at h
  refine lv_aload_n hx hb dJ0_length_8abf5_0 rfl (lv_at hl 0 rfl) ?_
  refine vk_getf (v := .ref (q (200 + i0))) hx hb (hV.1.1 i0 hs).2.2.1 va_S.rf hown (ht _ mw_1705) (fun _ h => h) dJ0_length_8abf5_1 ?_
  refine va_tlen (v := (Int32.ofNat (st_len.getD i0 0))) hx hb (hV.1.1 i0 hs).2.2.2 va_S.rf rfl dJ0_length_8abf5_4 ?_
  refine lv_aload_n hx hb dJ0_length_8abf5_5 rfl (lv_at hl 0 rfl) ?_
  refine vp_callSi (rd_wVs (i := i0) (wc := ([] : va_W)) (As := []) (rest := [.int (Int32.ofNat (st_len.getD i0 0))]) hx hb hml hown ht (c2_J0_coder_7d493 hs h) wd_J0_coder_7d493 mw_440 hQ hV va_S.rf (hP.sub [] rfl) hs rfl rfl hl.1 rfl (Nat.le_of_ble_eq_true rfl) dJ0_length_8abf5_6 ⟨Nat.le_of_ble_eq_true rfl, Nat.le_of_ble_eq_true rfl, rfl, rfl⟩ ⟨Nat.le_of_ble_eq_true rfl, Nat.le_of_ble_eq_true rfl⟩) (fun r_1 h => ?_)
  try dsimp only at h
  refine lv_ishr hx hb dJ0_length_8abf5_9 ?_
  exact rd_iret hx hb hr hk h dJ0_length_8abf5_10

def wp_J0_isLatin1_aae02 (post : Int32 → Prop) (i0 : Nat) : Prop := post 1
set_option maxHeartbeats 4000000 in
set_option maxRecDepth 100000 in
theorem c2_J0_isLatin1_aae02 {l : Launch} {D : va_G} {q : Nat → ClassId} {i0 : Nat} {post : Int32 → Prop} (hs : i0 < 12) (h : wp_J0_isLatin1_aae02 post i0) : Met l yJ0_isLatin1_aae02 (Cond.code yJ0_isLatin1_aae02 cJ0_isLatin1_aae02 1 (some .boolean) :: w_all) ({ frames := 0, cells := 0, slots := 0, locals := 0 } : Room) (rd_P D q [.ref (q (100 + i0))] (([] : va_W))) (vp_Si post) 0 0 (fun _ => False) := by
  refine rd_start (by decide) (Nat.le_of_ble_eq_true rfl) ?_
  intro p e s m below meth c ls hx hb hr hml hown ht hk hP hQ hV hl
  have hK := hQ.1
  have hown : s.vm.findClass RJ0 = some m.cls := hown
  have hl : lv_has ls 1 [(0, .ref (q (100 + i0)))] := hl
  unfold wp_J0_isLatin1_aae02 at h
  refine va_gets (v := .int 1) hx hb hV.2.1 va_S.rf hown (ht _ mw_444) (fun _ h => h) dJ0_isLatin1_aae02_0 ?_
  refine lv_if_eq (tgt := 17) hx hb dJ0_isLatin1_aae02_3 (by decide) (fun c9 => absurd c9 (by decide)) (fun _ => ?_)
  refine lv_aload_n hx hb dJ0_isLatin1_aae02_6 rfl (lv_at hl 0 rfl) ?_
  refine vk_getf (v := .int 0) hx hb (hV.1.1 i0 hs).2.1 va_S.rf hown (ht _ mw_1706) (fun _ h => h) dJ0_isLatin1_aae02_7 ?_
  refine lv_if_ne (tgt := 17) hx hb dJ0_isLatin1_aae02_10 (by decide) (fun c9 => absurd c9 (by decide)) (fun _ => ?_)
  refine lv_iconst (v := 1) hx hb dJ0_isLatin1_aae02_13 (by decide) ?_
  refine lv_goto (tgt := 18) hx hb dJ0_isLatin1_aae02_14 (by decide) ?_
  exact rd_zret hx hb hr hk rfl h dJ0_isLatin1_aae02_18

def wp_J3_checkIndex_8e157_n (post : Int32 → Prop) (x0 : Int32) (x1 : Int32) : Prop := ((x0 < 0 → False) ∧ (¬ x0 < 0 → ((x0 < x1 → post x0) ∧ (¬ x0 < x1 → False))))
set_option maxHeartbeats 4000000 in
set_option maxRecDepth 100000 in
theorem c2_J3_checkIndex_8e157_n {l : Launch} {D : va_G} {q : Nat → ClassId} {x0 : Int32} {x1 : Int32} {post : Int32 → Prop} (h : wp_J3_checkIndex_8e157_n post x0 x1) : Met l yJ3_checkIndex_8e157 (Cond.code yJ3_checkIndex_8e157 cJ3_checkIndex_8e157 3 (some .int) :: w_all) ({ frames := 0, cells := 0, slots := 0, locals := 0 } : Room) (rd_P D q [.int x0, .int x1, .null] (([] : va_W))) (vp_Si post) 0 0 (fun _ => False) := by
  refine rd_start (by decide) (Nat.le_of_ble_eq_true rfl) ?_
  intro p e s m below meth c ls hx hb hr hml hown ht hk hP hQ hV hl
  have hK := hQ.1
  have hown : s.vm.findClass RJ3 = some m.cls := hown
  have hl : lv_has ls 3 [(0, .int x0), (1, .int x1), (2, .null)] := hl
  unfold wp_J3_checkIndex_8e157_n at h
  refine lv_iload_n hx hb dJ3_checkIndex_8e157_0 rfl (lv_at hl 0 rfl) ?_
  refine lv_if_lt (tgt := 9) hx hb dJ3_checkIndex_8e157_1 (by decide) (fun c_1 => ?_) (fun c_1 => ?_)
  · replace h := h.1 c_1
    refine lv_aload_nN hx hb dJ3_checkIndex_8e157_9 rfl (lv_at hl 2 rfl) ?_
    refine lv_iload_n hx hb dJ3_checkIndex_8e157_10 rfl (lv_at hl 0 rfl) ?_
    refine lv_iload_n hx hb dJ3_checkIndex_8e157_11 rfl (lv_at hl 1 rfl) ?_
    exact h.elim
  · replace h := h.2 c_1
    refine lv_iload_n hx hb dJ3_checkIndex_8e157_4 rfl (lv_at hl 0 rfl) ?_
    refine lv_iload_n hx hb dJ3_checkIndex_8e157_5 rfl (lv_at hl 1 rfl) ?_
    refine lv_icmp_lt (tgt := 16) hx hb dJ3_checkIndex_8e157_6 (by decide) (fun c_2 => ?_) (fun c_2 => ?_)
    · replace h := h.1 c_2
      refine lv_iload_n hx hb dJ3_checkIndex_8e157_16 rfl (lv_at hl 0 rfl) ?_
      exact rd_iret hx hb hr hk h dJ3_checkIndex_8e157_17
    · replace h := h.2 c_2
      refine lv_aload_nN hx hb dJ3_checkIndex_8e157_9 rfl (lv_at hl 2 rfl) ?_
      refine lv_iload_n hx hb dJ3_checkIndex_8e157_10 rfl (lv_at hl 0 rfl) ?_
      refine lv_iload_n hx hb dJ3_checkIndex_8e157_11 rfl (lv_at hl 1 rfl) ?_
      exact h.elim

set_option maxHeartbeats 4000000 in
set_option maxRecDepth 100000 in
theorem c2_J3_checkIndex_8e157_r {l : Launch} {D : va_G} {q : Nat → ClassId} {tz : Nat} {x0 : Int32} {x1 : Int32} {post : Int32 → Prop} (h : wp_J3_checkIndex_8e157_n post x0 x1) : Met l yJ3_checkIndex_8e157 (Cond.code yJ3_checkIndex_8e157 cJ3_checkIndex_8e157 3 (some .int) :: w_all) ({ frames := 0, cells := 0, slots := 0, locals := 0 } : Room) (rd_P D q [.int x0, .int x1, .ref tz] (([] : va_W))) (vp_Si post) 0 0 (fun _ => False) := by
  refine rd_start (by decide) (Nat.le_of_ble_eq_true rfl) ?_
  intro p e s m below meth c ls hx hb hr hml hown ht hk hP hQ hV hl
  have hK := hQ.1
  have hown : s.vm.findClass RJ3 = some m.cls := hown
  have hl : lv_has ls 3 [(0, .int x0), (1, .int x1), (2, .ref tz)] := hl
  unfold wp_J3_checkIndex_8e157_n at h
  refine lv_iload_n hx hb dJ3_checkIndex_8e157_0 rfl (lv_at hl 0 rfl) ?_
  refine lv_if_lt (tgt := 9) hx hb dJ3_checkIndex_8e157_1 (by decide) (fun c_1 => ?_) (fun c_1 => ?_)
  · replace h := h.1 c_1
    refine lv_aload_n hx hb dJ3_checkIndex_8e157_9 rfl (lv_at hl 2 rfl) ?_
    refine lv_iload_n hx hb dJ3_checkIndex_8e157_10 rfl (lv_at hl 0 rfl) ?_
    refine lv_iload_n hx hb dJ3_checkIndex_8e157_11 rfl (lv_at hl 1 rfl) ?_
    exact h.elim
  · replace h := h.2 c_1
    refine lv_iload_n hx hb dJ3_checkIndex_8e157_4 rfl (lv_at hl 0 rfl) ?_
    refine lv_iload_n hx hb dJ3_checkIndex_8e157_5 rfl (lv_at hl 1 rfl) ?_
    refine lv_icmp_lt (tgt := 16) hx hb dJ3_checkIndex_8e157_6 (by decide) (fun c_2 => ?_) (fun c_2 => ?_)
    · replace h := h.1 c_2
      refine lv_iload_n hx hb dJ3_checkIndex_8e157_16 rfl (lv_at hl 0 rfl) ?_
      exact rd_iret hx hb hr hk h dJ3_checkIndex_8e157_17
    · replace h := h.2 c_2
      refine lv_aload_n hx hb dJ3_checkIndex_8e157_9 rfl (lv_at hl 2 rfl) ?_
      refine lv_iload_n hx hb dJ3_checkIndex_8e157_10 rfl (lv_at hl 0 rfl) ?_
      refine lv_iload_n hx hb dJ3_checkIndex_8e157_11 rfl (lv_at hl 1 rfl) ?_
      exact h.elim

def wp_J0_checkIndex_df160 (post : Prop) (x0 : Int32) (x1 : Int32) : Prop := wp_J3_checkIndex_8e157_n (fun r_3 => post) x0 x1
set_option maxHeartbeats 4000000 in
set_option maxRecDepth 100000 in
theorem c2_J0_checkIndex_df160 {l : Launch} {D : va_G} {q : Nat → ClassId} {x0 : Int32} {x1 : Int32} {post : Prop} (h : wp_J0_checkIndex_df160 post x0 x1) : Met l yJ0_checkIndex_df160 (Cond.code yJ0_checkIndex_df160 cJ0_checkIndex_df160 2 none :: w_all) ({ frames := 1, cells := 0, slots := 0, locals := 22 } : Room) (rd_P D q [.int x0, .int x1] (([] : va_W))) (va_Sv (fun _ => post)) 0 0 (fun _ => False) := by
  refine rd_start (by decide) (Nat.le_of_ble_eq_true rfl) ?_
  intro p e s m below meth c ls hx hb hr hml hown ht hk hP hQ hV hl
  have hK := hQ.1
  have hown : s.vm.findClass RJ0 = some m.cls := hown
  have hl : lv_has ls 2 [(0, .int x0), (1, .int x1)] := hl
  unfold wp_J0_checkIndex_df160 at h
  refine lv_iload_n hx hb dJ0_checkIndex_df160_0 rfl (lv_at hl 0 rfl) ?_
  refine lv_iload_n hx hb dJ0_checkIndex_df160_1 rfl (lv_at hl 1 rfl) ?_
  rcases hV.2.2 with hz | ⟨tz, hz⟩
  · refine va_gets (v := .null) hx hb hz va_S.rf hown (ht _ mw_460) (fun _ h => h) dJ0_checkIndex_df160_2 ?_
    refine vp_callSi (rd_wS (wc := ([] : va_W)) (As := [.int x0, .int x1, .null]) (rest := []) hx hb hml hown ht (c2_J3_checkIndex_8e157_n h) wd_J3_checkIndex_8e157 mw_462 hQ hV va_S.rf (hP.sub [] rfl) rfl hl.1 rfl (Nat.le_of_ble_eq_true rfl) dJ0_checkIndex_df160_5 ⟨Nat.le_of_ble_eq_true rfl, Nat.le_of_ble_eq_true rfl, rfl, rfl⟩ ⟨Nat.le_of_ble_eq_true rfl, Nat.le_of_ble_eq_true rfl⟩) (fun r_1 h => ?_)
    try dsimp only at h
    refine lv_pop hx hb dJ0_checkIndex_df160_8 rfl ?_
    exact rd_vret2 hx hb hr hk h dJ0_checkIndex_df160_9
  · refine va_gets (v := .ref tz) hx hb hz va_S.rf hown (ht _ mw_460) (fun _ h => h) dJ0_checkIndex_df160_2 ?_
    refine vp_callSi (rd_wS (wc := ([] : va_W)) (As := [.int x0, .int x1, .ref tz]) (rest := []) hx hb hml hown ht (c2_J3_checkIndex_8e157_r h) wd_J3_checkIndex_8e157 mw_462 hQ hV va_S.rf (hP.sub [] rfl) rfl hl.1 rfl (Nat.le_of_ble_eq_true rfl) dJ0_checkIndex_df160_5 ⟨Nat.le_of_ble_eq_true rfl, Nat.le_of_ble_eq_true rfl, rfl, rfl⟩ ⟨Nat.le_of_ble_eq_true rfl, Nat.le_of_ble_eq_true rfl⟩) (fun r_3 h => ?_)
    try dsimp only at h
    refine lv_pop hx hb dJ0_checkIndex_df160_8 rfl ?_
    exact rd_vret2 hx hb hr hk h dJ0_checkIndex_df160_9

def wp_J1_charAt_3b067 (post : Int32 → Prop) (i0 : Nat) (x1 : Int32) : Prop := wp_J0_checkIndex_df160 (vp_in x1 (st_len.getD i0 0) ∧ narrow .char (.int (UInt32.toInt32 (Int32.toUInt32 (((st_byt.getD i0 []).getD (Int32.toNatClampNeg x1) 0) &&& 255) % 65536))) = .int (UInt32.toInt32 (Int32.toUInt32 (((st_byt.getD i0 []).getD (Int32.toNatClampNeg x1) 0) &&& 255) % 65536)) ∧ post (UInt32.toInt32 (Int32.toUInt32 (((st_byt.getD i0 []).getD (Int32.toNatClampNeg x1) 0) &&& 255) % 65536))) x1 (Int32.ofNat (st_len.getD i0 0))
set_option maxHeartbeats 4000000 in
set_option maxRecDepth 100000 in
theorem c2_J1_charAt_3b067 {l : Launch} {D : va_G} {q : Nat → ClassId} {i0 : Nat} {x1 : Int32} {post : Int32 → Prop} (hs : i0 < 12) (h : wp_J1_charAt_3b067 post i0 x1) : Met l yJ1_charAt_3b067 (Cond.code yJ1_charAt_3b067 cJ1_charAt_3b067 2 (some .char) :: w_all) ({ frames := 2, cells := 0, slots := 0, locals := 43 } : Room) (rd_P D q [.ref (q (200 + i0)), .int x1] (([] : va_W))) (vp_Si post) 0 0 (fun _ => False) := by
  refine rd_start (by decide) (Nat.le_of_ble_eq_true rfl) ?_
  intro p e s m below meth c ls hx hb hr hml hown ht hk hP hQ hV hl
  have hK := hQ.1
  have hown : s.vm.findClass RJ1 = some m.cls := hown
  have hl : lv_has ls 2 [(0, .ref (q (200 + i0))), (1, .int x1)] := hl
  unfold wp_J1_charAt_3b067 at h
  refine lv_iload_n hx hb dJ1_charAt_3b067_0 rfl (lv_at hl 1 rfl) ?_
  refine lv_aload_n hx hb dJ1_charAt_3b067_1 rfl (lv_at hl 0 rfl) ?_
  refine va_tlen (v := (Int32.ofNat (st_len.getD i0 0))) hx hb (hV.1.1 i0 hs).2.2.2 va_S.rf rfl dJ1_charAt_3b067_2 ?_
  refine va_csv (rd_wS (wc := ([] : va_W)) (As := [.int x1, .int (Int32.ofNat (st_len.getD i0 0))]) (rest := []) hx hb hml hown ht (c2_J0_checkIndex_df160 h) wd_J0_checkIndex_df160 mw_457 hQ hV va_S.rf (hP.sub [] rfl) rfl hl.1 rfl (Nat.le_of_ble_eq_true rfl) dJ1_charAt_3b067_3 ⟨Nat.le_of_ble_eq_true rfl, Nat.le_of_ble_eq_true rfl, rfl, rfl⟩ ⟨Nat.le_of_ble_eq_true rfl, Nat.le_of_ble_eq_true rfl⟩) (fun h => ?_)
  try dsimp only at h
  refine lv_aload_n hx hb dJ1_charAt_3b067_6 rfl (lv_at hl 0 rfl) ?_
  refine lv_iload_n hx hb dJ1_charAt_3b067_7 rfl (lv_at hl 1 rfl) ?_
  obtain ⟨g_3, h⟩ := h
  refine va_tb (v := .int ((st_byt.getD i0 []).getD (Int32.toNatClampNeg x1) 0)) hx hb (hV.1.1 i0 hs).2.2.2 va_S.rf g_3 rfl dJ1_charAt_3b067_8 ?_
  refine lv_sipush (v := 255) hx hb dJ1_charAt_3b067_9 (by decide) ?_
  refine lv_iand hx hb dJ1_charAt_3b067_12 ?_
  refine lv_i2c (v := (UInt32.toInt32 (Int32.toUInt32 (((st_byt.getD i0 []).getD (Int32.toNatClampNeg x1) 0) &&& 255) % 65536))) hx hb dJ1_charAt_3b067_13 rfl ?_
  obtain ⟨g_4, h⟩ := h
  exact rd_zret hx hb hr hk g_4 h dJ1_charAt_3b067_14

def wp_J0_charAt_5068e (post : Int32 → Prop) (i0 : Nat) (x1 : Int32) : Prop := wp_J0_isLatin1_aae02 (fun r_1 => ((r_1 = 0 → False) ∧ (¬ r_1 = 0 → wp_J1_charAt_3b067 (fun r_4 => narrow .char (.int r_4) = .int r_4 ∧ post r_4) i0 x1))) i0
set_option maxHeartbeats 4000000 in
set_option maxRecDepth 100000 in
theorem c2_J0_charAt_5068e {l : Launch} {D : va_G} {q : Nat → ClassId} {i0 : Nat} {x1 : Int32} {post : Int32 → Prop} (hs : i0 < 12) (h : wp_J0_charAt_5068e post i0 x1) : Met l yJ0_charAt_5068e (Cond.code yJ0_charAt_5068e cJ0_charAt_5068e 2 (some .char) :: w_all) ({ frames := 3, cells := 0, slots := 0, locals := 64 } : Room) (rd_P D q [.ref (q (100 + i0)), .int x1] (([] : va_W))) (vp_Si post) 0 0 (fun _ => False) := by
  refine rd_start (by decide) (Nat.le_of_ble_eq_true rfl) ?_
  intro p e s m below meth c ls hx hb hr hml hown ht hk hP hQ hV hl
  have hK := hQ.1
  have hown : s.vm.findClass RJ0 = some m.cls := hown
  have hl : lv_has ls 2 [(0, .ref (q (100 + i0))), (1, .int x1)] := hl
  unfold wp_J0_charAt_5068e at h
  refine lv_aload_n hx hb dJ0_charAt_5068e_0 rfl (lv_at hl 0 rfl) ?_
  refine vp_callSi (rd_wVs (i := i0) (wc := ([] : va_W)) (As := []) (rest := []) hx hb hml hown ht (c2_J0_isLatin1_aae02 hs h) wd_J0_isLatin1_aae02 mw_450 hQ hV va_S.rf (hP.sub [] rfl) hs rfl rfl hl.1 rfl (Nat.le_of_ble_eq_true rfl) dJ0_charAt_5068e_1 ⟨Nat.le_of_ble_eq_true rfl, Nat.le_of_ble_eq_true rfl, rfl, rfl⟩ ⟨Nat.le_of_ble_eq_true rfl, Nat.le_of_ble_eq_true rfl⟩) (fun r_1 h => ?_)
  try dsimp only at h
  refine lv_if_eq (tgt := 16) hx hb dJ0_charAt_5068e_4 (by decide) (fun c_3 => ?_) (fun c_3 => ?_)
  · replace h := h.1 c_3
    refine lv_aload_n hx hb dJ0_charAt_5068e_16 rfl (lv_at hl 0 rfl) ?_
    refine vk_getf (v := .ref (q (200 + i0))) hx hb (hV.1.1 i0 hs).2.2.1 va_S.rf hown (ht _ mw_1705) (fun _ h => h) dJ0_charAt_5068e_17 ?_
    refine lv_iload_n hx hb dJ0_charAt_5068e_20 rfl (lv_at hl 1 rfl) ?_
    exact h.elim
  · replace h := h.2 c_3
    refine lv_aload_n hx hb dJ0_charAt_5068e_7 rfl (lv_at hl 0 rfl) ?_
    refine vk_getf (v := .ref (q (200 + i0))) hx hb (hV.1.1 i0 hs).2.2.1 va_S.rf hown (ht _ mw_1705) (fun _ h => h) dJ0_charAt_5068e_8 ?_
    refine lv_iload_n hx hb dJ0_charAt_5068e_11 rfl (lv_at hl 1 rfl) ?_
    refine vp_callSi (rd_wS (wc := ([] : va_W)) (As := [.ref (q (200 + i0)), .int x1]) (rest := []) hx hb hml hown ht (c2_J1_charAt_3b067 hs h) wd_J1_charAt_3b067 mw_454 hQ hV va_S.rf (hP.sub [] rfl) rfl hl.1 rfl (Nat.le_of_ble_eq_true rfl) dJ0_charAt_5068e_12 ⟨Nat.le_of_ble_eq_true rfl, Nat.le_of_ble_eq_true rfl, rfl, rfl⟩ ⟨Nat.le_of_ble_eq_true rfl, Nat.le_of_ble_eq_true rfl⟩) (fun r_4 h => ?_)
    try dsimp only at h
    obtain ⟨g_6, h⟩ := h
    exact rd_zret hx hb hr hk g_6 h dJ0_charAt_5068e_15

def wp_X0_makeCell (post : Bd → Prop) (s0 : Bd) (x1 : Int32) (x2 : Int32) : Prop := vp_in x1 40 ∧ vp_in x1 40 ∧ vp_in x1 40 ∧ vp_in x1 40 ∧ vp_in x1 40 ∧ vp_in x1 40 ∧ vp_in x1 40 ∧ vp_in x1 40 ∧ post (s0.1, (va_up (va_up (va_up (va_up (va_up (va_up (va_up s0.2.1 3 (upd (s0.2.1 3) (Int32.toNatClampNeg x1) x2)) 4 (upd (s0.2.1 4) (Int32.toNatClampNeg x1) 0)) 5 (upd (s0.2.1 5) (Int32.toNatClampNeg x1) 0)) 6 (upd (s0.2.1 6) (Int32.toNatClampNeg x1) 0)) 7 (upd (s0.2.1 7) (Int32.toNatClampNeg x1) 0)) 8 (upd (s0.2.1 8) (Int32.toNatClampNeg x1) 0)) 9 (upd (s0.2.1 9) (Int32.toNatClampNeg x1) 0)), (vp_updL s0.2.2.1 (Int32.toNatClampNeg x1) 0), s0.2.2.2.1, s0.2.2.2.2)
set_option maxHeartbeats 4000000 in
set_option maxRecDepth 100000 in
theorem c2_X0_makeCell {l : Launch} {D : va_G} {q : Nat → ClassId} {sz : Nat} {a0 : Nat → Nat} {s0 : Bd} {x1 : Int32} {x2 : Int32} {post : Bd → Prop} (h : wp_X0_makeCell post s0 x1 x2) : Met l yX0_makeCell (Cond.code yX0_makeCell cX0_makeCell 3 none :: w_all) ({ frames := 0, cells := 0, slots := 0, locals := 0 } : Room) (mt_P D q [.ref (a0 0), .int x1, .int x2] (bd_w a0 q s0) sz) (va_Qv (fun u : Bd => post u) (mt_B D (bd_w a0 q s0) sz (fun u : Bd => bd_w a0 q u)) (va_A (bd_w a0 q s0) sz)) 0 0 (va_A (bd_w a0 q s0) sz) := by
  refine mt_start (by decide) (Nat.le_of_ble_eq_true rfl) ?_
  intro p e s m below meth c ls hx hb hr hml hown ht hk hin hP hQ hD hA hS hV hl
  have hK := hQ.1
  have hown : s.vm.findClass RX0 = some m.cls := hown
  have hl : lv_has ls 3 [(0, .ref (a0 0)), (1, .int x1), (2, .int x2)] := hl
  have hP : va_P D vwCl [((a0 0), .inr (0, [.int (s0.1 0), .int (s0.1 1), .int (s0.1 2), .int (s0.1 3), .int (s0.1 4), .int (s0.1 5), .ref (a0 1), .ref (a0 2), .ref (a0 3), .ref (a0 4), .ref (a0 5), .ref (a0 6), .ref (a0 7), .ref (a0 8), .ref (a0 9), .ref (a0 10), .ref (a0 11), .ref (a0 12)])), ((a0 1), .inl (q 0, 4, .inl (s0.2.1 0))), ((a0 2), .inl (q 0, 4, .inl (s0.2.1 1))), ((a0 3), .inl (q 0, 160, .inl (s0.2.1 2))), ((a0 4), .inl (q 0, 40, .inl (s0.2.1 3))), ((a0 5), .inl (q 0, 40, .inl (s0.2.1 4))), ((a0 6), .inl (q 0, 40, .inl (s0.2.1 5))), ((a0 7), .inl (q 0, 40, .inl (s0.2.1 6))), ((a0 8), .inl (q 0, 40, .inl (s0.2.1 7))), ((a0 9), .inl (q 0, 40, .inl (s0.2.1 8))), ((a0 10), .inl (q 0, 40, .inl (s0.2.1 9))), ((a0 11), .inl (q 1, 40, .inr (.inl s0.2.2.1))), ((a0 12), .inl (q 0, s0.2.2.2.1, .inl s0.2.2.2.2))] s.heap := hP
  have hD : va_D _ [((a0 0), .inr (0, [.int (s0.1 0), .int (s0.1 1), .int (s0.1 2), .int (s0.1 3), .int (s0.1 4), .int (s0.1 5), .ref (a0 1), .ref (a0 2), .ref (a0 3), .ref (a0 4), .ref (a0 5), .ref (a0 6), .ref (a0 7), .ref (a0 8), .ref (a0 9), .ref (a0 10), .ref (a0 11), .ref (a0 12)])), ((a0 1), .inl (q 0, 4, .inl (s0.2.1 0))), ((a0 2), .inl (q 0, 4, .inl (s0.2.1 1))), ((a0 3), .inl (q 0, 160, .inl (s0.2.1 2))), ((a0 4), .inl (q 0, 40, .inl (s0.2.1 3))), ((a0 5), .inl (q 0, 40, .inl (s0.2.1 4))), ((a0 6), .inl (q 0, 40, .inl (s0.2.1 5))), ((a0 7), .inl (q 0, 40, .inl (s0.2.1 6))), ((a0 8), .inl (q 0, 40, .inl (s0.2.1 7))), ((a0 9), .inl (q 0, 40, .inl (s0.2.1 8))), ((a0 10), .inl (q 0, 40, .inl (s0.2.1 9))), ((a0 11), .inl (q 1, 40, .inr (.inl s0.2.2.1))), ((a0 12), .inl (q 0, s0.2.2.2.1, .inl s0.2.2.2.2))] := hD
  unfold wp_X0_makeCell at h
  refine lv_aload_n hx hb dX0_makeCell_0 rfl (lv_at hl 0 rfl) ?_
  refine fl_get (C := RX0) (T := TX0) (N := 18) (ci := 0) (v := .ref (a0 4)) hx hb ht in_X0 hown hK hP 0 rfl rfl 9 (by decide) mw_192 rfl dX0_makeCell_1 ?_
  refine lv_iload_n hx hb dX0_makeCell_4 rfl (lv_at hl 1 rfl) ?_
  refine lv_iload_n hx hb dX0_makeCell_5 rfl (lv_at hl 2 rfl) ?_
  obtain ⟨g_1, h⟩ := h
  refine va_iast hx hb hK hP hD hS 4 0 rfl rfl g_1 dX0_makeCell_6 (fun H locs hP hD hS => ?_)
  have hP : va_P D vwCl [((a0 0), .inr (0, [.int (s0.1 0), .int (s0.1 1), .int (s0.1 2), .int (s0.1 3), .int (s0.1 4), .int (s0.1 5), .ref (a0 1), .ref (a0 2), .ref (a0 3), .ref (a0 4), .ref (a0 5), .ref (a0 6), .ref (a0 7), .ref (a0 8), .ref (a0 9), .ref (a0 10), .ref (a0 11), .ref (a0 12)])), ((a0 1), .inl (q 0, 4, .inl (s0.2.1 0))), ((a0 2), .inl (q 0, 4, .inl (s0.2.1 1))), ((a0 3), .inl (q 0, 160, .inl (s0.2.1 2))), ((a0 4), .inl (q 0, 40, .inl (upd (s0.2.1 3) (Int32.toNatClampNeg x1) x2))), ((a0 5), .inl (q 0, 40, .inl (s0.2.1 4))), ((a0 6), .inl (q 0, 40, .inl (s0.2.1 5))), ((a0 7), .inl (q 0, 40, .inl (s0.2.1 6))), ((a0 8), .inl (q 0, 40, .inl (s0.2.1 7))), ((a0 9), .inl (q 0, 40, .inl (s0.2.1 8))), ((a0 10), .inl (q 0, 40, .inl (s0.2.1 9))), ((a0 11), .inl (q 1, 40, .inr (.inl s0.2.2.1))), ((a0 12), .inl (q 0, s0.2.2.2.1, .inl s0.2.2.2.2))] H := hP
  have hD : va_D _ [((a0 0), .inr (0, [.int (s0.1 0), .int (s0.1 1), .int (s0.1 2), .int (s0.1 3), .int (s0.1 4), .int (s0.1 5), .ref (a0 1), .ref (a0 2), .ref (a0 3), .ref (a0 4), .ref (a0 5), .ref (a0 6), .ref (a0 7), .ref (a0 8), .ref (a0 9), .ref (a0 10), .ref (a0 11), .ref (a0 12)])), ((a0 1), .inl (q 0, 4, .inl (s0.2.1 0))), ((a0 2), .inl (q 0, 4, .inl (s0.2.1 1))), ((a0 3), .inl (q 0, 160, .inl (s0.2.1 2))), ((a0 4), .inl (q 0, 40, .inl (upd (s0.2.1 3) (Int32.toNatClampNeg x1) x2))), ((a0 5), .inl (q 0, 40, .inl (s0.2.1 4))), ((a0 6), .inl (q 0, 40, .inl (s0.2.1 5))), ((a0 7), .inl (q 0, 40, .inl (s0.2.1 6))), ((a0 8), .inl (q 0, 40, .inl (s0.2.1 7))), ((a0 9), .inl (q 0, 40, .inl (s0.2.1 8))), ((a0 10), .inl (q 0, 40, .inl (s0.2.1 9))), ((a0 11), .inl (q 1, 40, .inr (.inl s0.2.2.1))), ((a0 12), .inl (q 0, s0.2.2.2.1, .inl s0.2.2.2.2))] := hD
  refine lv_aload_n hx hb dX0_makeCell_7 rfl (lv_at hl 0 rfl) ?_
  refine fl_get (C := RX0) (T := TX0) (N := 18) (ci := 0) (v := .ref (a0 5)) hx hb ht in_X0 hown hK hP 0 rfl rfl 10 (by decide) mw_194 rfl dX0_makeCell_8 ?_
  refine lv_iload_n hx hb dX0_makeCell_11 rfl (lv_at hl 1 rfl) ?_
  refine lv_iconst (v := 0) hx hb dX0_makeCell_12 (by decide) ?_
  obtain ⟨g_2, h⟩ := h
  refine va_iast hx hb hK hP hD hS 5 0 rfl rfl g_2 dX0_makeCell_13 (fun H locs hP hD hS => ?_)
  have hP : va_P D vwCl [((a0 0), .inr (0, [.int (s0.1 0), .int (s0.1 1), .int (s0.1 2), .int (s0.1 3), .int (s0.1 4), .int (s0.1 5), .ref (a0 1), .ref (a0 2), .ref (a0 3), .ref (a0 4), .ref (a0 5), .ref (a0 6), .ref (a0 7), .ref (a0 8), .ref (a0 9), .ref (a0 10), .ref (a0 11), .ref (a0 12)])), ((a0 1), .inl (q 0, 4, .inl (s0.2.1 0))), ((a0 2), .inl (q 0, 4, .inl (s0.2.1 1))), ((a0 3), .inl (q 0, 160, .inl (s0.2.1 2))), ((a0 4), .inl (q 0, 40, .inl (upd (s0.2.1 3) (Int32.toNatClampNeg x1) x2))), ((a0 5), .inl (q 0, 40, .inl (upd (s0.2.1 4) (Int32.toNatClampNeg x1) 0))), ((a0 6), .inl (q 0, 40, .inl (s0.2.1 5))), ((a0 7), .inl (q 0, 40, .inl (s0.2.1 6))), ((a0 8), .inl (q 0, 40, .inl (s0.2.1 7))), ((a0 9), .inl (q 0, 40, .inl (s0.2.1 8))), ((a0 10), .inl (q 0, 40, .inl (s0.2.1 9))), ((a0 11), .inl (q 1, 40, .inr (.inl s0.2.2.1))), ((a0 12), .inl (q 0, s0.2.2.2.1, .inl s0.2.2.2.2))] H := hP
  have hD : va_D _ [((a0 0), .inr (0, [.int (s0.1 0), .int (s0.1 1), .int (s0.1 2), .int (s0.1 3), .int (s0.1 4), .int (s0.1 5), .ref (a0 1), .ref (a0 2), .ref (a0 3), .ref (a0 4), .ref (a0 5), .ref (a0 6), .ref (a0 7), .ref (a0 8), .ref (a0 9), .ref (a0 10), .ref (a0 11), .ref (a0 12)])), ((a0 1), .inl (q 0, 4, .inl (s0.2.1 0))), ((a0 2), .inl (q 0, 4, .inl (s0.2.1 1))), ((a0 3), .inl (q 0, 160, .inl (s0.2.1 2))), ((a0 4), .inl (q 0, 40, .inl (upd (s0.2.1 3) (Int32.toNatClampNeg x1) x2))), ((a0 5), .inl (q 0, 40, .inl (upd (s0.2.1 4) (Int32.toNatClampNeg x1) 0))), ((a0 6), .inl (q 0, 40, .inl (s0.2.1 5))), ((a0 7), .inl (q 0, 40, .inl (s0.2.1 6))), ((a0 8), .inl (q 0, 40, .inl (s0.2.1 7))), ((a0 9), .inl (q 0, 40, .inl (s0.2.1 8))), ((a0 10), .inl (q 0, 40, .inl (s0.2.1 9))), ((a0 11), .inl (q 1, 40, .inr (.inl s0.2.2.1))), ((a0 12), .inl (q 0, s0.2.2.2.1, .inl s0.2.2.2.2))] := hD
  refine lv_aload_n hx hb dX0_makeCell_14 rfl (lv_at hl 0 rfl) ?_
  refine fl_get (C := RX0) (T := TX0) (N := 18) (ci := 0) (v := .ref (a0 6)) hx hb ht in_X0 hown hK hP 0 rfl rfl 11 (by decide) mw_196 rfl dX0_makeCell_15 ?_
  refine lv_iload_n hx hb dX0_makeCell_18 rfl (lv_at hl 1 rfl) ?_
  refine lv_iconst (v := 0) hx hb dX0_makeCell_19 (by decide) ?_
  obtain ⟨g_3, h⟩ := h
  refine va_iast hx hb hK hP hD hS 6 0 rfl rfl g_3 dX0_makeCell_20 (fun H locs hP hD hS => ?_)
  have hP : va_P D vwCl [((a0 0), .inr (0, [.int (s0.1 0), .int (s0.1 1), .int (s0.1 2), .int (s0.1 3), .int (s0.1 4), .int (s0.1 5), .ref (a0 1), .ref (a0 2), .ref (a0 3), .ref (a0 4), .ref (a0 5), .ref (a0 6), .ref (a0 7), .ref (a0 8), .ref (a0 9), .ref (a0 10), .ref (a0 11), .ref (a0 12)])), ((a0 1), .inl (q 0, 4, .inl (s0.2.1 0))), ((a0 2), .inl (q 0, 4, .inl (s0.2.1 1))), ((a0 3), .inl (q 0, 160, .inl (s0.2.1 2))), ((a0 4), .inl (q 0, 40, .inl (upd (s0.2.1 3) (Int32.toNatClampNeg x1) x2))), ((a0 5), .inl (q 0, 40, .inl (upd (s0.2.1 4) (Int32.toNatClampNeg x1) 0))), ((a0 6), .inl (q 0, 40, .inl (upd (s0.2.1 5) (Int32.toNatClampNeg x1) 0))), ((a0 7), .inl (q 0, 40, .inl (s0.2.1 6))), ((a0 8), .inl (q 0, 40, .inl (s0.2.1 7))), ((a0 9), .inl (q 0, 40, .inl (s0.2.1 8))), ((a0 10), .inl (q 0, 40, .inl (s0.2.1 9))), ((a0 11), .inl (q 1, 40, .inr (.inl s0.2.2.1))), ((a0 12), .inl (q 0, s0.2.2.2.1, .inl s0.2.2.2.2))] H := hP
  have hD : va_D _ [((a0 0), .inr (0, [.int (s0.1 0), .int (s0.1 1), .int (s0.1 2), .int (s0.1 3), .int (s0.1 4), .int (s0.1 5), .ref (a0 1), .ref (a0 2), .ref (a0 3), .ref (a0 4), .ref (a0 5), .ref (a0 6), .ref (a0 7), .ref (a0 8), .ref (a0 9), .ref (a0 10), .ref (a0 11), .ref (a0 12)])), ((a0 1), .inl (q 0, 4, .inl (s0.2.1 0))), ((a0 2), .inl (q 0, 4, .inl (s0.2.1 1))), ((a0 3), .inl (q 0, 160, .inl (s0.2.1 2))), ((a0 4), .inl (q 0, 40, .inl (upd (s0.2.1 3) (Int32.toNatClampNeg x1) x2))), ((a0 5), .inl (q 0, 40, .inl (upd (s0.2.1 4) (Int32.toNatClampNeg x1) 0))), ((a0 6), .inl (q 0, 40, .inl (upd (s0.2.1 5) (Int32.toNatClampNeg x1) 0))), ((a0 7), .inl (q 0, 40, .inl (s0.2.1 6))), ((a0 8), .inl (q 0, 40, .inl (s0.2.1 7))), ((a0 9), .inl (q 0, 40, .inl (s0.2.1 8))), ((a0 10), .inl (q 0, 40, .inl (s0.2.1 9))), ((a0 11), .inl (q 1, 40, .inr (.inl s0.2.2.1))), ((a0 12), .inl (q 0, s0.2.2.2.1, .inl s0.2.2.2.2))] := hD
  refine lv_aload_n hx hb dX0_makeCell_21 rfl (lv_at hl 0 rfl) ?_
  refine fl_get (C := RX0) (T := TX0) (N := 18) (ci := 0) (v := .ref (a0 7)) hx hb ht in_X0 hown hK hP 0 rfl rfl 12 (by decide) mw_198 rfl dX0_makeCell_22 ?_
  refine lv_iload_n hx hb dX0_makeCell_25 rfl (lv_at hl 1 rfl) ?_
  refine lv_iconst (v := 0) hx hb dX0_makeCell_26 (by decide) ?_
  obtain ⟨g_4, h⟩ := h
  refine va_iast hx hb hK hP hD hS 7 0 rfl rfl g_4 dX0_makeCell_27 (fun H locs hP hD hS => ?_)
  have hP : va_P D vwCl [((a0 0), .inr (0, [.int (s0.1 0), .int (s0.1 1), .int (s0.1 2), .int (s0.1 3), .int (s0.1 4), .int (s0.1 5), .ref (a0 1), .ref (a0 2), .ref (a0 3), .ref (a0 4), .ref (a0 5), .ref (a0 6), .ref (a0 7), .ref (a0 8), .ref (a0 9), .ref (a0 10), .ref (a0 11), .ref (a0 12)])), ((a0 1), .inl (q 0, 4, .inl (s0.2.1 0))), ((a0 2), .inl (q 0, 4, .inl (s0.2.1 1))), ((a0 3), .inl (q 0, 160, .inl (s0.2.1 2))), ((a0 4), .inl (q 0, 40, .inl (upd (s0.2.1 3) (Int32.toNatClampNeg x1) x2))), ((a0 5), .inl (q 0, 40, .inl (upd (s0.2.1 4) (Int32.toNatClampNeg x1) 0))), ((a0 6), .inl (q 0, 40, .inl (upd (s0.2.1 5) (Int32.toNatClampNeg x1) 0))), ((a0 7), .inl (q 0, 40, .inl (upd (s0.2.1 6) (Int32.toNatClampNeg x1) 0))), ((a0 8), .inl (q 0, 40, .inl (s0.2.1 7))), ((a0 9), .inl (q 0, 40, .inl (s0.2.1 8))), ((a0 10), .inl (q 0, 40, .inl (s0.2.1 9))), ((a0 11), .inl (q 1, 40, .inr (.inl s0.2.2.1))), ((a0 12), .inl (q 0, s0.2.2.2.1, .inl s0.2.2.2.2))] H := hP
  have hD : va_D _ [((a0 0), .inr (0, [.int (s0.1 0), .int (s0.1 1), .int (s0.1 2), .int (s0.1 3), .int (s0.1 4), .int (s0.1 5), .ref (a0 1), .ref (a0 2), .ref (a0 3), .ref (a0 4), .ref (a0 5), .ref (a0 6), .ref (a0 7), .ref (a0 8), .ref (a0 9), .ref (a0 10), .ref (a0 11), .ref (a0 12)])), ((a0 1), .inl (q 0, 4, .inl (s0.2.1 0))), ((a0 2), .inl (q 0, 4, .inl (s0.2.1 1))), ((a0 3), .inl (q 0, 160, .inl (s0.2.1 2))), ((a0 4), .inl (q 0, 40, .inl (upd (s0.2.1 3) (Int32.toNatClampNeg x1) x2))), ((a0 5), .inl (q 0, 40, .inl (upd (s0.2.1 4) (Int32.toNatClampNeg x1) 0))), ((a0 6), .inl (q 0, 40, .inl (upd (s0.2.1 5) (Int32.toNatClampNeg x1) 0))), ((a0 7), .inl (q 0, 40, .inl (upd (s0.2.1 6) (Int32.toNatClampNeg x1) 0))), ((a0 8), .inl (q 0, 40, .inl (s0.2.1 7))), ((a0 9), .inl (q 0, 40, .inl (s0.2.1 8))), ((a0 10), .inl (q 0, 40, .inl (s0.2.1 9))), ((a0 11), .inl (q 1, 40, .inr (.inl s0.2.2.1))), ((a0 12), .inl (q 0, s0.2.2.2.1, .inl s0.2.2.2.2))] := hD
  refine lv_aload_n hx hb dX0_makeCell_28 rfl (lv_at hl 0 rfl) ?_
  refine fl_get (C := RX0) (T := TX0) (N := 18) (ci := 0) (v := .ref (a0 8)) hx hb ht in_X0 hown hK hP 0 rfl rfl 13 (by decide) mw_200 rfl dX0_makeCell_29 ?_
  refine lv_iload_n hx hb dX0_makeCell_32 rfl (lv_at hl 1 rfl) ?_
  refine lv_iconst (v := 0) hx hb dX0_makeCell_33 (by decide) ?_
  obtain ⟨g_5, h⟩ := h
  refine va_iast hx hb hK hP hD hS 8 0 rfl rfl g_5 dX0_makeCell_34 (fun H locs hP hD hS => ?_)
  have hP : va_P D vwCl [((a0 0), .inr (0, [.int (s0.1 0), .int (s0.1 1), .int (s0.1 2), .int (s0.1 3), .int (s0.1 4), .int (s0.1 5), .ref (a0 1), .ref (a0 2), .ref (a0 3), .ref (a0 4), .ref (a0 5), .ref (a0 6), .ref (a0 7), .ref (a0 8), .ref (a0 9), .ref (a0 10), .ref (a0 11), .ref (a0 12)])), ((a0 1), .inl (q 0, 4, .inl (s0.2.1 0))), ((a0 2), .inl (q 0, 4, .inl (s0.2.1 1))), ((a0 3), .inl (q 0, 160, .inl (s0.2.1 2))), ((a0 4), .inl (q 0, 40, .inl (upd (s0.2.1 3) (Int32.toNatClampNeg x1) x2))), ((a0 5), .inl (q 0, 40, .inl (upd (s0.2.1 4) (Int32.toNatClampNeg x1) 0))), ((a0 6), .inl (q 0, 40, .inl (upd (s0.2.1 5) (Int32.toNatClampNeg x1) 0))), ((a0 7), .inl (q 0, 40, .inl (upd (s0.2.1 6) (Int32.toNatClampNeg x1) 0))), ((a0 8), .inl (q 0, 40, .inl (upd (s0.2.1 7) (Int32.toNatClampNeg x1) 0))), ((a0 9), .inl (q 0, 40, .inl (s0.2.1 8))), ((a0 10), .inl (q 0, 40, .inl (s0.2.1 9))), ((a0 11), .inl (q 1, 40, .inr (.inl s0.2.2.1))), ((a0 12), .inl (q 0, s0.2.2.2.1, .inl s0.2.2.2.2))] H := hP
  have hD : va_D _ [((a0 0), .inr (0, [.int (s0.1 0), .int (s0.1 1), .int (s0.1 2), .int (s0.1 3), .int (s0.1 4), .int (s0.1 5), .ref (a0 1), .ref (a0 2), .ref (a0 3), .ref (a0 4), .ref (a0 5), .ref (a0 6), .ref (a0 7), .ref (a0 8), .ref (a0 9), .ref (a0 10), .ref (a0 11), .ref (a0 12)])), ((a0 1), .inl (q 0, 4, .inl (s0.2.1 0))), ((a0 2), .inl (q 0, 4, .inl (s0.2.1 1))), ((a0 3), .inl (q 0, 160, .inl (s0.2.1 2))), ((a0 4), .inl (q 0, 40, .inl (upd (s0.2.1 3) (Int32.toNatClampNeg x1) x2))), ((a0 5), .inl (q 0, 40, .inl (upd (s0.2.1 4) (Int32.toNatClampNeg x1) 0))), ((a0 6), .inl (q 0, 40, .inl (upd (s0.2.1 5) (Int32.toNatClampNeg x1) 0))), ((a0 7), .inl (q 0, 40, .inl (upd (s0.2.1 6) (Int32.toNatClampNeg x1) 0))), ((a0 8), .inl (q 0, 40, .inl (upd (s0.2.1 7) (Int32.toNatClampNeg x1) 0))), ((a0 9), .inl (q 0, 40, .inl (s0.2.1 8))), ((a0 10), .inl (q 0, 40, .inl (s0.2.1 9))), ((a0 11), .inl (q 1, 40, .inr (.inl s0.2.2.1))), ((a0 12), .inl (q 0, s0.2.2.2.1, .inl s0.2.2.2.2))] := hD
  refine lv_aload_n hx hb dX0_makeCell_35 rfl (lv_at hl 0 rfl) ?_
  refine fl_get (C := RX0) (T := TX0) (N := 18) (ci := 0) (v := .ref (a0 9)) hx hb ht in_X0 hown hK hP 0 rfl rfl 14 (by decide) mw_202 rfl dX0_makeCell_36 ?_
  refine lv_iload_n hx hb dX0_makeCell_39 rfl (lv_at hl 1 rfl) ?_
  refine lv_iconst (v := 0) hx hb dX0_makeCell_40 (by decide) ?_
  obtain ⟨g_6, h⟩ := h
  refine va_iast hx hb hK hP hD hS 9 0 rfl rfl g_6 dX0_makeCell_41 (fun H locs hP hD hS => ?_)
  have hP : va_P D vwCl [((a0 0), .inr (0, [.int (s0.1 0), .int (s0.1 1), .int (s0.1 2), .int (s0.1 3), .int (s0.1 4), .int (s0.1 5), .ref (a0 1), .ref (a0 2), .ref (a0 3), .ref (a0 4), .ref (a0 5), .ref (a0 6), .ref (a0 7), .ref (a0 8), .ref (a0 9), .ref (a0 10), .ref (a0 11), .ref (a0 12)])), ((a0 1), .inl (q 0, 4, .inl (s0.2.1 0))), ((a0 2), .inl (q 0, 4, .inl (s0.2.1 1))), ((a0 3), .inl (q 0, 160, .inl (s0.2.1 2))), ((a0 4), .inl (q 0, 40, .inl (upd (s0.2.1 3) (Int32.toNatClampNeg x1) x2))), ((a0 5), .inl (q 0, 40, .inl (upd (s0.2.1 4) (Int32.toNatClampNeg x1) 0))), ((a0 6), .inl (q 0, 40, .inl (upd (s0.2.1 5) (Int32.toNatClampNeg x1) 0))), ((a0 7), .inl (q 0, 40, .inl (upd (s0.2.1 6) (Int32.toNatClampNeg x1) 0))), ((a0 8), .inl (q 0, 40, .inl (upd (s0.2.1 7) (Int32.toNatClampNeg x1) 0))), ((a0 9), .inl (q 0, 40, .inl (upd (s0.2.1 8) (Int32.toNatClampNeg x1) 0))), ((a0 10), .inl (q 0, 40, .inl (s0.2.1 9))), ((a0 11), .inl (q 1, 40, .inr (.inl s0.2.2.1))), ((a0 12), .inl (q 0, s0.2.2.2.1, .inl s0.2.2.2.2))] H := hP
  have hD : va_D _ [((a0 0), .inr (0, [.int (s0.1 0), .int (s0.1 1), .int (s0.1 2), .int (s0.1 3), .int (s0.1 4), .int (s0.1 5), .ref (a0 1), .ref (a0 2), .ref (a0 3), .ref (a0 4), .ref (a0 5), .ref (a0 6), .ref (a0 7), .ref (a0 8), .ref (a0 9), .ref (a0 10), .ref (a0 11), .ref (a0 12)])), ((a0 1), .inl (q 0, 4, .inl (s0.2.1 0))), ((a0 2), .inl (q 0, 4, .inl (s0.2.1 1))), ((a0 3), .inl (q 0, 160, .inl (s0.2.1 2))), ((a0 4), .inl (q 0, 40, .inl (upd (s0.2.1 3) (Int32.toNatClampNeg x1) x2))), ((a0 5), .inl (q 0, 40, .inl (upd (s0.2.1 4) (Int32.toNatClampNeg x1) 0))), ((a0 6), .inl (q 0, 40, .inl (upd (s0.2.1 5) (Int32.toNatClampNeg x1) 0))), ((a0 7), .inl (q 0, 40, .inl (upd (s0.2.1 6) (Int32.toNatClampNeg x1) 0))), ((a0 8), .inl (q 0, 40, .inl (upd (s0.2.1 7) (Int32.toNatClampNeg x1) 0))), ((a0 9), .inl (q 0, 40, .inl (upd (s0.2.1 8) (Int32.toNatClampNeg x1) 0))), ((a0 10), .inl (q 0, 40, .inl (s0.2.1 9))), ((a0 11), .inl (q 1, 40, .inr (.inl s0.2.2.1))), ((a0 12), .inl (q 0, s0.2.2.2.1, .inl s0.2.2.2.2))] := hD
  refine lv_aload_n hx hb dX0_makeCell_42 rfl (lv_at hl 0 rfl) ?_
  refine fl_get (C := RX0) (T := TX0) (N := 18) (ci := 0) (v := .ref (a0 10)) hx hb ht in_X0 hown hK hP 0 rfl rfl 15 (by decide) mw_204 rfl dX0_makeCell_43 ?_
  refine lv_iload_n hx hb dX0_makeCell_46 rfl (lv_at hl 1 rfl) ?_
  refine lv_iconst (v := 0) hx hb dX0_makeCell_47 (by decide) ?_
  obtain ⟨g_7, h⟩ := h
  refine va_iast hx hb hK hP hD hS 10 0 rfl rfl g_7 dX0_makeCell_48 (fun H locs hP hD hS => ?_)
  have hP : va_P D vwCl [((a0 0), .inr (0, [.int (s0.1 0), .int (s0.1 1), .int (s0.1 2), .int (s0.1 3), .int (s0.1 4), .int (s0.1 5), .ref (a0 1), .ref (a0 2), .ref (a0 3), .ref (a0 4), .ref (a0 5), .ref (a0 6), .ref (a0 7), .ref (a0 8), .ref (a0 9), .ref (a0 10), .ref (a0 11), .ref (a0 12)])), ((a0 1), .inl (q 0, 4, .inl (s0.2.1 0))), ((a0 2), .inl (q 0, 4, .inl (s0.2.1 1))), ((a0 3), .inl (q 0, 160, .inl (s0.2.1 2))), ((a0 4), .inl (q 0, 40, .inl (upd (s0.2.1 3) (Int32.toNatClampNeg x1) x2))), ((a0 5), .inl (q 0, 40, .inl (upd (s0.2.1 4) (Int32.toNatClampNeg x1) 0))), ((a0 6), .inl (q 0, 40, .inl (upd (s0.2.1 5) (Int32.toNatClampNeg x1) 0))), ((a0 7), .inl (q 0, 40, .inl (upd (s0.2.1 6) (Int32.toNatClampNeg x1) 0))), ((a0 8), .inl (q 0, 40, .inl (upd (s0.2.1 7) (Int32.toNatClampNeg x1) 0))), ((a0 9), .inl (q 0, 40, .inl (upd (s0.2.1 8) (Int32.toNatClampNeg x1) 0))), ((a0 10), .inl (q 0, 40, .inl (upd (s0.2.1 9) (Int32.toNatClampNeg x1) 0))), ((a0 11), .inl (q 1, 40, .inr (.inl s0.2.2.1))), ((a0 12), .inl (q 0, s0.2.2.2.1, .inl s0.2.2.2.2))] H := hP
  have hD : va_D _ [((a0 0), .inr (0, [.int (s0.1 0), .int (s0.1 1), .int (s0.1 2), .int (s0.1 3), .int (s0.1 4), .int (s0.1 5), .ref (a0 1), .ref (a0 2), .ref (a0 3), .ref (a0 4), .ref (a0 5), .ref (a0 6), .ref (a0 7), .ref (a0 8), .ref (a0 9), .ref (a0 10), .ref (a0 11), .ref (a0 12)])), ((a0 1), .inl (q 0, 4, .inl (s0.2.1 0))), ((a0 2), .inl (q 0, 4, .inl (s0.2.1 1))), ((a0 3), .inl (q 0, 160, .inl (s0.2.1 2))), ((a0 4), .inl (q 0, 40, .inl (upd (s0.2.1 3) (Int32.toNatClampNeg x1) x2))), ((a0 5), .inl (q 0, 40, .inl (upd (s0.2.1 4) (Int32.toNatClampNeg x1) 0))), ((a0 6), .inl (q 0, 40, .inl (upd (s0.2.1 5) (Int32.toNatClampNeg x1) 0))), ((a0 7), .inl (q 0, 40, .inl (upd (s0.2.1 6) (Int32.toNatClampNeg x1) 0))), ((a0 8), .inl (q 0, 40, .inl (upd (s0.2.1 7) (Int32.toNatClampNeg x1) 0))), ((a0 9), .inl (q 0, 40, .inl (upd (s0.2.1 8) (Int32.toNatClampNeg x1) 0))), ((a0 10), .inl (q 0, 40, .inl (upd (s0.2.1 9) (Int32.toNatClampNeg x1) 0))), ((a0 11), .inl (q 1, 40, .inr (.inl s0.2.2.1))), ((a0 12), .inl (q 0, s0.2.2.2.1, .inl s0.2.2.2.2))] := hD
  refine lv_aload_n hx hb dX0_makeCell_49 rfl (lv_at hl 0 rfl) ?_
  refine fl_get (C := RX0) (T := TX0) (N := 18) (ci := 0) (v := .ref (a0 11)) hx hb ht in_X0 hown hK hP 0 rfl rfl 16 (by decide) mw_206 rfl dX0_makeCell_50 ?_
  refine lv_iload_n hx hb dX0_makeCell_53 rfl (lv_at hl 1 rfl) ?_
  refine lv_lconst (v := 0) hx hb dX0_makeCell_54 (by decide) ?_
  obtain ⟨g_8, h⟩ := h
  refine va_last hx hb hK hP hD hS 11 1 rfl rfl g_8 dX0_makeCell_55 (fun H locs hP hD hS => ?_)
  have hP : va_P D vwCl [((a0 0), .inr (0, [.int (s0.1 0), .int (s0.1 1), .int (s0.1 2), .int (s0.1 3), .int (s0.1 4), .int (s0.1 5), .ref (a0 1), .ref (a0 2), .ref (a0 3), .ref (a0 4), .ref (a0 5), .ref (a0 6), .ref (a0 7), .ref (a0 8), .ref (a0 9), .ref (a0 10), .ref (a0 11), .ref (a0 12)])), ((a0 1), .inl (q 0, 4, .inl (s0.2.1 0))), ((a0 2), .inl (q 0, 4, .inl (s0.2.1 1))), ((a0 3), .inl (q 0, 160, .inl (s0.2.1 2))), ((a0 4), .inl (q 0, 40, .inl (upd (s0.2.1 3) (Int32.toNatClampNeg x1) x2))), ((a0 5), .inl (q 0, 40, .inl (upd (s0.2.1 4) (Int32.toNatClampNeg x1) 0))), ((a0 6), .inl (q 0, 40, .inl (upd (s0.2.1 5) (Int32.toNatClampNeg x1) 0))), ((a0 7), .inl (q 0, 40, .inl (upd (s0.2.1 6) (Int32.toNatClampNeg x1) 0))), ((a0 8), .inl (q 0, 40, .inl (upd (s0.2.1 7) (Int32.toNatClampNeg x1) 0))), ((a0 9), .inl (q 0, 40, .inl (upd (s0.2.1 8) (Int32.toNatClampNeg x1) 0))), ((a0 10), .inl (q 0, 40, .inl (upd (s0.2.1 9) (Int32.toNatClampNeg x1) 0))), ((a0 11), .inl (q 1, 40, .inr (.inl (vp_updL s0.2.2.1 (Int32.toNatClampNeg x1) 0)))), ((a0 12), .inl (q 0, s0.2.2.2.1, .inl s0.2.2.2.2))] H := hP
  have hD : va_D _ [((a0 0), .inr (0, [.int (s0.1 0), .int (s0.1 1), .int (s0.1 2), .int (s0.1 3), .int (s0.1 4), .int (s0.1 5), .ref (a0 1), .ref (a0 2), .ref (a0 3), .ref (a0 4), .ref (a0 5), .ref (a0 6), .ref (a0 7), .ref (a0 8), .ref (a0 9), .ref (a0 10), .ref (a0 11), .ref (a0 12)])), ((a0 1), .inl (q 0, 4, .inl (s0.2.1 0))), ((a0 2), .inl (q 0, 4, .inl (s0.2.1 1))), ((a0 3), .inl (q 0, 160, .inl (s0.2.1 2))), ((a0 4), .inl (q 0, 40, .inl (upd (s0.2.1 3) (Int32.toNatClampNeg x1) x2))), ((a0 5), .inl (q 0, 40, .inl (upd (s0.2.1 4) (Int32.toNatClampNeg x1) 0))), ((a0 6), .inl (q 0, 40, .inl (upd (s0.2.1 5) (Int32.toNatClampNeg x1) 0))), ((a0 7), .inl (q 0, 40, .inl (upd (s0.2.1 6) (Int32.toNatClampNeg x1) 0))), ((a0 8), .inl (q 0, 40, .inl (upd (s0.2.1 7) (Int32.toNatClampNeg x1) 0))), ((a0 9), .inl (q 0, 40, .inl (upd (s0.2.1 8) (Int32.toNatClampNeg x1) 0))), ((a0 10), .inl (q 0, 40, .inl (upd (s0.2.1 9) (Int32.toNatClampNeg x1) 0))), ((a0 11), .inl (q 1, 40, .inr (.inl (vp_updL s0.2.2.1 (Int32.toNatClampNeg x1) 0)))), ((a0 12), .inl (q 0, s0.2.2.2.1, .inl s0.2.2.2.2))] := hD
  exact mt_vret (s0.1, (va_up (va_up (va_up (va_up (va_up (va_up (va_up s0.2.1 3 (upd (s0.2.1 3) (Int32.toNatClampNeg x1) x2)) 4 (upd (s0.2.1 4) (Int32.toNatClampNeg x1) 0)) 5 (upd (s0.2.1 5) (Int32.toNatClampNeg x1) 0)) 6 (upd (s0.2.1 6) (Int32.toNatClampNeg x1) 0)) 7 (upd (s0.2.1 7) (Int32.toNatClampNeg x1) 0)) 8 (upd (s0.2.1 8) (Int32.toNatClampNeg x1) 0)) 9 (upd (s0.2.1 9) (Int32.toNatClampNeg x1) 0)), (vp_updL s0.2.2.1 (Int32.toNatClampNeg x1) 0), s0.2.2.2.1, s0.2.2.2.2) hx hb hr hk h (hP.sub (ws' := bd_w a0 q (s0.1, (va_up (va_up (va_up (va_up (va_up (va_up (va_up s0.2.1 3 (upd (s0.2.1 3) (Int32.toNatClampNeg x1) x2)) 4 (upd (s0.2.1 4) (Int32.toNatClampNeg x1) 0)) 5 (upd (s0.2.1 5) (Int32.toNatClampNeg x1) 0)) 6 (upd (s0.2.1 6) (Int32.toNatClampNeg x1) 0)) 7 (upd (s0.2.1 7) (Int32.toNatClampNeg x1) 0)) 8 (upd (s0.2.1 8) (Int32.toNatClampNeg x1) 0)) 9 (upd (s0.2.1 9) (Int32.toNatClampNeg x1) 0)), (vp_updL s0.2.2.1 (Int32.toNatClampNeg x1) 0), s0.2.2.2.1, s0.2.2.2.2)) [0, 1, 2, 3, 4, 5, 6, 7, 8, 9, 10, 11, 12] rfl) (hD.sub (ws' := bd_w a0 q (s0.1, (va_up (va_up (va_up (va_up (va_up (va_up (va_up s0.2.1 3 (upd (s0.2.1 3) (Int32.toNatClampNeg x1) x2)) 4 (upd (s0.2.1 4) (Int32.toNatClampNeg x1) 0)) 5 (upd (s0.2.1 5) (Int32.toNatClampNeg x1) 0)) 6 (upd (s0.2.1 6) (Int32.toNatClampNeg x1) 0)) 7 (upd (s0.2.1 7) (Int32.toNatClampNeg x1) 0)) 8 (upd (s0.2.1 8) (Int32.toNatClampNeg x1) 0)) 9 (upd (s0.2.1 9) (Int32.toNatClampNeg x1) 0)), (vp_updL s0.2.2.1 (Int32.toNatClampNeg x1) 0), s0.2.2.2.1, s0.2.2.2.2)) [0, 1, 2, 3, 4, 5, 6, 7, 8, 9, 10, 11, 12] (by decide) rfl) hS dX0_makeCell_56

def wp_X0_clear_L32 (post : Bd → Prop) (e50 : Bd → Int32 → Prop) : Nat → Bd → Int32 → Prop
  | 0, _, _ => False
  | n32 + 1, t0, z1 => ((40 ≤ z1 → e50 t0 z1) ∧ (¬ 40 ≤ z1 → wp_X0_makeCell (fun u_3 => wp_X0_clear_L32 post e50 n32 u_3 (z1 + 1)) t0 z1 (0 : Int32)))
def wp_X0_clear (post : Bd → Prop) (s0 : Bd) : Prop := (∃ n32, wp_X0_clear_L32 post (fun t0 z1 => post t0) n32 ((va_up (va_up (va_up (va_up (va_up (va_up s0.1 0 0) 1 0) 2 0) 3 0) 4 0) 5 0), s0.2.1, s0.2.2.1, s0.2.2.2.1, s0.2.2.2.2) 0)
set_option maxHeartbeats 4000000 in
set_option maxRecDepth 100000 in
theorem c2_X0_clear {l : Launch} {D : va_G} {q : Nat → ClassId} {sz : Nat} {a0 : Nat → Nat} {s0 : Bd} {post : Bd → Prop} (h : wp_X0_clear post s0) : Met l yX0_clear (Cond.code yX0_clear cX0_clear 2 none :: w_all) ({ frames := 1, cells := 0, slots := 0, locals := 22 } : Room) (mt_P D q [.ref (a0 0)] (bd_w a0 q s0) sz) (va_Qv (fun u : Bd => post u) (mt_B D (bd_w a0 q s0) sz (fun u : Bd => bd_w a0 q u)) (va_A (bd_w a0 q s0) sz)) 0 0 (va_A (bd_w a0 q s0) sz) := by
  refine mt_start (by decide) (Nat.le_of_ble_eq_true rfl) ?_
  intro p e s m below meth c ls hx hb hr hml hown ht hk hin hP hQ hD hA hS hV hl
  have hK := hQ.1
  have hown : s.vm.findClass RX0 = some m.cls := hown
  have hl : lv_has ls 2 [(0, .ref (a0 0))] := hl
  have hP : va_P D vwCl [((a0 0), .inr (0, [.int (s0.1 0), .int (s0.1 1), .int (s0.1 2), .int (s0.1 3), .int (s0.1 4), .int (s0.1 5), .ref (a0 1), .ref (a0 2), .ref (a0 3), .ref (a0 4), .ref (a0 5), .ref (a0 6), .ref (a0 7), .ref (a0 8), .ref (a0 9), .ref (a0 10), .ref (a0 11), .ref (a0 12)])), ((a0 1), .inl (q 0, 4, .inl (s0.2.1 0))), ((a0 2), .inl (q 0, 4, .inl (s0.2.1 1))), ((a0 3), .inl (q 0, 160, .inl (s0.2.1 2))), ((a0 4), .inl (q 0, 40, .inl (s0.2.1 3))), ((a0 5), .inl (q 0, 40, .inl (s0.2.1 4))), ((a0 6), .inl (q 0, 40, .inl (s0.2.1 5))), ((a0 7), .inl (q 0, 40, .inl (s0.2.1 6))), ((a0 8), .inl (q 0, 40, .inl (s0.2.1 7))), ((a0 9), .inl (q 0, 40, .inl (s0.2.1 8))), ((a0 10), .inl (q 0, 40, .inl (s0.2.1 9))), ((a0 11), .inl (q 1, 40, .inr (.inl s0.2.2.1))), ((a0 12), .inl (q 0, s0.2.2.2.1, .inl s0.2.2.2.2))] s.heap := hP
  have hD : va_D _ [((a0 0), .inr (0, [.int (s0.1 0), .int (s0.1 1), .int (s0.1 2), .int (s0.1 3), .int (s0.1 4), .int (s0.1 5), .ref (a0 1), .ref (a0 2), .ref (a0 3), .ref (a0 4), .ref (a0 5), .ref (a0 6), .ref (a0 7), .ref (a0 8), .ref (a0 9), .ref (a0 10), .ref (a0 11), .ref (a0 12)])), ((a0 1), .inl (q 0, 4, .inl (s0.2.1 0))), ((a0 2), .inl (q 0, 4, .inl (s0.2.1 1))), ((a0 3), .inl (q 0, 160, .inl (s0.2.1 2))), ((a0 4), .inl (q 0, 40, .inl (s0.2.1 3))), ((a0 5), .inl (q 0, 40, .inl (s0.2.1 4))), ((a0 6), .inl (q 0, 40, .inl (s0.2.1 5))), ((a0 7), .inl (q 0, 40, .inl (s0.2.1 6))), ((a0 8), .inl (q 0, 40, .inl (s0.2.1 7))), ((a0 9), .inl (q 0, 40, .inl (s0.2.1 8))), ((a0 10), .inl (q 0, 40, .inl (s0.2.1 9))), ((a0 11), .inl (q 1, 40, .inr (.inl s0.2.2.1))), ((a0 12), .inl (q 0, s0.2.2.2.1, .inl s0.2.2.2.2))] := hD
  unfold wp_X0_clear at h
  refine lv_aload_n hx hb dX0_clear_0 rfl (lv_at hl 0 rfl) ?_
  refine lv_iconst (v := 0) hx hb dX0_clear_1 (by decide) ?_
  refine fl_put (C := RX0) (T := TX0) (N := 18) (ci := 0) (v := .int 0) (ws2 := [((a0 0), .inr (0, [.int 0, .int (s0.1 1), .int (s0.1 2), .int (s0.1 3), .int (s0.1 4), .int (s0.1 5), .ref (a0 1), .ref (a0 2), .ref (a0 3), .ref (a0 4), .ref (a0 5), .ref (a0 6), .ref (a0 7), .ref (a0 8), .ref (a0 9), .ref (a0 10), .ref (a0 11), .ref (a0 12)])), ((a0 1), .inl (q 0, 4, .inl (s0.2.1 0))), ((a0 2), .inl (q 0, 4, .inl (s0.2.1 1))), ((a0 3), .inl (q 0, 160, .inl (s0.2.1 2))), ((a0 4), .inl (q 0, 40, .inl (s0.2.1 3))), ((a0 5), .inl (q 0, 40, .inl (s0.2.1 4))), ((a0 6), .inl (q 0, 40, .inl (s0.2.1 5))), ((a0 7), .inl (q 0, 40, .inl (s0.2.1 6))), ((a0 8), .inl (q 0, 40, .inl (s0.2.1 7))), ((a0 9), .inl (q 0, 40, .inl (s0.2.1 8))), ((a0 10), .inl (q 0, 40, .inl (s0.2.1 9))), ((a0 11), .inl (q 1, 40, .inr (.inl s0.2.2.1))), ((a0 12), .inl (q 0, s0.2.2.2.1, .inl s0.2.2.2.2))]) hx hb ht in_X0 tyX0_ok nmX0 hown hK hP hD hS 0 rfl rfl 0 (by decide) mw_167 rfl rfl rfl (Nat.le_of_ble_eq_true rfl) dX0_clear_2 rfl (fun H locs hP hD hS => ?_)
  refine lv_aload_n hx hb dX0_clear_5 rfl (lv_at hl 0 rfl) ?_
  refine lv_iconst (v := 0) hx hb dX0_clear_6 (by decide) ?_
  refine fl_put (C := RX0) (T := TX0) (N := 18) (ci := 0) (v := .int 0) (ws2 := [((a0 0), .inr (0, [.int 0, .int 0, .int (s0.1 2), .int (s0.1 3), .int (s0.1 4), .int (s0.1 5), .ref (a0 1), .ref (a0 2), .ref (a0 3), .ref (a0 4), .ref (a0 5), .ref (a0 6), .ref (a0 7), .ref (a0 8), .ref (a0 9), .ref (a0 10), .ref (a0 11), .ref (a0 12)])), ((a0 1), .inl (q 0, 4, .inl (s0.2.1 0))), ((a0 2), .inl (q 0, 4, .inl (s0.2.1 1))), ((a0 3), .inl (q 0, 160, .inl (s0.2.1 2))), ((a0 4), .inl (q 0, 40, .inl (s0.2.1 3))), ((a0 5), .inl (q 0, 40, .inl (s0.2.1 4))), ((a0 6), .inl (q 0, 40, .inl (s0.2.1 5))), ((a0 7), .inl (q 0, 40, .inl (s0.2.1 6))), ((a0 8), .inl (q 0, 40, .inl (s0.2.1 7))), ((a0 9), .inl (q 0, 40, .inl (s0.2.1 8))), ((a0 10), .inl (q 0, 40, .inl (s0.2.1 9))), ((a0 11), .inl (q 1, 40, .inr (.inl s0.2.2.1))), ((a0 12), .inl (q 0, s0.2.2.2.1, .inl s0.2.2.2.2))]) hx hb ht in_X0 tyX0_ok nmX0 hown hK hP hD hS 0 rfl rfl 1 (by decide) mw_171 rfl rfl rfl (Nat.le_of_ble_eq_true rfl) dX0_clear_7 rfl (fun H locs hP hD hS => ?_)
  refine lv_aload_n hx hb dX0_clear_10 rfl (lv_at hl 0 rfl) ?_
  refine lv_iconst (v := 0) hx hb dX0_clear_11 (by decide) ?_
  refine fl_put (C := RX0) (T := TX0) (N := 18) (ci := 0) (v := .int 0) (ws2 := [((a0 0), .inr (0, [.int 0, .int 0, .int 0, .int (s0.1 3), .int (s0.1 4), .int (s0.1 5), .ref (a0 1), .ref (a0 2), .ref (a0 3), .ref (a0 4), .ref (a0 5), .ref (a0 6), .ref (a0 7), .ref (a0 8), .ref (a0 9), .ref (a0 10), .ref (a0 11), .ref (a0 12)])), ((a0 1), .inl (q 0, 4, .inl (s0.2.1 0))), ((a0 2), .inl (q 0, 4, .inl (s0.2.1 1))), ((a0 3), .inl (q 0, 160, .inl (s0.2.1 2))), ((a0 4), .inl (q 0, 40, .inl (s0.2.1 3))), ((a0 5), .inl (q 0, 40, .inl (s0.2.1 4))), ((a0 6), .inl (q 0, 40, .inl (s0.2.1 5))), ((a0 7), .inl (q 0, 40, .inl (s0.2.1 6))), ((a0 8), .inl (q 0, 40, .inl (s0.2.1 7))), ((a0 9), .inl (q 0, 40, .inl (s0.2.1 8))), ((a0 10), .inl (q 0, 40, .inl (s0.2.1 9))), ((a0 11), .inl (q 1, 40, .inr (.inl s0.2.2.1))), ((a0 12), .inl (q 0, s0.2.2.2.1, .inl s0.2.2.2.2))]) hx hb ht in_X0 tyX0_ok nmX0 hown hK hP hD hS 0 rfl rfl 2 (by decide) mw_175 rfl rfl rfl (Nat.le_of_ble_eq_true rfl) dX0_clear_12 rfl (fun H locs hP hD hS => ?_)
  refine lv_aload_n hx hb dX0_clear_15 rfl (lv_at hl 0 rfl) ?_
  refine lv_iconst (v := 0) hx hb dX0_clear_16 (by decide) ?_
  refine fl_put (C := RX0) (T := TX0) (N := 18) (ci := 0) (v := .int 0) (ws2 := [((a0 0), .inr (0, [.int 0, .int 0, .int 0, .int 0, .int (s0.1 4), .int (s0.1 5), .ref (a0 1), .ref (a0 2), .ref (a0 3), .ref (a0 4), .ref (a0 5), .ref (a0 6), .ref (a0 7), .ref (a0 8), .ref (a0 9), .ref (a0 10), .ref (a0 11), .ref (a0 12)])), ((a0 1), .inl (q 0, 4, .inl (s0.2.1 0))), ((a0 2), .inl (q 0, 4, .inl (s0.2.1 1))), ((a0 3), .inl (q 0, 160, .inl (s0.2.1 2))), ((a0 4), .inl (q 0, 40, .inl (s0.2.1 3))), ((a0 5), .inl (q 0, 40, .inl (s0.2.1 4))), ((a0 6), .inl (q 0, 40, .inl (s0.2.1 5))), ((a0 7), .inl (q 0, 40, .inl (s0.2.1 6))), ((a0 8), .inl (q 0, 40, .inl (s0.2.1 7))), ((a0 9), .inl (q 0, 40, .inl (s0.2.1 8))), ((a0 10), .inl (q 0, 40, .inl (s0.2.1 9))), ((a0 11), .inl (q 1, 40, .inr (.inl s0.2.2.1))), ((a0 12), .inl (q 0, s0.2.2.2.1, .inl s0.2.2.2.2))]) hx hb ht in_X0 tyX0_ok nmX0 hown hK hP hD hS 0 rfl rfl 3 (by decide) mw_179 rfl rfl rfl (Nat.le_of_ble_eq_true rfl) dX0_clear_17 rfl (fun H locs hP hD hS => ?_)
  refine lv_aload_n hx hb dX0_clear_20 rfl (lv_at hl 0 rfl) ?_
  refine lv_iconst (v := 0) hx hb dX0_clear_21 (by decide) ?_
  refine fl_put (C := RX0) (T := TX0) (N := 18) (ci := 0) (v := .int 0) (ws2 := [((a0 0), .inr (0, [.int 0, .int 0, .int 0, .int 0, .int 0, .int (s0.1 5), .ref (a0 1), .ref (a0 2), .ref (a0 3), .ref (a0 4), .ref (a0 5), .ref (a0 6), .ref (a0 7), .ref (a0 8), .ref (a0 9), .ref (a0 10), .ref (a0 11), .ref (a0 12)])), ((a0 1), .inl (q 0, 4, .inl (s0.2.1 0))), ((a0 2), .inl (q 0, 4, .inl (s0.2.1 1))), ((a0 3), .inl (q 0, 160, .inl (s0.2.1 2))), ((a0 4), .inl (q 0, 40, .inl (s0.2.1 3))), ((a0 5), .inl (q 0, 40, .inl (s0.2.1 4))), ((a0 6), .inl (q 0, 40, .inl (s0.2.1 5))), ((a0 7), .inl (q 0, 40, .inl (s0.2.1 6))), ((a0 8), .inl (q 0, 40, .inl (s0.2.1 7))), ((a0 9), .inl (q 0, 40, .inl (s0.2.1 8))), ((a0 10), .inl (q 0, 40, .inl (s0.2.1 9))), ((a0 11), .inl (q 1, 40, .inr (.inl s0.2.2.1))), ((a0 12), .inl (q 0, s0.2.2.2.1, .inl s0.2.2.2.2))]) hx hb ht in_X0 tyX0_ok nmX0 hown hK hP hD hS 0 rfl rfl 4 (by decide) mw_182 rfl rfl rfl (Nat.le_of_ble_eq_true rfl) dX0_clear_22 rfl (fun H locs hP hD hS => ?_)
  refine lv_aload_n hx hb dX0_clear_25 rfl (lv_at hl 0 rfl) ?_
  refine lv_iconst (v := 0) hx hb dX0_clear_26 (by decide) ?_
  refine fl_put (C := RX0) (T := TX0) (N := 18) (ci := 0) (v := .int 0) (ws2 := [((a0 0), .inr (0, [.int 0, .int 0, .int 0, .int 0, .int 0, .int 0, .ref (a0 1), .ref (a0 2), .ref (a0 3), .ref (a0 4), .ref (a0 5), .ref (a0 6), .ref (a0 7), .ref (a0 8), .ref (a0 9), .ref (a0 10), .ref (a0 11), .ref (a0 12)])), ((a0 1), .inl (q 0, 4, .inl (s0.2.1 0))), ((a0 2), .inl (q 0, 4, .inl (s0.2.1 1))), ((a0 3), .inl (q 0, 160, .inl (s0.2.1 2))), ((a0 4), .inl (q 0, 40, .inl (s0.2.1 3))), ((a0 5), .inl (q 0, 40, .inl (s0.2.1 4))), ((a0 6), .inl (q 0, 40, .inl (s0.2.1 5))), ((a0 7), .inl (q 0, 40, .inl (s0.2.1 6))), ((a0 8), .inl (q 0, 40, .inl (s0.2.1 7))), ((a0 9), .inl (q 0, 40, .inl (s0.2.1 8))), ((a0 10), .inl (q 0, 40, .inl (s0.2.1 9))), ((a0 11), .inl (q 1, 40, .inr (.inl s0.2.2.1))), ((a0 12), .inl (q 0, s0.2.2.2.1, .inl s0.2.2.2.2))]) hx hb ht in_X0 tyX0_ok nmX0 hown hK hP hD hS 0 rfl rfl 5 (by decide) mw_185 rfl rfl rfl (Nat.le_of_ble_eq_true rfl) dX0_clear_27 rfl (fun H locs hP hD hS => ?_)
  refine lv_iconst (v := 0) hx hb dX0_clear_30 (by decide) ?_
  refine lv_istore_n (lv' := [(1, .int 0), (0, .ref (a0 0))]) hx hb dX0_clear_31 rfl hl (by decide) rfl (fun ls hl => ?_)
  have lp32 : ∀ (e50 : Bd → Int32 → Prop) (k50 : ∀ (t0 : Bd) (z1 : Int32) (H : Heap) (locs : List Loc) (ls : Array Slot), e50 t0 z1 → va_P D vwCl (bd_w a0 q t0) H → va_D (va_A (bd_w a0 q s0) sz) (bd_w a0 q t0) → va_S (va_A (bd_w a0 q s0) sz) s.heap H locs → lv_has ls 2 [(1, .int z1), (0, .ref (a0 0))] → W p l e ({ frames := 1, cells := 0, slots := 0, locals := 22 } : Room) s m [.ref (a0 0)].toArray below meth c H locs 0 0 (MQ below (va_Qv (fun u : Bd => post u) (mt_B D (bd_w a0 q s0) sz (fun u : Bd => bd_w a0 q u)) (va_A (bd_w a0 q s0) sz)) [.ref (a0 0)].toArray s 0 0 (va_A (bd_w a0 q s0) sz)) (F0 m 50 ls [])) (n : Nat) (t0 : Bd) (z1 : Int32) (H : Heap) (locs : List Loc) (ls : Array Slot), wp_X0_clear_L32 post e50 n t0 z1 → va_P D vwCl (bd_w a0 q t0) H → va_D (va_A (bd_w a0 q s0) sz) (bd_w a0 q t0) → va_S (va_A (bd_w a0 q s0) sz) s.heap H locs → lv_has ls 2 [(1, .int z1), (0, .ref (a0 0))] → W p l e ({ frames := 1, cells := 0, slots := 0, locals := 22 } : Room) s m [.ref (a0 0)].toArray below meth c H locs 0 0 (MQ below (va_Qv (fun u : Bd => post u) (mt_B D (bd_w a0 q s0) sz (fun u : Bd => bd_w a0 q u)) (va_A (bd_w a0 q s0) sz)) [.ref (a0 0)].toArray s 0 0 (va_A (bd_w a0 q s0) sz)) (F0 m 32 ls []) := by
    intro e50 k50 n
    induction n with
    | zero =>
      intro t0 z1 H locs ls h
      exact h.elim
    | succ n ih =>
      intro t0 z1 H locs ls h hP hD hS hl
      have hP : va_P D vwCl [((a0 0), .inr (0, [.int (t0.1 0), .int (t0.1 1), .int (t0.1 2), .int (t0.1 3), .int (t0.1 4), .int (t0.1 5), .ref (a0 1), .ref (a0 2), .ref (a0 3), .ref (a0 4), .ref (a0 5), .ref (a0 6), .ref (a0 7), .ref (a0 8), .ref (a0 9), .ref (a0 10), .ref (a0 11), .ref (a0 12)])), ((a0 1), .inl (q 0, 4, .inl (t0.2.1 0))), ((a0 2), .inl (q 0, 4, .inl (t0.2.1 1))), ((a0 3), .inl (q 0, 160, .inl (t0.2.1 2))), ((a0 4), .inl (q 0, 40, .inl (t0.2.1 3))), ((a0 5), .inl (q 0, 40, .inl (t0.2.1 4))), ((a0 6), .inl (q 0, 40, .inl (t0.2.1 5))), ((a0 7), .inl (q 0, 40, .inl (t0.2.1 6))), ((a0 8), .inl (q 0, 40, .inl (t0.2.1 7))), ((a0 9), .inl (q 0, 40, .inl (t0.2.1 8))), ((a0 10), .inl (q 0, 40, .inl (t0.2.1 9))), ((a0 11), .inl (q 1, 40, .inr (.inl t0.2.2.1))), ((a0 12), .inl (q 0, t0.2.2.2.1, .inl t0.2.2.2.2))] H := hP
      have hD : va_D _ [((a0 0), .inr (0, [.int (t0.1 0), .int (t0.1 1), .int (t0.1 2), .int (t0.1 3), .int (t0.1 4), .int (t0.1 5), .ref (a0 1), .ref (a0 2), .ref (a0 3), .ref (a0 4), .ref (a0 5), .ref (a0 6), .ref (a0 7), .ref (a0 8), .ref (a0 9), .ref (a0 10), .ref (a0 11), .ref (a0 12)])), ((a0 1), .inl (q 0, 4, .inl (t0.2.1 0))), ((a0 2), .inl (q 0, 4, .inl (t0.2.1 1))), ((a0 3), .inl (q 0, 160, .inl (t0.2.1 2))), ((a0 4), .inl (q 0, 40, .inl (t0.2.1 3))), ((a0 5), .inl (q 0, 40, .inl (t0.2.1 4))), ((a0 6), .inl (q 0, 40, .inl (t0.2.1 5))), ((a0 7), .inl (q 0, 40, .inl (t0.2.1 6))), ((a0 8), .inl (q 0, 40, .inl (t0.2.1 7))), ((a0 9), .inl (q 0, 40, .inl (t0.2.1 8))), ((a0 10), .inl (q 0, 40, .inl (t0.2.1 9))), ((a0 11), .inl (q 1, 40, .inr (.inl t0.2.2.1))), ((a0 12), .inl (q 0, t0.2.2.2.1, .inl t0.2.2.2.2))] := hD
      unfold wp_X0_clear_L32 at h
      refine lv_iload_n hx hb dX0_clear_32 rfl (lv_at hl 0 rfl) ?_
      refine lv_bipush (v := 40) hx hb dX0_clear_33 (by decide) ?_
      refine lv_icmp_ge (tgt := 50) hx hb dX0_clear_35 (by decide) (fun c_1 => ?_) (fun c_1 => ?_)
      · replace h := h.1 c_1
        exact k50 _ _ _ _ ls h (hP.sub (ws' := bd_w a0 q t0) [0, 1, 2, 3, 4, 5, 6, 7, 8, 9, 10, 11, 12] rfl) (hD.sub (ws' := bd_w a0 q t0) [0, 1, 2, 3, 4, 5, 6, 7, 8, 9, 10, 11, 12] (by decide) rfl) hS (lv_sub hl [0, 1] rfl)
      · replace h := h.2 c_1
        refine lv_aload_n hx hb dX0_clear_38 rfl (lv_at hl 1 rfl) ?_
        refine lv_iload_n hx hb dX0_clear_39 rfl (lv_at hl 0 rfl) ?_
        refine lv_iconst (v := 0) hx hb dX0_clear_40 (by decide) ?_
        refine mt_gov (mt_wV (wc := bd_w a0 q t0) (As := [.int z1, .int 0]) (rest := []) hx hb hml hown ht (c2_X0_makeCell h) wd_X0_makeCell mw_400 hQ hV hS hA (hP.sub [0, 1, 2, 3, 4, 5, 6, 7, 8, 9, 10, 11, 12] rfl) (hD.sub [0, 1, 2, 3, 4, 5, 6, 7, 8, 9, 10, 11, 12] (by decide) rfl) rfl rfl rfl hl.1 rfl (Nat.le_of_ble_eq_true rfl) dX0_clear_41 ⟨Nat.le_of_ble_eq_true rfl, Nat.le_of_ble_eq_true rfl, rfl, rfl⟩ ⟨Nat.le_of_ble_eq_true rfl, Nat.le_of_ble_eq_true rfl⟩) (wr := []) hP hD hS hA [0, 1, 2, 3, 4, 5, 6, 7, 8, 9, 10, 11, 12] [] rfl rfl (by decide) (by decide) (fun u_3 H locs h hP hD hS => ?_)
        try dsimp only at h
        have hP : va_P D vwCl [((a0 0), .inr (0, [.int (u_3.1 0), .int (u_3.1 1), .int (u_3.1 2), .int (u_3.1 3), .int (u_3.1 4), .int (u_3.1 5), .ref (a0 1), .ref (a0 2), .ref (a0 3), .ref (a0 4), .ref (a0 5), .ref (a0 6), .ref (a0 7), .ref (a0 8), .ref (a0 9), .ref (a0 10), .ref (a0 11), .ref (a0 12)])), ((a0 1), .inl (q 0, 4, .inl (u_3.2.1 0))), ((a0 2), .inl (q 0, 4, .inl (u_3.2.1 1))), ((a0 3), .inl (q 0, 160, .inl (u_3.2.1 2))), ((a0 4), .inl (q 0, 40, .inl (u_3.2.1 3))), ((a0 5), .inl (q 0, 40, .inl (u_3.2.1 4))), ((a0 6), .inl (q 0, 40, .inl (u_3.2.1 5))), ((a0 7), .inl (q 0, 40, .inl (u_3.2.1 6))), ((a0 8), .inl (q 0, 40, .inl (u_3.2.1 7))), ((a0 9), .inl (q 0, 40, .inl (u_3.2.1 8))), ((a0 10), .inl (q 0, 40, .inl (u_3.2.1 9))), ((a0 11), .inl (q 1, 40, .inr (.inl u_3.2.2.1))), ((a0 12), .inl (q 0, u_3.2.2.2.1, .inl u_3.2.2.2.2))] H := hP
        have hD : va_D _ [((a0 0), .inr (0, [.int (u_3.1 0), .int (u_3.1 1), .int (u_3.1 2), .int (u_3.1 3), .int (u_3.1 4), .int (u_3.1 5), .ref (a0 1), .ref (a0 2), .ref (a0 3), .ref (a0 4), .ref (a0 5), .ref (a0 6), .ref (a0 7), .ref (a0 8), .ref (a0 9), .ref (a0 10), .ref (a0 11), .ref (a0 12)])), ((a0 1), .inl (q 0, 4, .inl (u_3.2.1 0))), ((a0 2), .inl (q 0, 4, .inl (u_3.2.1 1))), ((a0 3), .inl (q 0, 160, .inl (u_3.2.1 2))), ((a0 4), .inl (q 0, 40, .inl (u_3.2.1 3))), ((a0 5), .inl (q 0, 40, .inl (u_3.2.1 4))), ((a0 6), .inl (q 0, 40, .inl (u_3.2.1 5))), ((a0 7), .inl (q 0, 40, .inl (u_3.2.1 6))), ((a0 8), .inl (q 0, 40, .inl (u_3.2.1 7))), ((a0 9), .inl (q 0, 40, .inl (u_3.2.1 8))), ((a0 10), .inl (q 0, 40, .inl (u_3.2.1 9))), ((a0 11), .inl (q 1, 40, .inr (.inl u_3.2.2.1))), ((a0 12), .inl (q 0, u_3.2.2.2.1, .inl u_3.2.2.2.2))] := hD
        refine lv_iinc (v := (z1 + 1)) (lv' := [(1, .int (z1 + 1)), (0, .ref (a0 0))]) hx hb dX0_clear_44 hl (k := 0) rfl rfl (by decide) rfl (fun ls hl => ?_)
        refine lv_goto (tgt := 32) hx hb dX0_clear_47 (by decide) ?_
        exact ih _ _ _ _ ls h (hP.sub (ws' := bd_w a0 q u_3) [0, 1, 2, 3, 4, 5, 6, 7, 8, 9, 10, 11, 12] rfl) (hD.sub (ws' := bd_w a0 q u_3) [0, 1, 2, 3, 4, 5, 6, 7, 8, 9, 10, 11, 12] (by decide) rfl) hS (lv_sub hl [0, 1] rfl)
  obtain ⟨n32, h⟩ := h
  refine lp32 _ ?_ n32 _ _ _ _ ls h (hP.sub (ws' := bd_w a0 q ((va_up (va_up (va_up (va_up (va_up (va_up s0.1 0 0) 1 0) 2 0) 3 0) 4 0) 5 0), s0.2.1, s0.2.2.1, s0.2.2.2.1, s0.2.2.2.2)) [0, 1, 2, 3, 4, 5, 6, 7, 8, 9, 10, 11, 12] rfl) (hD.sub (ws' := bd_w a0 q ((va_up (va_up (va_up (va_up (va_up (va_up s0.1 0 0) 1 0) 2 0) 3 0) 4 0) 5 0), s0.2.1, s0.2.2.1, s0.2.2.2.1, s0.2.2.2.2)) [0, 1, 2, 3, 4, 5, 6, 7, 8, 9, 10, 11, 12] (by decide) rfl) hS (lv_sub hl [0, 1] rfl)
  · intro t0 z1 H locs ls h hP hD hS hl
    try dsimp only at h
    have hP : va_P D vwCl [((a0 0), .inr (0, [.int (t0.1 0), .int (t0.1 1), .int (t0.1 2), .int (t0.1 3), .int (t0.1 4), .int (t0.1 5), .ref (a0 1), .ref (a0 2), .ref (a0 3), .ref (a0 4), .ref (a0 5), .ref (a0 6), .ref (a0 7), .ref (a0 8), .ref (a0 9), .ref (a0 10), .ref (a0 11), .ref (a0 12)])), ((a0 1), .inl (q 0, 4, .inl (t0.2.1 0))), ((a0 2), .inl (q 0, 4, .inl (t0.2.1 1))), ((a0 3), .inl (q 0, 160, .inl (t0.2.1 2))), ((a0 4), .inl (q 0, 40, .inl (t0.2.1 3))), ((a0 5), .inl (q 0, 40, .inl (t0.2.1 4))), ((a0 6), .inl (q 0, 40, .inl (t0.2.1 5))), ((a0 7), .inl (q 0, 40, .inl (t0.2.1 6))), ((a0 8), .inl (q 0, 40, .inl (t0.2.1 7))), ((a0 9), .inl (q 0, 40, .inl (t0.2.1 8))), ((a0 10), .inl (q 0, 40, .inl (t0.2.1 9))), ((a0 11), .inl (q 1, 40, .inr (.inl t0.2.2.1))), ((a0 12), .inl (q 0, t0.2.2.2.1, .inl t0.2.2.2.2))] H := hP
    have hD : va_D _ [((a0 0), .inr (0, [.int (t0.1 0), .int (t0.1 1), .int (t0.1 2), .int (t0.1 3), .int (t0.1 4), .int (t0.1 5), .ref (a0 1), .ref (a0 2), .ref (a0 3), .ref (a0 4), .ref (a0 5), .ref (a0 6), .ref (a0 7), .ref (a0 8), .ref (a0 9), .ref (a0 10), .ref (a0 11), .ref (a0 12)])), ((a0 1), .inl (q 0, 4, .inl (t0.2.1 0))), ((a0 2), .inl (q 0, 4, .inl (t0.2.1 1))), ((a0 3), .inl (q 0, 160, .inl (t0.2.1 2))), ((a0 4), .inl (q 0, 40, .inl (t0.2.1 3))), ((a0 5), .inl (q 0, 40, .inl (t0.2.1 4))), ((a0 6), .inl (q 0, 40, .inl (t0.2.1 5))), ((a0 7), .inl (q 0, 40, .inl (t0.2.1 6))), ((a0 8), .inl (q 0, 40, .inl (t0.2.1 7))), ((a0 9), .inl (q 0, 40, .inl (t0.2.1 8))), ((a0 10), .inl (q 0, 40, .inl (t0.2.1 9))), ((a0 11), .inl (q 1, 40, .inr (.inl t0.2.2.1))), ((a0 12), .inl (q 0, t0.2.2.2.1, .inl t0.2.2.2.2))] := hD
    exact mt_vret t0 hx hb hr hk h (hP.sub (ws' := bd_w a0 q t0) [0, 1, 2, 3, 4, 5, 6, 7, 8, 9, 10, 11, 12] rfl) (hD.sub (ws' := bd_w a0 q t0) [0, 1, 2, 3, 4, 5, 6, 7, 8, 9, 10, 11, 12] (by decide) rfl) hS dX0_clear_50

def wp_X0_cells (post : Int32 → Prop) (s0 : Bd) : Prop := post ((s0.1 0) * (s0.1 1))
set_option maxHeartbeats 4000000 in
set_option maxRecDepth 100000 in
theorem c2_X0_cells {l : Launch} {D : va_G} {q : Nat → ClassId} {a0 : Nat → Nat} {s0 : Bd} {post : Int32 → Prop} (h : wp_X0_cells post s0) : Met l yX0_cells (Cond.code yX0_cells cX0_cells 1 (some .int) :: w_all) ({ frames := 0, cells := 0, slots := 0, locals := 0 } : Room) (rd_P D q [.ref (a0 0)] (bd_w a0 q s0)) (vp_Si post) 0 0 (fun _ => False) := by
  refine rd_start (by decide) (Nat.le_of_ble_eq_true rfl) ?_
  intro p e s m below meth c ls hx hb hr hml hown ht hk hP hQ hV hl
  have hK := hQ.1
  have hown : s.vm.findClass RX0 = some m.cls := hown
  have hl : lv_has ls 1 [(0, .ref (a0 0))] := hl
  have hP : va_P D vwCl [((a0 0), .inr (0, [.int (s0.1 0), .int (s0.1 1), .int (s0.1 2), .int (s0.1 3), .int (s0.1 4), .int (s0.1 5), .ref (a0 1), .ref (a0 2), .ref (a0 3), .ref (a0 4), .ref (a0 5), .ref (a0 6), .ref (a0 7), .ref (a0 8), .ref (a0 9), .ref (a0 10), .ref (a0 11), .ref (a0 12)])), ((a0 1), .inl (q 0, 4, .inl (s0.2.1 0))), ((a0 2), .inl (q 0, 4, .inl (s0.2.1 1))), ((a0 3), .inl (q 0, 160, .inl (s0.2.1 2))), ((a0 4), .inl (q 0, 40, .inl (s0.2.1 3))), ((a0 5), .inl (q 0, 40, .inl (s0.2.1 4))), ((a0 6), .inl (q 0, 40, .inl (s0.2.1 5))), ((a0 7), .inl (q 0, 40, .inl (s0.2.1 6))), ((a0 8), .inl (q 0, 40, .inl (s0.2.1 7))), ((a0 9), .inl (q 0, 40, .inl (s0.2.1 8))), ((a0 10), .inl (q 0, 40, .inl (s0.2.1 9))), ((a0 11), .inl (q 1, 40, .inr (.inl s0.2.2.1))), ((a0 12), .inl (q 0, s0.2.2.2.1, .inl s0.2.2.2.2))] s.heap := hP
  unfold wp_X0_cells at h
  refine lv_aload_n hx hb dX0_cells_0 rfl (lv_at hl 0 rfl) ?_
  refine fl_get (C := RX0) (T := TX0) (N := 18) (ci := 0) (v := .int (s0.1 0)) hx hb ht in_X0 hown hK hP 0 rfl rfl 0 (by decide) mw_167 rfl dX0_cells_1 ?_
  refine lv_aload_n hx hb dX0_cells_4 rfl (lv_at hl 0 rfl) ?_
  refine fl_get (C := RX0) (T := TX0) (N := 18) (ci := 0) (v := .int (s0.1 1)) hx hb ht in_X0 hown hK hP 0 rfl rfl 1 (by decide) mw_171 rfl dX0_cells_5 ?_
  refine lv_imul hx hb dX0_cells_8 ?_
  exact rd_iret hx hb hr hk h dX0_cells_9

def wp_X0_hasCell (post : Int32 → Prop) (s0 : Bd) (x1 : Int32) : Prop := ((x1 < 0 → post 0) ∧ (¬ x1 < 0 → wp_X0_cells (fun r_2 => ((r_2 ≤ x1 → post 0) ∧ (¬ r_2 ≤ x1 → post 1))) s0))
set_option maxHeartbeats 4000000 in
set_option maxRecDepth 100000 in
theorem c2_X0_hasCell {l : Launch} {D : va_G} {q : Nat → ClassId} {a0 : Nat → Nat} {s0 : Bd} {x1 : Int32} {post : Int32 → Prop} (h : wp_X0_hasCell post s0 x1) : Met l yX0_hasCell (Cond.code yX0_hasCell cX0_hasCell 2 (some .boolean) :: w_all) ({ frames := 1, cells := 0, slots := 0, locals := 20 } : Room) (rd_P D q [.ref (a0 0), .int x1] (bd_w a0 q s0)) (vp_Si post) 0 0 (fun _ => False) := by
  refine rd_start (by decide) (Nat.le_of_ble_eq_true rfl) ?_
  intro p e s m below meth c ls hx hb hr hml hown ht hk hP hQ hV hl
  have hK := hQ.1
  have hown : s.vm.findClass RX0 = some m.cls := hown
  have hl : lv_has ls 2 [(0, .ref (a0 0)), (1, .int x1)] := hl
  have hP : va_P D vwCl [((a0 0), .inr (0, [.int (s0.1 0), .int (s0.1 1), .int (s0.1 2), .int (s0.1 3), .int (s0.1 4), .int (s0.1 5), .ref (a0 1), .ref (a0 2), .ref (a0 3), .ref (a0 4), .ref (a0 5), .ref (a0 6), .ref (a0 7), .ref (a0 8), .ref (a0 9), .ref (a0 10), .ref (a0 11), .ref (a0 12)])), ((a0 1), .inl (q 0, 4, .inl (s0.2.1 0))), ((a0 2), .inl (q 0, 4, .inl (s0.2.1 1))), ((a0 3), .inl (q 0, 160, .inl (s0.2.1 2))), ((a0 4), .inl (q 0, 40, .inl (s0.2.1 3))), ((a0 5), .inl (q 0, 40, .inl (s0.2.1 4))), ((a0 6), .inl (q 0, 40, .inl (s0.2.1 5))), ((a0 7), .inl (q 0, 40, .inl (s0.2.1 6))), ((a0 8), .inl (q 0, 40, .inl (s0.2.1 7))), ((a0 9), .inl (q 0, 40, .inl (s0.2.1 8))), ((a0 10), .inl (q 0, 40, .inl (s0.2.1 9))), ((a0 11), .inl (q 1, 40, .inr (.inl s0.2.2.1))), ((a0 12), .inl (q 0, s0.2.2.2.1, .inl s0.2.2.2.2))] s.heap := hP
  unfold wp_X0_hasCell at h
  refine lv_iload_n hx hb dX0_hasCell_0 rfl (lv_at hl 1 rfl) ?_
  refine lv_if_lt (tgt := 16) hx hb dX0_hasCell_1 (by decide) (fun c_1 => ?_) (fun c_1 => ?_)
  · replace h := h.1 c_1
    refine lv_iconst (v := 0) hx hb dX0_hasCell_16 (by decide) ?_
    exact rd_zret hx hb hr hk rfl h dX0_hasCell_17
  · replace h := h.2 c_1
    refine lv_iload_n hx hb dX0_hasCell_4 rfl (lv_at hl 1 rfl) ?_
    refine lv_aload_n hx hb dX0_hasCell_5 rfl (lv_at hl 0 rfl) ?_
    refine vp_callSi (rd_wV (wc := bd_w a0 q s0) (As := []) (rest := [.int x1]) hx hb hml hown ht (c2_X0_cells h) wd_X0_cells mw_588 hQ hV va_S.rf (hP.sub [0, 1, 2, 3, 4, 5, 6, 7, 8, 9, 10, 11, 12] rfl) rfl rfl rfl hl.1 rfl (Nat.le_of_ble_eq_true rfl) dX0_hasCell_6 ⟨Nat.le_of_ble_eq_true rfl, Nat.le_of_ble_eq_true rfl, rfl, rfl⟩ ⟨Nat.le_of_ble_eq_true rfl, Nat.le_of_ble_eq_true rfl⟩) (fun r_2 h => ?_)
    try dsimp only at h
    refine lv_icmp_ge (tgt := 16) hx hb dX0_hasCell_9 (by decide) (fun c_4 => ?_) (fun c_4 => ?_)
    · replace h := h.1 c_4
      refine lv_iconst (v := 0) hx hb dX0_hasCell_16 (by decide) ?_
      exact rd_zret hx hb hr hk rfl h dX0_hasCell_17
    · replace h := h.2 c_4
      refine lv_iconst (v := 1) hx hb dX0_hasCell_12 (by decide) ?_
      refine lv_goto (tgt := 17) hx hb dX0_hasCell_13 (by decide) ?_
      exact rd_zret hx hb hr hk rfl h dX0_hasCell_17

def wp_X0_setLost (post : Bd → Prop) (s0 : Bd) (x1 : Int32) (x2 : Int32) : Prop := wp_X0_hasCell (fun r_1 => ((r_1 = 0 → post s0) ∧ (¬ r_1 = 0 → vp_in x1 40 ∧ post (s0.1, (va_up s0.2.1 7 (upd (s0.2.1 7) (Int32.toNatClampNeg x1) x2)), s0.2.2.1, s0.2.2.2.1, s0.2.2.2.2)))) s0 x1
set_option maxHeartbeats 4000000 in
set_option maxRecDepth 100000 in
theorem c2_X0_setLost {l : Launch} {D : va_G} {q : Nat → ClassId} {sz : Nat} {a0 : Nat → Nat} {s0 : Bd} {x1 : Int32} {x2 : Int32} {post : Bd → Prop} (h : wp_X0_setLost post s0 x1 x2) : Met l yX0_setLost (Cond.code yX0_setLost cX0_setLost 3 none :: w_all) ({ frames := 2, cells := 0, slots := 0, locals := 41 } : Room) (mt_P D q [.ref (a0 0), .int x1, .int x2] (bd_w a0 q s0) sz) (va_Qv (fun u : Bd => post u) (mt_B D (bd_w a0 q s0) sz (fun u : Bd => bd_w a0 q u)) (va_A (bd_w a0 q s0) sz)) 0 0 (va_A (bd_w a0 q s0) sz) := by
  refine mt_start (by decide) (Nat.le_of_ble_eq_true rfl) ?_
  intro p e s m below meth c ls hx hb hr hml hown ht hk hin hP hQ hD hA hS hV hl
  have hK := hQ.1
  have hown : s.vm.findClass RX0 = some m.cls := hown
  have hl : lv_has ls 3 [(0, .ref (a0 0)), (1, .int x1), (2, .int x2)] := hl
  have hP : va_P D vwCl [((a0 0), .inr (0, [.int (s0.1 0), .int (s0.1 1), .int (s0.1 2), .int (s0.1 3), .int (s0.1 4), .int (s0.1 5), .ref (a0 1), .ref (a0 2), .ref (a0 3), .ref (a0 4), .ref (a0 5), .ref (a0 6), .ref (a0 7), .ref (a0 8), .ref (a0 9), .ref (a0 10), .ref (a0 11), .ref (a0 12)])), ((a0 1), .inl (q 0, 4, .inl (s0.2.1 0))), ((a0 2), .inl (q 0, 4, .inl (s0.2.1 1))), ((a0 3), .inl (q 0, 160, .inl (s0.2.1 2))), ((a0 4), .inl (q 0, 40, .inl (s0.2.1 3))), ((a0 5), .inl (q 0, 40, .inl (s0.2.1 4))), ((a0 6), .inl (q 0, 40, .inl (s0.2.1 5))), ((a0 7), .inl (q 0, 40, .inl (s0.2.1 6))), ((a0 8), .inl (q 0, 40, .inl (s0.2.1 7))), ((a0 9), .inl (q 0, 40, .inl (s0.2.1 8))), ((a0 10), .inl (q 0, 40, .inl (s0.2.1 9))), ((a0 11), .inl (q 1, 40, .inr (.inl s0.2.2.1))), ((a0 12), .inl (q 0, s0.2.2.2.1, .inl s0.2.2.2.2))] s.heap := hP
  have hD : va_D _ [((a0 0), .inr (0, [.int (s0.1 0), .int (s0.1 1), .int (s0.1 2), .int (s0.1 3), .int (s0.1 4), .int (s0.1 5), .ref (a0 1), .ref (a0 2), .ref (a0 3), .ref (a0 4), .ref (a0 5), .ref (a0 6), .ref (a0 7), .ref (a0 8), .ref (a0 9), .ref (a0 10), .ref (a0 11), .ref (a0 12)])), ((a0 1), .inl (q 0, 4, .inl (s0.2.1 0))), ((a0 2), .inl (q 0, 4, .inl (s0.2.1 1))), ((a0 3), .inl (q 0, 160, .inl (s0.2.1 2))), ((a0 4), .inl (q 0, 40, .inl (s0.2.1 3))), ((a0 5), .inl (q 0, 40, .inl (s0.2.1 4))), ((a0 6), .inl (q 0, 40, .inl (s0.2.1 5))), ((a0 7), .inl (q 0, 40, .inl (s0.2.1 6))), ((a0 8), .inl (q 0, 40, .inl (s0.2.1 7))), ((a0 9), .inl (q 0, 40, .inl (s0.2.1 8))), ((a0 10), .inl (q 0, 40, .inl (s0.2.1 9))), ((a0 11), .inl (q 1, 40, .inr (.inl s0.2.2.1))), ((a0 12), .inl (q 0, s0.2.2.2.1, .inl s0.2.2.2.2))] := hD
  unfold wp_X0_setLost at h
  refine lv_aload_n hx hb dX0_setLost_0 rfl (lv_at hl 0 rfl) ?_
  refine lv_iload_n hx hb dX0_setLost_1 rfl (lv_at hl 1 rfl) ?_
  refine vp_callSi (rd_wV (wc := bd_w a0 q s0) (As := [.int x1]) (rest := []) hx hb hml hown ht (c2_X0_hasCell h) wd_X0_hasCell mw_584 hQ hV hS (hP.sub [0, 1, 2, 3, 4, 5, 6, 7, 8, 9, 10, 11, 12] rfl) rfl rfl rfl hl.1 rfl (Nat.le_of_ble_eq_true rfl) dX0_setLost_2 ⟨Nat.le_of_ble_eq_true rfl, Nat.le_of_ble_eq_true rfl, rfl, rfl⟩ ⟨Nat.le_of_ble_eq_true rfl, Nat.le_of_ble_eq_true rfl⟩) (fun r_1 h => ?_)
  try dsimp only at h
  refine lv_if_eq (tgt := 15) hx hb dX0_setLost_5 (by decide) (fun c_3 => ?_) (fun c_3 => ?_)
  · replace h := h.1 c_3
    exact mt_vret s0 hx hb hr hk h (hP.sub (ws' := bd_w a0 q s0) [0, 1, 2, 3, 4, 5, 6, 7, 8, 9, 10, 11, 12] rfl) (hD.sub (ws' := bd_w a0 q s0) [0, 1, 2, 3, 4, 5, 6, 7, 8, 9, 10, 11, 12] (by decide) rfl) hS dX0_setLost_15
  · replace h := h.2 c_3
    refine lv_aload_n hx hb dX0_setLost_8 rfl (lv_at hl 0 rfl) ?_
    refine fl_get (C := RX0) (T := TX0) (N := 18) (ci := 0) (v := .ref (a0 8)) hx hb ht in_X0 hown hK hP 0 rfl rfl 13 (by decide) mw_200 rfl dX0_setLost_9 ?_
    refine lv_iload_n hx hb dX0_setLost_12 rfl (lv_at hl 1 rfl) ?_
    refine lv_iload_n hx hb dX0_setLost_13 rfl (lv_at hl 2 rfl) ?_
    obtain ⟨g_4, h⟩ := h
    refine va_iast hx hb hK hP hD hS 8 0 rfl rfl g_4 dX0_setLost_14 (fun H locs hP hD hS => ?_)
    have hP : va_P D vwCl [((a0 0), .inr (0, [.int (s0.1 0), .int (s0.1 1), .int (s0.1 2), .int (s0.1 3), .int (s0.1 4), .int (s0.1 5), .ref (a0 1), .ref (a0 2), .ref (a0 3), .ref (a0 4), .ref (a0 5), .ref (a0 6), .ref (a0 7), .ref (a0 8), .ref (a0 9), .ref (a0 10), .ref (a0 11), .ref (a0 12)])), ((a0 1), .inl (q 0, 4, .inl (s0.2.1 0))), ((a0 2), .inl (q 0, 4, .inl (s0.2.1 1))), ((a0 3), .inl (q 0, 160, .inl (s0.2.1 2))), ((a0 4), .inl (q 0, 40, .inl (s0.2.1 3))), ((a0 5), .inl (q 0, 40, .inl (s0.2.1 4))), ((a0 6), .inl (q 0, 40, .inl (s0.2.1 5))), ((a0 7), .inl (q 0, 40, .inl (s0.2.1 6))), ((a0 8), .inl (q 0, 40, .inl (upd (s0.2.1 7) (Int32.toNatClampNeg x1) x2))), ((a0 9), .inl (q 0, 40, .inl (s0.2.1 8))), ((a0 10), .inl (q 0, 40, .inl (s0.2.1 9))), ((a0 11), .inl (q 1, 40, .inr (.inl s0.2.2.1))), ((a0 12), .inl (q 0, s0.2.2.2.1, .inl s0.2.2.2.2))] H := hP
    have hD : va_D _ [((a0 0), .inr (0, [.int (s0.1 0), .int (s0.1 1), .int (s0.1 2), .int (s0.1 3), .int (s0.1 4), .int (s0.1 5), .ref (a0 1), .ref (a0 2), .ref (a0 3), .ref (a0 4), .ref (a0 5), .ref (a0 6), .ref (a0 7), .ref (a0 8), .ref (a0 9), .ref (a0 10), .ref (a0 11), .ref (a0 12)])), ((a0 1), .inl (q 0, 4, .inl (s0.2.1 0))), ((a0 2), .inl (q 0, 4, .inl (s0.2.1 1))), ((a0 3), .inl (q 0, 160, .inl (s0.2.1 2))), ((a0 4), .inl (q 0, 40, .inl (s0.2.1 3))), ((a0 5), .inl (q 0, 40, .inl (s0.2.1 4))), ((a0 6), .inl (q 0, 40, .inl (s0.2.1 5))), ((a0 7), .inl (q 0, 40, .inl (s0.2.1 6))), ((a0 8), .inl (q 0, 40, .inl (upd (s0.2.1 7) (Int32.toNatClampNeg x1) x2))), ((a0 9), .inl (q 0, 40, .inl (s0.2.1 8))), ((a0 10), .inl (q 0, 40, .inl (s0.2.1 9))), ((a0 11), .inl (q 1, 40, .inr (.inl s0.2.2.1))), ((a0 12), .inl (q 0, s0.2.2.2.1, .inl s0.2.2.2.2))] := hD
    exact mt_vret (s0.1, (va_up s0.2.1 7 (upd (s0.2.1 7) (Int32.toNatClampNeg x1) x2)), s0.2.2.1, s0.2.2.2.1, s0.2.2.2.2) hx hb hr hk h (hP.sub (ws' := bd_w a0 q (s0.1, (va_up s0.2.1 7 (upd (s0.2.1 7) (Int32.toNatClampNeg x1) x2)), s0.2.2.1, s0.2.2.2.1, s0.2.2.2.2)) [0, 1, 2, 3, 4, 5, 6, 7, 8, 9, 10, 11, 12] rfl) (hD.sub (ws' := bd_w a0 q (s0.1, (va_up s0.2.1 7 (upd (s0.2.1 7) (Int32.toNatClampNeg x1) x2)), s0.2.2.1, s0.2.2.2.1, s0.2.2.2.2)) [0, 1, 2, 3, 4, 5, 6, 7, 8, 9, 10, 11, 12] (by decide) rfl) hS dX0_setLost_15

def wp_X5_byteAt (post : Int32 → Prop) (s0 : Tp) (x1 : Int32) : Prop := ((x1 < 0 → post (-1)) ∧ (¬ x1 < 0 → (((s0.1 0) ≤ x1 → post (-1)) ∧ (¬ (s0.1 0) ≤ x1 → vp_in x1 400 ∧ post (s0.2 (Int32.toNatClampNeg x1))))))
set_option maxHeartbeats 4000000 in
set_option maxRecDepth 100000 in
theorem c2_X5_byteAt {l : Launch} {D : va_G} {q : Nat → ClassId} {a0 : Nat → Nat} {s0 : Tp} {x1 : Int32} {post : Int32 → Prop} (h : wp_X5_byteAt post s0 x1) : Met l yX5_byteAt (Cond.code yX5_byteAt cX5_byteAt 2 (some .int) :: w_all) ({ frames := 0, cells := 0, slots := 0, locals := 0 } : Room) (rd_P D q [.ref (a0 0), .int x1] (tp_w a0 q s0)) (vp_Si post) 0 0 (fun _ => False) := by
  refine rd_start (by decide) (Nat.le_of_ble_eq_true rfl) ?_
  intro p e s m below meth c ls hx hb hr hml hown ht hk hP hQ hV hl
  have hK := hQ.1
  have hown : s.vm.findClass RX5 = some m.cls := hown
  have hl : lv_has ls 2 [(0, .ref (a0 0)), (1, .int x1)] := hl
  have hP : va_P D vwCl [((a0 0), .inr (4, [.ref (a0 1), .int (s0.1 0), .int (s0.1 1), .int (s0.1 2), .int (s0.1 3), .int (s0.1 4), .int (s0.1 5)])), ((a0 1), .inl (q 0, 400, .inl s0.2))] s.heap := hP
  unfold wp_X5_byteAt at h
  refine lv_iload_n hx hb dX5_byteAt_0 rfl (lv_at hl 1 rfl) ?_
  refine lv_if_lt (tgt := 21) hx hb dX5_byteAt_1 (by decide) (fun c_1 => ?_) (fun c_1 => ?_)
  · replace h := h.1 c_1
    refine lv_iconst (v := (-1)) hx hb dX5_byteAt_21 (by decide) ?_
    exact rd_iret hx hb hr hk h dX5_byteAt_22
  · replace h := h.2 c_1
    refine lv_iload_n hx hb dX5_byteAt_4 rfl (lv_at hl 1 rfl) ?_
    refine lv_aload_n hx hb dX5_byteAt_5 rfl (lv_at hl 0 rfl) ?_
    refine fl_get (C := RX5) (T := TX5) (N := 7) (ci := 4) (v := .int (s0.1 0)) hx hb ht in_X5 hown hK hP 0 rfl rfl 1 (by decide) mw_130 rfl dX5_byteAt_6 ?_
    refine lv_icmp_ge (tgt := 21) hx hb dX5_byteAt_9 (by decide) (fun c_2 => ?_) (fun c_2 => ?_)
    · replace h := h.1 c_2
      refine lv_iconst (v := (-1)) hx hb dX5_byteAt_21 (by decide) ?_
      exact rd_iret hx hb hr hk h dX5_byteAt_22
    · replace h := h.2 c_2
      refine lv_aload_n hx hb dX5_byteAt_12 rfl (lv_at hl 0 rfl) ?_
      refine fl_get (C := RX5) (T := TX5) (N := 7) (ci := 4) (v := .ref (a0 1)) hx hb ht in_X5 hown hK hP 0 rfl rfl 0 (by decide) mw_128 rfl dX5_byteAt_13 ?_
      refine lv_iload_n hx hb dX5_byteAt_16 rfl (lv_at hl 1 rfl) ?_
      obtain ⟨g_3, h⟩ := h
      refine va_iald hx hb hK hP 1 0 rfl rfl g_3 dX5_byteAt_17 ?_
      refine lv_goto (tgt := 22) hx hb dX5_byteAt_18 (by decide) ?_
      exact rd_iret hx hb hr hk h dX5_byteAt_22

def wp_X0_addDrum_L40 (s1 : Tp) (post : Bd → Prop) (e76 : Bd → Int32 → Int32 → Int32 → Int32 → Prop) : Nat → Bd → Int32 → Int32 → Int32 → Int32 → Prop
  | 0, _, _, _, _, _ => False
  | n40 + 1, t0, z1, z3, z4, z5 => ((z4 ≤ z5 → e76 t0 z1 z3 z4 z5) ∧ (¬ z4 ≤ z5 → wp_X5_byteAt (fun r_6 => vp_in (((t0.1 3) * 40) + z5) 160 ∧ wp_X0_addDrum_L40 s1 post e76 n40 (t0.1, (va_up t0.2.1 2 (upd (t0.2.1 2) (Int32.toNatClampNeg (((t0.1 3) * 40) + z5)) r_6)), t0.2.2.1, t0.2.2.2.1, t0.2.2.2.2) z1 z3 z4 (z5 + 1)) s1 (z3 + z5)))
def wp_X0_addDrum (post : Bd → Prop) (s0 : Bd) (s1 : Tp) (x1 : Int32) (x3 : Int32) (x4 : Int32) : Prop := ((4 ≤ (s0.1 3) → post s0) ∧ (¬ 4 ≤ (s0.1 3) → ((x4 ≤ 40 → vp_in (s0.1 3) 4 ∧ vp_in (s0.1 3) 4 ∧ (∃ n40, wp_X0_addDrum_L40 s1 post (fun t0 z1 z3 z4 z5 => post ((va_up t0.1 3 ((t0.1 3) + 1)), t0.2.1, t0.2.2.1, t0.2.2.2.1, t0.2.2.2.2)) n40 (s0.1, (va_up (va_up s0.2.1 0 (upd (s0.2.1 0) (Int32.toNatClampNeg (s0.1 3)) x1)) 1 (upd (s0.2.1 1) (Int32.toNatClampNeg (s0.1 3)) x4)), s0.2.2.1, s0.2.2.2.1, s0.2.2.2.2) x1 x3 x4 0)) ∧ (¬ x4 ≤ 40 → post s0))))
set_option maxHeartbeats 4000000 in
set_option maxRecDepth 100000 in
theorem c2_X0_addDrum {l : Launch} {D : va_G} {q : Nat → ClassId} {sz : Nat} {a0 : Nat → Nat} {a1 : Nat → Nat} {s0 : Bd} {s1 : Tp} {x1 : Int32} {x3 : Int32} {x4 : Int32} {post : Bd → Prop} (h : wp_X0_addDrum post s0 s1 x1 x3 x4) : Met l yX0_addDrum (Cond.code yX0_addDrum cX0_addDrum 6 none :: w_all) ({ frames := 1, cells := 0, slots := 0, locals := 21 } : Room) (mt_P D q [.ref (a0 0), .int x1, .ref (a1 0), .int x3, .int x4] (bd_w a0 q s0 ++ tp_w a1 q s1) sz) (va_Qv (fun u : Bd => post u) (mt_B D (bd_w a0 q s0 ++ tp_w a1 q s1) sz (fun u : Bd => bd_w a0 q u ++ tp_w a1 q s1)) (va_A (bd_w a0 q s0 ++ tp_w a1 q s1) sz)) 0 0 (va_A (bd_w a0 q s0 ++ tp_w a1 q s1) sz) := by
  refine mt_start (by decide) (Nat.le_of_ble_eq_true rfl) ?_
  intro p e s m below meth c ls hx hb hr hml hown ht hk hin hP hQ hD hA hS hV hl
  have hK := hQ.1
  have hown : s.vm.findClass RX0 = some m.cls := hown
  have hl : lv_has ls 6 [(0, .ref (a0 0)), (1, .int x1), (2, .ref (a1 0)), (3, .int x3), (4, .int x4)] := hl
  have hP : va_P D vwCl [((a0 0), .inr (0, [.int (s0.1 0), .int (s0.1 1), .int (s0.1 2), .int (s0.1 3), .int (s0.1 4), .int (s0.1 5), .ref (a0 1), .ref (a0 2), .ref (a0 3), .ref (a0 4), .ref (a0 5), .ref (a0 6), .ref (a0 7), .ref (a0 8), .ref (a0 9), .ref (a0 10), .ref (a0 11), .ref (a0 12)])), ((a0 1), .inl (q 0, 4, .inl (s0.2.1 0))), ((a0 2), .inl (q 0, 4, .inl (s0.2.1 1))), ((a0 3), .inl (q 0, 160, .inl (s0.2.1 2))), ((a0 4), .inl (q 0, 40, .inl (s0.2.1 3))), ((a0 5), .inl (q 0, 40, .inl (s0.2.1 4))), ((a0 6), .inl (q 0, 40, .inl (s0.2.1 5))), ((a0 7), .inl (q 0, 40, .inl (s0.2.1 6))), ((a0 8), .inl (q 0, 40, .inl (s0.2.1 7))), ((a0 9), .inl (q 0, 40, .inl (s0.2.1 8))), ((a0 10), .inl (q 0, 40, .inl (s0.2.1 9))), ((a0 11), .inl (q 1, 40, .inr (.inl s0.2.2.1))), ((a0 12), .inl (q 0, s0.2.2.2.1, .inl s0.2.2.2.2)), ((a1 0), .inr (4, [.ref (a1 1), .int (s1.1 0), .int (s1.1 1), .int (s1.1 2), .int (s1.1 3), .int (s1.1 4), .int (s1.1 5)])), ((a1 1), .inl (q 0, 400, .inl s1.2))] s.heap := hP
  have hD : va_D _ [((a0 0), .inr (0, [.int (s0.1 0), .int (s0.1 1), .int (s0.1 2), .int (s0.1 3), .int (s0.1 4), .int (s0.1 5), .ref (a0 1), .ref (a0 2), .ref (a0 3), .ref (a0 4), .ref (a0 5), .ref (a0 6), .ref (a0 7), .ref (a0 8), .ref (a0 9), .ref (a0 10), .ref (a0 11), .ref (a0 12)])), ((a0 1), .inl (q 0, 4, .inl (s0.2.1 0))), ((a0 2), .inl (q 0, 4, .inl (s0.2.1 1))), ((a0 3), .inl (q 0, 160, .inl (s0.2.1 2))), ((a0 4), .inl (q 0, 40, .inl (s0.2.1 3))), ((a0 5), .inl (q 0, 40, .inl (s0.2.1 4))), ((a0 6), .inl (q 0, 40, .inl (s0.2.1 5))), ((a0 7), .inl (q 0, 40, .inl (s0.2.1 6))), ((a0 8), .inl (q 0, 40, .inl (s0.2.1 7))), ((a0 9), .inl (q 0, 40, .inl (s0.2.1 8))), ((a0 10), .inl (q 0, 40, .inl (s0.2.1 9))), ((a0 11), .inl (q 1, 40, .inr (.inl s0.2.2.1))), ((a0 12), .inl (q 0, s0.2.2.2.1, .inl s0.2.2.2.2)), ((a1 0), .inr (4, [.ref (a1 1), .int (s1.1 0), .int (s1.1 1), .int (s1.1 2), .int (s1.1 3), .int (s1.1 4), .int (s1.1 5)])), ((a1 1), .inl (q 0, 400, .inl s1.2))] := hD
  unfold wp_X0_addDrum at h
  refine lv_aload_n hx hb dX0_addDrum_0 rfl (lv_at hl 0 rfl) ?_
  refine fl_get (C := RX0) (T := TX0) (N := 18) (ci := 0) (v := .int (s0.1 3)) hx hb ht in_X0 hown hK hP 0 rfl rfl 3 (by decide) mw_179 rfl dX0_addDrum_1 ?_
  refine lv_iconst (v := 4) hx hb dX0_addDrum_4 (by decide) ?_
  refine lv_icmp_ge (tgt := 15) hx hb dX0_addDrum_5 (by decide) (fun c_1 => ?_) (fun c_1 => ?_)
  · replace h := h.1 c_1
    exact mt_vret s0 hx hb hr hk h (hP.sub (ws' := bd_w a0 q s0 ++ tp_w a1 q s1) [0, 1, 2, 3, 4, 5, 6, 7, 8, 9, 10, 11, 12, 13, 14] rfl) (hD.sub (ws' := bd_w a0 q s0 ++ tp_w a1 q s1) [0, 1, 2, 3, 4, 5, 6, 7, 8, 9, 10, 11, 12, 13, 14] (by decide) rfl) hS dX0_addDrum_15
  · replace h := h.2 c_1
    refine lv_iload hx hb dX0_addDrum_8 (lv_at hl 4 rfl) ?_
    refine lv_bipush (v := 40) hx hb dX0_addDrum_10 (by decide) ?_
    refine lv_icmp_le (tgt := 16) hx hb dX0_addDrum_12 (by decide) (fun c_2 => ?_) (fun c_2 => ?_)
    · replace h := h.1 c_2
      refine lv_aload_n hx hb dX0_addDrum_16 rfl (lv_at hl 0 rfl) ?_
      refine fl_get (C := RX0) (T := TX0) (N := 18) (ci := 0) (v := .ref (a0 1)) hx hb ht in_X0 hown hK hP 0 rfl rfl 6 (by decide) mw_188 rfl dX0_addDrum_17 ?_
      refine lv_aload_n hx hb dX0_addDrum_20 rfl (lv_at hl 0 rfl) ?_
      refine fl_get (C := RX0) (T := TX0) (N := 18) (ci := 0) (v := .int (s0.1 3)) hx hb ht in_X0 hown hK hP 0 rfl rfl 3 (by decide) mw_179 rfl dX0_addDrum_21 ?_
      refine lv_iload_n hx hb dX0_addDrum_24 rfl (lv_at hl 1 rfl) ?_
      obtain ⟨g_3, h⟩ := h
      refine va_iast hx hb hK hP hD hS 1 0 rfl rfl g_3 dX0_addDrum_25 (fun H locs hP hD hS => ?_)
      have hP : va_P D vwCl [((a0 0), .inr (0, [.int (s0.1 0), .int (s0.1 1), .int (s0.1 2), .int (s0.1 3), .int (s0.1 4), .int (s0.1 5), .ref (a0 1), .ref (a0 2), .ref (a0 3), .ref (a0 4), .ref (a0 5), .ref (a0 6), .ref (a0 7), .ref (a0 8), .ref (a0 9), .ref (a0 10), .ref (a0 11), .ref (a0 12)])), ((a0 1), .inl (q 0, 4, .inl (upd (s0.2.1 0) (Int32.toNatClampNeg (s0.1 3)) x1))), ((a0 2), .inl (q 0, 4, .inl (s0.2.1 1))), ((a0 3), .inl (q 0, 160, .inl (s0.2.1 2))), ((a0 4), .inl (q 0, 40, .inl (s0.2.1 3))), ((a0 5), .inl (q 0, 40, .inl (s0.2.1 4))), ((a0 6), .inl (q 0, 40, .inl (s0.2.1 5))), ((a0 7), .inl (q 0, 40, .inl (s0.2.1 6))), ((a0 8), .inl (q 0, 40, .inl (s0.2.1 7))), ((a0 9), .inl (q 0, 40, .inl (s0.2.1 8))), ((a0 10), .inl (q 0, 40, .inl (s0.2.1 9))), ((a0 11), .inl (q 1, 40, .inr (.inl s0.2.2.1))), ((a0 12), .inl (q 0, s0.2.2.2.1, .inl s0.2.2.2.2)), ((a1 0), .inr (4, [.ref (a1 1), .int (s1.1 0), .int (s1.1 1), .int (s1.1 2), .int (s1.1 3), .int (s1.1 4), .int (s1.1 5)])), ((a1 1), .inl (q 0, 400, .inl s1.2))] H := hP
      have hD : va_D _ [((a0 0), .inr (0, [.int (s0.1 0), .int (s0.1 1), .int (s0.1 2), .int (s0.1 3), .int (s0.1 4), .int (s0.1 5), .ref (a0 1), .ref (a0 2), .ref (a0 3), .ref (a0 4), .ref (a0 5), .ref (a0 6), .ref (a0 7), .ref (a0 8), .ref (a0 9), .ref (a0 10), .ref (a0 11), .ref (a0 12)])), ((a0 1), .inl (q 0, 4, .inl (upd (s0.2.1 0) (Int32.toNatClampNeg (s0.1 3)) x1))), ((a0 2), .inl (q 0, 4, .inl (s0.2.1 1))), ((a0 3), .inl (q 0, 160, .inl (s0.2.1 2))), ((a0 4), .inl (q 0, 40, .inl (s0.2.1 3))), ((a0 5), .inl (q 0, 40, .inl (s0.2.1 4))), ((a0 6), .inl (q 0, 40, .inl (s0.2.1 5))), ((a0 7), .inl (q 0, 40, .inl (s0.2.1 6))), ((a0 8), .inl (q 0, 40, .inl (s0.2.1 7))), ((a0 9), .inl (q 0, 40, .inl (s0.2.1 8))), ((a0 10), .inl (q 0, 40, .inl (s0.2.1 9))), ((a0 11), .inl (q 1, 40, .inr (.inl s0.2.2.1))), ((a0 12), .inl (q 0, s0.2.2.2.1, .inl s0.2.2.2.2)), ((a1 0), .inr (4, [.ref (a1 1), .int (s1.1 0), .int (s1.1 1), .int (s1.1 2), .int (s1.1 3), .int (s1.1 4), .int (s1.1 5)])), ((a1 1), .inl (q 0, 400, .inl s1.2))] := hD
      refine lv_aload_n hx hb dX0_addDrum_26 rfl (lv_at hl 0 rfl) ?_
      refine fl_get (C := RX0) (T := TX0) (N := 18) (ci := 0) (v := .ref (a0 2)) hx hb ht in_X0 hown hK hP 0 rfl rfl 7 (by decide) mw_190 rfl dX0_addDrum_27 ?_
      refine lv_aload_n hx hb dX0_addDrum_30 rfl (lv_at hl 0 rfl) ?_
      refine fl_get (C := RX0) (T := TX0) (N := 18) (ci := 0) (v := .int (s0.1 3)) hx hb ht in_X0 hown hK hP 0 rfl rfl 3 (by decide) mw_179 rfl dX0_addDrum_31 ?_
      refine lv_iload hx hb dX0_addDrum_34 (lv_at hl 4 rfl) ?_
      obtain ⟨g_4, h⟩ := h
      refine va_iast hx hb hK hP hD hS 2 0 rfl rfl g_4 dX0_addDrum_36 (fun H locs hP hD hS => ?_)
      have hP : va_P D vwCl [((a0 0), .inr (0, [.int (s0.1 0), .int (s0.1 1), .int (s0.1 2), .int (s0.1 3), .int (s0.1 4), .int (s0.1 5), .ref (a0 1), .ref (a0 2), .ref (a0 3), .ref (a0 4), .ref (a0 5), .ref (a0 6), .ref (a0 7), .ref (a0 8), .ref (a0 9), .ref (a0 10), .ref (a0 11), .ref (a0 12)])), ((a0 1), .inl (q 0, 4, .inl (upd (s0.2.1 0) (Int32.toNatClampNeg (s0.1 3)) x1))), ((a0 2), .inl (q 0, 4, .inl (upd (s0.2.1 1) (Int32.toNatClampNeg (s0.1 3)) x4))), ((a0 3), .inl (q 0, 160, .inl (s0.2.1 2))), ((a0 4), .inl (q 0, 40, .inl (s0.2.1 3))), ((a0 5), .inl (q 0, 40, .inl (s0.2.1 4))), ((a0 6), .inl (q 0, 40, .inl (s0.2.1 5))), ((a0 7), .inl (q 0, 40, .inl (s0.2.1 6))), ((a0 8), .inl (q 0, 40, .inl (s0.2.1 7))), ((a0 9), .inl (q 0, 40, .inl (s0.2.1 8))), ((a0 10), .inl (q 0, 40, .inl (s0.2.1 9))), ((a0 11), .inl (q 1, 40, .inr (.inl s0.2.2.1))), ((a0 12), .inl (q 0, s0.2.2.2.1, .inl s0.2.2.2.2)), ((a1 0), .inr (4, [.ref (a1 1), .int (s1.1 0), .int (s1.1 1), .int (s1.1 2), .int (s1.1 3), .int (s1.1 4), .int (s1.1 5)])), ((a1 1), .inl (q 0, 400, .inl s1.2))] H := hP
      have hD : va_D _ [((a0 0), .inr (0, [.int (s0.1 0), .int (s0.1 1), .int (s0.1 2), .int (s0.1 3), .int (s0.1 4), .int (s0.1 5), .ref (a0 1), .ref (a0 2), .ref (a0 3), .ref (a0 4), .ref (a0 5), .ref (a0 6), .ref (a0 7), .ref (a0 8), .ref (a0 9), .ref (a0 10), .ref (a0 11), .ref (a0 12)])), ((a0 1), .inl (q 0, 4, .inl (upd (s0.2.1 0) (Int32.toNatClampNeg (s0.1 3)) x1))), ((a0 2), .inl (q 0, 4, .inl (upd (s0.2.1 1) (Int32.toNatClampNeg (s0.1 3)) x4))), ((a0 3), .inl (q 0, 160, .inl (s0.2.1 2))), ((a0 4), .inl (q 0, 40, .inl (s0.2.1 3))), ((a0 5), .inl (q 0, 40, .inl (s0.2.1 4))), ((a0 6), .inl (q 0, 40, .inl (s0.2.1 5))), ((a0 7), .inl (q 0, 40, .inl (s0.2.1 6))), ((a0 8), .inl (q 0, 40, .inl (s0.2.1 7))), ((a0 9), .inl (q 0, 40, .inl (s0.2.1 8))), ((a0 10), .inl (q 0, 40, .inl (s0.2.1 9))), ((a0 11), .inl (q 1, 40, .inr (.inl s0.2.2.1))), ((a0 12), .inl (q 0, s0.2.2.2.1, .inl s0.2.2.2.2)), ((a1 0), .inr (4, [.ref (a1 1), .int (s1.1 0), .int (s1.1 1), .int (s1.1 2), .int (s1.1 3), .int (s1.1 4), .int (s1.1 5)])), ((a1 1), .inl (q 0, 400, .inl s1.2))] := hD
      refine lv_iconst (v := 0) hx hb dX0_addDrum_37 (by decide) ?_
      refine lv_istore (lv' := [(5, .int 0), (0, .ref (a0 0)), (1, .int x1), (2, .ref (a1 0)), (3, .int x3), (4, .int x4)]) hx hb dX0_addDrum_38 hl (by decide) rfl (fun ls hl => ?_)
      have lp40 : ∀ (e76 : Bd → Int32 → Int32 → Int32 → Int32 → Prop) (k76 : ∀ (t0 : Bd) (z1 : Int32) (z3 : Int32) (z4 : Int32) (z5 : Int32) (H : Heap) (locs : List Loc) (ls : Array Slot), e76 t0 z1 z3 z4 z5 → va_P D vwCl (bd_w a0 q t0 ++ tp_w a1 q s1) H → va_D (va_A (bd_w a0 q s0 ++ tp_w a1 q s1) sz) (bd_w a0 q t0 ++ tp_w a1 q s1) → va_S (va_A (bd_w a0 q s0 ++ tp_w a1 q s1) sz) s.heap H locs → lv_has ls 6 [(1, .int z1), (3, .int z3), (4, .int z4), (5, .int z5), (0, .ref (a0 0)), (2, .ref (a1 0))] → W p l e ({ frames := 1, cells := 0, slots := 0, locals := 21 } : Room) s m [.ref (a0 0), .int x1, .ref (a1 0), .int x3, .int x4].toArray below meth c H locs 0 0 (MQ below (va_Qv (fun u : Bd => post u) (mt_B D (bd_w a0 q s0 ++ tp_w a1 q s1) sz (fun u : Bd => bd_w a0 q u ++ tp_w a1 q s1)) (va_A (bd_w a0 q s0 ++ tp_w a1 q s1) sz)) [.ref (a0 0), .int x1, .ref (a1 0), .int x3, .int x4].toArray s 0 0 (va_A (bd_w a0 q s0 ++ tp_w a1 q s1) sz)) (F0 m 76 ls [])) (n : Nat) (t0 : Bd) (z1 : Int32) (z3 : Int32) (z4 : Int32) (z5 : Int32) (H : Heap) (locs : List Loc) (ls : Array Slot), wp_X0_addDrum_L40 s1 post e76 n t0 z1 z3 z4 z5 → va_P D vwCl (bd_w a0 q t0 ++ tp_w a1 q s1) H → va_D (va_A (bd_w a0 q s0 ++ tp_w a1 q s1) sz) (bd_w a0 q t0 ++ tp_w a1 q s1) → va_S (va_A (bd_w a0 q s0 ++ tp_w a1 q s1) sz) s.heap H locs → lv_has ls 6 [(1, .int z1), (3, .int z3), (4, .int z4), (5, .int z5), (0, .ref (a0 0)), (2, .ref (a1 0))] → W p l e ({ frames := 1, cells := 0, slots := 0, locals := 21 } : Room) s m [.ref (a0 0), .int x1, .ref (a1 0), .int x3, .int x4].toArray below meth c H locs 0 0 (MQ below (va_Qv (fun u : Bd => post u) (mt_B D (bd_w a0 q s0 ++ tp_w a1 q s1) sz (fun u : Bd => bd_w a0 q u ++ tp_w a1 q s1)) (va_A (bd_w a0 q s0 ++ tp_w a1 q s1) sz)) [.ref (a0 0), .int x1, .ref (a1 0), .int x3, .int x4].toArray s 0 0 (va_A (bd_w a0 q s0 ++ tp_w a1 q s1) sz)) (F0 m 40 ls []) := by
        intro e76 k76 n
        induction n with
        | zero =>
          intro t0 z1 z3 z4 z5 H locs ls h
          exact h.elim
        | succ n ih =>
          intro t0 z1 z3 z4 z5 H locs ls h hP hD hS hl
          have hP : va_P D vwCl [((a0 0), .inr (0, [.int (t0.1 0), .int (t0.1 1), .int (t0.1 2), .int (t0.1 3), .int (t0.1 4), .int (t0.1 5), .ref (a0 1), .ref (a0 2), .ref (a0 3), .ref (a0 4), .ref (a0 5), .ref (a0 6), .ref (a0 7), .ref (a0 8), .ref (a0 9), .ref (a0 10), .ref (a0 11), .ref (a0 12)])), ((a0 1), .inl (q 0, 4, .inl (t0.2.1 0))), ((a0 2), .inl (q 0, 4, .inl (t0.2.1 1))), ((a0 3), .inl (q 0, 160, .inl (t0.2.1 2))), ((a0 4), .inl (q 0, 40, .inl (t0.2.1 3))), ((a0 5), .inl (q 0, 40, .inl (t0.2.1 4))), ((a0 6), .inl (q 0, 40, .inl (t0.2.1 5))), ((a0 7), .inl (q 0, 40, .inl (t0.2.1 6))), ((a0 8), .inl (q 0, 40, .inl (t0.2.1 7))), ((a0 9), .inl (q 0, 40, .inl (t0.2.1 8))), ((a0 10), .inl (q 0, 40, .inl (t0.2.1 9))), ((a0 11), .inl (q 1, 40, .inr (.inl t0.2.2.1))), ((a0 12), .inl (q 0, t0.2.2.2.1, .inl t0.2.2.2.2)), ((a1 0), .inr (4, [.ref (a1 1), .int (s1.1 0), .int (s1.1 1), .int (s1.1 2), .int (s1.1 3), .int (s1.1 4), .int (s1.1 5)])), ((a1 1), .inl (q 0, 400, .inl s1.2))] H := hP
          have hD : va_D _ [((a0 0), .inr (0, [.int (t0.1 0), .int (t0.1 1), .int (t0.1 2), .int (t0.1 3), .int (t0.1 4), .int (t0.1 5), .ref (a0 1), .ref (a0 2), .ref (a0 3), .ref (a0 4), .ref (a0 5), .ref (a0 6), .ref (a0 7), .ref (a0 8), .ref (a0 9), .ref (a0 10), .ref (a0 11), .ref (a0 12)])), ((a0 1), .inl (q 0, 4, .inl (t0.2.1 0))), ((a0 2), .inl (q 0, 4, .inl (t0.2.1 1))), ((a0 3), .inl (q 0, 160, .inl (t0.2.1 2))), ((a0 4), .inl (q 0, 40, .inl (t0.2.1 3))), ((a0 5), .inl (q 0, 40, .inl (t0.2.1 4))), ((a0 6), .inl (q 0, 40, .inl (t0.2.1 5))), ((a0 7), .inl (q 0, 40, .inl (t0.2.1 6))), ((a0 8), .inl (q 0, 40, .inl (t0.2.1 7))), ((a0 9), .inl (q 0, 40, .inl (t0.2.1 8))), ((a0 10), .inl (q 0, 40, .inl (t0.2.1 9))), ((a0 11), .inl (q 1, 40, .inr (.inl t0.2.2.1))), ((a0 12), .inl (q 0, t0.2.2.2.1, .inl t0.2.2.2.2)), ((a1 0), .inr (4, [.ref (a1 1), .int (s1.1 0), .int (s1.1 1), .int (s1.1 2), .int (s1.1 3), .int (s1.1 4), .int (s1.1 5)])), ((a1 1), .inl (q 0, 400, .inl s1.2))] := hD
          unfold wp_X0_addDrum_L40 at h
          refine lv_iload hx hb dX0_addDrum_40 (lv_at hl 3 rfl) ?_
          refine lv_iload hx hb dX0_addDrum_42 (lv_at hl 2 rfl) ?_
          refine lv_icmp_ge (tgt := 76) hx hb dX0_addDrum_44 (by decide) (fun c_5 => ?_) (fun c_5 => ?_)
          · replace h := h.1 c_5
            exact k76 _ _ _ _ _ _ _ ls h (hP.sub (ws' := bd_w a0 q t0 ++ tp_w a1 q s1) [0, 1, 2, 3, 4, 5, 6, 7, 8, 9, 10, 11, 12, 13, 14] rfl) (hD.sub (ws' := bd_w a0 q t0 ++ tp_w a1 q s1) [0, 1, 2, 3, 4, 5, 6, 7, 8, 9, 10, 11, 12, 13, 14] (by decide) rfl) hS (lv_sub hl [0, 1, 2, 3, 4, 5] rfl)
          · replace h := h.2 c_5
            refine lv_aload_n hx hb dX0_addDrum_47 rfl (lv_at hl 4 rfl) ?_
            refine fl_get (C := RX0) (T := TX0) (N := 18) (ci := 0) (v := .ref (a0 3)) hx hb ht in_X0 hown hK hP 0 rfl rfl 8 (by decide) mw_191 rfl dX0_addDrum_48 ?_
            refine lv_aload_n hx hb dX0_addDrum_51 rfl (lv_at hl 4 rfl) ?_
            refine fl_get (C := RX0) (T := TX0) (N := 18) (ci := 0) (v := .int (t0.1 3)) hx hb ht in_X0 hown hK hP 0 rfl rfl 3 (by decide) mw_179 rfl dX0_addDrum_52 ?_
            refine lv_bipush (v := 40) hx hb dX0_addDrum_55 (by decide) ?_
            refine lv_imul hx hb dX0_addDrum_57 ?_
            refine lv_iload hx hb dX0_addDrum_58 (lv_at hl 3 rfl) ?_
            refine lv_iadd hx hb dX0_addDrum_60 ?_
            refine lv_aload_n hx hb dX0_addDrum_61 rfl (lv_at hl 5 rfl) ?_
            refine lv_iload_n hx hb dX0_addDrum_62 rfl (lv_at hl 1 rfl) ?_
            refine lv_iload hx hb dX0_addDrum_63 (lv_at hl 3 rfl) ?_
            refine lv_iadd hx hb dX0_addDrum_65 ?_
            refine vp_callSi (rd_wV (wc := tp_w a1 q s1) (As := [.int (z3 + z5)]) (rest := [.int (((t0.1 3) * 40) + z5), .ref (a0 3)]) hx hb hml hown ht (c2_X5_byteAt h) wd_X5_byteAt mw_537 hQ hV hS (hP.sub [13, 14] rfl) rfl rfl rfl hl.1 rfl (Nat.le_of_ble_eq_true rfl) dX0_addDrum_66 ⟨Nat.le_of_ble_eq_true rfl, Nat.le_of_ble_eq_true rfl, rfl, rfl⟩ ⟨Nat.le_of_ble_eq_true rfl, Nat.le_of_ble_eq_true rfl⟩) (fun r_6 h => ?_)
            try dsimp only at h
            obtain ⟨g_8, h⟩ := h
            refine va_iast hx hb hK hP hD hS 3 0 rfl rfl g_8 dX0_addDrum_69 (fun H locs hP hD hS => ?_)
            have hP : va_P D vwCl [((a0 0), .inr (0, [.int (t0.1 0), .int (t0.1 1), .int (t0.1 2), .int (t0.1 3), .int (t0.1 4), .int (t0.1 5), .ref (a0 1), .ref (a0 2), .ref (a0 3), .ref (a0 4), .ref (a0 5), .ref (a0 6), .ref (a0 7), .ref (a0 8), .ref (a0 9), .ref (a0 10), .ref (a0 11), .ref (a0 12)])), ((a0 1), .inl (q 0, 4, .inl (t0.2.1 0))), ((a0 2), .inl (q 0, 4, .inl (t0.2.1 1))), ((a0 3), .inl (q 0, 160, .inl (upd (t0.2.1 2) (Int32.toNatClampNeg (((t0.1 3) * 40) + z5)) r_6))), ((a0 4), .inl (q 0, 40, .inl (t0.2.1 3))), ((a0 5), .inl (q 0, 40, .inl (t0.2.1 4))), ((a0 6), .inl (q 0, 40, .inl (t0.2.1 5))), ((a0 7), .inl (q 0, 40, .inl (t0.2.1 6))), ((a0 8), .inl (q 0, 40, .inl (t0.2.1 7))), ((a0 9), .inl (q 0, 40, .inl (t0.2.1 8))), ((a0 10), .inl (q 0, 40, .inl (t0.2.1 9))), ((a0 11), .inl (q 1, 40, .inr (.inl t0.2.2.1))), ((a0 12), .inl (q 0, t0.2.2.2.1, .inl t0.2.2.2.2)), ((a1 0), .inr (4, [.ref (a1 1), .int (s1.1 0), .int (s1.1 1), .int (s1.1 2), .int (s1.1 3), .int (s1.1 4), .int (s1.1 5)])), ((a1 1), .inl (q 0, 400, .inl s1.2))] H := hP
            have hD : va_D _ [((a0 0), .inr (0, [.int (t0.1 0), .int (t0.1 1), .int (t0.1 2), .int (t0.1 3), .int (t0.1 4), .int (t0.1 5), .ref (a0 1), .ref (a0 2), .ref (a0 3), .ref (a0 4), .ref (a0 5), .ref (a0 6), .ref (a0 7), .ref (a0 8), .ref (a0 9), .ref (a0 10), .ref (a0 11), .ref (a0 12)])), ((a0 1), .inl (q 0, 4, .inl (t0.2.1 0))), ((a0 2), .inl (q 0, 4, .inl (t0.2.1 1))), ((a0 3), .inl (q 0, 160, .inl (upd (t0.2.1 2) (Int32.toNatClampNeg (((t0.1 3) * 40) + z5)) r_6))), ((a0 4), .inl (q 0, 40, .inl (t0.2.1 3))), ((a0 5), .inl (q 0, 40, .inl (t0.2.1 4))), ((a0 6), .inl (q 0, 40, .inl (t0.2.1 5))), ((a0 7), .inl (q 0, 40, .inl (t0.2.1 6))), ((a0 8), .inl (q 0, 40, .inl (t0.2.1 7))), ((a0 9), .inl (q 0, 40, .inl (t0.2.1 8))), ((a0 10), .inl (q 0, 40, .inl (t0.2.1 9))), ((a0 11), .inl (q 1, 40, .inr (.inl t0.2.2.1))), ((a0 12), .inl (q 0, t0.2.2.2.1, .inl t0.2.2.2.2)), ((a1 0), .inr (4, [.ref (a1 1), .int (s1.1 0), .int (s1.1 1), .int (s1.1 2), .int (s1.1 3), .int (s1.1 4), .int (s1.1 5)])), ((a1 1), .inl (q 0, 400, .inl s1.2))] := hD
            refine lv_iinc (v := (z5 + 1)) (lv' := [(5, .int (z5 + 1)), (1, .int z1), (3, .int z3), (4, .int z4), (0, .ref (a0 0)), (2, .ref (a1 0))]) hx hb dX0_addDrum_70 hl (k := 3) rfl rfl (by decide) rfl (fun ls hl => ?_)
            refine lv_goto (tgt := 40) hx hb dX0_addDrum_73 (by decide) ?_
            exact ih _ _ _ _ _ _ _ ls h (hP.sub (ws' := bd_w a0 q (t0.1, (va_up t0.2.1 2 (upd (t0.2.1 2) (Int32.toNatClampNeg (((t0.1 3) * 40) + z5)) r_6)), t0.2.2.1, t0.2.2.2.1, t0.2.2.2.2) ++ tp_w a1 q s1) [0, 1, 2, 3, 4, 5, 6, 7, 8, 9, 10, 11, 12, 13, 14] rfl) (hD.sub (ws' := bd_w a0 q (t0.1, (va_up t0.2.1 2 (upd (t0.2.1 2) (Int32.toNatClampNeg (((t0.1 3) * 40) + z5)) r_6)), t0.2.2.1, t0.2.2.2.1, t0.2.2.2.2) ++ tp_w a1 q s1) [0, 1, 2, 3, 4, 5, 6, 7, 8, 9, 10, 11, 12, 13, 14] (by decide) rfl) hS (lv_sub hl [1, 2, 3, 0, 4, 5] rfl)
      obtain ⟨n40, h⟩ := h
      refine lp40 _ ?_ n40 _ _ _ _ _ _ _ ls h (hP.sub (ws' := bd_w a0 q (s0.1, (va_up (va_up s0.2.1 0 (upd (s0.2.1 0) (Int32.toNatClampNeg (s0.1 3)) x1)) 1 (upd (s0.2.1 1) (Int32.toNatClampNeg (s0.1 3)) x4)), s0.2.2.1, s0.2.2.2.1, s0.2.2.2.2) ++ tp_w a1 q s1) [0, 1, 2, 3, 4, 5, 6, 7, 8, 9, 10, 11, 12, 13, 14] rfl) (hD.sub (ws' := bd_w a0 q (s0.1, (va_up (va_up s0.2.1 0 (upd (s0.2.1 0) (Int32.toNatClampNeg (s0.1 3)) x1)) 1 (upd (s0.2.1 1) (Int32.toNatClampNeg (s0.1 3)) x4)), s0.2.2.1, s0.2.2.2.1, s0.2.2.2.2) ++ tp_w a1 q s1) [0, 1, 2, 3, 4, 5, 6, 7, 8, 9, 10, 11, 12, 13, 14] (by decide) rfl) hS (lv_sub hl [2, 4, 5, 0, 1, 3] rfl)
      · intro t0 z1 z3 z4 z5 H locs ls h hP hD hS hl
        try dsimp only at h
        have hP : va_P D vwCl [((a0 0), .inr (0, [.int (t0.1 0), .int (t0.1 1), .int (t0.1 2), .int (t0.1 3), .int (t0.1 4), .int (t0.1 5), .ref (a0 1), .ref (a0 2), .ref (a0 3), .ref (a0 4), .ref (a0 5), .ref (a0 6), .ref (a0 7), .ref (a0 8), .ref (a0 9), .ref (a0 10), .ref (a0 11), .ref (a0 12)])), ((a0 1), .inl (q 0, 4, .inl (t0.2.1 0))), ((a0 2), .inl (q 0, 4, .inl (t0.2.1 1))), ((a0 3), .inl (q 0, 160, .inl (t0.2.1 2))), ((a0 4), .inl (q 0, 40, .inl (t0.2.1 3))), ((a0 5), .inl (q 0, 40, .inl (t0.2.1 4))), ((a0 6), .inl (q 0, 40, .inl (t0.2.1 5))), ((a0 7), .inl (q 0, 40, .inl (t0.2.1 6))), ((a0 8), .inl (q 0, 40, .inl (t0.2.1 7))), ((a0 9), .inl (q 0, 40, .inl (t0.2.1 8))), ((a0 10), .inl (q 0, 40, .inl (t0.2.1 9))), ((a0 11), .inl (q 1, 40, .inr (.inl t0.2.2.1))), ((a0 12), .inl (q 0, t0.2.2.2.1, .inl t0.2.2.2.2)), ((a1 0), .inr (4, [.ref (a1 1), .int (s1.1 0), .int (s1.1 1), .int (s1.1 2), .int (s1.1 3), .int (s1.1 4), .int (s1.1 5)])), ((a1 1), .inl (q 0, 400, .inl s1.2))] H := hP
        have hD : va_D _ [((a0 0), .inr (0, [.int (t0.1 0), .int (t0.1 1), .int (t0.1 2), .int (t0.1 3), .int (t0.1 4), .int (t0.1 5), .ref (a0 1), .ref (a0 2), .ref (a0 3), .ref (a0 4), .ref (a0 5), .ref (a0 6), .ref (a0 7), .ref (a0 8), .ref (a0 9), .ref (a0 10), .ref (a0 11), .ref (a0 12)])), ((a0 1), .inl (q 0, 4, .inl (t0.2.1 0))), ((a0 2), .inl (q 0, 4, .inl (t0.2.1 1))), ((a0 3), .inl (q 0, 160, .inl (t0.2.1 2))), ((a0 4), .inl (q 0, 40, .inl (t0.2.1 3))), ((a0 5), .inl (q 0, 40, .inl (t0.2.1 4))), ((a0 6), .inl (q 0, 40, .inl (t0.2.1 5))), ((a0 7), .inl (q 0, 40, .inl (t0.2.1 6))), ((a0 8), .inl (q 0, 40, .inl (t0.2.1 7))), ((a0 9), .inl (q 0, 40, .inl (t0.2.1 8))), ((a0 10), .inl (q 0, 40, .inl (t0.2.1 9))), ((a0 11), .inl (q 1, 40, .inr (.inl t0.2.2.1))), ((a0 12), .inl (q 0, t0.2.2.2.1, .inl t0.2.2.2.2)), ((a1 0), .inr (4, [.ref (a1 1), .int (s1.1 0), .int (s1.1 1), .int (s1.1 2), .int (s1.1 3), .int (s1.1 4), .int (s1.1 5)])), ((a1 1), .inl (q 0, 400, .inl s1.2))] := hD
        refine lv_aload_n hx hb dX0_addDrum_76 rfl (lv_at hl 4 rfl) ?_
        refine lv_dup hx hb dX0_addDrum_77 rfl ?_
        refine fl_get (C := RX0) (T := TX0) (N := 18) (ci := 0) (v := .int (t0.1 3)) hx hb ht in_X0 hown hK hP 0 rfl rfl 3 (by decide) mw_179 rfl dX0_addDrum_78 ?_
        refine lv_iconst (v := 1) hx hb dX0_addDrum_81 (by decide) ?_
        refine lv_iadd hx hb dX0_addDrum_82 ?_
        refine fl_put (C := RX0) (T := TX0) (N := 18) (ci := 0) (v := .int ((t0.1 3) + 1)) (ws2 := [((a0 0), .inr (0, [.int (t0.1 0), .int (t0.1 1), .int (t0.1 2), .int ((t0.1 3) + 1), .int (t0.1 4), .int (t0.1 5), .ref (a0 1), .ref (a0 2), .ref (a0 3), .ref (a0 4), .ref (a0 5), .ref (a0 6), .ref (a0 7), .ref (a0 8), .ref (a0 9), .ref (a0 10), .ref (a0 11), .ref (a0 12)])), ((a0 1), .inl (q 0, 4, .inl (t0.2.1 0))), ((a0 2), .inl (q 0, 4, .inl (t0.2.1 1))), ((a0 3), .inl (q 0, 160, .inl (t0.2.1 2))), ((a0 4), .inl (q 0, 40, .inl (t0.2.1 3))), ((a0 5), .inl (q 0, 40, .inl (t0.2.1 4))), ((a0 6), .inl (q 0, 40, .inl (t0.2.1 5))), ((a0 7), .inl (q 0, 40, .inl (t0.2.1 6))), ((a0 8), .inl (q 0, 40, .inl (t0.2.1 7))), ((a0 9), .inl (q 0, 40, .inl (t0.2.1 8))), ((a0 10), .inl (q 0, 40, .inl (t0.2.1 9))), ((a0 11), .inl (q 1, 40, .inr (.inl t0.2.2.1))), ((a0 12), .inl (q 0, t0.2.2.2.1, .inl t0.2.2.2.2)), ((a1 0), .inr (4, [.ref (a1 1), .int (s1.1 0), .int (s1.1 1), .int (s1.1 2), .int (s1.1 3), .int (s1.1 4), .int (s1.1 5)])), ((a1 1), .inl (q 0, 400, .inl s1.2))]) hx hb ht in_X0 tyX0_ok nmX0 hown hK hP hD hS 0 rfl rfl 3 (by decide) mw_179 rfl rfl rfl (Nat.le_of_ble_eq_true rfl) dX0_addDrum_83 rfl (fun H locs hP hD hS => ?_)
        exact mt_vret ((va_up t0.1 3 ((t0.1 3) + 1)), t0.2.1, t0.2.2.1, t0.2.2.2.1, t0.2.2.2.2) hx hb hr hk h (hP.sub (ws' := bd_w a0 q ((va_up t0.1 3 ((t0.1 3) + 1)), t0.2.1, t0.2.2.1, t0.2.2.2.1, t0.2.2.2.2) ++ tp_w a1 q s1) [0, 1, 2, 3, 4, 5, 6, 7, 8, 9, 10, 11, 12, 13, 14] rfl) (hD.sub (ws' := bd_w a0 q ((va_up t0.1 3 ((t0.1 3) + 1)), t0.2.1, t0.2.2.1, t0.2.2.2.1, t0.2.2.2.2) ++ tp_w a1 q s1) [0, 1, 2, 3, 4, 5, 6, 7, 8, 9, 10, 11, 12, 13, 14] (by decide) rfl) hS dX0_addDrum_86
    · replace h := h.2 c_2
      exact mt_vret s0 hx hb hr hk h (hP.sub (ws' := bd_w a0 q s0 ++ tp_w a1 q s1) [0, 1, 2, 3, 4, 5, 6, 7, 8, 9, 10, 11, 12, 13, 14] rfl) (hD.sub (ws' := bd_w a0 q s0 ++ tp_w a1 q s1) [0, 1, 2, 3, 4, 5, 6, 7, 8, 9, 10, 11, 12, 13, 14] (by decide) rfl) hS dX0_addDrum_15
