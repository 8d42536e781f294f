set_option maxHeartbeats 4000000 in
set_option maxRecDepth 100000 in
theorem whole_start {p : Program} {e : Env} {s : State} {m : MethodId} {below : List Frame} {meth : Method} {c : Code} (l : Launch) (hflags : l.flags = flags0) {b L : Nat} {xs : Nat → Int32} (hL : L ≤ 6) (C0 : lw_At p s m meth c b L xs) : W p l e room_1 s m #[Value.ref b] below meth c s.heap [] 0 0 (lw_Z below #[Value.ref b] s) (entryFrame m ([Value.ref b] : List Value).toArray 4) := by
  obtain ⟨hx, hb, hr, hml, hown, hts, hX, hbl, hlocks, hgv⟩ := id C0
  have ht : ∀ w ∈ w_all, w.before #[Value.ref b] s = true := fun w h => hts w (w_tbl h)
  have hA : ∀ x : Nat, s.heap.size ≤ x → (fun x : Nat => s.heap.size ≤ x) x := fun _ h => h
  have hbA : ¬ (fun x : Nat => s.heap.size ≤ x) b := Nat.not_le.mpr hbl
  have hown : s.vm.findClass RL = some m.cls := hown
  obtain ⟨D, q, hQ, hV⟩ := lw_known C0
  have hK := hQ.1
  have hS : va_S (fun x : Nat => s.heap.size ≤ x) s.heap s.heap [] := va_S.rf
  have hP : va_P D vwCl [] s.heap := fun k z h => by simp at h
  have hD : va_D (fun x : Nat => s.heap.size ≤ x) [] := ⟨fun i j z w h => by simp at h, fun k z h => by simp at h⟩
  have hl := lv_entry ([.ref b]) (n := 4) (Nat.le_of_ble_eq_true rfl)
  rw [lg_entry_eq]
  generalize (lg_sl ([.ref b]) ++ List.replicate (4 - (lg_sl ([.ref b])).length) Slot.unset).toArray = ls at hl ⊢
  have hl : lv_has ls 4 [(0, .ref b)] := hl
  refine va_new (ci := 5) (fs := [.null, .null, .null, .null, .null, .null, .null]) (C := RX6) (T := TX6) (N := 7) hx hb ht in_X6 tyX6 tyX6_ok hown (ht _ mw_114) (ht _ mw_115) (ht _ mw_98) hK hP hD hS hA rfl (fun j hj => nf_X6 j hj) (Nat.le_of_ble_eq_true rfl) (Nat.le_of_ble_eq_true rfl) dL_law_0 (fun oa H hP hD hS => ?_)
  refine W.widen (k := 1) (n := 7) (Nat.le_of_ble_eq_true rfl) (Nat.le_of_ble_eq_true rfl) ?_
  refine lv_dup hx hb dL_law_3 rfl ?_
  refine mt_gov (mt_wI (wc := [(oa, .inr (5, [.null, .null, .null, .null, .null, .null, .null]))]) (As := []) (rest := [.ref oa]) hx hb hml hown ht ct_init_X6 wd_X6_init mw_116 hQ hV hS hA (hP.sub [0] rfl) (hD.sub [0] (by decide) rfl) rfl hl.1 rfl (Nat.le_of_ble_eq_true rfl) dL_law_4 ⟨Nat.le_of_ble_eq_true rfl, Nat.le_of_ble_eq_true rfl, rfl, rfl⟩ ⟨Nat.le_of_ble_eq_true rfl, Nat.le_of_ble_eq_true rfl⟩) (wr := []) hP hD hS hA [0] [] rfl rfl (by decide +kernel) (by decide +kernel) (fun a H locs hw hPn hDn hSn => ?_)
  refine W.widen (k := 44) (n := 1989) (Nat.le_of_ble_eq_true rfl) (Nat.le_of_ble_eq_true rfl) ?_
  subst hw
  have hP : va_P D vwCl (fb_w a q) H := hPn
  have hD : va_D _ (fb_w a q) := hDn
  have hS := hSn
  refine lv_astore_n (lv' := [(1, .ref (a 0)), (0, .ref b)]) hx hb dL_law_7 rfl hl (by decide) rfl (fun ls hl => ?_)
  refine va_new (ci := 6) (fs := [.null, .null, .int 0, .null, .null, .null, .long 0, .int 0, .int 0, .null, .int 0, .int 0, .null, .int 0, .int 0, .int 0, .int 0, .int 0, .int 0, .int 0, .int 0, .int 0, .int 0]) (C := RX7) (T := TX7) (N := 23) hx hb ht in_X7 tyX7 tyX7_ok hown (ht _ mw_1123) (ht _ mw_1124) (ht _ mw_104) hK hP hD hS hA rfl (fun j hj => nf_X7 j hj) (Nat.le_of_ble_eq_true rfl) (Nat.le_of_ble_eq_true rfl) dL_law_8 (fun ob1 H hP hD hS => ?_)
  refine W.widen (k := 45) (n := 2012) (Nat.le_of_ble_eq_true rfl) (Nat.le_of_ble_eq_true rfl) ?_
  refine lv_dup hx hb dL_law_11 rfl ?_
  refine mt_gov (mt_wI (wc := [(ob1, .inr (6, [.null, .null, .int 0, .null, .null, .null, .long 0, .int 0, .int 0, .null, .int 0, .int 0, .null, .int 0, .int 0, .int 0, .int 0, .int 0, .int 0, .int 0, .int 0, .int 0, .int 0]))]) (As := []) (rest := [.ref ob1]) hx hb hml hown ht ct_init_X7 wd_X7_init mw_1125 hQ hV hS hA (hP.sub [44] rfl) (hD.sub [44] (by decide) rfl) rfl hl.1 rfl (Nat.le_of_ble_eq_true rfl) dL_law_12 ⟨Nat.le_of_ble_eq_true rfl, Nat.le_of_ble_eq_true rfl, rfl, rfl⟩ ⟨Nat.le_of_ble_eq_true rfl, Nat.le_of_ble_eq_true rfl⟩) (wr := (fb_w a q)) hP hD hS hA [44] (List.range 44) rfl rfl (by decide +kernel) (by decide +kernel) (fun b1 H locs hw hPn hDn hSn => ?_)
  refine W.widen (k := 52) (n := 98998) (Nat.le_of_ble_eq_true rfl) (Nat.le_of_ble_eq_true rfl) ?_
  subst hw
  have hP : va_P D vwCl (fb_w a q ++ md_w b1 q) H := hPn
  have hD : va_D _ (fb_w a q ++ md_w b1 q) := hDn
  have hS := hSn
  refine lv_astore_n (lv' := [(2, .ref (b1 0)), (1, .ref (a 0)), (0, .ref b)]) hx hb dL_law_15 rfl hl (by decide) rfl (fun ls hl => ?_)
  refine lv_iconst (v := 0) hx hb dL_law_16 (by decide) ?_
  refine lv_istore_n (lv' := [(3, .int 0), (2, .ref (b1 0)), (1, .ref (a 0)), (0, .ref b)]) hx hb dL_law_17 rfl hl (by decide) rfl (fun ls hl => ?_)
  refine lv_iload_n hx hb dL_law_18 rfl (lv_at hl 0 rfl) ?_
  refine lv_aload_n hx hb dL_law_19 rfl (lv_at hl 3 rfl) ?_
  refine va_slen hx hb hX hbl hbA hS dL_law_20 ?_
  refine lv_bipush (v := 6) hx hb dL_law_21 (by decide) ?_
  refine lv_isub hx hb dL_law_23 ?_
  by_cases hL6 : L = 6
  · subst hL6
    refine ab_i (v := 0) (by decide) ?_
    refine lv_icmp_gt (tgt := 1343) hx hb dL_law_24 (by decide) (fun c9 => absurd c9 (by decide)) (fun _ => ?_)
    refine lv_aload_n hx hb dL_law_27 rfl (lv_at hl 3 rfl) ?_
    refine lv_iload_n hx hb dL_law_28 rfl (lv_at hl 0 rfl) ?_
    refine va_sld hx hb hX hbl hbA hS (in_c rfl) dL_law_29 ?_
    refine lv_bipush (v := 63) hx hb dL_law_30 (by decide) ?_
    refine lv_iand hx hb dL_law_32 ?_
    refine lv_topi (fun w ew => ?_)
    by_cases k_0 : w = 0
    · refine lv_tableIn (tgt := 208) hx hb dL_law_33 (by rw [k_0]; decide) (by rw [k_0]; decide) (by rw [k_0]; rfl) (by decide) ?_
      exact lc_0 C0 hQ hV hP hD hS hl
    by_cases k_1 : w = 1
    · refine lv_tableIn (tgt := 271) hx hb dL_law_33 (by rw [k_1]; decide) (by rw [k_1]; decide) (by rw [k_1]; rfl) (by decide) ?_
      exact lc_1 C0 hQ hV hP hD hS hl
    by_cases k_2 : w = 2
    · refine lv_tableIn (tgt := 294) hx hb dL_law_33 (by rw [k_2]; decide) (by rw [k_2]; decide) (by rw [k_2]; rfl) (by decide) ?_
      exact lc_2 C0 hQ hV hP hD hS hl
    by_cases k_3 : w = 3
    · refine lv_tableIn (tgt := 307) hx hb dL_law_33 (by rw [k_3]; decide) (by rw [k_3]; decide) (by rw [k_3]; rfl) (by decide) ?_
      exact lc_3 C0 hQ hV hP hD hS hl
    by_cases k_4 : w = 4
    · refine lv_tableIn (tgt := 330) hx hb dL_law_33 (by rw [k_4]; decide) (by rw [k_4]; decide) (by rw [k_4]; rfl) (by decide) ?_
      exact lc_4 C0 hQ hV hP hD hS hl
    by_cases k_5 : w = 5
    · refine lv_tableIn (tgt := 343) hx hb dL_law_33 (by rw [k_5]; decide) (by rw [k_5]; decide) (by rw [k_5]; rfl) (by decide) ?_
      exact lc_5 C0 hQ hV hP hD hS hl
    by_cases k_6 : w = 6
    · refine lv_tableIn (tgt := 366) hx hb dL_law_33 (by rw [k_6]; decide) (by rw [k_6]; decide) (by rw [k_6]; rfl) (by decide) ?_
      exact lc_6 C0 hQ hV hP hD hS hl
    by_cases k_7 : w = 7
    · refine lv_tableIn (tgt := 379) hx hb dL_law_33 (by rw [k_7]; decide) (by rw [k_7]; decide) (by rw [k_7]; rfl) (by decide) ?_
      exact lc_7 C0 hQ hV hP hD hS hl
    by_cases k_8 : w = 8
    · refine lv_tableIn (tgt := 412) hx hb dL_law_33 (by rw [k_8]; decide) (by rw [k_8]; decide) (by rw [k_8]; rfl) (by decide) ?_
      exact lc_8 C0 hQ hV hP hD hS hl
    by_cases k_9 : w = 9
    · refine lv_tableIn (tgt := 445) hx hb dL_law_33 (by rw [k_9]; decide) (by rw [k_9]; decide) (by rw [k_9]; rfl) (by decide) ?_
      exact lc_9 C0 hQ hV hP hD hS hl
    by_cases k_10 : w = 10
    · refine lv_tableIn (tgt := 478) hx hb dL_law_33 (by rw [k_10]; decide) (by rw [k_10]; decide) (by rw [k_10]; rfl) (by decide) ?_
      exact lc_10 C0 hQ hV hP hD hS hl
    by_cases k_11 : w = 11
    · refine lv_tableIn (tgt := 501) hx hb dL_law_33 (by rw [k_11]; decide) (by rw [k_11]; decide) (by rw [k_11]; rfl) (by decide) ?_
      exact lc_11 C0 hQ hV hP hD hS hl
    by_cases k_12 : w = 12
    · refine lv_tableIn (tgt := 544) hx hb dL_law_33 (by rw [k_12]; decide) (by rw [k_12]; decide) (by rw [k_12]; rfl) (by decide) ?_
      exact lc_12 C0 hQ hV hP hD hS hl
    by_cases k_13 : w = 13
    · refine lv_tableIn (tgt := 557) hx hb dL_law_33 (by rw [k_13]; decide) (by rw [k_13]; decide) (by rw [k_13]; rfl) (by decide) ?_
      exact lc_13 C0 hQ hV hP hD hS hl
    by_cases k_14 : w = 14
    · refine lv_tableIn (tgt := 570) hx hb dL_law_33 (by rw [k_14]; decide) (by rw [k_14]; decide) (by rw [k_14]; rfl) (by decide) ?_
      exact lc_14 C0 hQ hV hP hD hS hl
    by_cases k_15 : w = 15
    · refine lv_tableIn (tgt := 593) hx hb dL_law_33 (by rw [k_15]; decide) (by rw [k_15]; decide) (by rw [k_15]; rfl) (by decide) ?_
      exact lc_15 C0 hQ hV hP hD hS hl
    by_cases k_16 : w = 16
    · refine lv_tableIn (tgt := 616) hx hb dL_law_33 (by rw [k_16]; decide) (by rw [k_16]; decide) (by rw [k_16]; rfl) (by decide) ?_
      exact lc_16 C0 hQ hV hP hD hS hl
    by_cases k_17 : w = 17
    · refine lv_tableIn (tgt := 649) hx hb dL_law_33 (by rw [k_17]; decide) (by rw [k_17]; decide) (by rw [k_17]; rfl) (by decide) ?_
      exact lc_17 C0 hQ hV hP hD hS hl
    by_cases k_18 : w = 18
    · refine lv_tableIn (tgt := 673) hx hb dL_law_33 (by rw [k_18]; decide) (by rw [k_18]; decide) (by rw [k_18]; rfl) (by decide) ?_
      exact lc_18 C0 hQ hV hP hD hS hl
    by_cases k_19 : w = 19
    · refine lv_tableIn (tgt := 706) hx hb dL_law_33 (by rw [k_19]; decide) (by rw [k_19]; decide) (by rw [k_19]; rfl) (by decide) ?_
      exact lc_19 C0 hQ hV hP hD hS hl
    by_cases k_20 : w = 20
    · refine lv_tableIn (tgt := 739) hx hb dL_law_33 (by rw [k_20]; decide) (by rw [k_20]; decide) (by rw [k_20]; rfl) (by decide) ?_
      exact lc_20 C0 hQ hV hP hD hS hl
    by_cases k_21 : w = 21
    · refine lv_tableIn (tgt := 782) hx hb dL_law_33 (by rw [k_21]; decide) (by rw [k_21]; decide) (by rw [k_21]; rfl) (by decide) ?_
      exact lc_21 C0 hQ hV hP hD hS hl
    by_cases k_22 : w = 22
    · refine lv_tableIn (tgt := 806) hx hb dL_law_33 (by rw [k_22]; decide) (by rw [k_22]; decide) (by rw [k_22]; rfl) (by decide) ?_
      exact lc_22 C0 hQ hV hP hD hS hl
    by_cases k_23 : w = 23
    · refine lv_tableIn (tgt := 829) hx hb dL_law_33 (by rw [k_23]; decide) (by rw [k_23]; decide) (by rw [k_23]; rfl) (by decide) ?_
      exact lc_23 C0 hQ hV hP hD hS hl
    by_cases k_24 : w = 24
    · refine lv_tableIn (tgt := 852) hx hb dL_law_33 (by rw [k_24]; decide) (by rw [k_24]; decide) (by rw [k_24]; rfl) (by decide) ?_
      exact lc_24 C0 hQ hV hP hD hS hl
    by_cases k_25 : w = 25
    · refine lv_tableIn (tgt := 875) hx hb dL_law_33 (by rw [k_25]; decide) (by rw [k_25]; decide) (by rw [k_25]; rfl) (by decide) ?_
      exact lc_25 C0 hQ hV hP hD hS hl
    by_cases k_26 : w = 26
    · refine lv_tableIn (tgt := 898) hx hb dL_law_33 (by rw [k_26]; decide) (by rw [k_26]; decide) (by rw [k_26]; rfl) (by decide) ?_
      exact lc_26 C0 hQ hV hP hD hS hl
    by_cases k_27 : w = 27
    · refine lv_tableIn (tgt := 921) hx hb dL_law_33 (by rw [k_27]; decide) (by rw [k_27]; decide) (by rw [k_27]; rfl) (by decide) ?_
      exact lc_27 C0 hQ hV hP hD hS hl
    by_cases k_28 : w = 28
    · refine lv_tableIn (tgt := 954) hx hb dL_law_33 (by rw [k_28]; decide) (by rw [k_28]; decide) (by rw [k_28]; rfl) (by decide) ?_
      exact lc_28 C0 hQ hV hP hD hS hl
    by_cases k_29 : w = 29
    · refine lv_tableIn (tgt := 987) hx hb dL_law_33 (by rw [k_29]; decide) (by rw [k_29]; decide) (by rw [k_29]; rfl) (by decide) ?_
      exact lc_29 C0 hQ hV hP hD hS hl
    by_cases k_30 : w = 30
    · refine lv_tableIn (tgt := 1020) hx hb dL_law_33 (by rw [k_30]; decide) (by rw [k_30]; decide) (by rw [k_30]; rfl) (by decide) ?_
      exact lc_30 C0 hQ hV hP hD hS hl
    by_cases k_31 : w = 31
    · refine lv_tableIn (tgt := 1079) hx hb dL_law_33 (by rw [k_31]; decide) (by rw [k_31]; decide) (by rw [k_31]; rfl) (by decide) ?_
      exact lc_31 C0 hQ hV hP hD hS hl
    by_cases k_32 : w = 32
    · refine lv_tableIn (tgt := 1112) hx hb dL_law_33 (by rw [k_32]; decide) (by rw [k_32]; decide) (by rw [k_32]; rfl) (by decide) ?_
      exact lc_32 C0 hQ hV hP hD hS hl
    by_cases k_33 : w = 33
    · refine lv_tableIn (tgt := 1145) hx hb dL_law_33 (by rw [k_33]; decide) (by rw [k_33]; decide) (by rw [k_33]; rfl) (by decide) ?_
      exact lc_33 C0 hQ hV hP hD hS hl
    by_cases k_34 : w = 34
    · refine lv_tableIn (tgt := 1178) hx hb dL_law_33 (by rw [k_34]; decide) (by rw [k_34]; decide) (by rw [k_34]; rfl) (by decide) ?_
      exact lc_34 C0 hQ hV hP hD hS hl
    by_cases k_35 : w = 35
    · refine lv_tableIn (tgt := 1211) hx hb dL_law_33 (by rw [k_35]; decide) (by rw [k_35]; decide) (by rw [k_35]; rfl) (by decide) ?_
      exact lc_35 C0 hQ hV hP hD hS hl
    by_cases k_36 : w = 36
    · refine lv_tableIn (tgt := 1234) hx hb dL_law_33 (by rw [k_36]; decide) (by rw [k_36]; decide) (by rw [k_36]; rfl) (by decide) ?_
      exact lc_36 C0 hQ hV hP hD hS hl
    by_cases k_37 : w = 37
    · refine lv_tableIn (tgt := 1267) hx hb dL_law_33 (by rw [k_37]; decide) (by rw [k_37]; decide) (by rw [k_37]; rfl) (by decide) ?_
      exact lc_37 C0 hQ hV hP hD hS hl
    by_cases k_38 : w = 38
    · refine lv_tableIn (tgt := 1300) hx hb dL_law_33 (by rw [k_38]; decide) (by rw [k_38]; decide) (by rw [k_38]; rfl) (by decide) ?_
      exact lc_38 C0 hQ hV hP hD hS hl
    by_cases k_39 : w = 39
    · refine lv_tableIn (tgt := 1314) hx hb dL_law_33 (by rw [k_39]; decide) (by rw [k_39]; decide) (by rw [k_39]; rfl) (by decide) ?_
      exact lc_39 C0 hQ hV hP hD hS hl
    refine lv_tableOut (tgt := 1337) hx hb dL_law_33 (by have g0 := k_0; have g1 := k_1; have g2 := k_2; have g3 := k_3; have g4 := k_4; have g5 := k_5; have g6 := k_6; have g7 := k_7; have g8 := k_8; have g9 := k_9; have g10 := k_10; have g11 := k_11; have g12 := k_12; have g13 := k_13; have g14 := k_14; have g15 := k_15; have g16 := k_16; have g17 := k_17; have g18 := k_18; have g19 := k_19; have g20 := k_20; have g21 := k_21; have g22 := k_22; have g23 := k_23; have g24 := k_24; have g25 := k_25; have g26 := k_26; have g27 := k_27; have g28 := k_28; have g29 := k_29; have g30 := k_30; have g31 := k_31; have g32 := k_32; have g33 := k_33; have g34 := k_34; have g35 := k_35; have g36 := k_36; have g37 := k_37; have g38 := k_38; have g39 := k_39; (try simp only [lg_cmp_ge, lg_cmp_le, lg_cmp_gt, lg_cmp_lt, lg_cmp_eq] at g0 g1 g2 g3 g4 g5 g6 g7 g8 g9 g10 g11 g12 g13 g14 g15 g16 g17 g18 g19 g20 g21 g22 g23 g24 g25 g26 g27 g28 g29 g30 g31 g32 g33 g34 g35 g36 g37 g38 g39); (try simp only [Int32.lt_iff_toInt_lt, Int32.le_iff_toInt_le, ← Int32.toInt_inj, Int32.reduceToInt, Int64.lt_iff_toInt_lt, Int64.le_iff_toInt_le, ← Int64.toInt_inj, Int64.reduceToInt, Int32.toInt_toInt64] at g0 g1 g2 g3 g4 g5 g6 g7 g8 g9 g10 g11 g12 g13 g14 g15 g16 g17 g18 g19 g20 g21 g22 g23 g24 g25 g26 g27 g28 g29 g30 g31 g32 g33 g34 g35 g36 g37 g38 g39); omega) (by decide) ?_
    exact lw_tail C0 (Nat.le_of_ble_eq_true rfl) (Nat.le_of_ble_eq_true rfl) hS hl
  · refine lv_icmp_gt (tgt := 1343) hx hb dL_law_24 (by decide) (fun _ => ?_) (fun c9 => absurd (lw_short L (by omega)) c9)
    refine lv_iconst (v := 1) hx hb dL_law_1343 (by decide) ?_
    refine va_forget (fun x h => hS.2.2 x h) ?_
    refine W.widen (k := 600000) (n := 7302249) (Nat.le_of_ble_eq_true rfl) (Nat.le_of_ble_eq_true rfl) ?_
    exact lw_ret hx hb hr hlocks dL_law_1344
-- ===== YOUR PART ENDS =====
set_option maxHeartbeats 4000000 in
theorem lw_walk (l : Launch) (hflags : l.flags = flags0) (b : Addr) (xs : List Int32) : MetFree l x (headSpec (Jvm.Cond.code x code maxLocals ret :: tables_1) room_1) (lw_P b xs) (fun _ _ _ _ _ => True) lw_Q := by
  refine MetFree.of_bodyS (code := code) (maxLocals := maxLocals) (ret := ret) (by decide) ?_ ?_
  · intro args s m h hn
    obtain ⟨meth, c, h1, h2, h3, h4, h5, h6, -, -⟩ := Cond.code_spec hn (atoms_spec (ws := Jvm.Cond.code x code maxLocals ret :: tables_1) h _ List.mem_cons_self)
    exact ⟨meth, c, h1, h2, h3, h4, h5, h6⟩
  · intro p e s m args below meth c s₁ B hml0 hP _
    obtain ⟨rfl, hx, hbd, hgv⟩ := hP
    obtain ⟨scr, harrAt, hlist, hof, hsmall⟩ := hx
    obtain ⟨hcb, hkn, -, -⟩ := State.arrayAt?_spec harrAt
    have hown : s.vm.findClass R_law = some m.cls := findClass_of_methodNamed B.named
    have hts0 : ∀ c ∈ (Jvm.Cond.code x code maxLocals ret :: tables_1), c.before #[Value.ref b] s = true := atoms_spec (ws := Jvm.Cond.code x code maxLocals ret :: tables_1) B.pre
    have hts : ∀ w ∈ lw_tbl, w.before #[Value.ref b] s = true := k2_hts_sels lw_privs (fun w hw => hts0 w (List.mem_cons_of_mem _ hw)) lw_privs_ok
    have hml : c.maxLocals = 4 := B.maxLocals_eq (hts0 _ List.mem_cons_self)
    have X₀ : Stand p l e room_1 s m #[Value.ref b] below meth c s₁ [] 0 0 := Stand.of_body B
    have hh0 : s₁.heap = s.heap := by rw [B.state]; rfl
    have hsz : scr.slots.size = xs.length := by rw [← Array.length_toList, hlist, List.length_map]
    have hval : ∀ j : Nat, j < xs.length → scr.slots[j]? = some (.int (xs.getD j 0)) := fun j hj => by
      rw [← Array.getElem?_toList, hlist]
      simp [hj]
    have hbl : b < s.heap.size := (Array.getElem?_eq_some_iff.mp hcb).1
    have hX : va_X b xs.length (fun j => xs.getD j 0) s s.heap := ⟨scr, hcb, hof, hkn, hsz, hval⟩
    have K : W p l e room_1 s m #[Value.ref b] below meth c s₁.heap [] 0 0 (lw_Z below #[Value.ref b] s) (entryFrame m ([Value.ref b] : List Value).toArray 4) := by
      rw [hh0]
      exact whole_start l hflags hbd ⟨B.exec, B.bytes, B.returns, hml, hown, hts, hX, hbl, B.notSynchronized, hgv⟩
    obtain ⟨t, a1, o, b1, b2, b3⟩ := K s₁ rfl X₀
    exact ⟨t, o, a1, b1, b2, b3⟩
theorem lw_pre_spec {args : Array Value} {s : State} (h : (Jvm.Cond.and given_1 narrow_1).before args s = true) (hr : rest_1_c.before args s = true) : ∃ (b : Addr) (xs : List Int32), lw_P b xs args s := by
  have hs := flat_of_before _ h
  have hq := flat_of_before _ hr
  have hc : (Cond.count 1).before args s = true := hs _ (by decide +kernel)
  have harr : (Cond.arrayOf (.arg 0) .int).before args s = true := hs _ (by decide +kernel)
  have hle : (Cond.le (.length (.arg 0)) (.int 6)).before args s = true := hs _ (by decide +kernel)
  have hlen : (Cond.isInt (.length (.arg 0))).before args s = true := hq _ (by decide +kernel)
  have hall : (Cond.all (.arg 0) (.isInt (.elem (.arg 0) (.index 0)))).before args s = true := hq _ (by decide +kernel)
  obtain ⟨b, xs, hb, hx⟩ := State.ints_of_pre rfl harr hlen hall
  have hsm : xs.length < 2 ^ 31 := hx.choose_spec.2.2.2
  have hev : (Term.length (.arg 0)).eval args s none [] s = some (.int xs.length.toInt32) := hx.length_eval hb
  have hv := Cond.le_ints hev (show (Term.int 6).eval args s none [] s = some (.int 6) from rfl)
  have hd : xs.length.toInt32 ≤ 6 := by
    simpa [Cond.before, Cond.holds, hv] using hle
  have hN : xs.length ≤ 6 := (Int32.ofNat_le_ofNat hsm (by decide)).mp (show Int32.ofNat xs.length ≤ Int32.ofNat 6 from hd)
  exact ⟨b, xs, Cond.one_arg hc (show args[0]? = some (.ref b) from hb), hx, hN, h⟩
theorem lw_comes (l : Launch) (hflags : l.flags = flags0) : Comes l x (Jvm.Cond.code x code maxLocals ret :: tables_1) room_1 (fun tb e args s => Calls_1 tb e args s ∧ rest_1 tb e args s ∧ Pre_1 tb e args s)
    (fun _ _ args s o t => lw_Q args s o t) := by
  intro p e ha hc hk s m args below hf hfit hheap happ hpre
  obtain ⟨b, xs, hP⟩ := lw_pre_spec hpre.2.2 hpre.2.1
  obtain ⟨k, o, h1, h2, h3, hQ⟩ := lw_walk l hflags b xs p e ha hc hk s m args below hf ((Spec.applies_iff_loose hf).mp happ).1 hP trivial
  exact ⟨k, o, h1, h2, h3, hQ⟩
theorem lw_frame {s t : State} {o : Outcome} {args : Array Value} (h : Framed s o t [] 600000 7302249) :
    Framed s o t (fieldLocs frame_1_writes args s ++ arrayLocs frame_1_arrays args s ++ staticLocs frame_1_statics s) 600000 7302249 := h
theorem lw_limb (L : Cond) (hL : ∀ (args : Array Value) (s t : State), L.after args s (.returned (some (.int 1))) t = true) :
    ArmFor flags0 classFile x code maxLocals ret World_1 tables_1 room_1 Calls_1 rest_1 Pre_1
      (fun tb e a s o t => postC L tb e a s o t ∧ Framed s o t (fieldLocs frame_1_writes a s ++ arrayLocs frame_1_arrays a s ++ staticLocs frame_1_statics s) 600000 7302249) := by
  intro l hflags _ _ p e ha hc hk s m args below hf hfit hheap happ hpre
  obtain ⟨k, o, h1, h2, h3, rfl, hF⟩ := lw_comes l hflags p e ha hc hk s m args below hf hfit hheap happ hpre
  exact ⟨k, _, h1, h2, h3, hL args s _, lw_frame hF⟩
theorem i_vc : Claimed_1_1 ∧ Claimed_1_2 := ⟨lw_limb limb_1_1 (fun args s t => by simp [limb_1_1, Cond.after, Cond.holds, Cond.value]), lw_limb limb_1_2 (fun args s t => Cond.after_iff.mpr (by
  first | (rw [show limb_1_2 = Cond.eq .result (.int 1) from rfl, Cond.eq_ints (x := 1) (y := 1) rfl rfl]; simp; done) | (simp [limb_1_2, Cond.value, Term.eval]; done)))⟩
