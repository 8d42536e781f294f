set_option maxHeartbeats 4000000 in
set_option maxRecDepth 100000 in
theorem lp_step {p : Program} {e : Env} {s : State} {m : MethodId} {below : List Frame} {meth : Method} {c : Code} {l : Launch} {b0 L : Nat} {xs : Nat → Int32} (C0 : lw_At p s m meth c b0 L xs) (hL : L ≤ 3072) {k : Nat} (hk : 6 * k + 6 ≤ L) {D : va_G} {q : Nat → ClassId} (hQ : kn D q s) (hV : sv q (fun x : Nat => s.heap.size ≤ x) s s.heap) {a b : Nat} {N : Int} {s1 : Tp} {s2 s3 : Bd} {s4 : Mo} {s5 : Pg} {s6 : Pa} {z7 : Nat → Option Bd} {md : Md} {wC wM : va_W} (hC : c_W q a s1 s2 s3 s4 s5 s6 z7 wC) (hM : m_W q b md wM) (hJ : JJ N s1 s2 s3 s4 s5 s6 z7 md) {H : Heap} {locs : List Loc} {ls : Array Slot} (hP : va_P D vwCl (wC ++ wM) H) (hD : va_D (fun x : Nat => s.heap.size ≤ x) (wC ++ wM)) (hS : va_S (fun x : Nat => s.heap.size ≤ x) s.heap H locs) (hl : lv_has ls 4 [(3, .int (nI (6 * k))), (2, .ref b), (1, .ref a), (0, .ref b0)]) (kk : ∀ (N2 : Int) (t1 : Tp) (t2 t3 : Bd) (t4 : Mo) (t5 : Pg) (t6 : Pa) (t7 : Nat → Option Bd) (m2 : Md) (wC2 wM2 : va_W) (H : Heap) (locs : List Loc), c_W q a t1 t2 t3 t4 t5 t6 t7 wC2 → m_W q b m2 wM2 → JJ N2 t1 t2 t3 t4 t5 t6 t7 m2 → va_P D vwCl (wC2 ++ wM2) H → va_D (fun x : Nat => s.heap.size ≤ x) (wC2 ++ wM2) → va_S (fun x : Nat => s.heap.size ≤ x) s.heap H locs → W p l e room_1 s m #[Value.ref b0] below meth c H locs (52 + 15 * (k + 1)) (98998 + 13306 * (k + 1)) (lw_Z below #[Value.ref b0] s) (F0 m 1334 ls [])) : W p l e room_1 s m #[Value.ref b0] below meth c H locs (52 + 15 * k) (98998 + 13306 * k) (lw_Z below #[Value.ref b0] s) (F0 m 18 ls []) := by
  obtain ⟨hx, hb, hr, hml, hown, hts, hX, hbl, hlocks, hgv⟩ := id C0
  have ht : ∀ w ∈ w_all, w.before #[Value.ref b0] s = true := fun w h => hts w (w_tbl h)
  have hA : ∀ x : Nat, s.heap.size ≤ x → (fun x : Nat => s.heap.size ≤ x) x := fun _ h => h
  have hbA : ¬ (fun x : Nat => s.heap.size ≤ x) b0 := Nat.not_le.mpr hbl
  have hown : s.vm.findClass RL = some m.cls := hown
  refine lv_iload_n hx hb dL_law_18 rfl (lv_at hl 0 rfl) ?_
  refine lv_aload_n hx hb dL_law_19 rfl (lv_at hl 3 rfl) ?_
  refine va_slen hx hb hX hbl hbA hS dL_law_20 ?_
  refine lv_bipush (v := 6) hx hb dL_law_21 (by decide) ?_
  refine lv_isub hx hb dL_law_23 ?_
  refine lv_icmp_gt (tgt := 1340) hx hb dL_law_24 (by decide) (fun c9 => absurd c9 (lp_on hk hL)) (fun _ => ?_)
  refine lv_aload_n hx hb dL_law_27 rfl (lv_at hl 3 rfl) ?_
  refine lv_iload_n hx hb dL_law_28 rfl (lv_at hl 0 rfl) ?_
  refine va_sld hx hb hX hbl hbA hS (lp_in (c := 0) hk hL (by decide)) dL_law_29 ?_
  refine lv_bipush (v := 63) hx hb dL_law_30 (by decide) ?_
  refine lv_iand hx hb dL_law_32 ?_
  refine lv_topi (fun w ew => ?_)
  by_cases k_0 : w = 0
  · refine lv_tableIn (tgt := 208) hx hb dL_law_33 (by rw [k_0]; decide) (by rw [k_0]; decide) (by rw [k_0]; rfl) (by decide) ?_
    exact lc_0 C0 hL hk hQ hV hC hM hJ hP hD hS hl kk
  by_cases k_1 : w = 1
  · refine lv_tableIn (tgt := 271) hx hb dL_law_33 (by rw [k_1]; decide) (by rw [k_1]; decide) (by rw [k_1]; rfl) (by decide) ?_
    exact lc_1 C0 hL hk hQ hV hC hM hJ hP hD hS hl kk
  by_cases k_2 : w = 2
  · refine lv_tableIn (tgt := 294) hx hb dL_law_33 (by rw [k_2]; decide) (by rw [k_2]; decide) (by rw [k_2]; rfl) (by decide) ?_
    exact lc_2 C0 hL hk hQ hV hC hM hJ hP hD hS hl kk
  by_cases k_3 : w = 3
  · refine lv_tableIn (tgt := 307) hx hb dL_law_33 (by rw [k_3]; decide) (by rw [k_3]; decide) (by rw [k_3]; rfl) (by decide) ?_
    exact lc_3 C0 hL hk hQ hV hC hM hJ hP hD hS hl kk
  by_cases k_4 : w = 4
  · refine lv_tableIn (tgt := 330) hx hb dL_law_33 (by rw [k_4]; decide) (by rw [k_4]; decide) (by rw [k_4]; rfl) (by decide) ?_
    exact lc_4 C0 hL hk hQ hV hC hM hJ hP hD hS hl kk
  by_cases k_5 : w = 5
  · refine lv_tableIn (tgt := 343) hx hb dL_law_33 (by rw [k_5]; decide) (by rw [k_5]; decide) (by rw [k_5]; rfl) (by decide) ?_
    exact lc_5 C0 hL hk hQ hV hC hM hJ hP hD hS hl kk
  by_cases k_6 : w = 6
  · refine lv_tableIn (tgt := 366) hx hb dL_law_33 (by rw [k_6]; decide) (by rw [k_6]; decide) (by rw [k_6]; rfl) (by decide) ?_
    exact lc_6 C0 hL hk hQ hV hC hM hJ hP hD hS hl kk
  by_cases k_7 : w = 7
  · refine lv_tableIn (tgt := 379) hx hb dL_law_33 (by rw [k_7]; decide) (by rw [k_7]; decide) (by rw [k_7]; rfl) (by decide) ?_
    exact lc_7 C0 hL hk hQ hV hC hM hJ hP hD hS hl kk
  by_cases k_8 : w = 8
  · refine lv_tableIn (tgt := 412) hx hb dL_law_33 (by rw [k_8]; decide) (by rw [k_8]; decide) (by rw [k_8]; rfl) (by decide) ?_
    exact lc_8 C0 hL hk hQ hV hC hM hJ hP hD hS hl kk
  by_cases k_9 : w = 9
  · refine lv_tableIn (tgt := 445) hx hb dL_law_33 (by rw [k_9]; decide) (by rw [k_9]; decide) (by rw [k_9]; rfl) (by decide) ?_
    exact lc_9 C0 hL hk hQ hV hC hM hJ hP hD hS hl kk
  by_cases k_10 : w = 10
  · refine lv_tableIn (tgt := 478) hx hb dL_law_33 (by rw [k_10]; decide) (by rw [k_10]; decide) (by rw [k_10]; rfl) (by decide) ?_
    exact lc_10 C0 hL hk hQ hV hC hM hJ hP hD hS hl kk
  by_cases k_11 : w = 11
  · refine lv_tableIn (tgt := 501) hx hb dL_law_33 (by rw [k_11]; decide) (by rw [k_11]; decide) (by rw [k_11]; rfl) (by decide) ?_
    exact lc_11 C0 hL hk hQ hV hC hM hJ hP hD hS hl kk
  by_cases k_12 : w = 12
  · refine lv_tableIn (tgt := 544) hx hb dL_law_33 (by rw [k_12]; decide) (by rw [k_12]; decide) (by rw [k_12]; rfl) (by decide) ?_
    exact lc_12 C0 hL hk hQ hV hC hM hJ hP hD hS hl kk
  by_cases k_13 : w = 13
  · refine lv_tableIn (tgt := 557) hx hb dL_law_33 (by rw [k_13]; decide) (by rw [k_13]; decide) (by rw [k_13]; rfl) (by decide) ?_
    exact lc_13 C0 hL hk hQ hV hC hM hJ hP hD hS hl kk
  by_cases k_14 : w = 14
  · refine lv_tableIn (tgt := 570) hx hb dL_law_33 (by rw [k_14]; decide) (by rw [k_14]; decide) (by rw [k_14]; rfl) (by decide) ?_
    exact lc_14 C0 hL hk hQ hV hC hM hJ hP hD hS hl kk
  by_cases k_15 : w = 15
  · refine lv_tableIn (tgt := 593) hx hb dL_law_33 (by rw [k_15]; decide) (by rw [k_15]; decide) (by rw [k_15]; rfl) (by decide) ?_
    exact lc_15 C0 hL hk hQ hV hC hM hJ hP hD hS hl kk
  by_cases k_16 : w = 16
  · refine lv_tableIn (tgt := 616) hx hb dL_law_33 (by rw [k_16]; decide) (by rw [k_16]; decide) (by rw [k_16]; rfl) (by decide) ?_
    exact lc_16 C0 hL hk hQ hV hC hM hJ hP hD hS hl kk
  by_cases k_17 : w = 17
  · refine lv_tableIn (tgt := 649) hx hb dL_law_33 (by rw [k_17]; decide) (by rw [k_17]; decide) (by rw [k_17]; rfl) (by decide) ?_
    exact lc_17 C0 hL hk hQ hV hC hM hJ hP hD hS hl kk
  by_cases k_18 : w = 18
  · refine lv_tableIn (tgt := 672) hx hb dL_law_33 (by rw [k_18]; decide) (by rw [k_18]; decide) (by rw [k_18]; rfl) (by decide) ?_
    exact lc_18 C0 hL hk hQ hV hC hM hJ hP hD hS hl kk
  by_cases k_19 : w = 19
  · refine lv_tableIn (tgt := 705) hx hb dL_law_33 (by rw [k_19]; decide) (by rw [k_19]; decide) (by rw [k_19]; rfl) (by decide) ?_
    exact lc_19 C0 hL hk hQ hV hC hM hJ hP hD hS hl kk
  by_cases k_20 : w = 20
  · refine lv_tableIn (tgt := 738) hx hb dL_law_33 (by rw [k_20]; decide) (by rw [k_20]; decide) (by rw [k_20]; rfl) (by decide) ?_
    exact lc_20 C0 hL hk hQ hV hC hM hJ hP hD hS hl kk
  by_cases k_21 : w = 21
  · refine lv_tableIn (tgt := 781) hx hb dL_law_33 (by rw [k_21]; decide) (by rw [k_21]; decide) (by rw [k_21]; rfl) (by decide) ?_
    exact lc_21 C0 hL hk hQ hV hC hM hJ hP hD hS hl kk
  by_cases k_22 : w = 22
  · refine lv_tableIn (tgt := 804) hx hb dL_law_33 (by rw [k_22]; decide) (by rw [k_22]; decide) (by rw [k_22]; rfl) (by decide) ?_
    exact lc_22 C0 hL hk hQ hV hC hM hJ hP hD hS hl kk
  by_cases k_23 : w = 23
  · refine lv_tableIn (tgt := 827) hx hb dL_law_33 (by rw [k_23]; decide) (by rw [k_23]; decide) (by rw [k_23]; rfl) (by decide) ?_
    exact lc_23 C0 hL hk hQ hV hC hM hJ hP hD hS hl kk
  by_cases k_24 : w = 24
  · refine lv_tableIn (tgt := 850) hx hb dL_law_33 (by rw [k_24]; decide) (by rw [k_24]; decide) (by rw [k_24]; rfl) (by decide) ?_
    exact lc_24 C0 hL hk hQ hV hC hM hJ hP hD hS hl kk
  by_cases k_25 : w = 25
  · refine lv_tableIn (tgt := 873) hx hb dL_law_33 (by rw [k_25]; decide) (by rw [k_25]; decide) (by rw [k_25]; rfl) (by decide) ?_
    exact lc_25 C0 hL hk hQ hV hC hM hJ hP hD hS hl kk
  by_cases k_26 : w = 26
  · refine lv_tableIn (tgt := 896) hx hb dL_law_33 (by rw [k_26]; decide) (by rw [k_26]; decide) (by rw [k_26]; rfl) (by decide) ?_
    exact lc_26 C0 hL hk hQ hV hC hM hJ hP hD hS hl kk
  by_cases k_27 : w = 27
  · refine lv_tableIn (tgt := 919) hx hb dL_law_33 (by rw [k_27]; decide) (by rw [k_27]; decide) (by rw [k_27]; rfl) (by decide) ?_
    exact lc_27 C0 hL hk hQ hV hC hM hJ hP hD hS hl kk
  by_cases k_28 : w = 28
  · refine lv_tableIn (tgt := 952) hx hb dL_law_33 (by rw [k_28]; decide) (by rw [k_28]; decide) (by rw [k_28]; rfl) (by decide) ?_
    exact lc_28 C0 hL hk hQ hV hC hM hJ hP hD hS hl kk
  by_cases k_29 : w = 29
  · refine lv_tableIn (tgt := 985) hx hb dL_law_33 (by rw [k_29]; decide) (by rw [k_29]; decide) (by rw [k_29]; rfl) (by decide) ?_
    exact lc_29 C0 hL hk hQ hV hC hM hJ hP hD hS hl kk
  by_cases k_30 : w = 30
  · refine lv_tableIn (tgt := 1018) hx hb dL_law_33 (by rw [k_30]; decide) (by rw [k_30]; decide) (by rw [k_30]; rfl) (by decide) ?_
    exact lc_30 C0 hL hk hQ hV hC hM hJ hP hD hS hl kk
  by_cases k_31 : w = 31
  · refine lv_tableIn (tgt := 1077) hx hb dL_law_33 (by rw [k_31]; decide) (by rw [k_31]; decide) (by rw [k_31]; rfl) (by decide) ?_
    exact lc_31 C0 hL hk hQ hV hC hM hJ hP hD hS hl kk
  by_cases k_32 : w = 32
  · refine lv_tableIn (tgt := 1110) hx hb dL_law_33 (by rw [k_32]; decide) (by rw [k_32]; decide) (by rw [k_32]; rfl) (by decide) ?_
    exact lc_32 C0 hL hk hQ hV hC hM hJ hP hD hS hl kk
  by_cases k_33 : w = 33
  · refine lv_tableIn (tgt := 1143) hx hb dL_law_33 (by rw [k_33]; decide) (by rw [k_33]; decide) (by rw [k_33]; rfl) (by decide) ?_
    exact lc_33 C0 hL hk hQ hV hC hM hJ hP hD hS hl kk
  by_cases k_34 : w = 34
  · refine lv_tableIn (tgt := 1176) hx hb dL_law_33 (by rw [k_34]; decide) (by rw [k_34]; decide) (by rw [k_34]; rfl) (by decide) ?_
    exact lc_34 C0 hL hk hQ hV hC hM hJ hP hD hS hl kk
  by_cases k_35 : w = 35
  · refine lv_tableIn (tgt := 1209) hx hb dL_law_33 (by rw [k_35]; decide) (by rw [k_35]; decide) (by rw [k_35]; rfl) (by decide) ?_
    exact lc_35 C0 hL hk hQ hV hC hM hJ hP hD hS hl kk
  by_cases k_36 : w = 36
  · refine lv_tableIn (tgt := 1232) hx hb dL_law_33 (by rw [k_36]; decide) (by rw [k_36]; decide) (by rw [k_36]; rfl) (by decide) ?_
    exact lc_36 C0 hL hk hQ hV hC hM hJ hP hD hS hl kk
  by_cases k_37 : w = 37
  · refine lv_tableIn (tgt := 1265) hx hb dL_law_33 (by rw [k_37]; decide) (by rw [k_37]; decide) (by rw [k_37]; rfl) (by decide) ?_
    exact lc_37 C0 hL hk hQ hV hC hM hJ hP hD hS hl kk
  by_cases k_38 : w = 38
  · refine lv_tableIn (tgt := 1298) hx hb dL_law_33 (by rw [k_38]; decide) (by rw [k_38]; decide) (by rw [k_38]; rfl) (by decide) ?_
    exact lc_38 C0 hL hk hQ hV hC hM hJ hP hD hS hl kk
  by_cases k_39 : w = 39
  · refine lv_tableIn (tgt := 1311) hx hb dL_law_33 (by rw [k_39]; decide) (by rw [k_39]; decide) (by rw [k_39]; rfl) (by decide) ?_
    exact lc_39 C0 hL hk hQ hV hC hM hJ hP hD hS hl kk
  refine lv_tableOut (tgt := 1334) hx hb dL_law_33 (by have g0 := k_0; have g1 := k_1; have g2 := k_2; have g3 := k_3; have g4 := k_4; have g5 := k_5; have g6 := k_6; have g7 := k_7; have g8 := k_8; have g9 := k_9; have g10 := k_10; have g11 := k_11; have g12 := k_12; have g13 := k_13; have g14 := k_14; have g15 := k_15; have g16 := k_16; have g17 := k_17; have g18 := k_18; have g19 := k_19; have g20 := k_20; have g21 := k_21; have g22 := k_22; have g23 := k_23; have g24 := k_24; have g25 := k_25; have g26 := k_26; have g27 := k_27; have g28 := k_28; have g29 := k_29; have g30 := k_30; have g31 := k_31; have g32 := k_32; have g33 := k_33; have g34 := k_34; have g35 := k_35; have g36 := k_36; have g37 := k_37; have g38 := k_38; have g39 := k_39; (try simp only [lg_cmp_ge, lg_cmp_le, lg_cmp_gt, lg_cmp_lt, lg_cmp_eq] at g0 g1 g2 g3 g4 g5 g6 g7 g8 g9 g10 g11 g12 g13 g14 g15 g16 g17 g18 g19 g20 g21 g22 g23 g24 g25 g26 g27 g28 g29 g30 g31 g32 g33 g34 g35 g36 g37 g38 g39); (try simp only [Int32.lt_iff_toInt_lt, Int32.le_iff_toInt_le, ← Int32.toInt_inj, Int32.reduceToInt, Int64.lt_iff_toInt_lt, Int64.le_iff_toInt_le, ← Int64.toInt_inj, Int64.reduceToInt, Int32.toInt_toInt64] at g0 g1 g2 g3 g4 g5 g6 g7 g8 g9 g10 g11 g12 g13 g14 g15 g16 g17 g18 g19 g20 g21 g22 g23 g24 g25 g26 g27 g28 g29 g30 g31 g32 g33 g34 g35 g36 g37 g38 g39); omega) (by decide) ?_
  refine W.widen (k := 52 + 15 * (k + 1)) (n := 98998 + 13306 * (k + 1)) (by omega) (by omega) ?_
  exact kk N s1 s2 s3 s4 s5 s6 z7 md wC wM H locs hC hM hJ hP hD hS
