set_option maxHeartbeats 4000000 in
set_option maxRecDepth 100000 in
/-- limit -/
theorem lc_10 {p : Program} {e : Env} {s : State} {m : MethodId} {below : List Frame} {meth : Method} {c : Code} {l : Launch} {b0 L : Nat} {xs : Nat → Int32} (C0 : lw_At p s m meth c b0 L xs) (hL : L ≤ 3072) {k : Nat} (hk : 6 * k + 6 ≤ L) {D : va_G} {q : Nat → ClassId} (hQ : kn D q s) (hV : sv q (fun x : Nat => s.heap.size ≤ x) s s.heap) {a b : Nat} {N : Int} {s1 : Tp} {s2 s3 : Bd} {s4 : Mo} {s5 : Pg} {s6 : Pa} {z7 : Nat → Option Bd} {md : Md} {wC wM : va_W} (hC : c_W q a s1 s2 s3 s4 s5 s6 z7 wC) (hM : m_W q b md wM) (hJ : JJ N s1 s2 s3 s4 s5 s6 z7 md) {H : Heap} {locs : List Loc} {ls : Array Slot} (hP : va_P D vwCl (wC ++ wM) H) (hD : va_D (fun x : Nat => s.heap.size ≤ x) (wC ++ wM)) (hS : va_S (fun x : Nat => s.heap.size ≤ x) s.heap H locs) (hl : lv_has ls 4 [(3, .int (nI (6 * k))), (2, .ref b), (1, .ref a), (0, .ref b0)]) (kk : ∀ (N2 : Int) (t1 : Tp) (t2 t3 : Bd) (t4 : Mo) (t5 : Pg) (t6 : Pa) (t7 : Nat → Option Bd) (m2 : Md) (wC2 wM2 : va_W) (H : Heap) (locs : List Loc), c_W q a t1 t2 t3 t4 t5 t6 t7 wC2 → m_W q b m2 wM2 → JJ N2 t1 t2 t3 t4 t5 t6 t7 m2 → va_P D vwCl (wC2 ++ wM2) H → va_D (fun x : Nat => s.heap.size ≤ x) (wC2 ++ wM2) → va_S (fun x : Nat => s.heap.size ≤ x) s.heap H locs → W p l e room_1 s m #[Value.ref b0] below meth c H locs (52 + 15 * (k + 1)) (98998 + 13306 * (k + 1)) (lw_Z below #[Value.ref b0] s) (F0 m 1334 ls [])) : W p l e room_1 s m #[Value.ref b0] below meth c H locs (52 + 15 * k) (98998 + 13306 * k) (lw_Z below #[Value.ref b0] s) (F0 m 478 ls []) := by
  obtain ⟨hx, hb, hr, hml, hown, hts, hX, hbl, hlocks, hgv⟩ := id C0
  have ht : ∀ w ∈ w_all, w.before #[Value.ref b0] s = true := fun w h => hts w (w_tbl h)
  have hA : ∀ x : Nat, s.heap.size ≤ x → (fun x : Nat => s.heap.size ≤ x) x := fun _ h => h
  have hbA : ¬ (fun x : Nat => s.heap.size ≤ x) b0 := Nat.not_le.mpr hbl
  have hown : s.vm.findClass RL = some m.cls := hown
  refine lv_aload_n hx hb dL_law_478 rfl (lv_at hl 2 rfl) ?_
  refine lv_aload_n hx hb dL_law_479 rfl (lv_at hl 3 rfl) ?_
  refine lv_iload_n hx hb dL_law_480 rfl (lv_at hl 0 rfl) ?_
  refine lv_iconst (v := 1) hx hb dL_law_481 (by decide) ?_
  refine lv_iadd hx hb dL_law_482 ?_
  refine ab_i (v := nI (6 * k + 1)) (nI_plus (6 * k) 1) ?_
  refine va_sld hx hb hX hbl hbA hS (lp_in hk hL (by decide)) dL_law_483 ?_
  obtain ⟨r6, r7, M2, s2n, s6n, mn, hu, hv, hn⟩ := pl_limit (l := l) (D := D) (x1 := (xs (Int32.toNatClampNeg (nI (6 * k + 1))))) hC hM hJ
  refine un_goi (w := wC) (wo := wM) (rest := []) hu (List.Perm.refl _) hx hb hml hown ht wd_X6_limit mw_760 hQ hV hS hA hP hD rfl rfl hl.1 rfl (Nat.le_of_ble_eq_true rfl) dL_law_484 ⟨Nat.le_of_ble_eq_true rfl, Nat.le_of_ble_eq_true rfl, rfl, rfl⟩ (lp_rm (mc := 14) (ms := 6906) hk hL (by decide) (by decide)) (fun r_1 wr_1 H locs er_1 hP hD hS => ?_)
  obtain ⟨fr_1, hC⟩ := er_1
  refine lv_pop hx hb dL_law_487 rfl ?_
  refine lv_aload_n hx hb dL_law_488 rfl (lv_at hl 1 rfl) ?_
  refine lv_aload_n hx hb dL_law_489 rfl (lv_at hl 3 rfl) ?_
  refine lv_iload_n hx hb dL_law_490 rfl (lv_at hl 0 rfl) ?_
  refine lv_iconst (v := 1) hx hb dL_law_491 (by decide) ?_
  refine lv_iadd hx hb dL_law_492 ?_
  refine ab_i (v := nI (6 * k + 1)) (nI_plus (6 * k) 1) ?_
  refine va_sld hx hb hX hbl hbA hS (lp_in hk hL (by decide)) dL_law_493 ?_
  refine un_goi (w := wM) (wo := wr_1) (rest := []) hv List.perm_append_comm hx hb hml hown ht wd_X7_limit mw_1365 hQ hV hS hA hP hD rfl rfl hl.1 rfl (Nat.le_of_ble_eq_true rfl) dL_law_494 ⟨Nat.le_of_ble_eq_true rfl, Nat.le_of_ble_eq_true rfl, rfl, rfl⟩ (lp_rm (mc := 14) (ms := 6906) hk hL (by decide) (by decide)) (fun r_2 wr_2 H locs er_2 hP hD hS => ?_)
  obtain ⟨fr_2, hM⟩ := er_2
  have hP := vp_perm List.perm_append_comm hP
  have hD := vd_perm List.perm_append_comm hD
  have hJ := hn
  refine lv_pop hx hb dL_law_497 rfl ?_
  refine lv_goto (tgt := 1334) hx hb dL_law_498 (by decide) ?_
  refine W.widen (k := 52 + 15 * (k + 1)) (n := 98998 + 13306 * (k + 1)) (by omega) (by omega) ?_
  exact kk M2 s1 s2n s3 s4 s5 s6n z7 mn wr_1 wr_2 H locs hC hM hJ hP hD hS

set_option maxHeartbeats 4000000 in
set_option maxRecDepth 100000 in
/-- exchange -/
theorem lc_11 {p : Program} {e : Env} {s : State} {m : MethodId} {below : List Frame} {meth : Method} {c : Code} {l : Launch} {b0 L : Nat} {xs : Nat → Int32} (C0 : lw_At p s m meth c b0 L xs) (hL : L ≤ 3072) {k : Nat} (hk : 6 * k + 6 ≤ L) {D : va_G} {q : Nat → ClassId} (hQ : kn D q s) (hV : sv q (fun x : Nat => s.heap.size ≤ x) s s.heap) {a b : Nat} {N : Int} {s1 : Tp} {s2 s3 : Bd} {s4 : Mo} {s5 : Pg} {s6 : Pa} {z7 : Nat → Option Bd} {md : Md} {wC wM : va_W} (hC : c_W q a s1 s2 s3 s4 s5 s6 z7 wC) (hM : m_W q b md wM) (hJ : JJ N s1 s2 s3 s4 s5 s6 z7 md) {H : Heap} {locs : List Loc} {ls : Array Slot} (hP : va_P D vwCl (wC ++ wM) H) (hD : va_D (fun x : Nat => s.heap.size ≤ x) (wC ++ wM)) (hS : va_S (fun x : Nat => s.heap.size ≤ x) s.heap H locs) (hl : lv_has ls 4 [(3, .int (nI (6 * k))), (2, .ref b), (1, .ref a), (0, .ref b0)]) (kk : ∀ (N2 : Int) (t1 : Tp) (t2 t3 : Bd) (t4 : Mo) (t5 : Pg) (t6 : Pa) (t7 : Nat → Option Bd) (m2 : Md) (wC2 wM2 : va_W) (H : Heap) (locs : List Loc), c_W q a t1 t2 t3 t4 t5 t6 t7 wC2 → m_W q b m2 wM2 → JJ N2 t1 t2 t3 t4 t5 t6 t7 m2 → va_P D vwCl (wC2 ++ wM2) H → va_D (fun x : Nat => s.heap.size ≤ x) (wC2 ++ wM2) → va_S (fun x : Nat => s.heap.size ≤ x) s.heap H locs → W p l e room_1 s m #[Value.ref b0] below meth c H locs (52 + 15 * (k + 1)) (98998 + 13306 * (k + 1)) (lw_Z below #[Value.ref b0] s) (F0 m 1334 ls [])) : W p l e room_1 s m #[Value.ref b0] below meth c H locs (52 + 15 * k) (98998 + 13306 * k) (lw_Z below #[Value.ref b0] s) (F0 m 501 ls []) := by
  obtain ⟨hx, hb, hr, hml, hown, hts, hX, hbl, hlocks, hgv⟩ := id C0
  have ht : ∀ w ∈ w_all, w.before #[Value.ref b0] s = true := fun w h => hts w (w_tbl h)
  have hA : ∀ x : Nat, s.heap.size ≤ x → (fun x : Nat => s.heap.size ≤ x) x := fun _ h => h
  have hbA : ¬ (fun x : Nat => s.heap.size ≤ x) b0 := Nat.not_le.mpr hbl
  have hown : s.vm.findClass RL = some m.cls := hown
  refine lv_aload_n hx hb dL_law_501 rfl (lv_at hl 2 rfl) ?_
  refine lv_aload_n hx hb dL_law_502 rfl (lv_at hl 3 rfl) ?_
  refine lv_iload_n hx hb dL_law_503 rfl (lv_at hl 0 rfl) ?_
  refine lv_iconst (v := 1) hx hb dL_law_504 (by decide) ?_
  refine lv_iadd hx hb dL_law_505 ?_
  refine ab_i (v := nI (6 * k + 1)) (nI_plus (6 * k) 1) ?_
  refine va_sld hx hb hX hbl hbA hS (lp_in hk hL (by decide)) dL_law_506 ?_
  refine lv_aload_n hx hb dL_law_507 rfl (lv_at hl 3 rfl) ?_
  refine lv_iload_n hx hb dL_law_508 rfl (lv_at hl 0 rfl) ?_
  refine lv_iconst (v := 2) hx hb dL_law_509 (by decide) ?_
  refine lv_iadd hx hb dL_law_510 ?_
  refine ab_i (v := nI (6 * k + 2)) (nI_plus (6 * k) 2) ?_
  refine va_sld hx hb hX hbl hbA hS (lp_in hk hL (by decide)) dL_law_511 ?_
  refine lv_aload_n hx hb dL_law_512 rfl (lv_at hl 3 rfl) ?_
  refine lv_iload_n hx hb dL_law_513 rfl (lv_at hl 0 rfl) ?_
  refine lv_iconst (v := 3) hx hb dL_law_514 (by decide) ?_
  refine lv_iadd hx hb dL_law_515 ?_
  refine ab_i (v := nI (6 * k + 3)) (nI_plus (6 * k) 3) ?_
  refine va_sld hx hb hX hbl hbA hS (lp_in hk hL (by decide)) dL_law_516 ?_
  obtain ⟨r6, r7, M2, s2n, s6n, mn, hu, hv, hn⟩ := pl_exchange (l := l) (D := D) (x1 := (xs (Int32.toNatClampNeg (nI (6 * k + 1))))) (x2 := (xs (Int32.toNatClampNeg (nI (6 * k + 2))))) (x3 := (xs (Int32.toNatClampNeg (nI (6 * k + 3))))) hC hM hJ
  refine un_goi (w := wC) (wo := wM) (rest := []) hu (List.Perm.refl _) hx hb hml hown ht wd_X6_exchange mw_764 hQ hV hS hA hP hD rfl rfl hl.1 rfl (Nat.le_of_ble_eq_true rfl) dL_law_517 ⟨Nat.le_of_ble_eq_true rfl, Nat.le_of_ble_eq_true rfl, rfl, rfl⟩ (lp_rm (mc := 15) (ms := 13306) hk hL (by decide) (by decide)) (fun r_1 wr_1 H locs er_1 hP hD hS => ?_)
  obtain ⟨fr_1, hC⟩ := er_1
  refine lv_pop hx hb dL_law_520 rfl ?_
  refine lv_aload_n hx hb dL_law_521 rfl (lv_at hl 1 rfl) ?_
  refine lv_aload_n hx hb dL_law_522 rfl (lv_at hl 3 rfl) ?_
  refine lv_iload_n hx hb dL_law_523 rfl (lv_at hl 0 rfl) ?_
  refine lv_iconst (v := 1) hx hb dL_law_524 (by decide) ?_
  refine lv_iadd hx hb dL_law_525 ?_
  refine ab_i (v := nI (6 * k + 1)) (nI_plus (6 * k) 1) ?_
  refine va_sld hx hb hX hbl hbA hS (lp_in hk hL (by decide)) dL_law_526 ?_
  refine lv_aload_n hx hb dL_law_527 rfl (lv_at hl 3 rfl) ?_
  refine lv_iload_n hx hb dL_law_528 rfl (lv_at hl 0 rfl) ?_
  refine lv_iconst (v := 2) hx hb dL_law_529 (by decide) ?_
  refine lv_iadd hx hb dL_law_530 ?_
  refine ab_i (v := nI (6 * k + 2)) (nI_plus (6 * k) 2) ?_
  refine va_sld hx hb hX hbl hbA hS (lp_in hk hL (by decide)) dL_law_531 ?_
  refine lv_aload_n hx hb dL_law_532 rfl (lv_at hl 3 rfl) ?_
  refine lv_iload_n hx hb dL_law_533 rfl (lv_at hl 0 rfl) ?_
  refine lv_iconst (v := 3) hx hb dL_law_534 (by decide) ?_
  refine lv_iadd hx hb dL_law_535 ?_
  refine ab_i (v := nI (6 * k + 3)) (nI_plus (6 * k) 3) ?_
  refine va_sld hx hb hX hbl hbA hS (lp_in hk hL (by decide)) dL_law_536 ?_
  refine un_goi (w := wM) (wo := wr_1) (rest := []) hv List.perm_append_comm hx hb hml hown ht wd_X7_exchange mw_1369 hQ hV hS hA hP hD rfl rfl hl.1 rfl (Nat.le_of_ble_eq_true rfl) dL_law_537 ⟨Nat.le_of_ble_eq_true rfl, Nat.le_of_ble_eq_true rfl, rfl, rfl⟩ (lp_rm (mc := 15) (ms := 13306) hk hL (by decide) (by decide)) (fun r_2 wr_2 H locs er_2 hP hD hS => ?_)
  obtain ⟨fr_2, hM⟩ := er_2
  have hP := vp_perm List.perm_append_comm hP
  have hD := vd_perm List.perm_append_comm hD
  have hJ := hn
  refine lv_pop hx hb dL_law_540 rfl ?_
  refine lv_goto (tgt := 1334) hx hb dL_law_541 (by decide) ?_
  refine W.widen (k := 52 + 15 * (k + 1)) (n := 98998 + 13306 * (k + 1)) (by omega) (by omega) ?_
  exact kk M2 s1 s2n s3 s4 s5 s6n z7 mn wr_1 wr_2 H locs hC hM hJ hP hD hS

set_option maxHeartbeats 4000000 in
set_option maxRecDepth 100000 in
/-- run -/
theorem lc_12 {p : Program} {e : Env} {s : State} {m : MethodId} {below : List Frame} {meth : Method} {c : Code} {l : Launch} {b0 L : Nat} {xs : Nat → Int32} (C0 : lw_At p s m meth c b0 L xs) (hL : L ≤ 3072) {k : Nat} (hk : 6 * k + 6 ≤ L) {D : va_G} {q : Nat → ClassId} (hQ : kn D q s) (hV : sv q (fun x : Nat => s.heap.size ≤ x) s s.heap) {a b : Nat} {N : Int} {s1 : Tp} {s2 s3 : Bd} {s4 : Mo} {s5 : Pg} {s6 : Pa} {z7 : Nat → Option Bd} {md : Md} {wC wM : va_W} (hC : c_W q a s1 s2 s3 s4 s5 s6 z7 wC) (hM : m_W q b md wM) (hJ : JJ N s1 s2 s3 s4 s5 s6 z7 md) {H : Heap} {locs : List Loc} {ls : Array Slot} (hP : va_P D vwCl (wC ++ wM) H) (hD : va_D (fun x : Nat => s.heap.size ≤ x) (wC ++ wM)) (hS : va_S (fun x : Nat => s.heap.size ≤ x) s.heap H locs) (hl : lv_has ls 4 [(3, .int (nI (6 * k))), (2, .ref b), (1, .ref a), (0, .ref b0)]) (kk : ∀ (N2 : Int) (t1 : Tp) (t2 t3 : Bd) (t4 : Mo) (t5 : Pg) (t6 : Pa) (t7 : Nat → Option Bd) (m2 : Md) (wC2 wM2 : va_W) (H : Heap) (locs : List Loc), c_W q a t1 t2 t3 t4 t5 t6 t7 wC2 → m_W q b m2 wM2 → JJ N2 t1 t2 t3 t4 t5 t6 t7 m2 → va_P D vwCl (wC2 ++ wM2) H → va_D (fun x : Nat => s.heap.size ≤ x) (wC2 ++ wM2) → va_S (fun x : Nat => s.heap.size ≤ x) s.heap H locs → W p l e room_1 s m #[Value.ref b0] below meth c H locs (52 + 15 * (k + 1)) (98998 + 13306 * (k + 1)) (lw_Z below #[Value.ref b0] s) (F0 m 1334 ls [])) : W p l e room_1 s m #[Value.ref b0] below meth c H locs (52 + 15 * k) (98998 + 13306 * k) (lw_Z below #[Value.ref b0] s) (F0 m 544 ls []) := by
  obtain ⟨hx, hb, hr, hml, hown, hts, hX, hbl, hlocks, hgv⟩ := id C0
  have ht : ∀ w ∈ w_all, w.before #[Value.ref b0] s = true := fun w h => hts w (w_tbl h)
  have hA : ∀ x : Nat, s.heap.size ≤ x → (fun x : Nat => s.heap.size ≤ x) x := fun _ h => h
  have hbA : ¬ (fun x : Nat => s.heap.size ≤ x) b0 := Nat.not_le.mpr hbl
  have hown : s.vm.findClass RL = some m.cls := hown
  refine lv_aload_n hx hb dL_law_544 rfl (lv_at hl 2 rfl) ?_
  obtain ⟨r6, r7, M2, s1n, s2n, s4n, s5n, s6n, mn, hu, hv, hn⟩ := pl_run (l := l) (D := D)  hC hM hJ
  refine un_goi (w := wC) (wo := wM) (rest := []) hu (List.Perm.refl _) hx hb hml hown ht wd_X6_run mw_781 hQ hV hS hA hP hD rfl rfl hl.1 rfl (Nat.le_of_ble_eq_true rfl) dL_law_545 ⟨Nat.le_of_ble_eq_true rfl, Nat.le_of_ble_eq_true rfl, rfl, rfl⟩ (lp_rm (mc := 14) (ms := 6906) hk hL (by decide) (by decide)) (fun r_1 wr_1 H locs er_1 hP hD hS => ?_)
  obtain ⟨fr_1, hC⟩ := er_1
  refine lv_pop hx hb dL_law_548 rfl ?_
  refine lv_aload_n hx hb dL_law_549 rfl (lv_at hl 1 rfl) ?_
  refine un_goi (w := wM) (wo := wr_1) (rest := []) hv List.perm_append_comm hx hb hml hown ht wd_X7_run mw_1643 hQ hV hS hA hP hD rfl rfl hl.1 rfl (Nat.le_of_ble_eq_true rfl) dL_law_550 ⟨Nat.le_of_ble_eq_true rfl, Nat.le_of_ble_eq_true rfl, rfl, rfl⟩ (lp_rm (mc := 14) (ms := 6906) hk hL (by decide) (by decide)) (fun r_2 wr_2 H locs er_2 hP hD hS => ?_)
  obtain ⟨fr_2, hM⟩ := er_2
  have hP := vp_perm List.perm_append_comm hP
  have hD := vd_perm List.perm_append_comm hD
  have hJ := hn
  refine lv_pop hx hb dL_law_553 rfl ?_
  refine lv_goto (tgt := 1334) hx hb dL_law_554 (by decide) ?_
  refine W.widen (k := 52 + 15 * (k + 1)) (n := 98998 + 13306 * (k + 1)) (by omega) (by omega) ?_
  exact kk M2 s1n s2n s3 s4n s5n s6n z7 mn wr_1 wr_2 H locs hC hM hJ hP hD hS

set_option maxHeartbeats 4000000 in
set_option maxRecDepth 100000 in
/-- undo -/
theorem lc_13 {p : Program} {e : Env} {s : State} {m : MethodId} {below : List Frame} {meth : Method} {c : Code} {l : Launch} {b0 L : Nat} {xs : Nat → Int32} (C0 : lw_At p s m meth c b0 L xs) (hL : L ≤ 3072) {k : Nat} (hk : 6 * k + 6 ≤ L) {D : va_G} {q : Nat → ClassId} (hQ : kn D q s) (hV : sv q (fun x : Nat => s.heap.size ≤ x) s s.heap) {a b : Nat} {N : Int} {s1 : Tp} {s2 s3 : Bd} {s4 : Mo} {s5 : Pg} {s6 : Pa} {z7 : Nat → Option Bd} {md : Md} {wC wM : va_W} (hC : c_W q a s1 s2 s3 s4 s5 s6 z7 wC) (hM : m_W q b md wM) (hJ : JJ N s1 s2 s3 s4 s5 s6 z7 md) {H : Heap} {locs : List Loc} {ls : Array Slot} (hP : va_P D vwCl (wC ++ wM) H) (hD : va_D (fun x : Nat => s.heap.size ≤ x) (wC ++ wM)) (hS : va_S (fun x : Nat => s.heap.size ≤ x) s.heap H locs) (hl : lv_has ls 4 [(3, .int (nI (6 * k))), (2, .ref b), (1, .ref a), (0, .ref b0)]) (kk : ∀ (N2 : Int) (t1 : Tp) (t2 t3 : Bd) (t4 : Mo) (t5 : Pg) (t6 : Pa) (t7 : Nat → Option Bd) (m2 : Md) (wC2 wM2 : va_W) (H : Heap) (locs : List Loc), c_W q a t1 t2 t3 t4 t5 t6 t7 wC2 → m_W q b m2 wM2 → JJ N2 t1 t2 t3 t4 t5 t6 t7 m2 → va_P D vwCl (wC2 ++ wM2) H → va_D (fun x : Nat => s.heap.size ≤ x) (wC2 ++ wM2) → va_S (fun x : Nat => s.heap.size ≤ x) s.heap H locs → W p l e room_1 s m #[Value.ref b0] below meth c H locs (52 + 15 * (k + 1)) (98998 + 13306 * (k + 1)) (lw_Z below #[Value.ref b0] s) (F0 m 1334 ls [])) : W p l e room_1 s m #[Value.ref b0] below meth c H locs (52 + 15 * k) (98998 + 13306 * k) (lw_Z below #[Value.ref b0] s) (F0 m 557 ls []) := by
  obtain ⟨hx, hb, hr, hml, hown, hts, hX, hbl, hlocks, hgv⟩ := id C0
  have ht : ∀ w ∈ w_all, w.before #[Value.ref b0] s = true := fun w h => hts w (w_tbl h)
  have hA : ∀ x : Nat, s.heap.size ≤ x → (fun x : Nat => s.heap.size ≤ x) x := fun _ h => h
  have hbA : ¬ (fun x : Nat => s.heap.size ≤ x) b0 := Nat.not_le.mpr hbl
  have hown : s.vm.findClass RL = some m.cls := hown
  refine lv_aload_n hx hb dL_law_557 rfl (lv_at hl 2 rfl) ?_
  obtain ⟨r6, r7, M2, s2n, s6n, mn, hu, hv, hn⟩ := pl_undo (l := l) (D := D)  hC hM hJ
  refine un_goi (w := wC) (wo := wM) (rest := []) hu (List.Perm.refl _) hx hb hml hown ht wd_X6_undo mw_869 hQ hV hS hA hP hD rfl rfl hl.1 rfl (Nat.le_of_ble_eq_true rfl) dL_law_558 ⟨Nat.le_of_ble_eq_true rfl, Nat.le_of_ble_eq_true rfl, rfl, rfl⟩ (lp_rm (mc := 1) (ms := 6400) hk hL (by decide) (by decide)) (fun r_1 wr_1 H locs er_1 hP hD hS => ?_)
  obtain ⟨fr_1, hC⟩ := er_1
  refine lv_pop hx hb dL_law_561 rfl ?_
  refine lv_aload_n hx hb dL_law_562 rfl (lv_at hl 1 rfl) ?_
  refine un_goi (w := wM) (wo := wr_1) (rest := []) hv List.perm_append_comm hx hb hml hown ht wd_X7_undo mw_1377 hQ hV hS hA hP hD rfl rfl hl.1 rfl (Nat.le_of_ble_eq_true rfl) dL_law_563 ⟨Nat.le_of_ble_eq_true rfl, Nat.le_of_ble_eq_true rfl, rfl, rfl⟩ (lp_rm (mc := 1) (ms := 6400) hk hL (by decide) (by decide)) (fun r_2 wr_2 H locs er_2 hP hD hS => ?_)
  obtain ⟨fr_2, hM⟩ := er_2
  have hP := vp_perm List.perm_append_comm hP
  have hD := vd_perm List.perm_append_comm hD
  have hJ := hn
  refine lv_pop hx hb dL_law_566 rfl ?_
  refine lv_goto (tgt := 1334) hx hb dL_law_567 (by decide) ?_
  refine W.widen (k := 52 + 15 * (k + 1)) (n := 98998 + 13306 * (k + 1)) (by omega) (by omega) ?_
  exact kk M2 s1 s2n s3 s4 s5 s6n z7 mn wr_1 wr_2 H locs hC hM hJ hP hD hS

set_option maxHeartbeats 4000000 in
set_option maxRecDepth 100000 in
/-- keep -/
theorem lc_14 {p : Program} {e : Env} {s : State} {m : MethodId} {below : List Frame} {meth : Method} {c : Code} {l : Launch} {b0 L : Nat} {xs : Nat → Int32} (C0 : lw_At p s m meth c b0 L xs) (hL : L ≤ 3072) {k : Nat} (hk : 6 * k + 6 ≤ L) {D : va_G} {q : Nat → ClassId} (hQ : kn D q s) (hV : sv q (fun x : Nat => s.heap.size ≤ x) s s.heap) {a b : Nat} {N : Int} {s1 : Tp} {s2 s3 : Bd} {s4 : Mo} {s5 : Pg} {s6 : Pa} {z7 : Nat → Option Bd} {md : Md} {wC wM : va_W} (hC : c_W q a s1 s2 s3 s4 s5 s6 z7 wC) (hM : m_W q b md wM) (hJ : JJ N s1 s2 s3 s4 s5 s6 z7 md) {H : Heap} {locs : List Loc} {ls : Array Slot} (hP : va_P D vwCl (wC ++ wM) H) (hD : va_D (fun x : Nat => s.heap.size ≤ x) (wC ++ wM)) (hS : va_S (fun x : Nat => s.heap.size ≤ x) s.heap H locs) (hl : lv_has ls 4 [(3, .int (nI (6 * k))), (2, .ref b), (1, .ref a), (0, .ref b0)]) (kk : ∀ (N2 : Int) (t1 : Tp) (t2 t3 : Bd) (t4 : Mo) (t5 : Pg) (t6 : Pa) (t7 : Nat → Option Bd) (m2 : Md) (wC2 wM2 : va_W) (H : Heap) (locs : List Loc), c_W q a t1 t2 t3 t4 t5 t6 t7 wC2 → m_W q b m2 wM2 → JJ N2 t1 t2 t3 t4 t5 t6 t7 m2 → va_P D vwCl (wC2 ++ wM2) H → va_D (fun x : Nat => s.heap.size ≤ x) (wC2 ++ wM2) → va_S (fun x : Nat => s.heap.size ≤ x) s.heap H locs → W p l e room_1 s m #[Value.ref b0] below meth c H locs (52 + 15 * (k + 1)) (98998 + 13306 * (k + 1)) (lw_Z below #[Value.ref b0] s) (F0 m 1334 ls [])) : W p l e room_1 s m #[Value.ref b0] below meth c H locs (52 + 15 * k) (98998 + 13306 * k) (lw_Z below #[Value.ref b0] s) (F0 m 570 ls []) := by
  obtain ⟨hx, hb, hr, hml, hown, hts, hX, hbl, hlocks, hgv⟩ := id C0
  have ht : ∀ w ∈ w_all, w.before #[Value.ref b0] s = true := fun w h => hts w (w_tbl h)
  have hA : ∀ x : Nat, s.heap.size ≤ x → (fun x : Nat => s.heap.size ≤ x) x := fun _ h => h
  have hbA : ¬ (fun x : Nat => s.heap.size ≤ x) b0 := Nat.not_le.mpr hbl
  have hown : s.vm.findClass RL = some m.cls := hown
  refine lv_aload_n hx hb dL_law_570 rfl (lv_at hl 2 rfl) ?_
  refine lv_aload_n hx hb dL_law_571 rfl (lv_at hl 3 rfl) ?_
  refine lv_iload_n hx hb dL_law_572 rfl (lv_at hl 0 rfl) ?_
  refine lv_iconst (v := 1) hx hb dL_law_573 (by decide) ?_
  refine lv_iadd hx hb dL_law_574 ?_
  refine ab_i (v := nI (6 * k + 1)) (nI_plus (6 * k) 1) ?_
  refine va_sld hx hb hX hbl hbA hS (lp_in hk hL (by decide)) dL_law_575 ?_
  obtain ⟨r6, r7, M2, z7n, mn, hu, hv, hn⟩ := pl_keep (l := l) (D := D) (x1 := (xs (Int32.toNatClampNeg (nI (6 * k + 1))))) hC hM hJ
  refine un_goi (w := wC) (wo := wM) (rest := []) hu (List.Perm.refl _) hx hb hml hown ht wd_X6_keep mw_877 hQ hV hS hA hP hD rfl rfl hl.1 rfl (Nat.le_of_ble_eq_true rfl) dL_law_576 ⟨Nat.le_of_ble_eq_true rfl, Nat.le_of_ble_eq_true rfl, rfl, rfl⟩ (lp_rm (mc := 14) (ms := 6906) hk hL (by decide) (by decide)) (fun r_1 wr_1 H locs er_1 hP hD hS => ?_)
  obtain ⟨fr_1, hC⟩ := er_1
  refine lv_pop hx hb dL_law_579 rfl ?_
  refine lv_aload_n hx hb dL_law_580 rfl (lv_at hl 1 rfl) ?_
  refine lv_aload_n hx hb dL_law_581 rfl (lv_at hl 3 rfl) ?_
  refine lv_iload_n hx hb dL_law_582 rfl (lv_at hl 0 rfl) ?_
  refine lv_iconst (v := 1) hx hb dL_law_583 (by decide) ?_
  refine lv_iadd hx hb dL_law_584 ?_
  refine ab_i (v := nI (6 * k + 1)) (nI_plus (6 * k) 1) ?_
  refine va_sld hx hb hX hbl hbA hS (lp_in hk hL (by decide)) dL_law_585 ?_
  refine un_goi (w := wM) (wo := wr_1) (rest := []) hv List.perm_append_comm hx hb hml hown ht wd_X7_keep mw_1381 hQ hV hS hA hP hD rfl rfl hl.1 rfl (Nat.le_of_ble_eq_true rfl) dL_law_586 ⟨Nat.le_of_ble_eq_true rfl, Nat.le_of_ble_eq_true rfl, rfl, rfl⟩ (lp_rm (mc := 14) (ms := 6906) hk hL (by decide) (by decide)) (fun r_2 wr_2 H locs er_2 hP hD hS => ?_)
  obtain ⟨fr_2, hM⟩ := er_2
  have hP := vp_perm List.perm_append_comm hP
  have hD := vd_perm List.perm_append_comm hD
  have hJ := hn
  refine lv_pop hx hb dL_law_589 rfl ?_
  refine lv_goto (tgt := 1334) hx hb dL_law_590 (by decide) ?_
  refine W.widen (k := 52 + 15 * (k + 1)) (n := 98998 + 13306 * (k + 1)) (by omega) (by omega) ?_
  exact kk M2 s1 s2 s3 s4 s5 s6 z7n mn wr_1 wr_2 H locs hC hM hJ hP hD hS

set_option maxHeartbeats 4000000 in
set_option maxRecDepth 100000 in
/-- back -/
theorem lc_15 {p : Program} {e : Env} {s : State} {m : MethodId} {below : List Frame} {meth : Method} {c : Code} {l : Launch} {b0 L : Nat} {xs : Nat → Int32} (C0 : lw_At p s m meth c b0 L xs) (hL : L ≤ 3072) {k : Nat} (hk : 6 * k + 6 ≤ L) {D : va_G} {q : Nat → ClassId} (hQ : kn D q s) (hV : sv q (fun x : Nat => s.heap.size ≤ x) s s.heap) {a b : Nat} {N : Int} {s1 : Tp} {s2 s3 : Bd} {s4 : Mo} {s5 : Pg} {s6 : Pa} {z7 : Nat → Option Bd} {md : Md} {wC wM : va_W} (hC : c_W q a s1 s2 s3 s4 s5 s6 z7 wC) (hM : m_W q b md wM) (hJ : JJ N s1 s2 s3 s4 s5 s6 z7 md) {H : Heap} {locs : List Loc} {ls : Array Slot} (hP : va_P D vwCl (wC ++ wM) H) (hD : va_D (fun x : Nat => s.heap.size ≤ x) (wC ++ wM)) (hS : va_S (fun x : Nat => s.heap.size ≤ x) s.heap H locs) (hl : lv_has ls 4 [(3, .int (nI (6 * k))), (2, .ref b), (1, .ref a), (0, .ref b0)]) (kk : ∀ (N2 : Int) (t1 : Tp) (t2 t3 : Bd) (t4 : Mo) (t5 : Pg) (t6 : Pa) (t7 : Nat → Option Bd) (m2 : Md) (wC2 wM2 : va_W) (H : Heap) (locs : List Loc), c_W q a t1 t2 t3 t4 t5 t6 t7 wC2 → m_W q b m2 wM2 → JJ N2 t1 t2 t3 t4 t5 t6 t7 m2 → va_P D vwCl (wC2 ++ wM2) H → va_D (fun x : Nat => s.heap.size ≤ x) (wC2 ++ wM2) → va_S (fun x : Nat => s.heap.size ≤ x) s.heap H locs → W p l e room_1 s m #[Value.ref b0] below meth c H locs (52 + 15 * (k + 1)) (98998 + 13306 * (k + 1)) (lw_Z below #[Value.ref b0] s) (F0 m 1334 ls [])) : W p l e room_1 s m #[Value.ref b0] below meth c H locs (52 + 15 * k) (98998 + 13306 * k) (lw_Z below #[Value.ref b0] s) (F0 m 593 ls []) := by
  obtain ⟨hx, hb, hr, hml, hown, hts, hX, hbl, hlocks, hgv⟩ := id C0
  have ht : ∀ w ∈ w_all, w.before #[Value.ref b0] s = true := fun w h => hts w (w_tbl h)
  have hA : ∀ x : Nat, s.heap.size ≤ x → (fun x : Nat => s.heap.size ≤ x) x := fun _ h => h
  have hbA : ¬ (fun x : Nat => s.heap.size ≤ x) b0 := Nat.not_le.mpr hbl
  have hown : s.vm.findClass RL = some m.cls := hown
  refine lv_aload_n hx hb dL_law_593 rfl (lv_at hl 2 rfl) ?_
  refine lv_aload_n hx hb dL_law_594 rfl (lv_at hl 3 rfl) ?_
  refine lv_iload_n hx hb dL_law_595 rfl (lv_at hl 0 rfl) ?_
  refine lv_iconst (v := 1) hx hb dL_law_596 (by decide) ?_
  refine lv_iadd hx hb dL_law_597 ?_
  refine ab_i (v := nI (6 * k + 1)) (nI_plus (6 * k) 1) ?_
  refine va_sld hx hb hX hbl hbA hS (lp_in hk hL (by decide)) dL_law_598 ?_
  obtain ⟨r6, r7, M2, s2n, s6n, z7n, mn, hu, hv, hn⟩ := pl_back (l := l) (D := D) (x1 := (xs (Int32.toNatClampNeg (nI (6 * k + 1))))) hC hM hJ
  refine un_goi (w := wC) (wo := wM) (rest := []) hu (List.Perm.refl _) hx hb hml hown ht wd_X6_back mw_886 hQ hV hS hA hP hD rfl rfl hl.1 rfl (Nat.le_of_ble_eq_true rfl) dL_law_599 ⟨Nat.le_of_ble_eq_true rfl, Nat.le_of_ble_eq_true rfl, rfl, rfl⟩ (lp_rm (mc := 1) (ms := 6400) hk hL (by decide) (by decide)) (fun r_1 wr_1 H locs er_1 hP hD hS => ?_)
  obtain ⟨fr_1, hC⟩ := er_1
  refine lv_pop hx hb dL_law_602 rfl ?_
  refine lv_aload_n hx hb dL_law_603 rfl (lv_at hl 1 rfl) ?_
  refine lv_aload_n hx hb dL_law_604 rfl (lv_at hl 3 rfl) ?_
  refine lv_iload_n hx hb dL_law_605 rfl (lv_at hl 0 rfl) ?_
  refine lv_iconst (v := 1) hx hb dL_law_606 (by decide) ?_
  refine lv_iadd hx hb dL_law_607 ?_
  refine ab_i (v := nI (6 * k + 1)) (nI_plus (6 * k) 1) ?_
  refine va_sld hx hb hX hbl hbA hS (lp_in hk hL (by decide)) dL_law_608 ?_
  refine un_goi (w := wM) (wo := wr_1) (rest := []) hv List.perm_append_comm hx hb hml hown ht wd_X7_back mw_1385 hQ hV hS hA hP hD rfl rfl hl.1 rfl (Nat.le_of_ble_eq_true rfl) dL_law_609 ⟨Nat.le_of_ble_eq_true rfl, Nat.le_of_ble_eq_true rfl, rfl, rfl⟩ (lp_rm (mc := 1) (ms := 6400) hk hL (by decide) (by decide)) (fun r_2 wr_2 H locs er_2 hP hD hS => ?_)
  obtain ⟨fr_2, hM⟩ := er_2
  have hP := vp_perm List.perm_append_comm hP
  have hD := vd_perm List.perm_append_comm hD
  have hJ := hn.2
  refine lv_pop hx hb dL_law_612 rfl ?_
  refine lv_goto (tgt := 1334) hx hb dL_law_613 (by decide) ?_
  refine W.widen (k := 52 + 15 * (k + 1)) (n := 98998 + 13306 * (k + 1)) (by omega) (by omega) ?_
  exact kk M2 s1 s2n s3 s4 s5 s6n z7n mn wr_1 wr_2 H locs hC hM hJ hP hD hS

set_option maxHeartbeats 4000000 in
set_option maxRecDepth 100000 in
/-- cell -/
theorem lc_16 {p : Program} {e : Env} {s : State} {m : MethodId} {below : List Frame} {meth : Method} {c : Code} {l : Launch} {b0 L : Nat} {xs : Nat → Int32} (C0 : lw_At p s m meth c b0 L xs) (hL : L ≤ 3072) {k : Nat} (hk : 6 * k + 6 ≤ L) {D : va_G} {q : Nat → ClassId} (hQ : kn D q s) (hV : sv q (fun x : Nat => s.heap.size ≤ x) s s.heap) {a b : Nat} {N : Int} {s1 : Tp} {s2 s3 : Bd} {s4 : Mo} {s5 : Pg} {s6 : Pa} {z7 : Nat → Option Bd} {md : Md} {wC wM : va_W} (hC : c_W q a s1 s2 s3 s4 s5 s6 z7 wC) (hM : m_W q b md wM) (hJ : JJ N s1 s2 s3 s4 s5 s6 z7 md) {H : Heap} {locs : List Loc} {ls : Array Slot} (hP : va_P D vwCl (wC ++ wM) H) (hD : va_D (fun x : Nat => s.heap.size ≤ x) (wC ++ wM)) (hS : va_S (fun x : Nat => s.heap.size ≤ x) s.heap H locs) (hl : lv_has ls 4 [(3, .int (nI (6 * k))), (2, .ref b), (1, .ref a), (0, .ref b0)]) (kk : ∀ (N2 : Int) (t1 : Tp) (t2 t3 : Bd) (t4 : Mo) (t5 : Pg) (t6 : Pa) (t7 : Nat → Option Bd) (m2 : Md) (wC2 wM2 : va_W) (H : Heap) (locs : List Loc), c_W q a t1 t2 t3 t4 t5 t6 t7 wC2 → m_W q b m2 wM2 → JJ N2 t1 t2 t3 t4 t5 t6 t7 m2 → va_P D vwCl (wC2 ++ wM2) H → va_D (fun x : Nat => s.heap.size ≤ x) (wC2 ++ wM2) → va_S (fun x : Nat => s.heap.size ≤ x) s.heap H locs → W p l e room_1 s m #[Value.ref b0] below meth c H locs (52 + 15 * (k + 1)) (98998 + 13306 * (k + 1)) (lw_Z below #[Value.ref b0] s) (F0 m 1334 ls [])) : W p l e room_1 s m #[Value.ref b0] below meth c H locs (52 + 15 * k) (98998 + 13306 * k) (lw_Z below #[Value.ref b0] s) (F0 m 616 ls []) := by
  obtain ⟨hx, hb, hr, hml, hown, hts, hX, hbl, hlocks, hgv⟩ := id C0
  have ht : ∀ w ∈ w_all, w.before #[Value.ref b0] s = true := fun w h => hts w (w_tbl h)
  have hA : ∀ x : Nat, s.heap.size ≤ x → (fun x : Nat => s.heap.size ≤ x) x := fun _ h => h
  have hbA : ¬ (fun x : Nat => s.heap.size ≤ x) b0 := Nat.not_le.mpr hbl
  have hown : s.vm.findClass RL = some m.cls := hown
  refine lv_aload_n hx hb dL_law_616 rfl (lv_at hl 2 rfl) ?_
  refine lv_aload_n hx hb dL_law_617 rfl (lv_at hl 3 rfl) ?_
  refine lv_iload_n hx hb dL_law_618 rfl (lv_at hl 0 rfl) ?_
  refine lv_iconst (v := 1) hx hb dL_law_619 (by decide) ?_
  refine lv_iadd hx hb dL_law_620 ?_
  refine ab_i (v := nI (6 * k + 1)) (nI_plus (6 * k) 1) ?_
  refine va_sld hx hb hX hbl hbA hS (lp_in hk hL (by decide)) dL_law_621 ?_
  refine lv_aload_n hx hb dL_law_622 rfl (lv_at hl 3 rfl) ?_
  refine lv_iload_n hx hb dL_law_623 rfl (lv_at hl 0 rfl) ?_
  refine lv_iconst (v := 2) hx hb dL_law_624 (by decide) ?_
  refine lv_iadd hx hb dL_law_625 ?_
  refine ab_i (v := nI (6 * k + 2)) (nI_plus (6 * k) 2) ?_
  refine va_sld hx hb hX hbl hbA hS (lp_in hk hL (by decide)) dL_law_626 ?_
  obtain ⟨r6, r7, M2, mn, hu, hv, hn⟩ := pl_cell (l := l) (D := D) (x1 := (xs (Int32.toNatClampNeg (nI (6 * k + 1))))) (x2 := (xs (Int32.toNatClampNeg (nI (6 * k + 2))))) hC hM hJ
  refine un_gori (w := wC) (wo := wM) (rest := []) hu (List.Perm.refl _) hx hb hml hown ht wd_X6_cell mw_890 hQ hV hS hP rfl rfl hl.1 rfl (Nat.le_of_ble_eq_true rfl) dL_law_627 ⟨Nat.le_of_ble_eq_true rfl, Nat.le_of_ble_eq_true rfl, rfl, rfl⟩ (lp_rm (mc := 0) (ms := 0) hk hL (by decide) (by decide)) (fun r_1 er_1 => ?_)
  refine lv_pop hx hb dL_law_630 rfl ?_
  refine lv_aload_n hx hb dL_law_631 rfl (lv_at hl 1 rfl) ?_
  refine lv_aload_n hx hb dL_law_632 rfl (lv_at hl 3 rfl) ?_
  refine lv_iload_n hx hb dL_law_633 rfl (lv_at hl 0 rfl) ?_
  refine lv_iconst (v := 1) hx hb dL_law_634 (by decide) ?_
  refine lv_iadd hx hb dL_law_635 ?_
  refine ab_i (v := nI (6 * k + 1)) (nI_plus (6 * k) 1) ?_
  refine va_sld hx hb hX hbl hbA hS (lp_in hk hL (by decide)) dL_law_636 ?_
  refine lv_aload_n hx hb dL_law_637 rfl (lv_at hl 3 rfl) ?_
  refine lv_iload_n hx hb dL_law_638 rfl (lv_at hl 0 rfl) ?_
  refine lv_iconst (v := 2) hx hb dL_law_639 (by decide) ?_
  refine lv_iadd hx hb dL_law_640 ?_
  refine ab_i (v := nI (6 * k + 2)) (nI_plus (6 * k) 2) ?_
  refine va_sld hx hb hX hbl hbA hS (lp_in hk hL (by decide)) dL_law_641 ?_
  refine un_gori (w := wM) (wo := wC) (rest := []) hv List.perm_append_comm hx hb hml hown ht wd_X7_cell mw_1389 hQ hV hS hP rfl rfl hl.1 rfl (Nat.le_of_ble_eq_true rfl) dL_law_642 ⟨Nat.le_of_ble_eq_true rfl, Nat.le_of_ble_eq_true rfl, rfl, rfl⟩ (lp_rm (mc := 0) (ms := 0) hk hL (by decide) (by decide)) (fun r_2 er_2 => ?_)
  have hM : m_W q b mn wM := by rw [hn.1]; exact hM
  have hJ := hn.2
  refine lv_pop hx hb dL_law_645 rfl ?_
  refine lv_goto (tgt := 1334) hx hb dL_law_646 (by decide) ?_
  refine W.widen (k := 52 + 15 * (k + 1)) (n := 98998 + 13306 * (k + 1)) (by omega) (by omega) ?_
  exact kk M2 s1 s2 s3 s4 s5 s6 z7 mn wC wM H locs hC hM hJ hP hD hS

set_option maxHeartbeats 4000000 in
set_option maxRecDepth 100000 in
/-- worn -/
theorem lc_17 {p : Program} {e : Env} {s : State} {m : MethodId} {below : List Frame} {meth : Method} {c : Code} {l : Launch} {b0 L : Nat} {xs : Nat → Int32} (C0 : lw_At p s m meth c b0 L xs) (hL : L ≤ 3072) {k : Nat} (hk : 6 * k + 6 ≤ L) {D : va_G} {q : Nat → ClassId} (hQ : kn D q s) (hV : sv q (fun x : Nat => s.heap.size ≤ x) s s.heap) {a b : Nat} {N : Int} {s1 : Tp} {s2 s3 : Bd} {s4 : Mo} {s5 : Pg} {s6 : Pa} {z7 : Nat → Option Bd} {md : Md} {wC wM : va_W} (hC : c_W q a s1 s2 s3 s4 s5 s6 z7 wC) (hM : m_W q b md wM) (hJ : JJ N s1 s2 s3 s4 s5 s6 z7 md) {H : Heap} {locs : List Loc} {ls : Array Slot} (hP : va_P D vwCl (wC ++ wM) H) (hD : va_D (fun x : Nat => s.heap.size ≤ x) (wC ++ wM)) (hS : va_S (fun x : Nat => s.heap.size ≤ x) s.heap H locs) (hl : lv_has ls 4 [(3, .int (nI (6 * k))), (2, .ref b), (1, .ref a), (0, .ref b0)]) (kk : ∀ (N2 : Int) (t1 : Tp) (t2 t3 : Bd) (t4 : Mo) (t5 : Pg) (t6 : Pa) (t7 : Nat → Option Bd) (m2 : Md) (wC2 wM2 : va_W) (H : Heap) (locs : List Loc), c_W q a t1 t2 t3 t4 t5 t6 t7 wC2 → m_W q b m2 wM2 → JJ N2 t1 t2 t3 t4 t5 t6 t7 m2 → va_P D vwCl (wC2 ++ wM2) H → va_D (fun x : Nat => s.heap.size ≤ x) (wC2 ++ wM2) → va_S (fun x : Nat => s.heap.size ≤ x) s.heap H locs → W p l e room_1 s m #[Value.ref b0] below meth c H locs (52 + 15 * (k + 1)) (98998 + 13306 * (k + 1)) (lw_Z below #[Value.ref b0] s) (F0 m 1334 ls [])) : W p l e room_1 s m #[Value.ref b0] below meth c H locs (52 + 15 * k) (98998 + 13306 * k) (lw_Z below #[Value.ref b0] s) (F0 m 649 ls []) := by
  obtain ⟨hx, hb, hr, hml, hown, hts, hX, hbl, hlocks, hgv⟩ := id C0
  have ht : ∀ w ∈ w_all, w.before #[Value.ref b0] s = true := fun w h => hts w (w_tbl h)
  have hA : ∀ x : Nat, s.heap.size ≤ x → (fun x : Nat => s.heap.size ≤ x) x := fun _ h => h
  have hbA : ¬ (fun x : Nat => s.heap.size ≤ x) b0 := Nat.not_le.mpr hbl
  have hown : s.vm.findClass RL = some m.cls := hown
  refine lv_aload_n hx hb dL_law_649 rfl (lv_at hl 2 rfl) ?_
  refine lv_aload_n hx hb dL_law_650 rfl (lv_at hl 3 rfl) ?_
  refine lv_iload_n hx hb dL_law_651 rfl (lv_at hl 0 rfl) ?_
  refine lv_iconst (v := 1) hx hb dL_law_652 (by decide) ?_
  refine lv_iadd hx hb dL_law_653 ?_
  refine ab_i (v := nI (6 * k + 1)) (nI_plus (6 * k) 1) ?_
  refine va_sld hx hb hX hbl hbA hS (lp_in hk hL (by decide)) dL_law_654 ?_
  obtain ⟨r6, r7, M2, mn, hu, hv, hn⟩ := pl_worn (l := l) (D := D) (x1 := (xs (Int32.toNatClampNeg (nI (6 * k + 1))))) hC hM hJ
  refine un_gorl (w := wC) (wo := wM) (rest := []) hu (List.Perm.refl _) hx hb hml hown ht wd_X6_worn mw_895 hQ hV hS hP rfl rfl hl.1 rfl (Nat.le_of_ble_eq_true rfl) dL_law_655 ⟨Nat.le_of_ble_eq_true rfl, Nat.le_of_ble_eq_true rfl, rfl, rfl⟩ (lp_rm (mc := 0) (ms := 0) hk hL (by decide) (by decide)) (fun r_1 er_1 => ?_)
  refine lv_pop2_2 hx hb dL_law_658 rfl ?_
  refine lv_aload_n hx hb dL_law_659 rfl (lv_at hl 1 rfl) ?_
  refine lv_aload_n hx hb dL_law_660 rfl (lv_at hl 3 rfl) ?_
  refine lv_iload_n hx hb dL_law_661 rfl (lv_at hl 0 rfl) ?_
  refine lv_iconst (v := 1) hx hb dL_law_662 (by decide) ?_
  refine lv_iadd hx hb dL_law_663 ?_
  refine ab_i (v := nI (6 * k + 1)) (nI_plus (6 * k) 1) ?_
  refine va_sld hx hb hX hbl hbA hS (lp_in hk hL (by decide)) dL_law_664 ?_
  refine un_gorl (w := wM) (wo := wC) (rest := []) hv List.perm_append_comm hx hb hml hown ht wd_X7_worn mw_1393 hQ hV hS hP rfl rfl hl.1 rfl (Nat.le_of_ble_eq_true rfl) dL_law_665 ⟨Nat.le_of_ble_eq_true rfl, Nat.le_of_ble_eq_true rfl, rfl, rfl⟩ (lp_rm (mc := 0) (ms := 0) hk hL (by decide) (by decide)) (fun r_2 er_2 => ?_)
  have hM : m_W q b mn wM := by rw [hn.1]; exact hM
  have hJ := hn.2
  refine lv_pop2_2 hx hb dL_law_668 rfl ?_
  refine lv_goto (tgt := 1334) hx hb dL_law_669 (by decide) ?_
  refine W.widen (k := 52 + 15 * (k + 1)) (n := 98998 + 13306 * (k + 1)) (by omega) (by omega) ?_
  exact kk M2 s1 s2 s3 s4 s5 s6 z7 mn wC wM H locs hC hM hJ hP hD hS

set_option maxHeartbeats 4000000 in
set_option maxRecDepth 100000 in
/-- drum -/
theorem lc_18 {p : Program} {e : Env} {s : State} {m : MethodId} {below : List Frame} {meth : Method} {c : Code} {l : Launch} {b0 L : Nat} {xs : Nat → Int32} (C0 : lw_At p s m meth c b0 L xs) (hL : L ≤ 3072) {k : Nat} (hk : 6 * k + 6 ≤ L) {D : va_G} {q : Nat → ClassId} (hQ : kn D q s) (hV : sv q (fun x : Nat => s.heap.size ≤ x) s s.heap) {a b : Nat} {N : Int} {s1 : Tp} {s2 s3 : Bd} {s4 : Mo} {s5 : Pg} {s6 : Pa} {z7 : Nat → Option Bd} {md : Md} {wC wM : va_W} (hC : c_W q a s1 s2 s3 s4 s5 s6 z7 wC) (hM : m_W q b md wM) (hJ : JJ N s1 s2 s3 s4 s5 s6 z7 md) {H : Heap} {locs : List Loc} {ls : Array Slot} (hP : va_P D vwCl (wC ++ wM) H) (hD : va_D (fun x : Nat => s.heap.size ≤ x) (wC ++ wM)) (hS : va_S (fun x : Nat => s.heap.size ≤ x) s.heap H locs) (hl : lv_has ls 4 [(3, .int (nI (6 * k))), (2, .ref b), (1, .ref a), (0, .ref b0)]) (kk : ∀ (N2 : Int) (t1 : Tp) (t2 t3 : Bd) (t4 : Mo) (t5 : Pg) (t6 : Pa) (t7 : Nat → Option Bd) (m2 : Md) (wC2 wM2 : va_W) (H : Heap) (locs : List Loc), c_W q a t1 t2 t3 t4 t5 t6 t7 wC2 → m_W q b m2 wM2 → JJ N2 t1 t2 t3 t4 t5 t6 t7 m2 → va_P D vwCl (wC2 ++ wM2) H → va_D (fun x : Nat => s.heap.size ≤ x) (wC2 ++ wM2) → va_S (fun x : Nat => s.heap.size ≤ x) s.heap H locs → W p l e room_1 s m #[Value.ref b0] below meth c H locs (52 + 15 * (k + 1)) (98998 + 13306 * (k + 1)) (lw_Z below #[Value.ref b0] s) (F0 m 1334 ls [])) : W p l e room_1 s m #[Value.ref b0] below meth c H locs (52 + 15 * k) (98998 + 13306 * k) (lw_Z below #[Value.ref b0] s) (F0 m 672 ls []) := by
  obtain ⟨hx, hb, hr, hml, hown, hts, hX, hbl, hlocks, hgv⟩ := id C0
  have ht : ∀ w ∈ w_all, w.before #[Value.ref b0] s = true := fun w h => hts w (w_tbl h)
  have hA : ∀ x : Nat, s.heap.size ≤ x → (fun x : Nat => s.heap.size ≤ x) x := fun _ h => h
  have hbA : ¬ (fun x : Nat => s.heap.size ≤ x) b0 := Nat.not_le.mpr hbl
  have hown : s.vm.findClass RL = some m.cls := hown
  refine lv_aload_n hx hb dL_law_672 rfl (lv_at hl 2 rfl) ?_
  refine lv_aload_n hx hb dL_law_673 rfl (lv_at hl 3 rfl) ?_
  refine lv_iload_n hx hb dL_law_674 rfl (lv_at hl 0 rfl) ?_
  refine lv_iconst (v := 1) hx hb dL_law_675 (by decide) ?_
  refine lv_iadd hx hb dL_law_676 ?_
  refine ab_i (v := nI (6 * k + 1)) (nI_plus (6 * k) 1) ?_
  refine va_sld hx hb hX hbl hbA hS (lp_in hk hL (by decide)) dL_law_677 ?_
  refine lv_aload_n hx hb dL_law_678 rfl (lv_at hl 3 rfl) ?_
  refine lv_iload_n hx hb dL_law_679 rfl (lv_at hl 0 rfl) ?_
  refine lv_iconst (v := 2) hx hb dL_law_680 (by decide) ?_
  refine lv_iadd hx hb dL_law_681 ?_
  refine ab_i (v := nI (6 * k + 2)) (nI_plus (6 * k) 2) ?_
  refine va_sld hx hb hX hbl hbA hS (lp_in hk hL (by decide)) dL_law_682 ?_
  obtain ⟨r6, r7, M2, mn, hu, hv, hn⟩ := pl_drum (l := l) (D := D) (x1 := (xs (Int32.toNatClampNeg (nI (6 * k + 1))))) (x2 := (xs (Int32.toNatClampNeg (nI (6 * k + 2))))) hC hM hJ
  refine un_gori (w := wC) (wo := wM) (rest := []) hu (List.Perm.refl _) hx hb hml hown ht wd_X6_drum mw_900 hQ hV hS hP rfl rfl hl.1 rfl (Nat.le_of_ble_eq_true rfl) dL_law_683 ⟨Nat.le_of_ble_eq_true rfl, Nat.le_of_ble_eq_true rfl, rfl, rfl⟩ (lp_rm (mc := 0) (ms := 0) hk hL (by decide) (by decide)) (fun r_1 er_1 => ?_)
  refine lv_pop hx hb dL_law_686 rfl ?_
  refine lv_aload_n hx hb dL_law_687 rfl (lv_at hl 1 rfl) ?_
  refine lv_aload_n hx hb dL_law_688 rfl (lv_at hl 3 rfl) ?_
  refine lv_iload_n hx hb dL_law_689 rfl (lv_at hl 0 rfl) ?_
  refine lv_iconst (v := 1) hx hb dL_law_690 (by decide) ?_
  refine lv_iadd hx hb dL_law_691 ?_
  refine ab_i (v := nI (6 * k + 1)) (nI_plus (6 * k) 1) ?_
  refine va_sld hx hb hX hbl hbA hS (lp_in hk hL (by decide)) dL_law_692 ?_
  refine lv_aload_n hx hb dL_law_693 rfl (lv_at hl 3 rfl) ?_
  refine lv_iload_n hx hb dL_law_694 rfl (lv_at hl 0 rfl) ?_
  refine lv_iconst (v := 2) hx hb dL_law_695 (by decide) ?_
  refine lv_iadd hx hb dL_law_696 ?_
  refine ab_i (v := nI (6 * k + 2)) (nI_plus (6 * k) 2) ?_
  refine va_sld hx hb hX hbl hbA hS (lp_in hk hL (by decide)) dL_law_697 ?_
  refine un_gori (w := wM) (wo := wC) (rest := []) hv List.perm_append_comm hx hb hml hown ht wd_X7_drum mw_1397 hQ hV hS hP rfl rfl hl.1 rfl (Nat.le_of_ble_eq_true rfl) dL_law_698 ⟨Nat.le_of_ble_eq_true rfl, Nat.le_of_ble_eq_true rfl, rfl, rfl⟩ (lp_rm (mc := 0) (ms := 0) hk hL (by decide) (by decide)) (fun r_2 er_2 => ?_)
  have hM : m_W q b mn wM := by rw [hn.1]; exact hM
  have hJ := hn.2
  refine lv_pop hx hb dL_law_701 rfl ?_
  refine lv_goto (tgt := 1334) hx hb dL_law_702 (by decide) ?_
  refine W.widen (k := 52 + 15 * (k + 1)) (n := 98998 + 13306 * (k + 1)) (by omega) (by omega) ?_
  exact kk M2 s1 s2 s3 s4 s5 s6 z7 mn wC wM H locs hC hM hJ hP hD hS

set_option maxHeartbeats 4000000 in
set_option maxRecDepth 100000 in
/-- sign -/
theorem lc_19 {p : Program} {e : Env} {s : State} {m : MethodId} {below : List Frame} {meth : Method} {c : Code} {l : Launch} {b0 L : Nat} {xs : Nat → Int32} (C0 : lw_At p s m meth c b0 L xs) (hL : L ≤ 3072) {k : Nat} (hk : 6 * k + 6 ≤ L) {D : va_G} {q : Nat → ClassId} (hQ : kn D q s) (hV : sv q (fun x : Nat => s.heap.size ≤ x) s s.heap) {a b : Nat} {N : Int} {s1 : Tp} {s2 s3 : Bd} {s4 : Mo} {s5 : Pg} {s6 : Pa} {z7 : Nat → Option Bd} {md : Md} {wC wM : va_W} (hC : c_W q a s1 s2 s3 s4 s5 s6 z7 wC) (hM : m_W q b md wM) (hJ : JJ N s1 s2 s3 s4 s5 s6 z7 md) {H : Heap} {locs : List Loc} {ls : Array Slot} (hP : va_P D vwCl (wC ++ wM) H) (hD : va_D (fun x : Nat => s.heap.size ≤ x) (wC ++ wM)) (hS : va_S (fun x : Nat => s.heap.size ≤ x) s.heap H locs) (hl : lv_has ls 4 [(3, .int (nI (6 * k))), (2, .ref b), (1, .ref a), (0, .ref b0)]) (kk : ∀ (N2 : Int) (t1 : Tp) (t2 t3 : Bd) (t4 : Mo) (t5 : Pg) (t6 : Pa) (t7 : Nat → Option Bd) (m2 : Md) (wC2 wM2 : va_W) (H : Heap) (locs : List Loc), c_W q a t1 t2 t3 t4 t5 t6 t7 wC2 → m_W q b m2 wM2 → JJ N2 t1 t2 t3 t4 t5 t6 t7 m2 → va_P D vwCl (wC2 ++ wM2) H → va_D (fun x : Nat => s.heap.size ≤ x) (wC2 ++ wM2) → va_S (fun x : Nat => s.heap.size ≤ x) s.heap H locs → W p l e room_1 s m #[Value.ref b0] below meth c H locs (52 + 15 * (k + 1)) (98998 + 13306 * (k + 1)) (lw_Z below #[Value.ref b0] s) (F0 m 1334 ls [])) : W p l e room_1 s m #[Value.ref b0] below meth c H locs (52 + 15 * k) (98998 + 13306 * k) (lw_Z below #[Value.ref b0] s) (F0 m 705 ls []) := by
  obtain ⟨hx, hb, hr, hml, hown, hts, hX, hbl, hlocks, hgv⟩ := id C0
  have ht : ∀ w ∈ w_all, w.before #[Value.ref b0] s = true := fun w h => hts w (w_tbl h)
  have hA : ∀ x : Nat, s.heap.size ≤ x → (fun x : Nat => s.heap.size ≤ x) x := fun _ h => h
  have hbA : ¬ (fun x : Nat => s.heap.size ≤ x) b0 := Nat.not_le.mpr hbl
  have hown : s.vm.findClass RL = some m.cls := hown
  refine lv_aload_n hx hb dL_law_705 rfl (lv_at hl 2 rfl) ?_
  refine lv_aload_n hx hb dL_law_706 rfl (lv_at hl 3 rfl) ?_
  refine lv_iload_n hx hb dL_law_707 rfl (lv_at hl 0 rfl) ?_
  refine lv_iconst (v := 1) hx hb dL_law_708 (by decide) ?_
  refine lv_iadd hx hb dL_law_709 ?_
  refine ab_i (v := nI (6 * k + 1)) (nI_plus (6 * k) 1) ?_
  refine va_sld hx hb hX hbl hbA hS (lp_in hk hL (by decide)) dL_law_710 ?_
  refine lv_aload_n hx hb dL_law_711 rfl (lv_at hl 3 rfl) ?_
  refine lv_iload_n hx hb dL_law_712 rfl (lv_at hl 0 rfl) ?_
  refine lv_iconst (v := 2) hx hb dL_law_713 (by decide) ?_
  refine lv_iadd hx hb dL_law_714 ?_
  refine ab_i (v := nI (6 * k + 2)) (nI_plus (6 * k) 2) ?_
  refine va_sld hx hb hX hbl hbA hS (lp_in hk hL (by decide)) dL_law_715 ?_
  obtain ⟨r6, r7, M2, mn, hu, hv, hn⟩ := pl_sign (l := l) (D := D) (x1 := (xs (Int32.toNatClampNeg (nI (6 * k + 1))))) (x2 := (xs (Int32.toNatClampNeg (nI (6 * k + 2))))) hC hM hJ
  refine un_gori (w := wC) (wo := wM) (rest := []) hu (List.Perm.refl _) hx hb hml hown ht wd_X6_sign mw_930 hQ hV hS hP rfl rfl hl.1 rfl (Nat.le_of_ble_eq_true rfl) dL_law_716 ⟨Nat.le_of_ble_eq_true rfl, Nat.le_of_ble_eq_true rfl, rfl, rfl⟩ (lp_rm (mc := 0) (ms := 0) hk hL (by decide) (by decide)) (fun r_1 er_1 => ?_)
  refine lv_pop hx hb dL_law_719 rfl ?_
  refine lv_aload_n hx hb dL_law_720 rfl (lv_at hl 1 rfl) ?_
  refine lv_aload_n hx hb dL_law_721 rfl (lv_at hl 3 rfl) ?_
  refine lv_iload_n hx hb dL_law_722 rfl (lv_at hl 0 rfl) ?_
  refine lv_iconst (v := 1) hx hb dL_law_723 (by decide) ?_
  refine lv_iadd hx hb dL_law_724 ?_
  refine ab_i (v := nI (6 * k + 1)) (nI_plus (6 * k) 1) ?_
  refine va_sld hx hb hX hbl hbA hS (lp_in hk hL (by decide)) dL_law_725 ?_
  refine lv_aload_n hx hb dL_law_726 rfl (lv_at hl 3 rfl) ?_
  refine lv_iload_n hx hb dL_law_727 rfl (lv_at hl 0 rfl) ?_
  refine lv_iconst (v := 2) hx hb dL_law_728 (by decide) ?_
  refine lv_iadd hx hb dL_law_729 ?_
  refine ab_i (v := nI (6 * k + 2)) (nI_plus (6 * k) 2) ?_
  refine va_sld hx hb hX hbl hbA hS (lp_in hk hL (by decide)) dL_law_730 ?_
  refine un_gori (w := wM) (wo := wC) (rest := []) hv List.perm_append_comm hx hb hml hown ht wd_X7_sign mw_1413 hQ hV hS hP rfl rfl hl.1 rfl (Nat.le_of_ble_eq_true rfl) dL_law_731 ⟨Nat.le_of_ble_eq_true rfl, Nat.le_of_ble_eq_true rfl, rfl, rfl⟩ (lp_rm (mc := 0) (ms := 0) hk hL (by decide) (by decide)) (fun r_2 er_2 => ?_)
  have hM : m_W q b mn wM := by rw [hn.1]; exact hM
  have hJ := hn.2
  refine lv_pop hx hb dL_law_734 rfl ?_
  refine lv_goto (tgt := 1334) hx hb dL_law_735 (by decide) ?_
  refine W.widen (k := 52 + 15 * (k + 1)) (n := 98998 + 13306 * (k + 1)) (by omega) (by omega) ?_
  exact kk M2 s1 s2 s3 s4 s5 s6 z7 mn wC wM H locs hC hM hJ hP hD hS
