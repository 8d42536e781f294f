set_option maxHeartbeats 4000000 in
set_option maxRecDepth 100000 in
/-- often -/
theorem lc_30 {p : Program} {e : Env} {s : State} {m : MethodId} {below : List Frame} {meth : Method} {c : Code} {l : Launch} {b0 L : Nat} {xs : Nat → Int32} (C0 : lw_At p s m meth c b0 L xs) (hL : L ≤ 3072) {k : Nat} (hk : 6 * k + 6 ≤ L) {D : va_G} {q : Nat → ClassId} (hQ : kn D q s) (hV : sv q (fun x : Nat => s.heap.size ≤ x) s s.heap) {a b : Nat} {N : Int} {s1 : Tp} {s2 s3 : Bd} {s4 : Mo} {s5 : Pg} {s6 : Pa} {z7 : Nat → Option Bd} {md : Md} {wC wM : va_W} (hC : c_W q a s1 s2 s3 s4 s5 s6 z7 wC) (hM : m_W q b md wM) (hJ : JJ N s1 s2 s3 s4 s5 s6 z7 md) {H : Heap} {locs : List Loc} {ls : Array Slot} (hP : va_P D vwCl (wC ++ wM) H) (hD : va_D (fun x : Nat => s.heap.size ≤ x) (wC ++ wM)) (hS : va_S (fun x : Nat => s.heap.size ≤ x) s.heap H locs) (hl : lv_has ls 4 [(3, .int (nI (6 * k))), (2, .ref b), (1, .ref a), (0, .ref b0)]) (kk : ∀ (N2 : Int) (t1 : Tp) (t2 t3 : Bd) (t4 : Mo) (t5 : Pg) (t6 : Pa) (t7 : Nat → Option Bd) (m2 : Md) (wC2 wM2 : va_W) (H : Heap) (locs : List Loc), c_W q a t1 t2 t3 t4 t5 t6 t7 wC2 → m_W q b m2 wM2 → JJ N2 t1 t2 t3 t4 t5 t6 t7 m2 → va_P D vwCl (wC2 ++ wM2) H → va_D (fun x : Nat => s.heap.size ≤ x) (wC2 ++ wM2) → va_S (fun x : Nat => s.heap.size ≤ x) s.heap H locs → W p l e room_1 s m #[Value.ref b0] below meth c H locs (52 + 15 * (k + 1)) (98998 + 13306 * (k + 1)) (lw_Z below #[Value.ref b0] s) (F0 m 1334 ls [])) : W p l e room_1 s m #[Value.ref b0] below meth c H locs (52 + 15 * k) (98998 + 13306 * k) (lw_Z below #[Value.ref b0] s) (F0 m 1018 ls []) := by
  obtain ⟨hx, hb, hr, hml, hown, hts, hX, hbl, hlocks, hgv⟩ := id C0
  have ht : ∀ w ∈ w_all, w.before #[Value.ref b0] s = true := fun w h => hts w (w_tbl h)
  have hA : ∀ x : Nat, s.heap.size ≤ x → (fun x : Nat => s.heap.size ≤ x) x := fun _ h => h
  have hbA : ¬ (fun x : Nat => s.heap.size ≤ x) b0 := Nat.not_le.mpr hbl
  have hown : s.vm.findClass RL = some m.cls := hown
  refine lv_aload_n hx hb dL_law_1018 rfl (lv_at hl 2 rfl) ?_
  refine lv_aload_n hx hb dL_law_1019 rfl (lv_at hl 3 rfl) ?_
  refine lv_iload_n hx hb dL_law_1020 rfl (lv_at hl 0 rfl) ?_
  refine lv_iconst (v := 1) hx hb dL_law_1021 (by decide) ?_
  refine lv_iadd hx hb dL_law_1022 ?_
  refine ab_i (v := nI (6 * k + 1)) (nI_plus (6 * k) 1) ?_
  refine va_sld hx hb hX hbl hbA hS (lp_in hk hL (by decide)) dL_law_1023 ?_
  refine lv_aload_n hx hb dL_law_1024 rfl (lv_at hl 3 rfl) ?_
  refine lv_iload_n hx hb dL_law_1025 rfl (lv_at hl 0 rfl) ?_
  refine lv_iconst (v := 2) hx hb dL_law_1026 (by decide) ?_
  refine lv_iadd hx hb dL_law_1027 ?_
  refine ab_i (v := nI (6 * k + 2)) (nI_plus (6 * k) 2) ?_
  refine va_sld hx hb hX hbl hbA hS (lp_in hk hL (by decide)) dL_law_1028 ?_
  refine lv_aload_n hx hb dL_law_1029 rfl (lv_at hl 3 rfl) ?_
  refine lv_iload_n hx hb dL_law_1030 rfl (lv_at hl 0 rfl) ?_
  refine lv_iconst (v := 3) hx hb dL_law_1031 (by decide) ?_
  refine lv_iadd hx hb dL_law_1032 ?_
  refine ab_i (v := nI (6 * k + 3)) (nI_plus (6 * k) 3) ?_
  refine va_sld hx hb hX hbl hbA hS (lp_in hk hL (by decide)) dL_law_1033 ?_
  refine lv_if_eq (tgt := 1041) hx hb dL_law_1034 (by decide) (fun c_1 => ?_) (fun c_1 => ?_)
  · refine lv_iconst (v := 0) hx hb dL_law_1041 (by decide) ?_
    obtain ⟨r6, r7, M2, mn, hu, hv, hn⟩ := pl_often (l := l) (D := D) (x1 := (xs (Int32.toNatClampNeg (nI (6 * k + 1))))) (x2 := (xs (Int32.toNatClampNeg (nI (6 * k + 2))))) (x3 := 0) hC hM hJ
    refine un_gori (w := wC) (wo := wM) (rest := []) hu (List.Perm.refl _) hx hb hml hown ht wd_X6_often mw_1056 hQ hV hS hP rfl rfl hl.1 rfl (Nat.le_of_ble_eq_true rfl) dL_law_1042 ⟨Nat.le_of_ble_eq_true rfl, Nat.le_of_ble_eq_true rfl, rfl, rfl⟩ (lp_rm (mc := 0) (ms := 0) hk hL (by decide) (by decide)) (fun r_2 er_2 => ?_)
    refine lv_pop hx hb dL_law_1045 rfl ?_
    refine lv_aload_n hx hb dL_law_1046 rfl (lv_at hl 1 rfl) ?_
    refine lv_aload_n hx hb dL_law_1047 rfl (lv_at hl 3 rfl) ?_
    refine lv_iload_n hx hb dL_law_1048 rfl (lv_at hl 0 rfl) ?_
    refine lv_iconst (v := 1) hx hb dL_law_1049 (by decide) ?_
    refine lv_iadd hx hb dL_law_1050 ?_
    refine ab_i (v := nI (6 * k + 1)) (nI_plus (6 * k) 1) ?_
    refine va_sld hx hb hX hbl hbA hS (lp_in hk hL (by decide)) dL_law_1051 ?_
    refine lv_aload_n hx hb dL_law_1052 rfl (lv_at hl 3 rfl) ?_
    refine lv_iload_n hx hb dL_law_1053 rfl (lv_at hl 0 rfl) ?_
    refine lv_iconst (v := 2) hx hb dL_law_1054 (by decide) ?_
    refine lv_iadd hx hb dL_law_1055 ?_
    refine ab_i (v := nI (6 * k + 2)) (nI_plus (6 * k) 2) ?_
    refine va_sld hx hb hX hbl hbA hS (lp_in hk hL (by decide)) dL_law_1056 ?_
    refine lv_aload_n hx hb dL_law_1057 rfl (lv_at hl 3 rfl) ?_
    refine lv_iload_n hx hb dL_law_1058 rfl (lv_at hl 0 rfl) ?_
    refine lv_iconst (v := 3) hx hb dL_law_1059 (by decide) ?_
    refine lv_iadd hx hb dL_law_1060 ?_
    refine ab_i (v := nI (6 * k + 3)) (nI_plus (6 * k) 3) ?_
    refine va_sld hx hb hX hbl hbA hS (lp_in hk hL (by decide)) dL_law_1061 ?_
    refine lv_if_eq (tgt := 1069) hx hb dL_law_1062 (by decide) (fun _ => ?_) (fun c9 => absurd c_1 c9)
    refine lv_iconst (v := 0) hx hb dL_law_1069 (by decide) ?_
    refine un_gori (w := wM) (wo := wC) (rest := []) hv List.perm_append_comm hx hb hml hown ht wd_X7_often mw_1526 hQ hV hS hP rfl rfl hl.1 rfl (Nat.le_of_ble_eq_true rfl) dL_law_1070 ⟨Nat.le_of_ble_eq_true rfl, Nat.le_of_ble_eq_true rfl, rfl, rfl⟩ (lp_rm (mc := 0) (ms := 0) hk hL (by decide) (by decide)) (fun r_3 er_3 => ?_)
    have hM : m_W q b mn wM := by rw [hn.1]; exact hM
    have hJ := hn.2
    refine lv_pop hx hb dL_law_1073 rfl ?_
    refine lv_goto (tgt := 1334) hx hb dL_law_1074 (by decide) ?_
    refine W.widen (k := 52 + 15 * (k + 1)) (n := 98998 + 13306 * (k + 1)) (by omega) (by omega) ?_
    exact kk M2 s1 s2 s3 s4 s5 s6 z7 mn wC wM H locs hC hM hJ hP hD hS
  · refine lv_iconst (v := 1) hx hb dL_law_1037 (by decide) ?_
    refine lv_goto (tgt := 1042) hx hb dL_law_1038 (by decide) ?_
    obtain ⟨r6, r7, M2, mn, hu, hv, hn⟩ := pl_often (l := l) (D := D) (x1 := (xs (Int32.toNatClampNeg (nI (6 * k + 1))))) (x2 := (xs (Int32.toNatClampNeg (nI (6 * k + 2))))) (x3 := 1) hC hM hJ
    refine un_gori (w := wC) (wo := wM) (rest := []) hu (List.Perm.refl _) hx hb hml hown ht wd_X6_often mw_1056 hQ hV hS hP rfl rfl hl.1 rfl (Nat.le_of_ble_eq_true rfl) dL_law_1042 ⟨Nat.le_of_ble_eq_true rfl, Nat.le_of_ble_eq_true rfl, rfl, rfl⟩ (lp_rm (mc := 0) (ms := 0) hk hL (by decide) (by decide)) (fun r_4 er_4 => ?_)
    refine lv_pop hx hb dL_law_1045 rfl ?_
    refine lv_aload_n hx hb dL_law_1046 rfl (lv_at hl 1 rfl) ?_
    refine lv_aload_n hx hb dL_law_1047 rfl (lv_at hl 3 rfl) ?_
    refine lv_iload_n hx hb dL_law_1048 rfl (lv_at hl 0 rfl) ?_
    refine lv_iconst (v := 1) hx hb dL_law_1049 (by decide) ?_
    refine lv_iadd hx hb dL_law_1050 ?_
    refine ab_i (v := nI (6 * k + 1)) (nI_plus (6 * k) 1) ?_
    refine va_sld hx hb hX hbl hbA hS (lp_in hk hL (by decide)) dL_law_1051 ?_
    refine lv_aload_n hx hb dL_law_1052 rfl (lv_at hl 3 rfl) ?_
    refine lv_iload_n hx hb dL_law_1053 rfl (lv_at hl 0 rfl) ?_
    refine lv_iconst (v := 2) hx hb dL_law_1054 (by decide) ?_
    refine lv_iadd hx hb dL_law_1055 ?_
    refine ab_i (v := nI (6 * k + 2)) (nI_plus (6 * k) 2) ?_
    refine va_sld hx hb hX hbl hbA hS (lp_in hk hL (by decide)) dL_law_1056 ?_
    refine lv_aload_n hx hb dL_law_1057 rfl (lv_at hl 3 rfl) ?_
    refine lv_iload_n hx hb dL_law_1058 rfl (lv_at hl 0 rfl) ?_
    refine lv_iconst (v := 3) hx hb dL_law_1059 (by decide) ?_
    refine lv_iadd hx hb dL_law_1060 ?_
    refine ab_i (v := nI (6 * k + 3)) (nI_plus (6 * k) 3) ?_
    refine va_sld hx hb hX hbl hbA hS (lp_in hk hL (by decide)) dL_law_1061 ?_
    refine lv_if_eq (tgt := 1069) hx hb dL_law_1062 (by decide) (fun c9 => absurd c9 c_1) (fun _ => ?_)
    refine lv_iconst (v := 1) hx hb dL_law_1065 (by decide) ?_
    refine lv_goto (tgt := 1070) hx hb dL_law_1066 (by decide) ?_
    refine un_gori (w := wM) (wo := wC) (rest := []) hv List.perm_append_comm hx hb hml hown ht wd_X7_often mw_1526 hQ hV hS hP rfl rfl hl.1 rfl (Nat.le_of_ble_eq_true rfl) dL_law_1070 ⟨Nat.le_of_ble_eq_true rfl, Nat.le_of_ble_eq_true rfl, rfl, rfl⟩ (lp_rm (mc := 0) (ms := 0) hk hL (by decide) (by decide)) (fun r_5 er_5 => ?_)
    have hM : m_W q b mn wM := by rw [hn.1]; exact hM
    have hJ := hn.2
    refine lv_pop hx hb dL_law_1073 rfl ?_
    refine lv_goto (tgt := 1334) hx hb dL_law_1074 (by decide) ?_
    refine W.widen (k := 52 + 15 * (k + 1)) (n := 98998 + 13306 * (k + 1)) (by omega) (by omega) ?_
    exact kk M2 s1 s2 s3 s4 s5 s6 z7 mn wC wM H locs hC hM hJ hP hD hS

set_option maxHeartbeats 4000000 in
set_option maxRecDepth 100000 in
/-- usual -/
theorem lc_31 {p : Program} {e : Env} {s : State} {m : MethodId} {below : List Frame} {meth : Method} {c : Code} {l : Launch} {b0 L : Nat} {xs : Nat → Int32} (C0 : lw_At p s m meth c b0 L xs) (hL : L ≤ 3072) {k : Nat} (hk : 6 * k + 6 ≤ L) {D : va_G} {q : Nat → ClassId} (hQ : kn D q s) (hV : sv q (fun x : Nat => s.heap.size ≤ x) s s.heap) {a b : Nat} {N : Int} {s1 : Tp} {s2 s3 : Bd} {s4 : Mo} {s5 : Pg} {s6 : Pa} {z7 : Nat → Option Bd} {md : Md} {wC wM : va_W} (hC : c_W q a s1 s2 s3 s4 s5 s6 z7 wC) (hM : m_W q b md wM) (hJ : JJ N s1 s2 s3 s4 s5 s6 z7 md) {H : Heap} {locs : List Loc} {ls : Array Slot} (hP : va_P D vwCl (wC ++ wM) H) (hD : va_D (fun x : Nat => s.heap.size ≤ x) (wC ++ wM)) (hS : va_S (fun x : Nat => s.heap.size ≤ x) s.heap H locs) (hl : lv_has ls 4 [(3, .int (nI (6 * k))), (2, .ref b), (1, .ref a), (0, .ref b0)]) (kk : ∀ (N2 : Int) (t1 : Tp) (t2 t3 : Bd) (t4 : Mo) (t5 : Pg) (t6 : Pa) (t7 : Nat → Option Bd) (m2 : Md) (wC2 wM2 : va_W) (H : Heap) (locs : List Loc), c_W q a t1 t2 t3 t4 t5 t6 t7 wC2 → m_W q b m2 wM2 → JJ N2 t1 t2 t3 t4 t5 t6 t7 m2 → va_P D vwCl (wC2 ++ wM2) H → va_D (fun x : Nat => s.heap.size ≤ x) (wC2 ++ wM2) → va_S (fun x : Nat => s.heap.size ≤ x) s.heap H locs → W p l e room_1 s m #[Value.ref b0] below meth c H locs (52 + 15 * (k + 1)) (98998 + 13306 * (k + 1)) (lw_Z below #[Value.ref b0] s) (F0 m 1334 ls [])) : W p l e room_1 s m #[Value.ref b0] below meth c H locs (52 + 15 * k) (98998 + 13306 * k) (lw_Z below #[Value.ref b0] s) (F0 m 1077 ls []) := by
  obtain ⟨hx, hb, hr, hml, hown, hts, hX, hbl, hlocks, hgv⟩ := id C0
  have ht : ∀ w ∈ w_all, w.before #[Value.ref b0] s = true := fun w h => hts w (w_tbl h)
  have hA : ∀ x : Nat, s.heap.size ≤ x → (fun x : Nat => s.heap.size ≤ x) x := fun _ h => h
  have hbA : ¬ (fun x : Nat => s.heap.size ≤ x) b0 := Nat.not_le.mpr hbl
  have hown : s.vm.findClass RL = some m.cls := hown
  refine lv_aload_n hx hb dL_law_1077 rfl (lv_at hl 2 rfl) ?_
  refine lv_aload_n hx hb dL_law_1078 rfl (lv_at hl 3 rfl) ?_
  refine lv_iload_n hx hb dL_law_1079 rfl (lv_at hl 0 rfl) ?_
  refine lv_iconst (v := 1) hx hb dL_law_1080 (by decide) ?_
  refine lv_iadd hx hb dL_law_1081 ?_
  refine ab_i (v := nI (6 * k + 1)) (nI_plus (6 * k) 1) ?_
  refine va_sld hx hb hX hbl hbA hS (lp_in hk hL (by decide)) dL_law_1082 ?_
  refine lv_aload_n hx hb dL_law_1083 rfl (lv_at hl 3 rfl) ?_
  refine lv_iload_n hx hb dL_law_1084 rfl (lv_at hl 0 rfl) ?_
  refine lv_iconst (v := 2) hx hb dL_law_1085 (by decide) ?_
  refine lv_iadd hx hb dL_law_1086 ?_
  refine ab_i (v := nI (6 * k + 2)) (nI_plus (6 * k) 2) ?_
  refine va_sld hx hb hX hbl hbA hS (lp_in hk hL (by decide)) dL_law_1087 ?_
  obtain ⟨r6, r7, M2, mn, hu, hv, hn⟩ := pl_usual (l := l) (D := D) (x1 := (xs (Int32.toNatClampNeg (nI (6 * k + 1))))) (x2 := (xs (Int32.toNatClampNeg (nI (6 * k + 2))))) hC hM hJ
  refine un_gori (w := wC) (wo := wM) (rest := []) hu (List.Perm.refl _) hx hb hml hown ht wd_X6_usual mw_1061 hQ hV hS hP rfl rfl hl.1 rfl (Nat.le_of_ble_eq_true rfl) dL_law_1088 ⟨Nat.le_of_ble_eq_true rfl, Nat.le_of_ble_eq_true rfl, rfl, rfl⟩ (lp_rm (mc := 0) (ms := 0) hk hL (by decide) (by decide)) (fun r_1 er_1 => ?_)
  refine lv_pop hx hb dL_law_1091 rfl ?_
  refine lv_aload_n hx hb dL_law_1092 rfl (lv_at hl 1 rfl) ?_
  refine lv_aload_n hx hb dL_law_1093 rfl (lv_at hl 3 rfl) ?_
  refine lv_iload_n hx hb dL_law_1094 rfl (lv_at hl 0 rfl) ?_
  refine lv_iconst (v := 1) hx hb dL_law_1095 (by decide) ?_
  refine lv_iadd hx hb dL_law_1096 ?_
  refine ab_i (v := nI (6 * k + 1)) (nI_plus (6 * k) 1) ?_
  refine va_sld hx hb hX hbl hbA hS (lp_in hk hL (by decide)) dL_law_1097 ?_
  refine lv_aload_n hx hb dL_law_1098 rfl (lv_at hl 3 rfl) ?_
  refine lv_iload_n hx hb dL_law_1099 rfl (lv_at hl 0 rfl) ?_
  refine lv_iconst (v := 2) hx hb dL_law_1100 (by decide) ?_
  refine lv_iadd hx hb dL_law_1101 ?_
  refine ab_i (v := nI (6 * k + 2)) (nI_plus (6 * k) 2) ?_
  refine va_sld hx hb hX hbl hbA hS (lp_in hk hL (by decide)) dL_law_1102 ?_
  refine un_gori (w := wM) (wo := wC) (rest := []) hv List.perm_append_comm hx hb hml hown ht wd_X7_usual mw_1700 hQ hV hS hP rfl rfl hl.1 rfl (Nat.le_of_ble_eq_true rfl) dL_law_1103 ⟨Nat.le_of_ble_eq_true rfl, Nat.le_of_ble_eq_true rfl, rfl, rfl⟩ (lp_rm (mc := 0) (ms := 0) hk hL (by decide) (by decide)) (fun r_2 er_2 => ?_)
  have hM : m_W q b mn wM := by rw [hn.1]; exact hM
  have hJ := hn.2
  refine lv_pop hx hb dL_law_1106 rfl ?_
  refine lv_goto (tgt := 1334) hx hb dL_law_1107 (by decide) ?_
  refine W.widen (k := 52 + 15 * (k + 1)) (n := 98998 + 13306 * (k + 1)) (by omega) (by omega) ?_
  exact kk M2 s1 s2 s3 s4 s5 s6 z7 mn wC wM H locs hC hM hJ hP hD hS

set_option maxHeartbeats 4000000 in
set_option maxRecDepth 100000 in
/-- better -/
theorem lc_32 {p : Program} {e : Env} {s : State} {m : MethodId} {below : List Frame} {meth : Method} {c : Code} {l : Launch} {b0 L : Nat} {xs : Nat → Int32} (C0 : lw_At p s m meth c b0 L xs) (hL : L ≤ 3072) {k : Nat} (hk : 6 * k + 6 ≤ L) {D : va_G} {q : Nat → ClassId} (hQ : kn D q s) (hV : sv q (fun x : Nat => s.heap.size ≤ x) s s.heap) {a b : Nat} {N : Int} {s1 : Tp} {s2 s3 : Bd} {s4 : Mo} {s5 : Pg} {s6 : Pa} {z7 : Nat → Option Bd} {md : Md} {wC wM : va_W} (hC : c_W q a s1 s2 s3 s4 s5 s6 z7 wC) (hM : m_W q b md wM) (hJ : JJ N s1 s2 s3 s4 s5 s6 z7 md) {H : Heap} {locs : List Loc} {ls : Array Slot} (hP : va_P D vwCl (wC ++ wM) H) (hD : va_D (fun x : Nat => s.heap.size ≤ x) (wC ++ wM)) (hS : va_S (fun x : Nat => s.heap.size ≤ x) s.heap H locs) (hl : lv_has ls 4 [(3, .int (nI (6 * k))), (2, .ref b), (1, .ref a), (0, .ref b0)]) (kk : ∀ (N2 : Int) (t1 : Tp) (t2 t3 : Bd) (t4 : Mo) (t5 : Pg) (t6 : Pa) (t7 : Nat → Option Bd) (m2 : Md) (wC2 wM2 : va_W) (H : Heap) (locs : List Loc), c_W q a t1 t2 t3 t4 t5 t6 t7 wC2 → m_W q b m2 wM2 → JJ N2 t1 t2 t3 t4 t5 t6 t7 m2 → va_P D vwCl (wC2 ++ wM2) H → va_D (fun x : Nat => s.heap.size ≤ x) (wC2 ++ wM2) → va_S (fun x : Nat => s.heap.size ≤ x) s.heap H locs → W p l e room_1 s m #[Value.ref b0] below meth c H locs (52 + 15 * (k + 1)) (98998 + 13306 * (k + 1)) (lw_Z below #[Value.ref b0] s) (F0 m 1334 ls [])) : W p l e room_1 s m #[Value.ref b0] below meth c H locs (52 + 15 * k) (98998 + 13306 * k) (lw_Z below #[Value.ref b0] s) (F0 m 1110 ls []) := by
  obtain ⟨hx, hb, hr, hml, hown, hts, hX, hbl, hlocks, hgv⟩ := id C0
  have ht : ∀ w ∈ w_all, w.before #[Value.ref b0] s = true := fun w h => hts w (w_tbl h)
  have hA : ∀ x : Nat, s.heap.size ≤ x → (fun x : Nat => s.heap.size ≤ x) x := fun _ h => h
  have hbA : ¬ (fun x : Nat => s.heap.size ≤ x) b0 := Nat.not_le.mpr hbl
  have hown : s.vm.findClass RL = some m.cls := hown
  refine lv_aload_n hx hb dL_law_1110 rfl (lv_at hl 2 rfl) ?_
  refine lv_aload_n hx hb dL_law_1111 rfl (lv_at hl 3 rfl) ?_
  refine lv_iload_n hx hb dL_law_1112 rfl (lv_at hl 0 rfl) ?_
  refine lv_iconst (v := 1) hx hb dL_law_1113 (by decide) ?_
  refine lv_iadd hx hb dL_law_1114 ?_
  refine ab_i (v := nI (6 * k + 1)) (nI_plus (6 * k) 1) ?_
  refine va_sld hx hb hX hbl hbA hS (lp_in hk hL (by decide)) dL_law_1115 ?_
  refine lv_aload_n hx hb dL_law_1116 rfl (lv_at hl 3 rfl) ?_
  refine lv_iload_n hx hb dL_law_1117 rfl (lv_at hl 0 rfl) ?_
  refine lv_iconst (v := 2) hx hb dL_law_1118 (by decide) ?_
  refine lv_iadd hx hb dL_law_1119 ?_
  refine ab_i (v := nI (6 * k + 2)) (nI_plus (6 * k) 2) ?_
  refine va_sld hx hb hX hbl hbA hS (lp_in hk hL (by decide)) dL_law_1120 ?_
  obtain ⟨r6, r7, M2, mn, hu, hv, hn⟩ := pl_better (l := l) (D := D) (x1 := (xs (Int32.toNatClampNeg (nI (6 * k + 1))))) (x2 := (xs (Int32.toNatClampNeg (nI (6 * k + 2))))) hC hM hJ
  refine un_gori (w := wC) (wo := wM) (rest := []) hu (List.Perm.refl _) hx hb hml hown ht wd_X6_better mw_1065 hQ hV hS hP rfl rfl hl.1 rfl (Nat.le_of_ble_eq_true rfl) dL_law_1121 ⟨Nat.le_of_ble_eq_true rfl, Nat.le_of_ble_eq_true rfl, rfl, rfl⟩ (lp_rm (mc := 0) (ms := 0) hk hL (by decide) (by decide)) (fun r_1 er_1 => ?_)
  refine lv_pop hx hb dL_law_1124 rfl ?_
  refine lv_aload_n hx hb dL_law_1125 rfl (lv_at hl 1 rfl) ?_
  refine lv_aload_n hx hb dL_law_1126 rfl (lv_at hl 3 rfl) ?_
  refine lv_iload_n hx hb dL_law_1127 rfl (lv_at hl 0 rfl) ?_
  refine lv_iconst (v := 1) hx hb dL_law_1128 (by decide) ?_
  refine lv_iadd hx hb dL_law_1129 ?_
  refine ab_i (v := nI (6 * k + 1)) (nI_plus (6 * k) 1) ?_
  refine va_sld hx hb hX hbl hbA hS (lp_in hk hL (by decide)) dL_law_1130 ?_
  refine lv_aload_n hx hb dL_law_1131 rfl (lv_at hl 3 rfl) ?_
  refine lv_iload_n hx hb dL_law_1132 rfl (lv_at hl 0 rfl) ?_
  refine lv_iconst (v := 2) hx hb dL_law_1133 (by decide) ?_
  refine lv_iadd hx hb dL_law_1134 ?_
  refine ab_i (v := nI (6 * k + 2)) (nI_plus (6 * k) 2) ?_
  refine va_sld hx hb hX hbl hbA hS (lp_in hk hL (by decide)) dL_law_1135 ?_
  refine un_gori (w := wM) (wo := wC) (rest := []) hv List.perm_append_comm hx hb hml hown ht wd_X7_better mw_1530 hQ hV hS hP rfl rfl hl.1 rfl (Nat.le_of_ble_eq_true rfl) dL_law_1136 ⟨Nat.le_of_ble_eq_true rfl, Nat.le_of_ble_eq_true rfl, rfl, rfl⟩ (lp_rm (mc := 0) (ms := 0) hk hL (by decide) (by decide)) (fun r_2 er_2 => ?_)
  have hM : m_W q b mn wM := by rw [hn.1]; exact hM
  have hJ := hn.2
  refine lv_pop hx hb dL_law_1139 rfl ?_
  refine lv_goto (tgt := 1334) hx hb dL_law_1140 (by decide) ?_
  refine W.widen (k := 52 + 15 * (k + 1)) (n := 98998 + 13306 * (k + 1)) (by omega) (by omega) ?_
  exact kk M2 s1 s2 s3 s4 s5 s6 z7 mn wC wM H locs hC hM hJ hP hD hS

set_option maxHeartbeats 4000000 in
set_option maxRecDepth 100000 in
/-- farthest -/
theorem lc_33 {p : Program} {e : Env} {s : State} {m : MethodId} {below : List Frame} {meth : Method} {c : Code} {l : Launch} {b0 L : Nat} {xs : Nat → Int32} (C0 : lw_At p s m meth c b0 L xs) (hL : L ≤ 3072) {k : Nat} (hk : 6 * k + 6 ≤ L) {D : va_G} {q : Nat → ClassId} (hQ : kn D q s) (hV : sv q (fun x : Nat => s.heap.size ≤ x) s s.heap) {a b : Nat} {N : Int} {s1 : Tp} {s2 s3 : Bd} {s4 : Mo} {s5 : Pg} {s6 : Pa} {z7 : Nat → Option Bd} {md : Md} {wC wM : va_W} (hC : c_W q a s1 s2 s3 s4 s5 s6 z7 wC) (hM : m_W q b md wM) (hJ : JJ N s1 s2 s3 s4 s5 s6 z7 md) {H : Heap} {locs : List Loc} {ls : Array Slot} (hP : va_P D vwCl (wC ++ wM) H) (hD : va_D (fun x : Nat => s.heap.size ≤ x) (wC ++ wM)) (hS : va_S (fun x : Nat => s.heap.size ≤ x) s.heap H locs) (hl : lv_has ls 4 [(3, .int (nI (6 * k))), (2, .ref b), (1, .ref a), (0, .ref b0)]) (kk : ∀ (N2 : Int) (t1 : Tp) (t2 t3 : Bd) (t4 : Mo) (t5 : Pg) (t6 : Pa) (t7 : Nat → Option Bd) (m2 : Md) (wC2 wM2 : va_W) (H : Heap) (locs : List Loc), c_W q a t1 t2 t3 t4 t5 t6 t7 wC2 → m_W q b m2 wM2 → JJ N2 t1 t2 t3 t4 t5 t6 t7 m2 → va_P D vwCl (wC2 ++ wM2) H → va_D (fun x : Nat => s.heap.size ≤ x) (wC2 ++ wM2) → va_S (fun x : Nat => s.heap.size ≤ x) s.heap H locs → W p l e room_1 s m #[Value.ref b0] below meth c H locs (52 + 15 * (k + 1)) (98998 + 13306 * (k + 1)) (lw_Z below #[Value.ref b0] s) (F0 m 1334 ls [])) : W p l e room_1 s m #[Value.ref b0] below meth c H locs (52 + 15 * k) (98998 + 13306 * k) (lw_Z below #[Value.ref b0] s) (F0 m 1143 ls []) := by
  obtain ⟨hx, hb, hr, hml, hown, hts, hX, hbl, hlocks, hgv⟩ := id C0
  have ht : ∀ w ∈ w_all, w.before #[Value.ref b0] s = true := fun w h => hts w (w_tbl h)
  have hA : ∀ x : Nat, s.heap.size ≤ x → (fun x : Nat => s.heap.size ≤ x) x := fun _ h => h
  have hbA : ¬ (fun x : Nat => s.heap.size ≤ x) b0 := Nat.not_le.mpr hbl
  have hown : s.vm.findClass RL = some m.cls := hown
  refine lv_aload_n hx hb dL_law_1143 rfl (lv_at hl 2 rfl) ?_
  refine lv_aload_n hx hb dL_law_1144 rfl (lv_at hl 3 rfl) ?_
  refine lv_iload_n hx hb dL_law_1145 rfl (lv_at hl 0 rfl) ?_
  refine lv_iconst (v := 1) hx hb dL_law_1146 (by decide) ?_
  refine lv_iadd hx hb dL_law_1147 ?_
  refine ab_i (v := nI (6 * k + 1)) (nI_plus (6 * k) 1) ?_
  refine va_sld hx hb hX hbl hbA hS (lp_in hk hL (by decide)) dL_law_1148 ?_
  refine lv_aload_n hx hb dL_law_1149 rfl (lv_at hl 3 rfl) ?_
  refine lv_iload_n hx hb dL_law_1150 rfl (lv_at hl 0 rfl) ?_
  refine lv_iconst (v := 2) hx hb dL_law_1151 (by decide) ?_
  refine lv_iadd hx hb dL_law_1152 ?_
  refine ab_i (v := nI (6 * k + 2)) (nI_plus (6 * k) 2) ?_
  refine va_sld hx hb hX hbl hbA hS (lp_in hk hL (by decide)) dL_law_1153 ?_
  obtain ⟨r6, r7, M2, mn, hu, hv, hn⟩ := pl_farthest (l := l) (D := D) (x1 := (xs (Int32.toNatClampNeg (nI (6 * k + 1))))) (x2 := (xs (Int32.toNatClampNeg (nI (6 * k + 2))))) hC hM hJ
  refine un_gori (w := wC) (wo := wM) (rest := []) hu (List.Perm.refl _) hx hb hml hown ht wd_X6_farthest mw_1073 hQ hV hS hP rfl rfl hl.1 rfl (Nat.le_of_ble_eq_true rfl) dL_law_1154 ⟨Nat.le_of_ble_eq_true rfl, Nat.le_of_ble_eq_true rfl, rfl, rfl⟩ (lp_rm (mc := 0) (ms := 0) hk hL (by decide) (by decide)) (fun r_1 er_1 => ?_)
  refine lv_pop hx hb dL_law_1157 rfl ?_
  refine lv_aload_n hx hb dL_law_1158 rfl (lv_at hl 1 rfl) ?_
  refine lv_aload_n hx hb dL_law_1159 rfl (lv_at hl 3 rfl) ?_
  refine lv_iload_n hx hb dL_law_1160 rfl (lv_at hl 0 rfl) ?_
  refine lv_iconst (v := 1) hx hb dL_law_1161 (by decide) ?_
  refine lv_iadd hx hb dL_law_1162 ?_
  refine ab_i (v := nI (6 * k + 1)) (nI_plus (6 * k) 1) ?_
  refine va_sld hx hb hX hbl hbA hS (lp_in hk hL (by decide)) dL_law_1163 ?_
  refine lv_aload_n hx hb dL_law_1164 rfl (lv_at hl 3 rfl) ?_
  refine lv_iload_n hx hb dL_law_1165 rfl (lv_at hl 0 rfl) ?_
  refine lv_iconst (v := 2) hx hb dL_law_1166 (by decide) ?_
  refine lv_iadd hx hb dL_law_1167 ?_
  refine ab_i (v := nI (6 * k + 2)) (nI_plus (6 * k) 2) ?_
  refine va_sld hx hb hX hbl hbA hS (lp_in hk hL (by decide)) dL_law_1168 ?_
  refine un_gori (w := wM) (wo := wC) (rest := []) hv List.perm_append_comm hx hb hml hown ht wd_X7_farthest mw_1534 hQ hV hS hP rfl rfl hl.1 rfl (Nat.le_of_ble_eq_true rfl) dL_law_1169 ⟨Nat.le_of_ble_eq_true rfl, Nat.le_of_ble_eq_true rfl, rfl, rfl⟩ (lp_rm (mc := 0) (ms := 0) hk hL (by decide) (by decide)) (fun r_2 er_2 => ?_)
  have hM : m_W q b mn wM := by rw [hn.1]; exact hM
  have hJ := hn.2
  refine lv_pop hx hb dL_law_1172 rfl ?_
  refine lv_goto (tgt := 1334) hx hb dL_law_1173 (by decide) ?_
  refine W.widen (k := 52 + 15 * (k + 1)) (n := 98998 + 13306 * (k + 1)) (by omega) (by omega) ?_
  exact kk M2 s1 s2 s3 s4 s5 s6 z7 mn wC wM H locs hC hM hJ hP hD hS

set_option maxHeartbeats 4000000 in
set_option maxRecDepth 100000 in
/-- lacks -/
theorem lc_34 {p : Program} {e : Env} {s : State} {m : MethodId} {below : List Frame} {meth : Method} {c : Code} {l : Launch} {b0 L : Nat} {xs : Nat → Int32} (C0 : lw_At p s m meth c b0 L xs) (hL : L ≤ 3072) {k : Nat} (hk : 6 * k + 6 ≤ L) {D : va_G} {q : Nat → ClassId} (hQ : kn D q s) (hV : sv q (fun x : Nat => s.heap.size ≤ x) s s.heap) {a b : Nat} {N : Int} {s1 : Tp} {s2 s3 : Bd} {s4 : Mo} {s5 : Pg} {s6 : Pa} {z7 : Nat → Option Bd} {md : Md} {wC wM : va_W} (hC : c_W q a s1 s2 s3 s4 s5 s6 z7 wC) (hM : m_W q b md wM) (hJ : JJ N s1 s2 s3 s4 s5 s6 z7 md) {H : Heap} {locs : List Loc} {ls : Array Slot} (hP : va_P D vwCl (wC ++ wM) H) (hD : va_D (fun x : Nat => s.heap.size ≤ x) (wC ++ wM)) (hS : va_S (fun x : Nat => s.heap.size ≤ x) s.heap H locs) (hl : lv_has ls 4 [(3, .int (nI (6 * k))), (2, .ref b), (1, .ref a), (0, .ref b0)]) (kk : ∀ (N2 : Int) (t1 : Tp) (t2 t3 : Bd) (t4 : Mo) (t5 : Pg) (t6 : Pa) (t7 : Nat → Option Bd) (m2 : Md) (wC2 wM2 : va_W) (H : Heap) (locs : List Loc), c_W q a t1 t2 t3 t4 t5 t6 t7 wC2 → m_W q b m2 wM2 → JJ N2 t1 t2 t3 t4 t5 t6 t7 m2 → va_P D vwCl (wC2 ++ wM2) H → va_D (fun x : Nat => s.heap.size ≤ x) (wC2 ++ wM2) → va_S (fun x : Nat => s.heap.size ≤ x) s.heap H locs → W p l e room_1 s m #[Value.ref b0] below meth c H locs (52 + 15 * (k + 1)) (98998 + 13306 * (k + 1)) (lw_Z below #[Value.ref b0] s) (F0 m 1334 ls [])) : W p l e room_1 s m #[Value.ref b0] below meth c H locs (52 + 15 * k) (98998 + 13306 * k) (lw_Z below #[Value.ref b0] s) (F0 m 1176 ls []) := by
  obtain ⟨hx, hb, hr, hml, hown, hts, hX, hbl, hlocks, hgv⟩ := id C0
  have ht : ∀ w ∈ w_all, w.before #[Value.ref b0] s = true := fun w h => hts w (w_tbl h)
  have hA : ∀ x : Nat, s.heap.size ≤ x → (fun x : Nat => s.heap.size ≤ x) x := fun _ h => h
  have hbA : ¬ (fun x : Nat => s.heap.size ≤ x) b0 := Nat.not_le.mpr hbl
  have hown : s.vm.findClass RL = some m.cls := hown
  refine lv_aload_n hx hb dL_law_1176 rfl (lv_at hl 2 rfl) ?_
  refine lv_aload_n hx hb dL_law_1177 rfl (lv_at hl 3 rfl) ?_
  refine lv_iload_n hx hb dL_law_1178 rfl (lv_at hl 0 rfl) ?_
  refine lv_iconst (v := 1) hx hb dL_law_1179 (by decide) ?_
  refine lv_iadd hx hb dL_law_1180 ?_
  refine ab_i (v := nI (6 * k + 1)) (nI_plus (6 * k) 1) ?_
  refine va_sld hx hb hX hbl hbA hS (lp_in hk hL (by decide)) dL_law_1181 ?_
  refine lv_aload_n hx hb dL_law_1182 rfl (lv_at hl 3 rfl) ?_
  refine lv_iload_n hx hb dL_law_1183 rfl (lv_at hl 0 rfl) ?_
  refine lv_iconst (v := 2) hx hb dL_law_1184 (by decide) ?_
  refine lv_iadd hx hb dL_law_1185 ?_
  refine ab_i (v := nI (6 * k + 2)) (nI_plus (6 * k) 2) ?_
  refine va_sld hx hb hX hbl hbA hS (lp_in hk hL (by decide)) dL_law_1186 ?_
  obtain ⟨r6, r7, M2, mn, hu, hv, hn⟩ := pl_lacks (l := l) (D := D) (x1 := (xs (Int32.toNatClampNeg (nI (6 * k + 1))))) (x2 := (xs (Int32.toNatClampNeg (nI (6 * k + 2))))) hC hM hJ
  refine un_gori (w := wC) (wo := wM) (rest := []) hu (List.Perm.refl _) hx hb hml hown ht wd_X6_lacks mw_1080 hQ hV hS hP rfl rfl hl.1 rfl (Nat.le_of_ble_eq_true rfl) dL_law_1187 ⟨Nat.le_of_ble_eq_true rfl, Nat.le_of_ble_eq_true rfl, rfl, rfl⟩ (lp_rm (mc := 0) (ms := 0) hk hL (by decide) (by decide)) (fun r_1 er_1 => ?_)
  refine lv_pop hx hb dL_law_1190 rfl ?_
  refine lv_aload_n hx hb dL_law_1191 rfl (lv_at hl 1 rfl) ?_
  refine lv_aload_n hx hb dL_law_1192 rfl (lv_at hl 3 rfl) ?_
  refine lv_iload_n hx hb dL_law_1193 rfl (lv_at hl 0 rfl) ?_
  refine lv_iconst (v := 1) hx hb dL_law_1194 (by decide) ?_
  refine lv_iadd hx hb dL_law_1195 ?_
  refine ab_i (v := nI (6 * k + 1)) (nI_plus (6 * k) 1) ?_
  refine va_sld hx hb hX hbl hbA hS (lp_in hk hL (by decide)) dL_law_1196 ?_
  refine lv_aload_n hx hb dL_law_1197 rfl (lv_at hl 3 rfl) ?_
  refine lv_iload_n hx hb dL_law_1198 rfl (lv_at hl 0 rfl) ?_
  refine lv_iconst (v := 2) hx hb dL_law_1199 (by decide) ?_
  refine lv_iadd hx hb dL_law_1200 ?_
  refine ab_i (v := nI (6 * k + 2)) (nI_plus (6 * k) 2) ?_
  refine va_sld hx hb hX hbl hbA hS (lp_in hk hL (by decide)) dL_law_1201 ?_
  refine un_gori (w := wM) (wo := wC) (rest := []) hv List.perm_append_comm hx hb hml hown ht wd_X7_lacks mw_1538 hQ hV hS hP rfl rfl hl.1 rfl (Nat.le_of_ble_eq_true rfl) dL_law_1202 ⟨Nat.le_of_ble_eq_true rfl, Nat.le_of_ble_eq_true rfl, rfl, rfl⟩ (lp_rm (mc := 0) (ms := 0) hk hL (by decide) (by decide)) (fun r_2 er_2 => ?_)
  have hM : m_W q b mn wM := by rw [hn.1]; exact hM
  have hJ := hn.2
  refine lv_pop hx hb dL_law_1205 rfl ?_
  refine lv_goto (tgt := 1334) hx hb dL_law_1206 (by decide) ?_
  refine W.widen (k := 52 + 15 * (k + 1)) (n := 98998 + 13306 * (k + 1)) (by omega) (by omega) ?_
  exact kk M2 s1 s2 s3 s4 s5 s6 z7 mn wC wM H locs hC hM hJ hP hD hS

set_option maxHeartbeats 4000000 in
set_option maxRecDepth 100000 in
/-- rests -/
theorem lc_35 {p : Program} {e : Env} {s : State} {m : MethodId} {below : List Frame} {meth : Method} {c : Code} {l : Launch} {b0 L : Nat} {xs : Nat → Int32} (C0 : lw_At p s m meth c b0 L xs) (hL : L ≤ 3072) {k : Nat} (hk : 6 * k + 6 ≤ L) {D : va_G} {q : Nat → ClassId} (hQ : kn D q s) (hV : sv q (fun x : Nat => s.heap.size ≤ x) s s.heap) {a b : Nat} {N : Int} {s1 : Tp} {s2 s3 : Bd} {s4 : Mo} {s5 : Pg} {s6 : Pa} {z7 : Nat → Option Bd} {md : Md} {wC wM : va_W} (hC : c_W q a s1 s2 s3 s4 s5 s6 z7 wC) (hM : m_W q b md wM) (hJ : JJ N s1 s2 s3 s4 s5 s6 z7 md) {H : Heap} {locs : List Loc} {ls : Array Slot} (hP : va_P D vwCl (wC ++ wM) H) (hD : va_D (fun x : Nat => s.heap.size ≤ x) (wC ++ wM)) (hS : va_S (fun x : Nat => s.heap.size ≤ x) s.heap H locs) (hl : lv_has ls 4 [(3, .int (nI (6 * k))), (2, .ref b), (1, .ref a), (0, .ref b0)]) (kk : ∀ (N2 : Int) (t1 : Tp) (t2 t3 : Bd) (t4 : Mo) (t5 : Pg) (t6 : Pa) (t7 : Nat → Option Bd) (m2 : Md) (wC2 wM2 : va_W) (H : Heap) (locs : List Loc), c_W q a t1 t2 t3 t4 t5 t6 t7 wC2 → m_W q b m2 wM2 → JJ N2 t1 t2 t3 t4 t5 t6 t7 m2 → va_P D vwCl (wC2 ++ wM2) H → va_D (fun x : Nat => s.heap.size ≤ x) (wC2 ++ wM2) → va_S (fun x : Nat => s.heap.size ≤ x) s.heap H locs → W p l e room_1 s m #[Value.ref b0] below meth c H locs (52 + 15 * (k + 1)) (98998 + 13306 * (k + 1)) (lw_Z below #[Value.ref b0] s) (F0 m 1334 ls [])) : W p l e room_1 s m #[Value.ref b0] below meth c H locs (52 + 15 * k) (98998 + 13306 * k) (lw_Z below #[Value.ref b0] s) (F0 m 1209 ls []) := by
  obtain ⟨hx, hb, hr, hml, hown, hts, hX, hbl, hlocks, hgv⟩ := id C0
  have ht : ∀ w ∈ w_all, w.before #[Value.ref b0] s = true := fun w h => hts w (w_tbl h)
  have hA : ∀ x : Nat, s.heap.size ≤ x → (fun x : Nat => s.heap.size ≤ x) x := fun _ h => h
  have hbA : ¬ (fun x : Nat => s.heap.size ≤ x) b0 := Nat.not_le.mpr hbl
  have hown : s.vm.findClass RL = some m.cls := hown
  refine lv_aload_n hx hb dL_law_1209 rfl (lv_at hl 2 rfl) ?_
  refine lv_aload_n hx hb dL_law_1210 rfl (lv_at hl 3 rfl) ?_
  refine lv_iload_n hx hb dL_law_1211 rfl (lv_at hl 0 rfl) ?_
  refine lv_iconst (v := 1) hx hb dL_law_1212 (by decide) ?_
  refine lv_iadd hx hb dL_law_1213 ?_
  refine ab_i (v := nI (6 * k + 1)) (nI_plus (6 * k) 1) ?_
  refine va_sld hx hb hX hbl hbA hS (lp_in hk hL (by decide)) dL_law_1214 ?_
  obtain ⟨r6, r7, M2, s3n, s4n, mn, hu, hv, hn⟩ := pl_rests (l := l) (D := D) (x1 := (xs (Int32.toNatClampNeg (nI (6 * k + 1))))) hC hM hJ
  refine un_goi (w := wC) (wo := wM) (rest := []) hu (List.Perm.refl _) hx hb hml hown ht wd_X6_rests mw_1001 hQ hV hS hA hP hD rfl rfl hl.1 rfl (Nat.le_of_ble_eq_true rfl) dL_law_1215 ⟨Nat.le_of_ble_eq_true rfl, Nat.le_of_ble_eq_true rfl, rfl, rfl⟩ (lp_rm (mc := 0) (ms := 0) hk hL (by decide) (by decide)) (fun r_1 wr_1 H locs er_1 hP hD hS => ?_)
  obtain ⟨fr_1, hC⟩ := er_1
  refine lv_pop hx hb dL_law_1218 rfl ?_
  refine lv_aload_n hx hb dL_law_1219 rfl (lv_at hl 1 rfl) ?_
  refine lv_aload_n hx hb dL_law_1220 rfl (lv_at hl 3 rfl) ?_
  refine lv_iload_n hx hb dL_law_1221 rfl (lv_at hl 0 rfl) ?_
  refine lv_iconst (v := 1) hx hb dL_law_1222 (by decide) ?_
  refine lv_iadd hx hb dL_law_1223 ?_
  refine ab_i (v := nI (6 * k + 1)) (nI_plus (6 * k) 1) ?_
  refine va_sld hx hb hX hbl hbA hS (lp_in hk hL (by decide)) dL_law_1224 ?_
  refine un_goi (w := wM) (wo := wr_1) (rest := []) hv List.perm_append_comm hx hb hml hown ht wd_X7_rests mw_1465 hQ hV hS hA hP hD rfl rfl hl.1 rfl (Nat.le_of_ble_eq_true rfl) dL_law_1225 ⟨Nat.le_of_ble_eq_true rfl, Nat.le_of_ble_eq_true rfl, rfl, rfl⟩ (lp_rm (mc := 0) (ms := 0) hk hL (by decide) (by decide)) (fun r_2 wr_2 H locs er_2 hP hD hS => ?_)
  obtain ⟨fr_2, hM⟩ := er_2
  have hP := vp_perm List.perm_append_comm hP
  have hD := vd_perm List.perm_append_comm hD
  have hJ := hn
  refine lv_pop hx hb dL_law_1228 rfl ?_
  refine lv_goto (tgt := 1334) hx hb dL_law_1229 (by decide) ?_
  refine W.widen (k := 52 + 15 * (k + 1)) (n := 98998 + 13306 * (k + 1)) (by omega) (by omega) ?_
  exact kk M2 s1 s2 s3n s4n s5 s6 z7 mn wr_1 wr_2 H locs hC hM hJ hP hD hS

set_option maxHeartbeats 4000000 in
set_option maxRecDepth 100000 in
/-- unlike -/
theorem lc_36 {p : Program} {e : Env} {s : State} {m : MethodId} {below : List Frame} {meth : Method} {c : Code} {l : Launch} {b0 L : Nat} {xs : Nat → Int32} (C0 : lw_At p s m meth c b0 L xs) (hL : L ≤ 3072) {k : Nat} (hk : 6 * k + 6 ≤ L) {D : va_G} {q : Nat → ClassId} (hQ : kn D q s) (hV : sv q (fun x : Nat => s.heap.size ≤ x) s s.heap) {a b : Nat} {N : Int} {s1 : Tp} {s2 s3 : Bd} {s4 : Mo} {s5 : Pg} {s6 : Pa} {z7 : Nat → Option Bd} {md : Md} {wC wM : va_W} (hC : c_W q a s1 s2 s3 s4 s5 s6 z7 wC) (hM : m_W q b md wM) (hJ : JJ N s1 s2 s3 s4 s5 s6 z7 md) {H : Heap} {locs : List Loc} {ls : Array Slot} (hP : va_P D vwCl (wC ++ wM) H) (hD : va_D (fun x : Nat => s.heap.size ≤ x) (wC ++ wM)) (hS : va_S (fun x : Nat => s.heap.size ≤ x) s.heap H locs) (hl : lv_has ls 4 [(3, .int (nI (6 * k))), (2, .ref b), (1, .ref a), (0, .ref b0)]) (kk : ∀ (N2 : Int) (t1 : Tp) (t2 t3 : Bd) (t4 : Mo) (t5 : Pg) (t6 : Pa) (t7 : Nat → Option Bd) (m2 : Md) (wC2 wM2 : va_W) (H : Heap) (locs : List Loc), c_W q a t1 t2 t3 t4 t5 t6 t7 wC2 → m_W q b m2 wM2 → JJ N2 t1 t2 t3 t4 t5 t6 t7 m2 → va_P D vwCl (wC2 ++ wM2) H → va_D (fun x : Nat => s.heap.size ≤ x) (wC2 ++ wM2) → va_S (fun x : Nat => s.heap.size ≤ x) s.heap H locs → W p l e room_1 s m #[Value.ref b0] below meth c H locs (52 + 15 * (k + 1)) (98998 + 13306 * (k + 1)) (lw_Z below #[Value.ref b0] s) (F0 m 1334 ls [])) : W p l e room_1 s m #[Value.ref b0] below meth c H locs (52 + 15 * k) (98998 + 13306 * k) (lw_Z below #[Value.ref b0] s) (F0 m 1232 ls []) := by
  obtain ⟨hx, hb, hr, hml, hown, hts, hX, hbl, hlocks, hgv⟩ := id C0
  have ht : ∀ w ∈ w_all, w.before #[Value.ref b0] s = true := fun w h => hts w (w_tbl h)
  have hA : ∀ x : Nat, s.heap.size ≤ x → (fun x : Nat => s.heap.size ≤ x) x := fun _ h => h
  have hbA : ¬ (fun x : Nat => s.heap.size ≤ x) b0 := Nat.not_le.mpr hbl
  have hown : s.vm.findClass RL = some m.cls := hown
  refine lv_aload_n hx hb dL_law_1232 rfl (lv_at hl 2 rfl) ?_
  refine lv_aload_n hx hb dL_law_1233 rfl (lv_at hl 3 rfl) ?_
  refine lv_iload_n hx hb dL_law_1234 rfl (lv_at hl 0 rfl) ?_
  refine lv_iconst (v := 1) hx hb dL_law_1235 (by decide) ?_
  refine lv_iadd hx hb dL_law_1236 ?_
  refine ab_i (v := nI (6 * k + 1)) (nI_plus (6 * k) 1) ?_
  refine va_sld hx hb hX hbl hbA hS (lp_in hk hL (by decide)) dL_law_1237 ?_
  refine lv_aload_n hx hb dL_law_1238 rfl (lv_at hl 3 rfl) ?_
  refine lv_iload_n hx hb dL_law_1239 rfl (lv_at hl 0 rfl) ?_
  refine lv_iconst (v := 2) hx hb dL_law_1240 (by decide) ?_
  refine lv_iadd hx hb dL_law_1241 ?_
  refine ab_i (v := nI (6 * k + 2)) (nI_plus (6 * k) 2) ?_
  refine va_sld hx hb hX hbl hbA hS (lp_in hk hL (by decide)) dL_law_1242 ?_
  obtain ⟨r6, r7, M2, mn, hu, hv, hn⟩ := pl_unlike (l := l) (D := D) (x1 := (xs (Int32.toNatClampNeg (nI (6 * k + 1))))) (x2 := (xs (Int32.toNatClampNeg (nI (6 * k + 2))))) hC hM hJ
  refine un_gori (w := wC) (wo := wM) (rest := []) hu (List.Perm.refl _) hx hb hml hown ht wd_X6_unlike mw_1100 hQ hV hS hP rfl rfl hl.1 rfl (Nat.le_of_ble_eq_true rfl) dL_law_1243 ⟨Nat.le_of_ble_eq_true rfl, Nat.le_of_ble_eq_true rfl, rfl, rfl⟩ (lp_rm (mc := 0) (ms := 0) hk hL (by decide) (by decide)) (fun r_1 er_1 => ?_)
  refine lv_pop hx hb dL_law_1246 rfl ?_
  refine lv_aload_n hx hb dL_law_1247 rfl (lv_at hl 1 rfl) ?_
  refine lv_aload_n hx hb dL_law_1248 rfl (lv_at hl 3 rfl) ?_
  refine lv_iload_n hx hb dL_law_1249 rfl (lv_at hl 0 rfl) ?_
  refine lv_iconst (v := 1) hx hb dL_law_1250 (by decide) ?_
  refine lv_iadd hx hb dL_law_1251 ?_
  refine ab_i (v := nI (6 * k + 1)) (nI_plus (6 * k) 1) ?_
  refine va_sld hx hb hX hbl hbA hS (lp_in hk hL (by decide)) dL_law_1252 ?_
  refine lv_aload_n hx hb dL_law_1253 rfl (lv_at hl 3 rfl) ?_
  refine lv_iload_n hx hb dL_law_1254 rfl (lv_at hl 0 rfl) ?_
  refine lv_iconst (v := 2) hx hb dL_law_1255 (by decide) ?_
  refine lv_iadd hx hb dL_law_1256 ?_
  refine ab_i (v := nI (6 * k + 2)) (nI_plus (6 * k) 2) ?_
  refine va_sld hx hb hX hbl hbA hS (lp_in hk hL (by decide)) dL_law_1257 ?_
  refine un_gori (w := wM) (wo := wC) (rest := []) hv List.perm_append_comm hx hb hml hown ht wd_X7_unlike mw_1469 hQ hV hS hP rfl rfl hl.1 rfl (Nat.le_of_ble_eq_true rfl) dL_law_1258 ⟨Nat.le_of_ble_eq_true rfl, Nat.le_of_ble_eq_true rfl, rfl, rfl⟩ (lp_rm (mc := 0) (ms := 0) hk hL (by decide) (by decide)) (fun r_2 er_2 => ?_)
  have hM : m_W q b mn wM := by rw [hn.1]; exact hM
  have hJ := hn.2
  refine lv_pop hx hb dL_law_1261 rfl ?_
  refine lv_goto (tgt := 1334) hx hb dL_law_1262 (by decide) ?_
  refine W.widen (k := 52 + 15 * (k + 1)) (n := 98998 + 13306 * (k + 1)) (by omega) (by omega) ?_
  exact kk M2 s1 s2 s3 s4 s5 s6 z7 mn wC wM H locs hC hM hJ hP hD hS

set_option maxHeartbeats 4000000 in
set_option maxRecDepth 100000 in
/-- letter -/
theorem lc_37 {p : Program} {e : Env} {s : State} {m : MethodId} {below : List Frame} {meth : Method} {c : Code} {l : Launch} {b0 L : Nat} {xs : Nat → Int32} (C0 : lw_At p s m meth c b0 L xs) (hL : L ≤ 3072) {k : Nat} (hk : 6 * k + 6 ≤ L) {D : va_G} {q : Nat → ClassId} (hQ : kn D q s) (hV : sv q (fun x : Nat => s.heap.size ≤ x) s s.heap) {a b : Nat} {N : Int} {s1 : Tp} {s2 s3 : Bd} {s4 : Mo} {s5 : Pg} {s6 : Pa} {z7 : Nat → Option Bd} {md : Md} {wC wM : va_W} (hC : c_W q a s1 s2 s3 s4 s5 s6 z7 wC) (hM : m_W q b md wM) (hJ : JJ N s1 s2 s3 s4 s5 s6 z7 md) {H : Heap} {locs : List Loc} {ls : Array Slot} (hP : va_P D vwCl (wC ++ wM) H) (hD : va_D (fun x : Nat => s.heap.size ≤ x) (wC ++ wM)) (hS : va_S (fun x : Nat => s.heap.size ≤ x) s.heap H locs) (hl : lv_has ls 4 [(3, .int (nI (6 * k))), (2, .ref b), (1, .ref a), (0, .ref b0)]) (kk : ∀ (N2 : Int) (t1 : Tp) (t2 t3 : Bd) (t4 : Mo) (t5 : Pg) (t6 : Pa) (t7 : Nat → Option Bd) (m2 : Md) (wC2 wM2 : va_W) (H : Heap) (locs : List Loc), c_W q a t1 t2 t3 t4 t5 t6 t7 wC2 → m_W q b m2 wM2 → JJ N2 t1 t2 t3 t4 t5 t6 t7 m2 → va_P D vwCl (wC2 ++ wM2) H → va_D (fun x : Nat => s.heap.size ≤ x) (wC2 ++ wM2) → va_S (fun x : Nat => s.heap.size ≤ x) s.heap H locs → W p l e room_1 s m #[Value.ref b0] below meth c H locs (52 + 15 * (k + 1)) (98998 + 13306 * (k + 1)) (lw_Z below #[Value.ref b0] s) (F0 m 1334 ls [])) : W p l e room_1 s m #[Value.ref b0] below meth c H locs (52 + 15 * k) (98998 + 13306 * k) (lw_Z below #[Value.ref b0] s) (F0 m 1265 ls []) := by
  obtain ⟨hx, hb, hr, hml, hown, hts, hX, hbl, hlocks, hgv⟩ := id C0
  have ht : ∀ w ∈ w_all, w.before #[Value.ref b0] s = true := fun w h => hts w (w_tbl h)
  have hA : ∀ x : Nat, s.heap.size ≤ x → (fun x : Nat => s.heap.size ≤ x) x := fun _ h => h
  have hbA : ¬ (fun x : Nat => s.heap.size ≤ x) b0 := Nat.not_le.mpr hbl
  have hown : s.vm.findClass RL = some m.cls := hown
  refine lv_aload_n hx hb dL_law_1265 rfl (lv_at hl 2 rfl) ?_
  refine lv_aload_n hx hb dL_law_1266 rfl (lv_at hl 3 rfl) ?_
  refine lv_iload_n hx hb dL_law_1267 rfl (lv_at hl 0 rfl) ?_
  refine lv_iconst (v := 1) hx hb dL_law_1268 (by decide) ?_
  refine lv_iadd hx hb dL_law_1269 ?_
  refine ab_i (v := nI (6 * k + 1)) (nI_plus (6 * k) 1) ?_
  refine va_sld hx hb hX hbl hbA hS (lp_in hk hL (by decide)) dL_law_1270 ?_
  refine lv_aload_n hx hb dL_law_1271 rfl (lv_at hl 3 rfl) ?_
  refine lv_iload_n hx hb dL_law_1272 rfl (lv_at hl 0 rfl) ?_
  refine lv_iconst (v := 2) hx hb dL_law_1273 (by decide) ?_
  refine lv_iadd hx hb dL_law_1274 ?_
  refine ab_i (v := nI (6 * k + 2)) (nI_plus (6 * k) 2) ?_
  refine va_sld hx hb hX hbl hbA hS (lp_in hk hL (by decide)) dL_law_1275 ?_
  obtain ⟨r6, r7, M2, mn, hu, hv, hn⟩ := pl_letter (l := l) (D := D) (x1 := (xs (Int32.toNatClampNeg (nI (6 * k + 1))))) (x2 := (xs (Int32.toNatClampNeg (nI (6 * k + 2))))) hC hM hJ
  refine un_gori (w := wC) (wo := wM) (rest := []) hu (List.Perm.refl _) hx hb hml hown ht wd_X6_letter mw_1105 hQ hV hS hP rfl rfl hl.1 rfl (Nat.le_of_ble_eq_true rfl) dL_law_1276 ⟨Nat.le_of_ble_eq_true rfl, Nat.le_of_ble_eq_true rfl, rfl, rfl⟩ (lp_rm (mc := 0) (ms := 0) hk hL (by decide) (by decide)) (fun r_1 er_1 => ?_)
  refine lv_pop hx hb dL_law_1279 rfl ?_
  refine lv_aload_n hx hb dL_law_1280 rfl (lv_at hl 1 rfl) ?_
  refine lv_aload_n hx hb dL_law_1281 rfl (lv_at hl 3 rfl) ?_
  refine lv_iload_n hx hb dL_law_1282 rfl (lv_at hl 0 rfl) ?_
  refine lv_iconst (v := 1) hx hb dL_law_1283 (by decide) ?_
  refine lv_iadd hx hb dL_law_1284 ?_
  refine ab_i (v := nI (6 * k + 1)) (nI_plus (6 * k) 1) ?_
  refine va_sld hx hb hX hbl hbA hS (lp_in hk hL (by decide)) dL_law_1285 ?_
  refine lv_aload_n hx hb dL_law_1286 rfl (lv_at hl 3 rfl) ?_
  refine lv_iload_n hx hb dL_law_1287 rfl (lv_at hl 0 rfl) ?_
  refine lv_iconst (v := 2) hx hb dL_law_1288 (by decide) ?_
  refine lv_iadd hx hb dL_law_1289 ?_
  refine ab_i (v := nI (6 * k + 2)) (nI_plus (6 * k) 2) ?_
  refine va_sld hx hb hX hbl hbA hS (lp_in hk hL (by decide)) dL_law_1290 ?_
  refine un_gori (w := wM) (wo := wC) (rest := []) hv List.perm_append_comm hx hb hml hown ht wd_X7_letter mw_1479 hQ hV hS hP rfl rfl hl.1 rfl (Nat.le_of_ble_eq_true rfl) dL_law_1291 ⟨Nat.le_of_ble_eq_true rfl, Nat.le_of_ble_eq_true rfl, rfl, rfl⟩ (lp_rm (mc := 0) (ms := 0) hk hL (by decide) (by decide)) (fun r_2 er_2 => ?_)
  have hM : m_W q b mn wM := by rw [hn.1]; exact hM
  have hJ := hn.2
  refine lv_pop hx hb dL_law_1294 rfl ?_
  refine lv_goto (tgt := 1334) hx hb dL_law_1295 (by decide) ?_
  refine W.widen (k := 52 + 15 * (k + 1)) (n := 98998 + 13306 * (k + 1)) (by omega) (by omega) ?_
  exact kk M2 s1 s2 s3 s4 s5 s6 z7 mn wC wM H locs hC hM hJ hP hD hS

set_option maxHeartbeats 4000000 in
set_option maxRecDepth 100000 in
/-- digest -/
theorem lc_38 {p : Program} {e : Env} {s : State} {m : MethodId} {below : List Frame} {meth : Method} {c : Code} {l : Launch} {b0 L : Nat} {xs : Nat → Int32} (C0 : lw_At p s m meth c b0 L xs) (hL : L ≤ 3072) {k : Nat} (hk : 6 * k + 6 ≤ L) {D : va_G} {q : Nat → ClassId} (hQ : kn D q s) (hV : sv q (fun x : Nat => s.heap.size ≤ x) s s.heap) {a b : Nat} {N : Int} {s1 : Tp} {s2 s3 : Bd} {s4 : Mo} {s5 : Pg} {s6 : Pa} {z7 : Nat → Option Bd} {md : Md} {wC wM : va_W} (hC : c_W q a s1 s2 s3 s4 s5 s6 z7 wC) (hM : m_W q b md wM) (hJ : JJ N s1 s2 s3 s4 s5 s6 z7 md) {H : Heap} {locs : List Loc} {ls : Array Slot} (hP : va_P D vwCl (wC ++ wM) H) (hD : va_D (fun x : Nat => s.heap.size ≤ x) (wC ++ wM)) (hS : va_S (fun x : Nat => s.heap.size ≤ x) s.heap H locs) (hl : lv_has ls 4 [(3, .int (nI (6 * k))), (2, .ref b), (1, .ref a), (0, .ref b0)]) (kk : ∀ (N2 : Int) (t1 : Tp) (t2 t3 : Bd) (t4 : Mo) (t5 : Pg) (t6 : Pa) (t7 : Nat → Option Bd) (m2 : Md) (wC2 wM2 : va_W) (H : Heap) (locs : List Loc), c_W q a t1 t2 t3 t4 t5 t6 t7 wC2 → m_W q b m2 wM2 → JJ N2 t1 t2 t3 t4 t5 t6 t7 m2 → va_P D vwCl (wC2 ++ wM2) H → va_D (fun x : Nat => s.heap.size ≤ x) (wC2 ++ wM2) → va_S (fun x : Nat => s.heap.size ≤ x) s.heap H locs → W p l e room_1 s m #[Value.ref b0] below meth c H locs (52 + 15 * (k + 1)) (98998 + 13306 * (k + 1)) (lw_Z below #[Value.ref b0] s) (F0 m 1334 ls [])) : W p l e room_1 s m #[Value.ref b0] below meth c H locs (52 + 15 * k) (98998 + 13306 * k) (lw_Z below #[Value.ref b0] s) (F0 m 1298 ls []) := by
  obtain ⟨hx, hb, hr, hml, hown, hts, hX, hbl, hlocks, hgv⟩ := id C0
  have ht : ∀ w ∈ w_all, w.before #[Value.ref b0] s = true := fun w h => hts w (w_tbl h)
  have hA : ∀ x : Nat, s.heap.size ≤ x → (fun x : Nat => s.heap.size ≤ x) x := fun _ h => h
  have hbA : ¬ (fun x : Nat => s.heap.size ≤ x) b0 := Nat.not_le.mpr hbl
  have hown : s.vm.findClass RL = some m.cls := hown
  refine lv_aload_n hx hb dL_law_1298 rfl (lv_at hl 2 rfl) ?_
  obtain ⟨r6, r7, M2, mn, hu, hv, hn⟩ := pl_digest (l := l) (D := D)  hC hM hJ
  refine un_gorl (w := wC) (wo := wM) (rest := []) hu (List.Perm.refl _) hx hb hml hown ht wd_X6_digest mw_1109 hQ hV hS hP rfl rfl hl.1 rfl (Nat.le_of_ble_eq_true rfl) dL_law_1299 ⟨Nat.le_of_ble_eq_true rfl, Nat.le_of_ble_eq_true rfl, rfl, rfl⟩ (lp_rm (mc := 0) (ms := 0) hk hL (by decide) (by decide)) (fun r_1 er_1 => ?_)
  refine lv_pop2_2 hx hb dL_law_1302 rfl ?_
  refine lv_aload_n hx hb dL_law_1303 rfl (lv_at hl 1 rfl) ?_
  refine un_gorl (w := wM) (wo := wC) (rest := []) hv List.perm_append_comm hx hb hml hown ht wd_X7_digest mw_1473 hQ hV hS hP rfl rfl hl.1 rfl (Nat.le_of_ble_eq_true rfl) dL_law_1304 ⟨Nat.le_of_ble_eq_true rfl, Nat.le_of_ble_eq_true rfl, rfl, rfl⟩ (lp_rm (mc := 0) (ms := 0) hk hL (by decide) (by decide)) (fun r_2 er_2 => ?_)
  have hM : m_W q b mn wM := by rw [hn.1]; exact hM
  have hJ := hn.2
  refine lv_pop2_2 hx hb dL_law_1307 rfl ?_
  refine lv_goto (tgt := 1334) hx hb dL_law_1308 (by decide) ?_
  refine W.widen (k := 52 + 15 * (k + 1)) (n := 98998 + 13306 * (k + 1)) (by omega) (by omega) ?_
  exact kk M2 s1 s2 s3 s4 s5 s6 z7 mn wC wM H locs hC hM hJ hP hD hS

set_option maxHeartbeats 4000000 in
set_option maxRecDepth 100000 in
/-- count -/
theorem lc_39 {p : Program} {e : Env} {s : State} {m : MethodId} {below : List Frame} {meth : Method} {c : Code} {l : Launch} {b0 L : Nat} {xs : Nat → Int32} (C0 : lw_At p s m meth c b0 L xs) (hL : L ≤ 3072) {k : Nat} (hk : 6 * k + 6 ≤ L) {D : va_G} {q : Nat → ClassId} (hQ : kn D q s) (hV : sv q (fun x : Nat => s.heap.size ≤ x) s s.heap) {a b : Nat} {N : Int} {s1 : Tp} {s2 s3 : Bd} {s4 : Mo} {s5 : Pg} {s6 : Pa} {z7 : Nat → Option Bd} {md : Md} {wC wM : va_W} (hC : c_W q a s1 s2 s3 s4 s5 s6 z7 wC) (hM : m_W q b md wM) (hJ : JJ N s1 s2 s3 s4 s5 s6 z7 md) {H : Heap} {locs : List Loc} {ls : Array Slot} (hP : va_P D vwCl (wC ++ wM) H) (hD : va_D (fun x : Nat => s.heap.size ≤ x) (wC ++ wM)) (hS : va_S (fun x : Nat => s.heap.size ≤ x) s.heap H locs) (hl : lv_has ls 4 [(3, .int (nI (6 * k))), (2, .ref b), (1, .ref a), (0, .ref b0)]) (kk : ∀ (N2 : Int) (t1 : Tp) (t2 t3 : Bd) (t4 : Mo) (t5 : Pg) (t6 : Pa) (t7 : Nat → Option Bd) (m2 : Md) (wC2 wM2 : va_W) (H : Heap) (locs : List Loc), c_W q a t1 t2 t3 t4 t5 t6 t7 wC2 → m_W q b m2 wM2 → JJ N2 t1 t2 t3 t4 t5 t6 t7 m2 → va_P D vwCl (wC2 ++ wM2) H → va_D (fun x : Nat => s.heap.size ≤ x) (wC2 ++ wM2) → va_S (fun x : Nat => s.heap.size ≤ x) s.heap H locs → W p l e room_1 s m #[Value.ref b0] below meth c H locs (52 + 15 * (k + 1)) (98998 + 13306 * (k + 1)) (lw_Z below #[Value.ref b0] s) (F0 m 1334 ls [])) : W p l e room_1 s m #[Value.ref b0] below meth c H locs (52 + 15 * k) (98998 + 13306 * k) (lw_Z below #[Value.ref b0] s) (F0 m 1311 ls []) := by
  obtain ⟨hx, hb, hr, hml, hown, hts, hX, hbl, hlocks, hgv⟩ := id C0
  have ht : ∀ w ∈ w_all, w.before #[Value.ref b0] s = true := fun w h => hts w (w_tbl h)
  have hA : ∀ x : Nat, s.heap.size ≤ x → (fun x : Nat => s.heap.size ≤ x) x := fun _ h => h
  have hbA : ¬ (fun x : Nat => s.heap.size ≤ x) b0 := Nat.not_le.mpr hbl
  have hown : s.vm.findClass RL = some m.cls := hown
  refine lv_aload_n hx hb dL_law_1311 rfl (lv_at hl 2 rfl) ?_
  refine lv_aload_n hx hb dL_law_1312 rfl (lv_at hl 3 rfl) ?_
  refine lv_iload_n hx hb dL_law_1313 rfl (lv_at hl 0 rfl) ?_
  refine lv_iconst (v := 1) hx hb dL_law_1314 (by decide) ?_
  refine lv_iadd hx hb dL_law_1315 ?_
  refine ab_i (v := nI (6 * k + 1)) (nI_plus (6 * k) 1) ?_
  refine va_sld hx hb hX hbl hbA hS (lp_in hk hL (by decide)) dL_law_1316 ?_
  obtain ⟨r6, r7, M2, s4n, s6n, mn, hu, hv, hn⟩ := pl_count (l := l) (D := D) (x1 := (xs (Int32.toNatClampNeg (nI (6 * k + 1))))) hC hM hJ
  refine un_goi (w := wC) (wo := wM) (rest := []) hu (List.Perm.refl _) hx hb hml hown ht wd_X6_count mw_1115 hQ hV hS hA hP hD rfl rfl hl.1 rfl (Nat.le_of_ble_eq_true rfl) dL_law_1317 ⟨Nat.le_of_ble_eq_true rfl, Nat.le_of_ble_eq_true rfl, rfl, rfl⟩ (lp_rm (mc := 0) (ms := 0) hk hL (by decide) (by decide)) (fun r_1 wr_1 H locs er_1 hP hD hS => ?_)
  obtain ⟨fr_1, hC⟩ := er_1
  refine lv_pop hx hb dL_law_1320 rfl ?_
  refine lv_aload_n hx hb dL_law_1321 rfl (lv_at hl 1 rfl) ?_
  refine lv_aload_n hx hb dL_law_1322 rfl (lv_at hl 3 rfl) ?_
  refine lv_iload_n hx hb dL_law_1323 rfl (lv_at hl 0 rfl) ?_
  refine lv_iconst (v := 1) hx hb dL_law_1324 (by decide) ?_
  refine lv_iadd hx hb dL_law_1325 ?_
  refine ab_i (v := nI (6 * k + 1)) (nI_plus (6 * k) 1) ?_
  refine va_sld hx hb hX hbl hbA hS (lp_in hk hL (by decide)) dL_law_1326 ?_
  refine un_goi (w := wM) (wo := wr_1) (rest := []) hv List.perm_append_comm hx hb hml hown ht wd_X7_count mw_1483 hQ hV hS hA hP hD rfl rfl hl.1 rfl (Nat.le_of_ble_eq_true rfl) dL_law_1327 ⟨Nat.le_of_ble_eq_true rfl, Nat.le_of_ble_eq_true rfl, rfl, rfl⟩ (lp_rm (mc := 0) (ms := 0) hk hL (by decide) (by decide)) (fun r_2 wr_2 H locs er_2 hP hD hS => ?_)
  obtain ⟨fr_2, hM⟩ := er_2
  have hP := vp_perm List.perm_append_comm hP
  have hD := vd_perm List.perm_append_comm hD
  have hJ := hn.2
  refine lv_pop hx hb dL_law_1330 rfl ?_
  refine lv_goto (tgt := 1334) hx hb dL_law_1331 (by decide) ?_
  refine W.widen (k := 52 + 15 * (k + 1)) (n := 98998 + 13306 * (k + 1)) (by omega) (by omega) ?_
  exact kk M2 s1 s2 s3 s4n s5 s6n z7 mn wr_1 wr_2 H locs hC hM hJ hP hD hS
