set_option maxHeartbeats 4000000 in
set_option maxRecDepth 100000 in
/-- feed -/
theorem lc_0 {p : Program} {e : Env} {s : State} {m : MethodId} {below : List Frame} {meth : Method} {c : Code} {l : Launch} {b0 L : Nat} {xs : Nat → Int32} (C0 : lw_At p s m meth c b0 L xs) (hL : L ≤ 3072) {k : Nat} (hk : 6 * k + 6 ≤ L) {D : va_G} {q : Nat → ClassId} (hQ : kn D q s) (hV : sv q (fun x : Nat => s.heap.size ≤ x) s s.heap) {a b : Nat} {N : Int} {s1 : Tp} {s2 s3 : Bd} {s4 : Mo} {s5 : Pg} {s6 : Pa} {z7 : Nat → Option Bd} {md : Md} {wC wM : va_W} (hC : c_W q a s1 s2 s3 s4 s5 s6 z7 wC) (hM : m_W q b md wM) (hJ : JJ N s1 s2 s3 s4 s5 s6 z7 md) {H : Heap} {locs : List Loc} {ls : Array Slot} (hP : va_P D vwCl (wC ++ wM) H) (hD : va_D (fun x : Nat => s.heap.size ≤ x) (wC ++ wM)) (hS : va_S (fun x : Nat => s.heap.size ≤ x) s.heap H locs) (hl : lv_has ls 4 [(3, .int (nI (6 * k))), (2, .ref b), (1, .ref a), (0, .ref b0)]) (kk : ∀ (N2 : Int) (t1 : Tp) (t2 t3 : Bd) (t4 : Mo) (t5 : Pg) (t6 : Pa) (t7 : Nat → Option Bd) (m2 : Md) (wC2 wM2 : va_W) (H : Heap) (locs : List Loc), c_W q a t1 t2 t3 t4 t5 t6 t7 wC2 → m_W q b m2 wM2 → JJ N2 t1 t2 t3 t4 t5 t6 t7 m2 → va_P D vwCl (wC2 ++ wM2) H → va_D (fun x : Nat => s.heap.size ≤ x) (wC2 ++ wM2) → va_S (fun x : Nat => s.heap.size ≤ x) s.heap H locs → W p l e room_1 s m #[Value.ref b0] below meth c H locs (52 + 15 * (k + 1)) (98998 + 13306 * (k + 1)) (lw_Z below #[Value.ref b0] s) (F0 m 1334 ls [])) : W p l e room_1 s m #[Value.ref b0] below meth c H locs (52 + 15 * k) (98998 + 13306 * k) (lw_Z below #[Value.ref b0] s) (F0 m 208 ls []) := by
  obtain ⟨hx, hb, hr, hml, hown, hts, hX, hbl, hlocks, hgv⟩ := id C0
  have ht : ∀ w ∈ w_all, w.before #[Value.ref b0] s = true := fun w h => hts w (w_tbl h)
  have hA : ∀ x : Nat, s.heap.size ≤ x → (fun x : Nat => s.heap.size ≤ x) x := fun _ h => h
  have hbA : ¬ (fun x : Nat => s.heap.size ≤ x) b0 := Nat.not_le.mpr hbl
  have hown : s.vm.findClass RL = some m.cls := hown
  refine lv_aload_n hx hb dL_law_208 rfl (lv_at hl 2 rfl) ?_
  refine lv_aload_n hx hb dL_law_209 rfl (lv_at hl 3 rfl) ?_
  refine lv_iload_n hx hb dL_law_210 rfl (lv_at hl 0 rfl) ?_
  refine lv_iconst (v := 1) hx hb dL_law_211 (by decide) ?_
  refine lv_iadd hx hb dL_law_212 ?_
  refine ab_i (v := nI (6 * k + 1)) (nI_plus (6 * k) 1) ?_
  refine va_sld hx hb hX hbl hbA hS (lp_in hk hL (by decide)) dL_law_213 ?_
  refine lv_aload_n hx hb dL_law_214 rfl (lv_at hl 3 rfl) ?_
  refine lv_iload_n hx hb dL_law_215 rfl (lv_at hl 0 rfl) ?_
  refine lv_iconst (v := 2) hx hb dL_law_216 (by decide) ?_
  refine lv_iadd hx hb dL_law_217 ?_
  refine ab_i (v := nI (6 * k + 2)) (nI_plus (6 * k) 2) ?_
  refine va_sld hx hb hX hbl hbA hS (lp_in hk hL (by decide)) dL_law_218 ?_
  refine lv_aload_n hx hb dL_law_219 rfl (lv_at hl 3 rfl) ?_
  refine lv_iload_n hx hb dL_law_220 rfl (lv_at hl 0 rfl) ?_
  refine lv_iconst (v := 3) hx hb dL_law_221 (by decide) ?_
  refine lv_iadd hx hb dL_law_222 ?_
  refine ab_i (v := nI (6 * k + 3)) (nI_plus (6 * k) 3) ?_
  refine va_sld hx hb hX hbl hbA hS (lp_in hk hL (by decide)) dL_law_223 ?_
  refine lv_aload_n hx hb dL_law_224 rfl (lv_at hl 3 rfl) ?_
  refine lv_iload_n hx hb dL_law_225 rfl (lv_at hl 0 rfl) ?_
  refine lv_iconst (v := 4) hx hb dL_law_226 (by decide) ?_
  refine lv_iadd hx hb dL_law_227 ?_
  refine ab_i (v := nI (6 * k + 4)) (nI_plus (6 * k) 4) ?_
  refine va_sld hx hb hX hbl hbA hS (lp_in hk hL (by decide)) dL_law_228 ?_
  refine lv_aload_n hx hb dL_law_229 rfl (lv_at hl 3 rfl) ?_
  refine lv_iload_n hx hb dL_law_230 rfl (lv_at hl 0 rfl) ?_
  refine lv_iconst (v := 5) hx hb dL_law_231 (by decide) ?_
  refine lv_iadd hx hb dL_law_232 ?_
  refine ab_i (v := nI (6 * k + 5)) (nI_plus (6 * k) 5) ?_
  refine va_sld hx hb hX hbl hbA hS (lp_in hk hL (by decide)) dL_law_233 ?_
  obtain ⟨r6, r7, M2, s1n, mn, hu, hv, hn⟩ := pl_feed (l := l) (D := D) (x1 := (xs (Int32.toNatClampNeg (nI (6 * k + 1))))) (x2 := (xs (Int32.toNatClampNeg (nI (6 * k + 2))))) (x3 := (xs (Int32.toNatClampNeg (nI (6 * k + 3))))) (x4 := (xs (Int32.toNatClampNeg (nI (6 * k + 4))))) (x5 := (xs (Int32.toNatClampNeg (nI (6 * k + 5))))) hC hM hJ
  refine un_goi (w := wC) (wo := wM) (rest := []) hu (List.Perm.refl _) hx hb hml hown ht wd_X6_feed mw_377 hQ hV hS hA hP hD rfl rfl hl.1 rfl (Nat.le_of_ble_eq_true rfl) dL_law_234 ⟨Nat.le_of_ble_eq_true rfl, Nat.le_of_ble_eq_true rfl, rfl, rfl⟩ (lp_rm (mc := 0) (ms := 0) hk hL (by decide) (by decide)) (fun r_1 wr_1 H locs er_1 hP hD hS => ?_)
  obtain ⟨fr_1, hC⟩ := er_1
  refine lv_pop hx hb dL_law_237 rfl ?_
  refine lv_aload_n hx hb dL_law_238 rfl (lv_at hl 1 rfl) ?_
  refine lv_aload_n hx hb dL_law_239 rfl (lv_at hl 3 rfl) ?_
  refine lv_iload_n hx hb dL_law_240 rfl (lv_at hl 0 rfl) ?_
  refine lv_iconst (v := 1) hx hb dL_law_241 (by decide) ?_
  refine lv_iadd hx hb dL_law_242 ?_
  refine ab_i (v := nI (6 * k + 1)) (nI_plus (6 * k) 1) ?_
  refine va_sld hx hb hX hbl hbA hS (lp_in hk hL (by decide)) dL_law_243 ?_
  refine lv_aload_n hx hb dL_law_244 rfl (lv_at hl 3 rfl) ?_
  refine lv_iload_n hx hb dL_law_245 rfl (lv_at hl 0 rfl) ?_
  refine lv_iconst (v := 2) hx hb dL_law_246 (by decide) ?_
  refine lv_iadd hx hb dL_law_247 ?_
  refine ab_i (v := nI (6 * k + 2)) (nI_plus (6 * k) 2) ?_
  refine va_sld hx hb hX hbl hbA hS (lp_in hk hL (by decide)) dL_law_248 ?_
  refine lv_aload_n hx hb dL_law_249 rfl (lv_at hl 3 rfl) ?_
  refine lv_iload_n hx hb dL_law_250 rfl (lv_at hl 0 rfl) ?_
  refine lv_iconst (v := 3) hx hb dL_law_251 (by decide) ?_
  refine lv_iadd hx hb dL_law_252 ?_
  refine ab_i (v := nI (6 * k + 3)) (nI_plus (6 * k) 3) ?_
  refine va_sld hx hb hX hbl hbA hS (lp_in hk hL (by decide)) dL_law_253 ?_
  refine lv_aload_n hx hb dL_law_254 rfl (lv_at hl 3 rfl) ?_
  refine lv_iload_n hx hb dL_law_255 rfl (lv_at hl 0 rfl) ?_
  refine lv_iconst (v := 4) hx hb dL_law_256 (by decide) ?_
  refine lv_iadd hx hb dL_law_257 ?_
  refine ab_i (v := nI (6 * k + 4)) (nI_plus (6 * k) 4) ?_
  refine va_sld hx hb hX hbl hbA hS (lp_in hk hL (by decide)) dL_law_258 ?_
  refine lv_aload_n hx hb dL_law_259 rfl (lv_at hl 3 rfl) ?_
  refine lv_iload_n hx hb dL_law_260 rfl (lv_at hl 0 rfl) ?_
  refine lv_iconst (v := 5) hx hb dL_law_261 (by decide) ?_
  refine lv_iadd hx hb dL_law_262 ?_
  refine ab_i (v := nI (6 * k + 5)) (nI_plus (6 * k) 5) ?_
  refine va_sld hx hb hX hbl hbA hS (lp_in hk hL (by decide)) dL_law_263 ?_
  refine un_goi (w := wM) (wo := wr_1) (rest := []) hv List.perm_append_comm hx hb hml hown ht wd_X7_feed mw_1546 hQ hV hS hA hP hD rfl rfl hl.1 rfl (Nat.le_of_ble_eq_true rfl) dL_law_264 ⟨Nat.le_of_ble_eq_true rfl, Nat.le_of_ble_eq_true rfl, rfl, rfl⟩ (lp_rm (mc := 0) (ms := 0) hk hL (by decide) (by decide)) (fun r_2 wr_2 H locs er_2 hP hD hS => ?_)
  obtain ⟨fr_2, hM⟩ := er_2
  have hP := vp_perm List.perm_append_comm hP
  have hD := vd_perm List.perm_append_comm hD
  have hJ := hn
  refine lv_pop hx hb dL_law_267 rfl ?_
  refine lv_goto (tgt := 1334) hx hb dL_law_268 (by decide) ?_
  refine W.widen (k := 52 + 15 * (k + 1)) (n := 98998 + 13306 * (k + 1)) (by omega) (by omega) ?_
  exact kk M2 s1n s2 s3 s4 s5 s6 z7 mn wr_1 wr_2 H locs hC hM hJ hP hD hS

set_option maxHeartbeats 4000000 in
set_option maxRecDepth 100000 in
/-- end -/
theorem lc_1 {p : Program} {e : Env} {s : State} {m : MethodId} {below : List Frame} {meth : Method} {c : Code} {l : Launch} {b0 L : Nat} {xs : Nat → Int32} (C0 : lw_At p s m meth c b0 L xs) (hL : L ≤ 3072) {k : Nat} (hk : 6 * k + 6 ≤ L) {D : va_G} {q : Nat → ClassId} (hQ : kn D q s) (hV : sv q (fun x : Nat => s.heap.size ≤ x) s s.heap) {a b : Nat} {N : Int} {s1 : Tp} {s2 s3 : Bd} {s4 : Mo} {s5 : Pg} {s6 : Pa} {z7 : Nat → Option Bd} {md : Md} {wC wM : va_W} (hC : c_W q a s1 s2 s3 s4 s5 s6 z7 wC) (hM : m_W q b md wM) (hJ : JJ N s1 s2 s3 s4 s5 s6 z7 md) {H : Heap} {locs : List Loc} {ls : Array Slot} (hP : va_P D vwCl (wC ++ wM) H) (hD : va_D (fun x : Nat => s.heap.size ≤ x) (wC ++ wM)) (hS : va_S (fun x : Nat => s.heap.size ≤ x) s.heap H locs) (hl : lv_has ls 4 [(3, .int (nI (6 * k))), (2, .ref b), (1, .ref a), (0, .ref b0)]) (kk : ∀ (N2 : Int) (t1 : Tp) (t2 t3 : Bd) (t4 : Mo) (t5 : Pg) (t6 : Pa) (t7 : Nat → Option Bd) (m2 : Md) (wC2 wM2 : va_W) (H : Heap) (locs : List Loc), c_W q a t1 t2 t3 t4 t5 t6 t7 wC2 → m_W q b m2 wM2 → JJ N2 t1 t2 t3 t4 t5 t6 t7 m2 → va_P D vwCl (wC2 ++ wM2) H → va_D (fun x : Nat => s.heap.size ≤ x) (wC2 ++ wM2) → va_S (fun x : Nat => s.heap.size ≤ x) s.heap H locs → W p l e room_1 s m #[Value.ref b0] below meth c H locs (52 + 15 * (k + 1)) (98998 + 13306 * (k + 1)) (lw_Z below #[Value.ref b0] s) (F0 m 1334 ls [])) : W p l e room_1 s m #[Value.ref b0] below meth c H locs (52 + 15 * k) (98998 + 13306 * k) (lw_Z below #[Value.ref b0] s) (F0 m 271 ls []) := by
  obtain ⟨hx, hb, hr, hml, hown, hts, hX, hbl, hlocks, hgv⟩ := id C0
  have ht : ∀ w ∈ w_all, w.before #[Value.ref b0] s = true := fun w h => hts w (w_tbl h)
  have hA : ∀ x : Nat, s.heap.size ≤ x → (fun x : Nat => s.heap.size ≤ x) x := fun _ h => h
  have hbA : ¬ (fun x : Nat => s.heap.size ≤ x) b0 := Nat.not_le.mpr hbl
  have hown : s.vm.findClass RL = some m.cls := hown
  refine lv_aload_n hx hb dL_law_271 rfl (lv_at hl 2 rfl) ?_
  refine lv_aload_n hx hb dL_law_272 rfl (lv_at hl 3 rfl) ?_
  refine lv_iload_n hx hb dL_law_273 rfl (lv_at hl 0 rfl) ?_
  refine lv_iconst (v := 1) hx hb dL_law_274 (by decide) ?_
  refine lv_iadd hx hb dL_law_275 ?_
  refine ab_i (v := nI (6 * k + 1)) (nI_plus (6 * k) 1) ?_
  refine va_sld hx hb hX hbl hbA hS (lp_in hk hL (by decide)) dL_law_276 ?_
  obtain ⟨r6, r7, M2, s1n, mn, hu, hv, hn⟩ := pl_end (l := l) (D := D) (x1 := (xs (Int32.toNatClampNeg (nI (6 * k + 1))))) hC hM hJ
  refine un_goi (w := wC) (wo := wM) (rest := []) hu (List.Perm.refl _) hx hb hml hown ht wd_X6_end mw_385 hQ hV hS hA hP hD rfl rfl hl.1 rfl (Nat.le_of_ble_eq_true rfl) dL_law_277 ⟨Nat.le_of_ble_eq_true rfl, Nat.le_of_ble_eq_true rfl, rfl, rfl⟩ (lp_rm (mc := 0) (ms := 0) hk hL (by decide) (by decide)) (fun r_1 wr_1 H locs er_1 hP hD hS => ?_)
  obtain ⟨fr_1, hC⟩ := er_1
  refine lv_pop hx hb dL_law_280 rfl ?_
  refine lv_aload_n hx hb dL_law_281 rfl (lv_at hl 1 rfl) ?_
  refine lv_aload_n hx hb dL_law_282 rfl (lv_at hl 3 rfl) ?_
  refine lv_iload_n hx hb dL_law_283 rfl (lv_at hl 0 rfl) ?_
  refine lv_iconst (v := 1) hx hb dL_law_284 (by decide) ?_
  refine lv_iadd hx hb dL_law_285 ?_
  refine ab_i (v := nI (6 * k + 1)) (nI_plus (6 * k) 1) ?_
  refine va_sld hx hb hX hbl hbA hS (lp_in hk hL (by decide)) dL_law_286 ?_
  refine un_goi (w := wM) (wo := wr_1) (rest := []) hv List.perm_append_comm hx hb hml hown ht wd_X7_end mw_1554 hQ hV hS hA hP hD rfl rfl hl.1 rfl (Nat.le_of_ble_eq_true rfl) dL_law_287 ⟨Nat.le_of_ble_eq_true rfl, Nat.le_of_ble_eq_true rfl, rfl, rfl⟩ (lp_rm (mc := 0) (ms := 0) hk hL (by decide) (by decide)) (fun r_2 wr_2 H locs er_2 hP hD hS => ?_)
  obtain ⟨fr_2, hM⟩ := er_2
  have hP := vp_perm List.perm_append_comm hP
  have hD := vd_perm List.perm_append_comm hD
  have hJ := hn
  refine lv_pop hx hb dL_law_290 rfl ?_
  refine lv_goto (tgt := 1334) hx hb dL_law_291 (by decide) ?_
  refine W.widen (k := 52 + 15 * (k + 1)) (n := 98998 + 13306 * (k + 1)) (by omega) (by omega) ?_
  exact kk M2 s1n s2 s3 s4 s5 s6 z7 mn wr_1 wr_2 H locs hC hM hJ hP hD hS

set_option maxHeartbeats 4000000 in
set_option maxRecDepth 100000 in
/-- tell -/
theorem lc_2 {p : Program} {e : Env} {s : State} {m : MethodId} {below : List Frame} {meth : Method} {c : Code} {l : Launch} {b0 L : Nat} {xs : Nat → Int32} (C0 : lw_At p s m meth c b0 L xs) (hL : L ≤ 3072) {k : Nat} (hk : 6 * k + 6 ≤ L) {D : va_G} {q : Nat → ClassId} (hQ : kn D q s) (hV : sv q (fun x : Nat => s.heap.size ≤ x) s s.heap) {a b : Nat} {N : Int} {s1 : Tp} {s2 s3 : Bd} {s4 : Mo} {s5 : Pg} {s6 : Pa} {z7 : Nat → Option Bd} {md : Md} {wC wM : va_W} (hC : c_W q a s1 s2 s3 s4 s5 s6 z7 wC) (hM : m_W q b md wM) (hJ : JJ N s1 s2 s3 s4 s5 s6 z7 md) {H : Heap} {locs : List Loc} {ls : Array Slot} (hP : va_P D vwCl (wC ++ wM) H) (hD : va_D (fun x : Nat => s.heap.size ≤ x) (wC ++ wM)) (hS : va_S (fun x : Nat => s.heap.size ≤ x) s.heap H locs) (hl : lv_has ls 4 [(3, .int (nI (6 * k))), (2, .ref b), (1, .ref a), (0, .ref b0)]) (kk : ∀ (N2 : Int) (t1 : Tp) (t2 t3 : Bd) (t4 : Mo) (t5 : Pg) (t6 : Pa) (t7 : Nat → Option Bd) (m2 : Md) (wC2 wM2 : va_W) (H : Heap) (locs : List Loc), c_W q a t1 t2 t3 t4 t5 t6 t7 wC2 → m_W q b m2 wM2 → JJ N2 t1 t2 t3 t4 t5 t6 t7 m2 → va_P D vwCl (wC2 ++ wM2) H → va_D (fun x : Nat => s.heap.size ≤ x) (wC2 ++ wM2) → va_S (fun x : Nat => s.heap.size ≤ x) s.heap H locs → W p l e room_1 s m #[Value.ref b0] below meth c H locs (52 + 15 * (k + 1)) (98998 + 13306 * (k + 1)) (lw_Z below #[Value.ref b0] s) (F0 m 1334 ls [])) : W p l e room_1 s m #[Value.ref b0] below meth c H locs (52 + 15 * k) (98998 + 13306 * k) (lw_Z below #[Value.ref b0] s) (F0 m 294 ls []) := by
  obtain ⟨hx, hb, hr, hml, hown, hts, hX, hbl, hlocks, hgv⟩ := id C0
  have ht : ∀ w ∈ w_all, w.before #[Value.ref b0] s = true := fun w h => hts w (w_tbl h)
  have hA : ∀ x : Nat, s.heap.size ≤ x → (fun x : Nat => s.heap.size ≤ x) x := fun _ h => h
  have hbA : ¬ (fun x : Nat => s.heap.size ≤ x) b0 := Nat.not_le.mpr hbl
  have hown : s.vm.findClass RL = some m.cls := hown
  refine lv_aload_n hx hb dL_law_294 rfl (lv_at hl 2 rfl) ?_
  obtain ⟨r6, r7, M2, s1n, s2n, s3n, s6n, mn, hu, hv, hn⟩ := pl_tell (l := l) (D := D)  hC hM hJ
  refine un_goi (w := wC) (wo := wM) (rest := []) hu (List.Perm.refl _) hx hb hml hown ht wd_X6_tell mw_389 hQ hV hS hA hP hD rfl rfl hl.1 rfl (Nat.le_of_ble_eq_true rfl) dL_law_295 ⟨Nat.le_of_ble_eq_true rfl, Nat.le_of_ble_eq_true rfl, rfl, rfl⟩ (lp_rm (mc := 1) (ms := 6400) hk hL (by decide) (by decide)) (fun r_1 wr_1 H locs er_1 hP hD hS => ?_)
  obtain ⟨fr_1, hC⟩ := er_1
  refine lv_pop hx hb dL_law_298 rfl ?_
  refine lv_aload_n hx hb dL_law_299 rfl (lv_at hl 1 rfl) ?_
  refine un_goi (w := wM) (wo := wr_1) (rest := []) hv List.perm_append_comm hx hb hml hown ht wd_X7_tell mw_1558 hQ hV hS hA hP hD rfl rfl hl.1 rfl (Nat.le_of_ble_eq_true rfl) dL_law_300 ⟨Nat.le_of_ble_eq_true rfl, Nat.le_of_ble_eq_true rfl, rfl, rfl⟩ (lp_rm (mc := 1) (ms := 6400) hk hL (by decide) (by decide)) (fun r_2 wr_2 H locs er_2 hP hD hS => ?_)
  obtain ⟨fr_2, hM⟩ := er_2
  have hP := vp_perm List.perm_append_comm hP
  have hD := vd_perm List.perm_append_comm hD
  have hJ := hn.2
  refine lv_pop hx hb dL_law_303 rfl ?_
  refine lv_goto (tgt := 1334) hx hb dL_law_304 (by decide) ?_
  refine W.widen (k := 52 + 15 * (k + 1)) (n := 98998 + 13306 * (k + 1)) (by omega) (by omega) ?_
  exact kk M2 s1n s2n s3n s4 s5 s6n z7 mn wr_1 wr_2 H locs hC hM hJ hP hD hS

set_option maxHeartbeats 4000000 in
set_option maxRecDepth 100000 in
/-- row -/
theorem lc_3 {p : Program} {e : Env} {s : State} {m : MethodId} {below : List Frame} {meth : Method} {c : Code} {l : Launch} {b0 L : Nat} {xs : Nat → Int32} (C0 : lw_At p s m meth c b0 L xs) (hL : L ≤ 3072) {k : Nat} (hk : 6 * k + 6 ≤ L) {D : va_G} {q : Nat → ClassId} (hQ : kn D q s) (hV : sv q (fun x : Nat => s.heap.size ≤ x) s s.heap) {a b : Nat} {N : Int} {s1 : Tp} {s2 s3 : Bd} {s4 : Mo} {s5 : Pg} {s6 : Pa} {z7 : Nat → Option Bd} {md : Md} {wC wM : va_W} (hC : c_W q a s1 s2 s3 s4 s5 s6 z7 wC) (hM : m_W q b md wM) (hJ : JJ N s1 s2 s3 s4 s5 s6 z7 md) {H : Heap} {locs : List Loc} {ls : Array Slot} (hP : va_P D vwCl (wC ++ wM) H) (hD : va_D (fun x : Nat => s.heap.size ≤ x) (wC ++ wM)) (hS : va_S (fun x : Nat => s.heap.size ≤ x) s.heap H locs) (hl : lv_has ls 4 [(3, .int (nI (6 * k))), (2, .ref b), (1, .ref a), (0, .ref b0)]) (kk : ∀ (N2 : Int) (t1 : Tp) (t2 t3 : Bd) (t4 : Mo) (t5 : Pg) (t6 : Pa) (t7 : Nat → Option Bd) (m2 : Md) (wC2 wM2 : va_W) (H : Heap) (locs : List Loc), c_W q a t1 t2 t3 t4 t5 t6 t7 wC2 → m_W q b m2 wM2 → JJ N2 t1 t2 t3 t4 t5 t6 t7 m2 → va_P D vwCl (wC2 ++ wM2) H → va_D (fun x : Nat => s.heap.size ≤ x) (wC2 ++ wM2) → va_S (fun x : Nat => s.heap.size ≤ x) s.heap H locs → W p l e room_1 s m #[Value.ref b0] below meth c H locs (52 + 15 * (k + 1)) (98998 + 13306 * (k + 1)) (lw_Z below #[Value.ref b0] s) (F0 m 1334 ls [])) : W p l e room_1 s m #[Value.ref b0] below meth c H locs (52 + 15 * k) (98998 + 13306 * k) (lw_Z below #[Value.ref b0] s) (F0 m 307 ls []) := by
  obtain ⟨hx, hb, hr, hml, hown, hts, hX, hbl, hlocks, hgv⟩ := id C0
  have ht : ∀ w ∈ w_all, w.before #[Value.ref b0] s = true := fun w h => hts w (w_tbl h)
  have hA : ∀ x : Nat, s.heap.size ≤ x → (fun x : Nat => s.heap.size ≤ x) x := fun _ h => h
  have hbA : ¬ (fun x : Nat => s.heap.size ≤ x) b0 := Nat.not_le.mpr hbl
  have hown : s.vm.findClass RL = some m.cls := hown
  refine lv_aload_n hx hb dL_law_307 rfl (lv_at hl 2 rfl) ?_
  refine lv_aload_n hx hb dL_law_308 rfl (lv_at hl 3 rfl) ?_
  refine lv_iload_n hx hb dL_law_309 rfl (lv_at hl 0 rfl) ?_
  refine lv_iconst (v := 1) hx hb dL_law_310 (by decide) ?_
  refine lv_iadd hx hb dL_law_311 ?_
  refine ab_i (v := nI (6 * k + 1)) (nI_plus (6 * k) 1) ?_
  refine va_sld hx hb hX hbl hbA hS (lp_in hk hL (by decide)) dL_law_312 ?_
  obtain ⟨r6, r7, M2, s1n, s2n, s6n, mn, hu, hv, hn⟩ := pl_row (l := l) (D := D) (x1 := (xs (Int32.toNatClampNeg (nI (6 * k + 1))))) hC hM hJ
  refine un_goi (w := wC) (wo := wM) (rest := []) hu (List.Perm.refl _) hx hb hml hown ht wd_X6_row mw_613 hQ hV hS hA hP hD rfl rfl hl.1 rfl (Nat.le_of_ble_eq_true rfl) dL_law_313 ⟨Nat.le_of_ble_eq_true rfl, Nat.le_of_ble_eq_true rfl, rfl, rfl⟩ (lp_rm (mc := 14) (ms := 6906) hk hL (by decide) (by decide)) (fun r_1 wr_1 H locs er_1 hP hD hS => ?_)
  obtain ⟨fr_1, hC⟩ := er_1
  refine lv_pop hx hb dL_law_316 rfl ?_
  refine lv_aload_n hx hb dL_law_317 rfl (lv_at hl 1 rfl) ?_
  refine lv_aload_n hx hb dL_law_318 rfl (lv_at hl 3 rfl) ?_
  refine lv_iload_n hx hb dL_law_319 rfl (lv_at hl 0 rfl) ?_
  refine lv_iconst (v := 1) hx hb dL_law_320 (by decide) ?_
  refine lv_iadd hx hb dL_law_321 ?_
  refine ab_i (v := nI (6 * k + 1)) (nI_plus (6 * k) 1) ?_
  refine va_sld hx hb hX hbl hbA hS (lp_in hk hL (by decide)) dL_law_322 ?_
  refine un_goi (w := wM) (wo := wr_1) (rest := []) hv List.perm_append_comm hx hb hml hown ht wd_X7_row mw_1201 hQ hV hS hA hP hD rfl rfl hl.1 rfl (Nat.le_of_ble_eq_true rfl) dL_law_323 ⟨Nat.le_of_ble_eq_true rfl, Nat.le_of_ble_eq_true rfl, rfl, rfl⟩ (lp_rm (mc := 14) (ms := 6906) hk hL (by decide) (by decide)) (fun r_2 wr_2 H locs er_2 hP hD hS => ?_)
  obtain ⟨fr_2, hM⟩ := er_2
  have hP := vp_perm List.perm_append_comm hP
  have hD := vd_perm List.perm_append_comm hD
  have hJ := hn
  refine lv_pop hx hb dL_law_326 rfl ?_
  refine lv_goto (tgt := 1334) hx hb dL_law_327 (by decide) ?_
  refine W.widen (k := 52 + 15 * (k + 1)) (n := 98998 + 13306 * (k + 1)) (by omega) (by omega) ?_
  exact kk M2 s1n s2n s3 s4 s5 s6n z7 mn wr_1 wr_2 H locs hC hM hJ hP hD hS

set_option maxHeartbeats 4000000 in
set_option maxRecDepth 100000 in
/-- scroll -/
theorem lc_4 {p : Program} {e : Env} {s : State} {m : MethodId} {below : List Frame} {meth : Method} {c : Code} {l : Launch} {b0 L : Nat} {xs : Nat → Int32} (C0 : lw_At p s m meth c b0 L xs) (hL : L ≤ 3072) {k : Nat} (hk : 6 * k + 6 ≤ L) {D : va_G} {q : Nat → ClassId} (hQ : kn D q s) (hV : sv q (fun x : Nat => s.heap.size ≤ x) s s.heap) {a b : Nat} {N : Int} {s1 : Tp} {s2 s3 : Bd} {s4 : Mo} {s5 : Pg} {s6 : Pa} {z7 : Nat → Option Bd} {md : Md} {wC wM : va_W} (hC : c_W q a s1 s2 s3 s4 s5 s6 z7 wC) (hM : m_W q b md wM) (hJ : JJ N s1 s2 s3 s4 s5 s6 z7 md) {H : Heap} {locs : List Loc} {ls : Array Slot} (hP : va_P D vwCl (wC ++ wM) H) (hD : va_D (fun x : Nat => s.heap.size ≤ x) (wC ++ wM)) (hS : va_S (fun x : Nat => s.heap.size ≤ x) s.heap H locs) (hl : lv_has ls 4 [(3, .int (nI (6 * k))), (2, .ref b), (1, .ref a), (0, .ref b0)]) (kk : ∀ (N2 : Int) (t1 : Tp) (t2 t3 : Bd) (t4 : Mo) (t5 : Pg) (t6 : Pa) (t7 : Nat → Option Bd) (m2 : Md) (wC2 wM2 : va_W) (H : Heap) (locs : List Loc), c_W q a t1 t2 t3 t4 t5 t6 t7 wC2 → m_W q b m2 wM2 → JJ N2 t1 t2 t3 t4 t5 t6 t7 m2 → va_P D vwCl (wC2 ++ wM2) H → va_D (fun x : Nat => s.heap.size ≤ x) (wC2 ++ wM2) → va_S (fun x : Nat => s.heap.size ≤ x) s.heap H locs → W p l e room_1 s m #[Value.ref b0] below meth c H locs (52 + 15 * (k + 1)) (98998 + 13306 * (k + 1)) (lw_Z below #[Value.ref b0] s) (F0 m 1334 ls [])) : W p l e room_1 s m #[Value.ref b0] below meth c H locs (52 + 15 * k) (98998 + 13306 * k) (lw_Z below #[Value.ref b0] s) (F0 m 330 ls []) := by
  obtain ⟨hx, hb, hr, hml, hown, hts, hX, hbl, hlocks, hgv⟩ := id C0
  have ht : ∀ w ∈ w_all, w.before #[Value.ref b0] s = true := fun w h => hts w (w_tbl h)
  have hA : ∀ x : Nat, s.heap.size ≤ x → (fun x : Nat => s.heap.size ≤ x) x := fun _ h => h
  have hbA : ¬ (fun x : Nat => s.heap.size ≤ x) b0 := Nat.not_le.mpr hbl
  have hown : s.vm.findClass RL = some m.cls := hown
  refine lv_aload_n hx hb dL_law_330 rfl (lv_at hl 2 rfl) ?_
  obtain ⟨r6, r7, M2, s1n, s2n, s6n, mn, hu, hv, hn⟩ := pl_scroll (l := l) (D := D)  hC hM hJ
  refine un_goi (w := wC) (wo := wM) (rest := []) hu (List.Perm.refl _) hx hb hml hown ht wd_X6_scroll mw_652 hQ hV hS hA hP hD rfl rfl hl.1 rfl (Nat.le_of_ble_eq_true rfl) dL_law_331 ⟨Nat.le_of_ble_eq_true rfl, Nat.le_of_ble_eq_true rfl, rfl, rfl⟩ (lp_rm (mc := 14) (ms := 6906) hk hL (by decide) (by decide)) (fun r_1 wr_1 H locs er_1 hP hD hS => ?_)
  obtain ⟨fr_1, hC⟩ := er_1
  refine lv_aload_n hx hb dL_law_334 rfl (lv_at hl 1 rfl) ?_
  refine un_goi (w := wM) (wo := wr_1) (rest := [.int r_1]) hv List.perm_append_comm hx hb hml hown ht wd_X7_scroll mw_1279 hQ hV hS hA hP hD rfl rfl hl.1 rfl (Nat.le_of_ble_eq_true rfl) dL_law_335 ⟨Nat.le_of_ble_eq_true rfl, Nat.le_of_ble_eq_true rfl, rfl, rfl⟩ (lp_rm (mc := 14) (ms := 6906) hk hL (by decide) (by decide)) (fun r_2 wr_2 H locs er_2 hP hD hS => ?_)
  obtain ⟨fr_2, hM⟩ := er_2
  have hP := vp_perm List.perm_append_comm hP
  have hD := vd_perm List.perm_append_comm hD
  have hJ := hn.1
  have er := hn.2
  refine lv_icmp_eq (tgt := 1334) hx hb dL_law_338 (by decide) (fun _ => ?_) (fun c9 => absurd (fr_1.trans (er.trans fr_2.symm)) c9)
  refine W.widen (k := 52 + 15 * (k + 1)) (n := 98998 + 13306 * (k + 1)) (by omega) (by omega) ?_
  exact kk M2 s1n s2n s3 s4 s5 s6n z7 mn wr_1 wr_2 H locs hC hM hJ hP hD hS

set_option maxHeartbeats 4000000 in
set_option maxRecDepth 100000 in
/-- tick -/
theorem lc_5 {p : Program} {e : Env} {s : State} {m : MethodId} {below : List Frame} {meth : Method} {c : Code} {l : Launch} {b0 L : Nat} {xs : Nat → Int32} (C0 : lw_At p s m meth c b0 L xs) (hL : L ≤ 3072) {k : Nat} (hk : 6 * k + 6 ≤ L) {D : va_G} {q : Nat → ClassId} (hQ : kn D q s) (hV : sv q (fun x : Nat => s.heap.size ≤ x) s s.heap) {a b : Nat} {N : Int} {s1 : Tp} {s2 s3 : Bd} {s4 : Mo} {s5 : Pg} {s6 : Pa} {z7 : Nat → Option Bd} {md : Md} {wC wM : va_W} (hC : c_W q a s1 s2 s3 s4 s5 s6 z7 wC) (hM : m_W q b md wM) (hJ : JJ N s1 s2 s3 s4 s5 s6 z7 md) {H : Heap} {locs : List Loc} {ls : Array Slot} (hP : va_P D vwCl (wC ++ wM) H) (hD : va_D (fun x : Nat => s.heap.size ≤ x) (wC ++ wM)) (hS : va_S (fun x : Nat => s.heap.size ≤ x) s.heap H locs) (hl : lv_has ls 4 [(3, .int (nI (6 * k))), (2, .ref b), (1, .ref a), (0, .ref b0)]) (kk : ∀ (N2 : Int) (t1 : Tp) (t2 t3 : Bd) (t4 : Mo) (t5 : Pg) (t6 : Pa) (t7 : Nat → Option Bd) (m2 : Md) (wC2 wM2 : va_W) (H : Heap) (locs : List Loc), c_W q a t1 t2 t3 t4 t5 t6 t7 wC2 → m_W q b m2 wM2 → JJ N2 t1 t2 t3 t4 t5 t6 t7 m2 → va_P D vwCl (wC2 ++ wM2) H → va_D (fun x : Nat => s.heap.size ≤ x) (wC2 ++ wM2) → va_S (fun x : Nat => s.heap.size ≤ x) s.heap H locs → W p l e room_1 s m #[Value.ref b0] below meth c H locs (52 + 15 * (k + 1)) (98998 + 13306 * (k + 1)) (lw_Z below #[Value.ref b0] s) (F0 m 1334 ls [])) : W p l e room_1 s m #[Value.ref b0] below meth c H locs (52 + 15 * k) (98998 + 13306 * k) (lw_Z below #[Value.ref b0] s) (F0 m 343 ls []) := by
  obtain ⟨hx, hb, hr, hml, hown, hts, hX, hbl, hlocks, hgv⟩ := id C0
  have ht : ∀ w ∈ w_all, w.before #[Value.ref b0] s = true := fun w h => hts w (w_tbl h)
  have hA : ∀ x : Nat, s.heap.size ≤ x → (fun x : Nat => s.heap.size ≤ x) x := fun _ h => h
  have hbA : ¬ (fun x : Nat => s.heap.size ≤ x) b0 := Nat.not_le.mpr hbl
  have hown : s.vm.findClass RL = some m.cls := hown
  refine lv_aload_n hx hb dL_law_343 rfl (lv_at hl 2 rfl) ?_
  refine lv_aload_n hx hb dL_law_344 rfl (lv_at hl 3 rfl) ?_
  refine lv_iload_n hx hb dL_law_345 rfl (lv_at hl 0 rfl) ?_
  refine lv_iconst (v := 1) hx hb dL_law_346 (by decide) ?_
  refine lv_iadd hx hb dL_law_347 ?_
  refine ab_i (v := nI (6 * k + 1)) (nI_plus (6 * k) 1) ?_
  refine va_sld hx hb hX hbl hbA hS (lp_in hk hL (by decide)) dL_law_348 ?_
  obtain ⟨r6, r7, M2, s2n, s4n, s6n, mn, hu, hv, hn⟩ := pl_tick (l := l) (D := D) (x1 := (xs (Int32.toNatClampNeg (nI (6 * k + 1))))) hC hM hJ
  refine un_goi (w := wC) (wo := wM) (rest := []) hu (List.Perm.refl _) hx hb hml hown ht wd_X6_tick mw_673 hQ hV hS hA hP hD rfl rfl hl.1 rfl (Nat.le_of_ble_eq_true rfl) dL_law_349 ⟨Nat.le_of_ble_eq_true rfl, Nat.le_of_ble_eq_true rfl, rfl, rfl⟩ (lp_rm (mc := 14) (ms := 6906) hk hL (by decide) (by decide)) (fun r_1 wr_1 H locs er_1 hP hD hS => ?_)
  obtain ⟨fr_1, hC⟩ := er_1
  refine lv_pop hx hb dL_law_352 rfl ?_
  refine lv_aload_n hx hb dL_law_353 rfl (lv_at hl 1 rfl) ?_
  refine lv_aload_n hx hb dL_law_354 rfl (lv_at hl 3 rfl) ?_
  refine lv_iload_n hx hb dL_law_355 rfl (lv_at hl 0 rfl) ?_
  refine lv_iconst (v := 1) hx hb dL_law_356 (by decide) ?_
  refine lv_iadd hx hb dL_law_357 ?_
  refine ab_i (v := nI (6 * k + 1)) (nI_plus (6 * k) 1) ?_
  refine va_sld hx hb hX hbl hbA hS (lp_in hk hL (by decide)) dL_law_358 ?_
  refine un_goi (w := wM) (wo := wr_1) (rest := []) hv List.perm_append_comm hx hb hml hown ht wd_X7_tick mw_1299 hQ hV hS hA hP hD rfl rfl hl.1 rfl (Nat.le_of_ble_eq_true rfl) dL_law_359 ⟨Nat.le_of_ble_eq_true rfl, Nat.le_of_ble_eq_true rfl, rfl, rfl⟩ (lp_rm (mc := 14) (ms := 6906) hk hL (by decide) (by decide)) (fun r_2 wr_2 H locs er_2 hP hD hS => ?_)
  obtain ⟨fr_2, hM⟩ := er_2
  have hP := vp_perm List.perm_append_comm hP
  have hD := vd_perm List.perm_append_comm hD
  have hJ := hn
  refine lv_pop hx hb dL_law_362 rfl ?_
  refine lv_goto (tgt := 1334) hx hb dL_law_363 (by decide) ?_
  refine W.widen (k := 52 + 15 * (k + 1)) (n := 98998 + 13306 * (k + 1)) (by omega) (by omega) ?_
  exact kk M2 s1 s2n s3 s4n s5 s6n z7 mn wr_1 wr_2 H locs hC hM hJ hP hD hS

set_option maxHeartbeats 4000000 in
set_option maxRecDepth 100000 in
/-- settle -/
theorem lc_6 {p : Program} {e : Env} {s : State} {m : MethodId} {below : List Frame} {meth : Method} {c : Code} {l : Launch} {b0 L : Nat} {xs : Nat → Int32} (C0 : lw_At p s m meth c b0 L xs) (hL : L ≤ 3072) {k : Nat} (hk : 6 * k + 6 ≤ L) {D : va_G} {q : Nat → ClassId} (hQ : kn D q s) (hV : sv q (fun x : Nat => s.heap.size ≤ x) s s.heap) {a b : Nat} {N : Int} {s1 : Tp} {s2 s3 : Bd} {s4 : Mo} {s5 : Pg} {s6 : Pa} {z7 : Nat → Option Bd} {md : Md} {wC wM : va_W} (hC : c_W q a s1 s2 s3 s4 s5 s6 z7 wC) (hM : m_W q b md wM) (hJ : JJ N s1 s2 s3 s4 s5 s6 z7 md) {H : Heap} {locs : List Loc} {ls : Array Slot} (hP : va_P D vwCl (wC ++ wM) H) (hD : va_D (fun x : Nat => s.heap.size ≤ x) (wC ++ wM)) (hS : va_S (fun x : Nat => s.heap.size ≤ x) s.heap H locs) (hl : lv_has ls 4 [(3, .int (nI (6 * k))), (2, .ref b), (1, .ref a), (0, .ref b0)]) (kk : ∀ (N2 : Int) (t1 : Tp) (t2 t3 : Bd) (t4 : Mo) (t5 : Pg) (t6 : Pa) (t7 : Nat → Option Bd) (m2 : Md) (wC2 wM2 : va_W) (H : Heap) (locs : List Loc), c_W q a t1 t2 t3 t4 t5 t6 t7 wC2 → m_W q b m2 wM2 → JJ N2 t1 t2 t3 t4 t5 t6 t7 m2 → va_P D vwCl (wC2 ++ wM2) H → va_D (fun x : Nat => s.heap.size ≤ x) (wC2 ++ wM2) → va_S (fun x : Nat => s.heap.size ≤ x) s.heap H locs → W p l e room_1 s m #[Value.ref b0] below meth c H locs (52 + 15 * (k + 1)) (98998 + 13306 * (k + 1)) (lw_Z below #[Value.ref b0] s) (F0 m 1334 ls [])) : W p l e room_1 s m #[Value.ref b0] below meth c H locs (52 + 15 * k) (98998 + 13306 * k) (lw_Z below #[Value.ref b0] s) (F0 m 366 ls []) := by
  obtain ⟨hx, hb, hr, hml, hown, hts, hX, hbl, hlocks, hgv⟩ := id C0
  have ht : ∀ w ∈ w_all, w.before #[Value.ref b0] s = true := fun w h => hts w (w_tbl h)
  have hA : ∀ x : Nat, s.heap.size ≤ x → (fun x : Nat => s.heap.size ≤ x) x := fun _ h => h
  have hbA : ¬ (fun x : Nat => s.heap.size ≤ x) b0 := Nat.not_le.mpr hbl
  have hown : s.vm.findClass RL = some m.cls := hown
  refine lv_aload_n hx hb dL_law_366 rfl (lv_at hl 2 rfl) ?_
  obtain ⟨r6, r7, M2, s2n, s4n, s6n, mn, hu, hv, hn⟩ := pl_settle (l := l) (D := D)  hC hM hJ
  refine un_goi (w := wC) (wo := wM) (rest := []) hu (List.Perm.refl _) hx hb hml hown ht wd_X6_settle mw_721 hQ hV hS hA hP hD rfl rfl hl.1 rfl (Nat.le_of_ble_eq_true rfl) dL_law_367 ⟨Nat.le_of_ble_eq_true rfl, Nat.le_of_ble_eq_true rfl, rfl, rfl⟩ (lp_rm (mc := 14) (ms := 6906) hk hL (by decide) (by decide)) (fun r_1 wr_1 H locs er_1 hP hD hS => ?_)
  obtain ⟨fr_1, hC⟩ := er_1
  refine lv_pop hx hb dL_law_370 rfl ?_
  refine lv_aload_n hx hb dL_law_371 rfl (lv_at hl 1 rfl) ?_
  refine un_goi (w := wM) (wo := wr_1) (rest := []) hv List.perm_append_comm hx hb hml hown ht wd_X7_settle mw_1328 hQ hV hS hA hP hD rfl rfl hl.1 rfl (Nat.le_of_ble_eq_true rfl) dL_law_372 ⟨Nat.le_of_ble_eq_true rfl, Nat.le_of_ble_eq_true rfl, rfl, rfl⟩ (lp_rm (mc := 14) (ms := 6906) hk hL (by decide) (by decide)) (fun r_2 wr_2 H locs er_2 hP hD hS => ?_)
  obtain ⟨fr_2, hM⟩ := er_2
  have hP := vp_perm List.perm_append_comm hP
  have hD := vd_perm List.perm_append_comm hD
  have hJ := hn
  refine lv_pop hx hb dL_law_375 rfl ?_
  refine lv_goto (tgt := 1334) hx hb dL_law_376 (by decide) ?_
  refine W.widen (k := 52 + 15 * (k + 1)) (n := 98998 + 13306 * (k + 1)) (by omega) (by omega) ?_
  exact kk M2 s1 s2n s3 s4n s5 s6n z7 mn wr_1 wr_2 H locs hC hM hJ hP hD hS

set_option maxHeartbeats 4000000 in
set_option maxRecDepth 100000 in
/-- lose -/
theorem lc_7 {p : Program} {e : Env} {s : State} {m : MethodId} {below : List Frame} {meth : Method} {c : Code} {l : Launch} {b0 L : Nat} {xs : Nat → Int32} (C0 : lw_At p s m meth c b0 L xs) (hL : L ≤ 3072) {k : Nat} (hk : 6 * k + 6 ≤ L) {D : va_G} {q : Nat → ClassId} (hQ : kn D q s) (hV : sv q (fun x : Nat => s.heap.size ≤ x) s s.heap) {a b : Nat} {N : Int} {s1 : Tp} {s2 s3 : Bd} {s4 : Mo} {s5 : Pg} {s6 : Pa} {z7 : Nat → Option Bd} {md : Md} {wC wM : va_W} (hC : c_W q a s1 s2 s3 s4 s5 s6 z7 wC) (hM : m_W q b md wM) (hJ : JJ N s1 s2 s3 s4 s5 s6 z7 md) {H : Heap} {locs : List Loc} {ls : Array Slot} (hP : va_P D vwCl (wC ++ wM) H) (hD : va_D (fun x : Nat => s.heap.size ≤ x) (wC ++ wM)) (hS : va_S (fun x : Nat => s.heap.size ≤ x) s.heap H locs) (hl : lv_has ls 4 [(3, .int (nI (6 * k))), (2, .ref b), (1, .ref a), (0, .ref b0)]) (kk : ∀ (N2 : Int) (t1 : Tp) (t2 t3 : Bd) (t4 : Mo) (t5 : Pg) (t6 : Pa) (t7 : Nat → Option Bd) (m2 : Md) (wC2 wM2 : va_W) (H : Heap) (locs : List Loc), c_W q a t1 t2 t3 t4 t5 t6 t7 wC2 → m_W q b m2 wM2 → JJ N2 t1 t2 t3 t4 t5 t6 t7 m2 → va_P D vwCl (wC2 ++ wM2) H → va_D (fun x : Nat => s.heap.size ≤ x) (wC2 ++ wM2) → va_S (fun x : Nat => s.heap.size ≤ x) s.heap H locs → W p l e room_1 s m #[Value.ref b0] below meth c H locs (52 + 15 * (k + 1)) (98998 + 13306 * (k + 1)) (lw_Z below #[Value.ref b0] s) (F0 m 1334 ls [])) : W p l e room_1 s m #[Value.ref b0] below meth c H locs (52 + 15 * k) (98998 + 13306 * k) (lw_Z below #[Value.ref b0] s) (F0 m 379 ls []) := by
  obtain ⟨hx, hb, hr, hml, hown, hts, hX, hbl, hlocks, hgv⟩ := id C0
  have ht : ∀ w ∈ w_all, w.before #[Value.ref b0] s = true := fun w h => hts w (w_tbl h)
  have hA : ∀ x : Nat, s.heap.size ≤ x → (fun x : Nat => s.heap.size ≤ x) x := fun _ h => h
  have hbA : ¬ (fun x : Nat => s.heap.size ≤ x) b0 := Nat.not_le.mpr hbl
  have hown : s.vm.findClass RL = some m.cls := hown
  refine lv_aload_n hx hb dL_law_379 rfl (lv_at hl 2 rfl) ?_
  refine lv_aload_n hx hb dL_law_380 rfl (lv_at hl 3 rfl) ?_
  refine lv_iload_n hx hb dL_law_381 rfl (lv_at hl 0 rfl) ?_
  refine lv_iconst (v := 1) hx hb dL_law_382 (by decide) ?_
  refine lv_iadd hx hb dL_law_383 ?_
  refine ab_i (v := nI (6 * k + 1)) (nI_plus (6 * k) 1) ?_
  refine va_sld hx hb hX hbl hbA hS (lp_in hk hL (by decide)) dL_law_384 ?_
  refine lv_aload_n hx hb dL_law_385 rfl (lv_at hl 3 rfl) ?_
  refine lv_iload_n hx hb dL_law_386 rfl (lv_at hl 0 rfl) ?_
  refine lv_iconst (v := 2) hx hb dL_law_387 (by decide) ?_
  refine lv_iadd hx hb dL_law_388 ?_
  refine ab_i (v := nI (6 * k + 2)) (nI_plus (6 * k) 2) ?_
  refine va_sld hx hb hX hbl hbA hS (lp_in hk hL (by decide)) dL_law_389 ?_
  obtain ⟨r6, r7, M2, s2n, s6n, mn, hu, hv, hn⟩ := pl_lose (l := l) (D := D) (x1 := (xs (Int32.toNatClampNeg (nI (6 * k + 1))))) (x2 := (xs (Int32.toNatClampNeg (nI (6 * k + 2))))) hC hM hJ
  refine un_goi (w := wC) (wo := wM) (rest := []) hu (List.Perm.refl _) hx hb hml hown ht wd_X6_lose mw_726 hQ hV hS hA hP hD rfl rfl hl.1 rfl (Nat.le_of_ble_eq_true rfl) dL_law_390 ⟨Nat.le_of_ble_eq_true rfl, Nat.le_of_ble_eq_true rfl, rfl, rfl⟩ (lp_rm (mc := 14) (ms := 6906) hk hL (by decide) (by decide)) (fun r_1 wr_1 H locs er_1 hP hD hS => ?_)
  obtain ⟨fr_1, hC⟩ := er_1
  refine lv_pop hx hb dL_law_393 rfl ?_
  refine lv_aload_n hx hb dL_law_394 rfl (lv_at hl 1 rfl) ?_
  refine lv_aload_n hx hb dL_law_395 rfl (lv_at hl 3 rfl) ?_
  refine lv_iload_n hx hb dL_law_396 rfl (lv_at hl 0 rfl) ?_
  refine lv_iconst (v := 1) hx hb dL_law_397 (by decide) ?_
  refine lv_iadd hx hb dL_law_398 ?_
  refine ab_i (v := nI (6 * k + 1)) (nI_plus (6 * k) 1) ?_
  refine va_sld hx hb hX hbl hbA hS (lp_in hk hL (by decide)) dL_law_399 ?_
  refine lv_aload_n hx hb dL_law_400 rfl (lv_at hl 3 rfl) ?_
  refine lv_iload_n hx hb dL_law_401 rfl (lv_at hl 0 rfl) ?_
  refine lv_iconst (v := 2) hx hb dL_law_402 (by decide) ?_
  refine lv_iadd hx hb dL_law_403 ?_
  refine ab_i (v := nI (6 * k + 2)) (nI_plus (6 * k) 2) ?_
  refine va_sld hx hb hX hbl hbA hS (lp_in hk hL (by decide)) dL_law_404 ?_
  refine un_goi (w := wM) (wo := wr_1) (rest := []) hv List.perm_append_comm hx hb hml hown ht wd_X7_lose mw_1336 hQ hV hS hA hP hD rfl rfl hl.1 rfl (Nat.le_of_ble_eq_true rfl) dL_law_405 ⟨Nat.le_of_ble_eq_true rfl, Nat.le_of_ble_eq_true rfl, rfl, rfl⟩ (lp_rm (mc := 14) (ms := 6906) hk hL (by decide) (by decide)) (fun r_2 wr_2 H locs er_2 hP hD hS => ?_)
  obtain ⟨fr_2, hM⟩ := er_2
  have hP := vp_perm List.perm_append_comm hP
  have hD := vd_perm List.perm_append_comm hD
  have hJ := hn
  refine lv_pop hx hb dL_law_408 rfl ?_
  refine lv_goto (tgt := 1334) hx hb dL_law_409 (by decide) ?_
  refine W.widen (k := 52 + 15 * (k + 1)) (n := 98998 + 13306 * (k + 1)) (by omega) (by omega) ?_
  exact kk M2 s1 s2n s3 s4 s5 s6n z7 mn wr_1 wr_2 H locs hC hM hJ hP hD hS

set_option maxHeartbeats 4000000 in
set_option maxRecDepth 100000 in
/-- wear -/
theorem lc_8 {p : Program} {e : Env} {s : State} {m : MethodId} {below : List Frame} {meth : Method} {c : Code} {l : Launch} {b0 L : Nat} {xs : Nat → Int32} (C0 : lw_At p s m meth c b0 L xs) (hL : L ≤ 3072) {k : Nat} (hk : 6 * k + 6 ≤ L) {D : va_G} {q : Nat → ClassId} (hQ : kn D q s) (hV : sv q (fun x : Nat => s.heap.size ≤ x) s s.heap) {a b : Nat} {N : Int} {s1 : Tp} {s2 s3 : Bd} {s4 : Mo} {s5 : Pg} {s6 : Pa} {z7 : Nat → Option Bd} {md : Md} {wC wM : va_W} (hC : c_W q a s1 s2 s3 s4 s5 s6 z7 wC) (hM : m_W q b md wM) (hJ : JJ N s1 s2 s3 s4 s5 s6 z7 md) {H : Heap} {locs : List Loc} {ls : Array Slot} (hP : va_P D vwCl (wC ++ wM) H) (hD : va_D (fun x : Nat => s.heap.size ≤ x) (wC ++ wM)) (hS : va_S (fun x : Nat => s.heap.size ≤ x) s.heap H locs) (hl : lv_has ls 4 [(3, .int (nI (6 * k))), (2, .ref b), (1, .ref a), (0, .ref b0)]) (kk : ∀ (N2 : Int) (t1 : Tp) (t2 t3 : Bd) (t4 : Mo) (t5 : Pg) (t6 : Pa) (t7 : Nat → Option Bd) (m2 : Md) (wC2 wM2 : va_W) (H : Heap) (locs : List Loc), c_W q a t1 t2 t3 t4 t5 t6 t7 wC2 → m_W q b m2 wM2 → JJ N2 t1 t2 t3 t4 t5 t6 t7 m2 → va_P D vwCl (wC2 ++ wM2) H → va_D (fun x : Nat => s.heap.size ≤ x) (wC2 ++ wM2) → va_S (fun x : Nat => s.heap.size ≤ x) s.heap H locs → W p l e room_1 s m #[Value.ref b0] below meth c H locs (52 + 15 * (k + 1)) (98998 + 13306 * (k + 1)) (lw_Z below #[Value.ref b0] s) (F0 m 1334 ls [])) : W p l e room_1 s m #[Value.ref b0] below meth c H locs (52 + 15 * k) (98998 + 13306 * k) (lw_Z below #[Value.ref b0] s) (F0 m 412 ls []) := by
  obtain ⟨hx, hb, hr, hml, hown, hts, hX, hbl, hlocks, hgv⟩ := id C0
  have ht : ∀ w ∈ w_all, w.before #[Value.ref b0] s = true := fun w h => hts w (w_tbl h)
  have hA : ∀ x : Nat, s.heap.size ≤ x → (fun x : Nat => s.heap.size ≤ x) x := fun _ h => h
  have hbA : ¬ (fun x : Nat => s.heap.size ≤ x) b0 := Nat.not_le.mpr hbl
  have hown : s.vm.findClass RL = some m.cls := hown
  refine lv_aload_n hx hb dL_law_412 rfl (lv_at hl 2 rfl) ?_
  refine lv_aload_n hx hb dL_law_413 rfl (lv_at hl 3 rfl) ?_
  refine lv_iload_n hx hb dL_law_414 rfl (lv_at hl 0 rfl) ?_
  refine lv_iconst (v := 1) hx hb dL_law_415 (by decide) ?_
  refine lv_iadd hx hb dL_law_416 ?_
  refine ab_i (v := nI (6 * k + 1)) (nI_plus (6 * k) 1) ?_
  refine va_sld hx hb hX hbl hbA hS (lp_in hk hL (by decide)) dL_law_417 ?_
  refine lv_aload_n hx hb dL_law_418 rfl (lv_at hl 3 rfl) ?_
  refine lv_iload_n hx hb dL_law_419 rfl (lv_at hl 0 rfl) ?_
  refine lv_iconst (v := 2) hx hb dL_law_420 (by decide) ?_
  refine lv_iadd hx hb dL_law_421 ?_
  refine ab_i (v := nI (6 * k + 2)) (nI_plus (6 * k) 2) ?_
  refine va_sld hx hb hX hbl hbA hS (lp_in hk hL (by decide)) dL_law_422 ?_
  obtain ⟨r6, r7, M2, s2n, s6n, mn, hu, hv, hn⟩ := pl_wear (l := l) (D := D) (x1 := (xs (Int32.toNatClampNeg (nI (6 * k + 1))))) (x2 := (xs (Int32.toNatClampNeg (nI (6 * k + 2))))) hC hM hJ
  refine un_goi (w := wC) (wo := wM) (rest := []) hu (List.Perm.refl _) hx hb hml hown ht wd_X6_wear mw_732 hQ hV hS hA hP hD rfl rfl hl.1 rfl (Nat.le_of_ble_eq_true rfl) dL_law_423 ⟨Nat.le_of_ble_eq_true rfl, Nat.le_of_ble_eq_true rfl, rfl, rfl⟩ (lp_rm (mc := 14) (ms := 6906) hk hL (by decide) (by decide)) (fun r_1 wr_1 H locs er_1 hP hD hS => ?_)
  obtain ⟨fr_1, hC⟩ := er_1
  refine lv_pop hx hb dL_law_426 rfl ?_
  refine lv_aload_n hx hb dL_law_427 rfl (lv_at hl 1 rfl) ?_
  refine lv_aload_n hx hb dL_law_428 rfl (lv_at hl 3 rfl) ?_
  refine lv_iload_n hx hb dL_law_429 rfl (lv_at hl 0 rfl) ?_
  refine lv_iconst (v := 1) hx hb dL_law_430 (by decide) ?_
  refine lv_iadd hx hb dL_law_431 ?_
  refine ab_i (v := nI (6 * k + 1)) (nI_plus (6 * k) 1) ?_
  refine va_sld hx hb hX hbl hbA hS (lp_in hk hL (by decide)) dL_law_432 ?_
  refine lv_aload_n hx hb dL_law_433 rfl (lv_at hl 3 rfl) ?_
  refine lv_iload_n hx hb dL_law_434 rfl (lv_at hl 0 rfl) ?_
  refine lv_iconst (v := 2) hx hb dL_law_435 (by decide) ?_
  refine lv_iadd hx hb dL_law_436 ?_
  refine ab_i (v := nI (6 * k + 2)) (nI_plus (6 * k) 2) ?_
  refine va_sld hx hb hX hbl hbA hS (lp_in hk hL (by decide)) dL_law_437 ?_
  refine un_goi (w := wM) (wo := wr_1) (rest := []) hv List.perm_append_comm hx hb hml hown ht wd_X7_wear mw_1345 hQ hV hS hA hP hD rfl rfl hl.1 rfl (Nat.le_of_ble_eq_true rfl) dL_law_438 ⟨Nat.le_of_ble_eq_true rfl, Nat.le_of_ble_eq_true rfl, rfl, rfl⟩ (lp_rm (mc := 14) (ms := 6906) hk hL (by decide) (by decide)) (fun r_2 wr_2 H locs er_2 hP hD hS => ?_)
  obtain ⟨fr_2, hM⟩ := er_2
  have hP := vp_perm List.perm_append_comm hP
  have hD := vd_perm List.perm_append_comm hD
  have hJ := hn
  refine lv_pop hx hb dL_law_441 rfl ?_
  refine lv_goto (tgt := 1334) hx hb dL_law_442 (by decide) ?_
  refine W.widen (k := 52 + 15 * (k + 1)) (n := 98998 + 13306 * (k + 1)) (by omega) (by omega) ?_
  exact kk M2 s1 s2n s3 s4 s5 s6n z7 mn wr_1 wr_2 H locs hC hM hJ hP hD hS

set_option maxHeartbeats 4000000 in
set_option maxRecDepth 100000 in
/-- mend -/
theorem lc_9 {p : Program} {e : Env} {s : State} {m : MethodId} {below : List Frame} {meth : Method} {c : Code} {l : Launch} {b0 L : Nat} {xs : Nat → Int32} (C0 : lw_At p s m meth c b0 L xs) (hL : L ≤ 3072) {k : Nat} (hk : 6 * k + 6 ≤ L) {D : va_G} {q : Nat → ClassId} (hQ : kn D q s) (hV : sv q (fun x : Nat => s.heap.size ≤ x) s s.heap) {a b : Nat} {N : Int} {s1 : Tp} {s2 s3 : Bd} {s4 : Mo} {s5 : Pg} {s6 : Pa} {z7 : Nat → Option Bd} {md : Md} {wC wM : va_W} (hC : c_W q a s1 s2 s3 s4 s5 s6 z7 wC) (hM : m_W q b md wM) (hJ : JJ N s1 s2 s3 s4 s5 s6 z7 md) {H : Heap} {locs : List Loc} {ls : Array Slot} (hP : va_P D vwCl (wC ++ wM) H) (hD : va_D (fun x : Nat => s.heap.size ≤ x) (wC ++ wM)) (hS : va_S (fun x : Nat => s.heap.size ≤ x) s.heap H locs) (hl : lv_has ls 4 [(3, .int (nI (6 * k))), (2, .ref b), (1, .ref a), (0, .ref b0)]) (kk : ∀ (N2 : Int) (t1 : Tp) (t2 t3 : Bd) (t4 : Mo) (t5 : Pg) (t6 : Pa) (t7 : Nat → Option Bd) (m2 : Md) (wC2 wM2 : va_W) (H : Heap) (locs : List Loc), c_W q a t1 t2 t3 t4 t5 t6 t7 wC2 → m_W q b m2 wM2 → JJ N2 t1 t2 t3 t4 t5 t6 t7 m2 → va_P D vwCl (wC2 ++ wM2) H → va_D (fun x : Nat => s.heap.size ≤ x) (wC2 ++ wM2) → va_S (fun x : Nat => s.heap.size ≤ x) s.heap H locs → W p l e room_1 s m #[Value.ref b0] below meth c H locs (52 + 15 * (k + 1)) (98998 + 13306 * (k + 1)) (lw_Z below #[Value.ref b0] s) (F0 m 1334 ls [])) : W p l e room_1 s m #[Value.ref b0] below meth c H locs (52 + 15 * k) (98998 + 13306 * k) (lw_Z below #[Value.ref b0] s) (F0 m 445 ls []) := by
  obtain ⟨hx, hb, hr, hml, hown, hts, hX, hbl, hlocks, hgv⟩ := id C0
  have ht : ∀ w ∈ w_all, w.before #[Value.ref b0] s = true := fun w h => hts w (w_tbl h)
  have hA : ∀ x : Nat, s.heap.size ≤ x → (fun x : Nat => s.heap.size ≤ x) x := fun _ h => h
  have hbA : ¬ (fun x : Nat => s.heap.size ≤ x) b0 := Nat.not_le.mpr hbl
  have hown : s.vm.findClass RL = some m.cls := hown
  refine lv_aload_n hx hb dL_law_445 rfl (lv_at hl 2 rfl) ?_
  refine lv_aload_n hx hb dL_law_446 rfl (lv_at hl 3 rfl) ?_
  refine lv_iload_n hx hb dL_law_447 rfl (lv_at hl 0 rfl) ?_
  refine lv_iconst (v := 1) hx hb dL_law_448 (by decide) ?_
  refine lv_iadd hx hb dL_law_449 ?_
  refine ab_i (v := nI (6 * k + 1)) (nI_plus (6 * k) 1) ?_
  refine va_sld hx hb hX hbl hbA hS (lp_in hk hL (by decide)) dL_law_450 ?_
  refine lv_aload_n hx hb dL_law_451 rfl (lv_at hl 3 rfl) ?_
  refine lv_iload_n hx hb dL_law_452 rfl (lv_at hl 0 rfl) ?_
  refine lv_iconst (v := 2) hx hb dL_law_453 (by decide) ?_
  refine lv_iadd hx hb dL_law_454 ?_
  refine ab_i (v := nI (6 * k + 2)) (nI_plus (6 * k) 2) ?_
  refine va_sld hx hb hX hbl hbA hS (lp_in hk hL (by decide)) dL_law_455 ?_
  obtain ⟨r6, r7, M2, s2n, s6n, mn, hu, hv, hn⟩ := pl_mend (l := l) (D := D) (x1 := (xs (Int32.toNatClampNeg (nI (6 * k + 1))))) (x2 := (xs (Int32.toNatClampNeg (nI (6 * k + 2))))) hC hM hJ
  refine un_goi (w := wC) (wo := wM) (rest := []) hu (List.Perm.refl _) hx hb hml hown ht wd_X6_mend mw_752 hQ hV hS hA hP hD rfl rfl hl.1 rfl (Nat.le_of_ble_eq_true rfl) dL_law_456 ⟨Nat.le_of_ble_eq_true rfl, Nat.le_of_ble_eq_true rfl, rfl, rfl⟩ (lp_rm (mc := 14) (ms := 6906) hk hL (by decide) (by decide)) (fun r_1 wr_1 H locs er_1 hP hD hS => ?_)
  obtain ⟨fr_1, hC⟩ := er_1
  refine lv_pop hx hb dL_law_459 rfl ?_
  refine lv_aload_n hx hb dL_law_460 rfl (lv_at hl 1 rfl) ?_
  refine lv_aload_n hx hb dL_law_461 rfl (lv_at hl 3 rfl) ?_
  refine lv_iload_n hx hb dL_law_462 rfl (lv_at hl 0 rfl) ?_
  refine lv_iconst (v := 1) hx hb dL_law_463 (by decide) ?_
  refine lv_iadd hx hb dL_law_464 ?_
  refine ab_i (v := nI (6 * k + 1)) (nI_plus (6 * k) 1) ?_
  refine va_sld hx hb hX hbl hbA hS (lp_in hk hL (by decide)) dL_law_465 ?_
  refine lv_aload_n hx hb dL_law_466 rfl (lv_at hl 3 rfl) ?_
  refine lv_iload_n hx hb dL_law_467 rfl (lv_at hl 0 rfl) ?_
  refine lv_iconst (v := 2) hx hb dL_law_468 (by decide) ?_
  refine lv_iadd hx hb dL_law_469 ?_
  refine ab_i (v := nI (6 * k + 2)) (nI_plus (6 * k) 2) ?_
  refine va_sld hx hb hX hbl hbA hS (lp_in hk hL (by decide)) dL_law_470 ?_
  refine un_goi (w := wM) (wo := wr_1) (rest := []) hv List.perm_append_comm hx hb hml hown ht wd_X7_mend mw_1360 hQ hV hS hA hP hD rfl rfl hl.1 rfl (Nat.le_of_ble_eq_true rfl) dL_law_471 ⟨Nat.le_of_ble_eq_true rfl, Nat.le_of_ble_eq_true rfl, rfl, rfl⟩ (lp_rm (mc := 14) (ms := 6906) hk hL (by decide) (by decide)) (fun r_2 wr_2 H locs er_2 hP hD hS => ?_)
  obtain ⟨fr_2, hM⟩ := er_2
  have hP := vp_perm List.perm_append_comm hP
  have hD := vd_perm List.perm_append_comm hD
  have hJ := hn
  refine lv_pop hx hb dL_law_474 rfl ?_
  refine lv_goto (tgt := 1334) hx hb dL_law_475 (by decide) ?_
  refine W.widen (k := 52 + 15 * (k + 1)) (n := 98998 + 13306 * (k + 1)) (by omega) (by omega) ?_
  exact kk M2 s1 s2n s3 s4 s5 s6n z7 mn wr_1 wr_2 H locs hC hM hJ hP hD hS
