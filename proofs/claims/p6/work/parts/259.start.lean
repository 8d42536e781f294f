set_option maxHeartbeats 4000000 in
set_option maxRecDepth 100000 in
theorem whole_start {p : Program} {e : Env} {s : State} {m : MethodId} {below : List Frame} {meth : Method} {c : Code} (l : Launch) (hflags : l.flags = flags0) {b L : Nat} {xs : Nat → Int32} (hL : L ≤ 3072) (C0 : lw_At p s m meth c b L xs) : W p l e room_1 s m #[Value.ref b] below meth c s.heap [] 0 0 (lw_Z below #[Value.ref b] s) (entryFrame m ([Value.ref b] : List Value).toArray 4) := by
  obtain ⟨hx, hb, hr, hml, hown, hts, hX, hbl, hlocks, hgv⟩ := id C0
  have ht : ∀ w ∈ w_all, w.before #[Value.ref b] s = true := fun w h => hts w (w_tbl h)
  have hA : ∀ x : Nat, s.heap.size ≤ x → (fun x : Nat => s.heap.size ≤ x) x := fun _ h => h
  have hbA : ¬ (fun x : Nat => s.heap.size ≤ x) b := Nat.not_le.mpr hbl
  have hown : s.vm.findClass RL = some m.cls := hown
  obtain ⟨D, q, hQ, hV⟩ := lw_known C0
  have hK := hQ.1
  have hS : va_S (fun x : Nat => s.heap.size ≤ x) s.heap s.heap [] := va_S.rf
  have hP : va_P D vwCl [] s.heap := fun k z h => by simp at h
  have hD : va_D (fun x : Nat => s.heap.size ≤ x) [] := ⟨fun i j z w h => by simp at h, fun k z h => by simp at h⟩
  have hl := lv_entry ([.ref b]) (n := 4) (Nat.le_of_ble_eq_true rfl)
  rw [lg_entry_eq]
  generalize (lg_sl ([.ref b]) ++ List.replicate (4 - (lg_sl ([.ref b])).length) Slot.unset).toArray = ls at hl ⊢
  have hl : lv_has ls 4 [(0, .ref b)] := hl
  refine va_new (ci := 5) (fs := [.null, .null, .null, .null, .null, .null, .null]) (C := RX6) (T := TX6) (N := 7) hx hb ht in_X6 tyX6 tyX6_ok hown (ht _ mw_114) (ht _ mw_115) (ht _ mw_98) hK hP hD hS hA rfl (fun j hj => nf_X6 j hj) (Nat.le_of_ble_eq_true rfl) (Nat.le_of_ble_eq_true rfl) dL_law_0 (fun oa H hP hD hS => ?_)
  refine W.widen (k := 1) (n := 7) (Nat.le_of_ble_eq_true rfl) (Nat.le_of_ble_eq_true rfl) ?_
  refine lv_dup hx hb dL_law_3 rfl ?_
  refine mt_gov (mt_wI (wc := [(oa, .inr (5, [.null, .null, .null, .null, .null, .null, .null]))]) (As := []) (rest := [.ref oa]) hx hb hml hown ht ct_init_X6 wd_X6_init mw_116 hQ hV hS hA (hP.sub [0] rfl) (hD.sub [0] (by decide) rfl) rfl hl.1 rfl (Nat.le_of_ble_eq_true rfl) dL_law_4 ⟨Nat.le_of_ble_eq_true rfl, Nat.le_of_ble_eq_true rfl, rfl, rfl⟩ ⟨Nat.le_of_ble_eq_true rfl, Nat.le_of_ble_eq_true rfl⟩) (wr := []) hP hD hS hA [0] [] rfl rfl (by decide +kernel) (by decide +kernel) (fun a H locs hw hPn hDn hSn => ?_)
  refine W.widen (k := 44) (n := 1989) (Nat.le_of_ble_eq_true rfl) (Nat.le_of_ble_eq_true rfl) ?_
  subst hw
  have hP : va_P D vwCl (fb_w a q) H := hPn
  have hD : va_D _ (fb_w a q) := hDn
  have hS := hSn
  refine lv_astore_n (lv' := [(1, .ref (a 0)), (0, .ref b)]) hx hb dL_law_7 rfl hl (by decide) rfl (fun ls hl => ?_)
  refine va_new (ci := 6) (fs := [.null, .null, .int 0, .null, .null, .null, .long 0, .int 0, .int 0, .null, .int 0, .int 0, .null, .int 0, .int 0, .int 0, .int 0, .int 0, .int 0, .int 0, .int 0, .int 0, .int 0]) (C := RX7) (T := TX7) (N := 23) hx hb ht in_X7 tyX7 tyX7_ok hown (ht _ mw_1123) (ht _ mw_1124) (ht _ mw_104) hK hP hD hS hA rfl (fun j hj => nf_X7 j hj) (Nat.le_of_ble_eq_true rfl) (Nat.le_of_ble_eq_true rfl) dL_law_8 (fun ob1 H hP hD hS => ?_)
  refine W.widen (k := 45) (n := 2012) (Nat.le_of_ble_eq_true rfl) (Nat.le_of_ble_eq_true rfl) ?_
  refine lv_dup hx hb dL_law_11 rfl ?_
  refine mt_gov (mt_wI (wc := [(ob1, .inr (6, [.null, .null, .int 0, .null, .null, .null, .long 0, .int 0, .int 0, .null, .int 0, .int 0, .null, .int 0, .int 0, .int 0, .int 0, .int 0, .int 0, .int 0, .int 0, .int 0, .int 0]))]) (As := []) (rest := [.ref ob1]) hx hb hml hown ht ct_init_X7 wd_X7_init mw_1125 hQ hV hS hA (hP.sub [44] rfl) (hD.sub [44] (by decide) rfl) rfl hl.1 rfl (Nat.le_of_ble_eq_true rfl) dL_law_12 ⟨Nat.le_of_ble_eq_true rfl, Nat.le_of_ble_eq_true rfl, rfl, rfl⟩ ⟨Nat.le_of_ble_eq_true rfl, Nat.le_of_ble_eq_true rfl⟩) (wr := (fb_w a q)) hP hD hS hA [44] (List.range 44) rfl rfl (by decide +kernel) (by decide +kernel) (fun b1 H locs hw hPn hDn hSn => ?_)
  refine W.widen (k := 52) (n := 98998) (Nat.le_of_ble_eq_true rfl) (Nat.le_of_ble_eq_true rfl) ?_
  subst hw
  have hP : va_P D vwCl (fb_w a q ++ md_w b1 q) H := hPn
  have hD : va_D _ (fb_w a q ++ md_w b1 q) := hDn
  have hS := hSn
  refine lv_astore_n (lv' := [(2, .ref (b1 0)), (1, .ref (a 0)), (0, .ref b)]) hx hb dL_law_15 rfl hl (by decide) rfl (fun ls hl => ?_)
  refine lv_iconst (v := 0) hx hb dL_law_16 (by decide) ?_
  refine lv_istore_n (lv' := [(3, .int (nI (6 * 0))), (2, .ref (b1 0)), (1, .ref (a 0)), (0, .ref b)]) hx hb dL_law_17 rfl hl (by decide) rfl (fun ls hl => ?_)
  obtain ⟨wM, hM, hpm⟩ := fresh_mW b1 q
  have hpm2 := hpm.append_left (fb_w a q)
  exact lp_go C0 hL hQ hV 513 0 rfl 0 zT fr_B fr_B zO zG zA zS zM (fb_w a q) wM _ _ ls (fresh_cW a q) hM fresh_J (vp_perm hpm2 hP) (vd_perm hpm2 hD) hS hl
