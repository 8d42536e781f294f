def st_ix : List Nat := [52, 58, 60, 62, 64, 66, 68, 70, 72, 74, 76, 78]
def st_tm (i : Nat) : Term := .string "FlapBoard$Tape" (st_ix.getD i 0)
def nr_l : List Cond := flatC (Jvm.Cond.and given_1 narrow_1)
theorem st_1 : ∀ i, i < 12 → Cond.exactly (st_tm i) "java/lang/String" ∈ nr_l := by decide +kernel
theorem st_2 : ∀ i, i < 12 → Cond.eq (.field (st_tm i) "java/lang/String" "coder" "B") (.int 0) ∈ nr_l := by decide +kernel
theorem st_3 : ∀ i, i < 12 → Cond.arrayOf (.field (st_tm i) "java/lang/String" "value" "[B") .byte ∈ nr_l := by decide +kernel
theorem st_4 : ∀ i, i < 12 → Cond.eq (.length (.field (st_tm i) "java/lang/String" "value" "[B")) (.int (Int32.ofNat (st_len.getD i 0))) ∈ nr_l := by decide +kernel
theorem st_5 : ∀ i, i < 12 → ∀ j, j < st_len.getD i 0 → Cond.eq (.elem (.field (st_tm i) "java/lang/String" "value" "[B") (.int (Int32.ofNat j))) (.int ((st_byt.getD i []).getD j 0)) ∈ nr_l := by decide +kernel
theorem st_6 : ∀ i, i < 12 → ∀ j, j < i → Cond.not (Cond.eq (st_tm j) (st_tm i)) ∈ nr_l := by decide +kernel
theorem st_7 : ∀ i, i < 12 → st_len.getD i 0 < 2 ^ 31 := by decide +kernel
theorem st_8 : ∀ z ∈ st_l, z.2.2.2 < 12 ∧ Cond.stringRef z.1 z.2.1 z.2.2.1 ∈ lw_tbl := by decide +kernel
theorem st_9 : ∀ z ∈ st_l, Cond.eq (st_tm z.2.2.2) (.string z.1 z.2.1) ∈ nr_l ∨ Term.string z.1 z.2.1 = st_tm z.2.2.2 := by decide +kernel
theorem st_10 : Cond.eq (.static "java/lang/String" "COMPACT_STRINGS" "Z") (.int 1) ∈ nr_l := by decide +kernel
theorem st_11 : Cond.isRef (.static "jdk/internal/util/Preconditions" "SIOOBE_FORMATTER" "Ljava/util/function/BiFunction;") ∈ nr_l := by decide +kernel
theorem vk_Sc {N : Nat} {len : List Nat} {byt : List (List Int32)} {adK adV bdK bdV : Nat → Nat} {A : Nat → Prop} {U : State} {H : Heap} (h : vk_S N len byt adK adV A U H) (e1 : ∀ i, i < N → bdK i = adK i) (e2 : ∀ i, i < N → bdV i = adV i) : vk_S N len byt bdK bdV A U H := by
  refine ⟨fun i hi => ?_, fun i j hi hj e => ?_⟩
  · rw [e1 i hi, e2 i hi]
    exact h.1 i hi
  · rw [e1 i hi, e1 j hj] at e
    exact h.2 i j hi hj e
theorem ar_known {s : State} {args : Array Value} {ty : FieldType} (h : (Cond.arrayClass ty).before args s = true) : ∃ cA : ClassId, ArrOfT s cA ty ∧ s.vm.findClass ("[" ++ ty.toString) = some cA := by
  obtain ⟨cA, kA, comp, h1, h2, h3⟩ := Cond.arrayClass_spec h
  exact ⟨cA, fun n z => ⟨fun k h => (by cases h), kA, h2, comp, h3⟩, h1⟩
set_option maxHeartbeats 4000000 in
set_option maxRecDepth 100000 in
theorem lw_known {p : Program} {s : State} {m : MethodId} {meth : Method} {c : Code} {b L : Nat} {xs : Nat → Int32} (C0 : lw_At p s m meth c b L xs) : ∃ (D : va_G) (q : Nat → ClassId), kn D q s ∧ sv q (fun x : Nat => s.heap.size ≤ x) s s.heap := by
  obtain ⟨hx, hb, hr, hml, hown, hts, hX, hbl, hlocks, hgv⟩ := id C0
  have hA : ∀ a : Nat, a < s.heap.size → ¬ (fun x : Nat => s.heap.size ≤ x) a := fun a h => Nat.not_le.mpr h
  have hg : ∀ w ∈ nr_l, w.before #[Value.ref b] s = true := flat_of_before _ hgv
  have ht : ∀ w ∈ w_all, w.before #[Value.ref b] s = true := fun w h => hts w (w_tbl h)
  obtain ⟨c0, s0, h0⟩ := u_known (C := RX0) (T := TX0) (N := 18) (n := 18) ht in_X0 (hts (.instantiable RX0 18) (List.mem_of_getElem? (i := 162) (by decide +kernel)))
  obtain ⟨c1, s1, h1⟩ := u_known (C := RX2) (T := TX2) (N := 12) (n := 12) ht in_X2 (hts (.instantiable RX2 12) (List.mem_of_getElem? (i := 248) (by decide +kernel)))
  obtain ⟨c2, s2, h2⟩ := u_known (C := RX3) (T := TX3) (N := 3) (n := 3) ht in_X3 (hts (.instantiable RX3 3) (List.mem_of_getElem? (i := 337) (by decide +kernel)))
  obtain ⟨c3, s3, h3⟩ := u_known (C := RX4) (T := TX4) (N := 10) (n := 10) ht in_X4 (hts (.instantiable RX4 10) (List.mem_of_getElem? (i := 299) (by decide +kernel)))
  obtain ⟨c4, s4, h4⟩ := u_known (C := RX5) (T := TX5) (N := 7) (n := 7) ht in_X5 (hts (.instantiable RX5 7) (List.mem_of_getElem? (i := 123) (by decide +kernel)))
  obtain ⟨c5, s5, h5⟩ := u_known (C := RX6) (T := TX6) (N := 7) (n := 7) ht in_X6 (hts (.instantiable RX6 7) (List.mem_of_getElem? (i := 115) (by decide +kernel)))
  obtain ⟨c6, s6, h6⟩ := u_known (C := RX7) (T := TX7) (N := 23) (n := 23) ht in_X7 (hts (.instantiable RX7 23) (List.mem_of_getElem? (i := 1124) (by decide +kernel)))
  obtain ⟨aI, aI1, aI2⟩ := ar_known (hts (.arrayClass .int) (List.mem_of_getElem? (i := 160) (by decide +kernel)))
  obtain ⟨aJ, aJ1, aJ2⟩ := ar_known (hts (.arrayClass .long) (List.mem_of_getElem? (i := 246) (by decide +kernel)))
  obtain ⟨aB, aB1, aB2⟩ := ar_known (hts (.arrayClass .byte) (List.mem_of_getElem? (i := 612) (by decide +kernel)))
  obtain ⟨aZ, aZ1, aZ2⟩ := ar_known (hts (.arrayClass .boolean) (List.mem_of_getElem? (i := 1200) (by decide +kernel)))
  have hO := hts (.arrayOver (.object "FlapBoard$Board")) (List.mem_of_getElem? (i := 343) (by decide +kernel))
  obtain ⟨comp, aO, kO, o1, -, o2, o3, o4⟩ := Cond.arrayOver_spec hO
  obtain ⟨adK, adV, hst, hev⟩ := vk_Sof (args := #[Value.ref b]) (s := s) (N := 12) (tm := st_tm) (len := st_len) (byt := st_byt) (A := fun x : Nat => s.heap.size ≤ x) st_7 (fun i hi => hg _ (st_1 i hi)) (fun i hi => hg _ (st_2 i hi)) (fun i hi => hg _ (st_3 i hi)) (fun i hi => hg _ (st_4 i hi)) (fun i hi j hj => hg _ (st_5 i hi j hj)) (fun i j hi hj hne => by
    rcases Nat.lt_or_gt_of_ne hne with h | h
    · exact Or.inl (hg _ (st_6 j hj i h))
    · exact Or.inr (hg _ (st_6 i hi j h))) hA
  obtain ⟨q, hq⟩ : ∃ q : Nat → ClassId, q = fun n => if n < 100 then [aI, aJ, aB, aZ, aO].getD n 0 else if n < 200 then adK (n - 100) else adV (n - 200) := ⟨_, rfl⟩
  have q0 : q 0 = aI := by rw [hq]; rfl
  have q1 : q 1 = aJ := by rw [hq]; rfl
  have q2 : q 2 = aB := by rw [hq]; rfl
  have q3 : q 3 = aZ := by rw [hq]; rfl
  have q4 : q 4 = aO := by rw [hq]; rfl
  have qK : ∀ i, i < 12 → q (100 + i) = adK i := fun i hi => by
    rw [hq]
    show (if 100 + i < 100 then _ else if 100 + i < 200 then adK (100 + i - 100) else _) = _
    rw [if_neg (by omega), if_pos (by omega), show 100 + i - 100 = i by omega]
  have qV : ∀ i, i < 12 → q (200 + i) = adV i := fun i hi => by
    rw [hq]
    show (if 200 + i < 100 then _ else if 200 + i < 200 then _ else adV (200 + i - 200)) = _
    rw [if_neg (by omega), if_neg (by omega), show 200 + i - 200 = i by omega]
  refine ⟨(fun k => [c0, c1, c2, c3, c4, c5, c6].getD k 0, fun k => [s0, s1, s2, s3, s4, s5, s6].getD k (fun _ => 0)), q, ⟨⟨?_, ?_⟩, va_AO.of hO, ?_, ?_, ?_, ?_⟩, ?_, ?_, ?_⟩
  · intro k z hk
    match k, hk with
    | 0, hk => cases hk; exact h0
    | 1, hk => cases hk; exact h1
    | 2, hk => cases hk; exact h2
    | 3, hk => cases hk; exact h3
    | 4, hk => cases hk; exact h4
    | 5, hk => cases hk; exact h5
    | 6, hk => cases hk; exact h6
    | k + 7, hk => simp [vwCl] at hk
  · intro k z hk
    match k, hk with
    | 0, hk => cases hk; rw [q0]; exact ⟨aI1, aI2⟩
    | 1, hk => cases hk; rw [q1]; exact ⟨aJ1, aJ2⟩
    | 2, hk => cases hk; rw [q2]; exact ⟨aB1, aB2⟩
    | 3, hk => cases hk; rw [q3]; exact ⟨aZ1, aZ2⟩
    | 4, hk =>
      cases hk
      rw [q4]
      exact ⟨fun n z => ⟨fun k h => (by cases h), kO, o2, comp, o3⟩, kO, comp, o2, o3, o1, o4⟩
    | k + 5, hk => simp [ty_l] at hk
  · intro z hz
    have h8 := st_8 z hz
    refine vk_R.of (A := #[Value.ref b]) (hts _ h8.2) ?_
    rw [qK _ h8.1]
    rcases st_9 z hz with h | h
    · obtain ⟨w, e1, e2⟩ := Cond.eq_one (show (Cond.eq (st_tm z.2.2.2) (.string z.1 z.2.1)).holds #[Value.ref b] s none s [] = true from hg _ h)
      rw [e2, ← e1]
      exact hev _ h8.1
    · rw [h]
      exact hev _ h8.1
  · exact va_Nw.of (A := #[Value.ref b]) rfl (hts (.methodLinkNest "FlapBoard$Tape" 103 yX6_isSign "FlapBoard") (List.mem_of_getElem? (i := 530) (by decide +kernel)))
  · exact va_Nw.of (A := #[Value.ref b]) rfl (hts (.methodLinkNest "FlapBoard$Board" 174 yX6_behind "FlapBoard") (List.mem_of_getElem? (i := 714) (by decide +kernel)))
  · exact va_Nw.of (A := #[Value.ref b]) rfl (hts (.methodLinkNest "FlapBoard$Board" 154 yX6_onFrom "FlapBoard") (List.mem_of_getElem? (i := 1017) (by decide +kernel)))
  · exact vk_Sc hst qK qV
  · exact va_Zof (args := #[Value.ref b]) (hts (.laysStatic "java/lang/String" "COMPACT_STRINGS" "Z") (List.mem_of_getElem? (i := 445) (by decide +kernel))) (hts (.initialized "java/lang/String") (List.mem_of_getElem? (i := 106) (by decide +kernel))) (va_eqi (hg _ st_10)) hA
  · exact va_Zqof (args := #[Value.ref b]) (hts (.laysStatic "jdk/internal/util/Preconditions" "SIOOBE_FORMATTER" "Ljava/util/function/BiFunction;") (List.mem_of_getElem? (i := 461) (by decide +kernel))) (hts (.initialized "jdk/internal/util/Preconditions") (List.mem_of_getElem? (i := 108) (by decide +kernel))) (hg _ st_11) hA

set_option maxHeartbeats 4000000 in
set_option maxRecDepth 100000 in
theorem whole_start {p : Program} {e : Env} {s : State} {m : MethodId} {below : List Frame} {meth : Method} {c : Code} (l : Launch) (hflags : l.flags = flags0) {b L : Nat} {xs : Nat → Int32} (hL : L ≤ 3072) (C0 : lw_At p s m meth c b L xs) : W p l e room_1 s m #[Value.ref b] below meth c s.heap [] 0 0 (lw_Z below #[Value.ref b] s) (entryFrame m ([Value.ref b] : List Value).toArray 4) := by
  obtain ⟨hx, hb, hr, hml, hown, hts, hX, hbl, hlocks, hgv⟩ := id C0
  have ht : ∀ w ∈ w_all, w.before #[Value.ref b] s = true := fun w h => hts w (w_tbl h)
  have hA : ∀ x : Nat, s.heap.size ≤ x → (fun x : Nat => s.heap.size ≤ x) x := fun _ h => h
  have hbA : ¬ (fun x : Nat => s.heap.size ≤ x) b := Nat.not_le.mpr hbl
  have hown : s.vm.findClass RL = some m.cls := hown
  obtain ⟨D, q, hQ, hV⟩ := lw_known C0
  have hK := hQ.1
  have hS : va_S (fun x : Nat => s.heap.size ≤ x) s.heap s.heap [] := va_S.rf
  have hP : va_P D vwCl [] s.heap := fun k z h => by simp at h
  have hD : va_D (fun x : Nat => s.heap.size ≤ x) [] := ⟨fun i j z w h => by simp at h, fun k z h => by simp at h⟩
  have hl := lv_entry ([.ref b]) (n := 4) (Nat.le_of_ble_eq_true rfl)
  rw [lg_entry_eq]
  generalize (lg_sl ([.ref b]) ++ List.replicate (4 - (lg_sl ([.ref b])).length) Slot.unset).toArray = ls at hl ⊢
  have hl : lv_has ls 4 [(0, .ref b)] := hl
  refine va_new (ci := 5) (fs := [.null, .null, .null, .null, .null, .null, .null]) (C := RX6) (T := TX6) (N := 7) hx hb ht in_X6 tyX6 tyX6_ok hown (ht _ mw_114) (ht _ mw_115) (ht _ mw_98) hK hP hD hS hA rfl (fun j hj => nf_X6 j hj) (Nat.le_of_ble_eq_true rfl) (Nat.le_of_ble_eq_true rfl) dL_law_0 (fun oa H hP hD hS => ?_)
  refine W.widen (k := 1) (n := 7) (Nat.le_of_ble_eq_true rfl) (Nat.le_of_ble_eq_true rfl) ?_
  refine lv_dup hx hb dL_law_3 rfl ?_
  refine mt_gov (mt_wI (wc := [(oa, .inr (5, [.null, .null, .null, .null, .null, .null, .null]))]) (As := []) (rest := [.ref oa]) hx hb hml hown ht ct_init_X6 wd_X6_init mw_116 hQ hV hS hA (hP.sub [0] rfl) (hD.sub [0] (by decide) rfl) rfl hl.1 rfl (Nat.le_of_ble_eq_true rfl) dL_law_4 ⟨Nat.le_of_ble_eq_true rfl, Nat.le_of_ble_eq_true rfl, rfl, rfl⟩ ⟨Nat.le_of_ble_eq_true rfl, Nat.le_of_ble_eq_true rfl⟩) (wr := []) hP hD hS hA [0] [] rfl rfl (by decide +kernel) (by decide +kernel) (fun a H locs hw hPn hDn hSn => ?_)
  refine W.widen (k := 44) (n := 1989) (Nat.le_of_ble_eq_true rfl) (Nat.le_of_ble_eq_true rfl) ?_
  subst hw
  have hP : va_P D vwCl (fb_w a q) H := hPn
  have hD : va_D _ (fb_w a q) := hDn
  have hS := hSn
  refine lv_astore_n (lv' := [(1, .ref (a 0)), (0, .ref b)]) hx hb dL_law_7 rfl hl (by decide) rfl (fun ls hl => ?_)
  refine va_new (ci := 6) (fs := [.null, .null, .int 0, .null, .null, .null, .long 0, .int 0, .int 0, .null, .int 0, .int 0, .null, .int 0, .int 0, .int 0, .int 0, .int 0, .int 0, .int 0, .int 0, .int 0, .int 0]) (C := RX7) (T := TX7) (N := 23) hx hb ht in_X7 tyX7 tyX7_ok hown (ht _ mw_1123) (ht _ mw_1124) (ht _ mw_104) hK hP hD hS hA rfl (fun j hj => nf_X7 j hj) (Nat.le_of_ble_eq_true rfl) (Nat.le_of_ble_eq_true rfl) dL_law_8 (fun ob1 H hP hD hS => ?_)
  refine W.widen (k := 45) (n := 2012) (Nat.le_of_ble_eq_true rfl) (Nat.le_of_ble_eq_true rfl) ?_
  refine lv_dup hx hb dL_law_11 rfl ?_
  refine mt_gov (mt_wI (wc := [(ob1, .inr (6, [.null, .null, .int 0, .null, .null, .null, .long 0, .int 0, .int 0, .null, .int 0, .int 0, .null, .int 0, .int 0, .int 0, .int 0, .int 0, .int 0, .int 0, .int 0, .int 0, .int 0]))]) (As := []) (rest := [.ref ob1]) hx hb hml hown ht ct_init_X7 wd_X7_init mw_1125 hQ hV hS hA (hP.sub [44] rfl) (hD.sub [44] (by decide) rfl) rfl hl.1 rfl (Nat.le_of_ble_eq_true rfl) dL_law_12 ⟨Nat.le_of_ble_eq_true rfl, Nat.le_of_ble_eq_true rfl, rfl, rfl⟩ ⟨Nat.le_of_ble_eq_true rfl, Nat.le_of_ble_eq_true rfl⟩) (wr := (fb_w a q)) hP hD hS hA [44] (List.range 44) rfl rfl (by decide +kernel) (by decide +kernel) (fun b1 H locs hw hPn hDn hSn => ?_)
  refine W.widen (k := 52) (n := 98998) (Nat.le_of_ble_eq_true rfl) (Nat.le_of_ble_eq_true rfl) ?_
  subst hw
  have hP : va_P D vwCl (fb_w a q ++ md_w b1 q) H := hPn
  have hD : va_D _ (fb_w a q ++ md_w b1 q) := hDn
  have hS := hSn
  refine lv_astore_n (lv' := [(2, .ref (b1 0)), (1, .ref (a 0)), (0, .ref b)]) hx hb dL_law_15 rfl hl (by decide) rfl (fun ls hl => ?_)
  refine lv_iconst (v := 0) hx hb dL_law_16 (by decide) ?_
  refine lv_istore_n (lv' := [(3, .int (nI (6 * 0))), (2, .ref (b1 0)), (1, .ref (a 0)), (0, .ref b)]) hx hb dL_law_17 rfl hl (by decide) rfl (fun ls hl => ?_)
  obtain ⟨wM, hM, hpm⟩ := fresh_mW b1 q
  have hpm2 := hpm.append_left (fb_w a q)
  exact lp_go C0 hL hQ hV 513 0 rfl 0 zT fr_B fr_B zO zG zA zS zM (fb_w a q) wM _ _ ls (fresh_cW a q) hM fresh_J (vp_perm hpm2 hP) (vd_perm hpm2 hD) hS hl
