/-! Arrays.fill, and what it leaves -/
def fl_f (n : Nat) (v : Int32) (f : Nat → Int32) : Nat → Int32 := fun k => if k < n then v else f k
theorem fl_0 (v : Int32) (f : Nat → Int32) : fl_f 0 v f = f := by
  funext k
  simp [fl_f]
theorem fl_s (i : Nat) (v : Int32) (f : Nat → Int32) (hi : i < 2 ^ 31) : upd (fl_f i v f) (Int32.toNatClampNeg (nI i)) v = fl_f (i + 1) v f := by
  rw [nI_clamp hi]
  funext k
  simp only [upd, fl_f]
  by_cases h : k = i
  · simp [h]
  · by_cases h2 : k < i
    · simp [h2, h, show k < i + 1 by omega]
    · simp [h2, h, show ¬ k < i + 1 by omega]
set_option maxHeartbeats 4000000 in
set_option maxRecDepth 100000 in
theorem c2_fill {l : Launch} {D : va_G} {q : Nat → ClassId} {sz a n : Nat} {f : Nat → Int32} {v : Int32} (hn : n ≤ 6400) : Met l yJ7_fill_53178 (Cond.code yJ7_fill_53178 cJ7_fill_53178 4 none :: w_all) ({ frames := 0, cells := 0, slots := 0, locals := 0 } : Room) (mt_P D q [.ref a, .int v] [(a, .inl (q 0, n, .inl f))] sz) (va_Qv (fun g : Nat → Int32 => g = fl_f n v f) (mt_B D [(a, .inl (q 0, n, .inl f))] sz (fun g => [(a, .inl (q 0, n, .inl g))])) (va_A [(a, .inl (q 0, n, .inl f))] sz)) 0 0 (va_A [(a, .inl (q 0, n, .inl f))] sz) := by
  refine mt_start (by decide) (Nat.le_of_ble_eq_true rfl) ?_
  intro p e s m below meth c ls hx hb hr hml hown ht hk hin hP hQ hD hA hS hV hl
  have hK := hQ.1
  have hl : lv_has ls 4 [(0, .ref a), (1, .int v)] := hl
  refine lv_iconst (v := 0) hx hb dJ7_fill_53178_0 (by decide) ?_
  refine lv_istore_n (lv' := [(2, .int 0), (0, .ref a), (1, .int v)]) hx hb dJ7_fill_53178_1 rfl hl (by decide) rfl (fun ls hl => ?_)
  refine lv_aload_n hx hb dJ7_fill_53178_2 rfl (lv_at hl 1 rfl) ?_
  refine va_alen (v := nI n) hx hb hK hP 0 0 rfl rfl rfl dJ7_fill_53178_3 ?_
  refine lv_istore_n (lv' := [(3, .int (nI n)), (2, .int 0), (0, .ref a), (1, .int v)]) hx hb dJ7_fill_53178_4 rfl hl (by decide) rfl (fun ls hl => ?_)
  have lp : ∀ (j i : Nat), i + j = n → ∀ (H : Heap) (locs : List Loc) (ls : Array Slot), va_P D vwCl [(a, .inl (q 0, n, .inl (fl_f i v f)))] H → va_D (va_A [(a, .inl (q 0, n, .inl f))] sz) [(a, .inl (q 0, n, .inl (fl_f i v f)))] → va_S (va_A [(a, .inl (q 0, n, .inl f))] sz) s.heap H locs → lv_has ls 4 [(2, .int (nI i)), (3, .int (nI n)), (0, .ref a), (1, .int v)] → W p l e ({ frames := 0, cells := 0, slots := 0, locals := 0 } : Room) s m [.ref a, .int v].toArray below meth c H locs 0 0 (MQ below (va_Qv (fun g : Nat → Int32 => g = fl_f n v f) (mt_B D [(a, .inl (q 0, n, .inl f))] sz (fun g => [(a, .inl (q 0, n, .inl g))])) (va_A [(a, .inl (q 0, n, .inl f))] sz)) [.ref a, .int v].toArray s 0 0 (va_A [(a, .inl (q 0, n, .inl f))] sz)) (F0 m 5 ls []) := by
    intro j
    induction j with
    | zero =>
      intro i hi H locs ls hP hD hS hl
      obtain rfl : i = n := by omega
      refine lv_iload_n hx hb dJ7_fill_53178_5 rfl (lv_at hl 0 rfl) ?_
      refine lv_iload_n hx hb dJ7_fill_53178_6 rfl (lv_at hl 1 rfl) ?_
      refine lv_icmp_ge (tgt := 20) hx hb dJ7_fill_53178_7 (by decide) (fun _ => ?_) (fun c9 => absurd (nI_le (Nat.le_refl _) (by omega)) c9)
      exact mt_vret (fl_f i v f) hx hb hr hk rfl hP hD hS dJ7_fill_53178_20
    | succ j ih =>
      intro i hi H locs ls hP hD hS hl
      refine lv_iload_n hx hb dJ7_fill_53178_5 rfl (lv_at hl 0 rfl) ?_
      refine lv_iload_n hx hb dJ7_fill_53178_6 rfl (lv_at hl 1 rfl) ?_
      refine lv_icmp_ge (tgt := 20) hx hb dJ7_fill_53178_7 (by decide) (fun c9 => absurd c9 (nI_ge (by omega) (by omega))) (fun _ => ?_)
      refine lv_aload_n hx hb dJ7_fill_53178_10 rfl (lv_at hl 2 rfl) ?_
      refine lv_iload_n hx hb dJ7_fill_53178_11 rfl (lv_at hl 0 rfl) ?_
      refine lv_iload_n hx hb dJ7_fill_53178_12 rfl (lv_at hl 3 rfl) ?_
      refine va_iast hx hb hK hP hD hS 0 0 rfl rfl (vp_in_nI (by omega) (by omega)) dJ7_fill_53178_13 (fun H locs hP hD hS => ?_)
      rw [fl_s i v f (by omega)] at hP hD
      have hP : va_P D vwCl [(a, .inl (q 0, n, .inl (fl_f (i + 1) v f)))] H := hP
      have hD : va_D _ [(a, .inl (q 0, n, .inl (fl_f (i + 1) v f)))] := hD
      refine lv_iinc (v := nI (i + 1)) (lv' := [(2, .int (nI (i + 1))), (3, .int (nI n)), (0, .ref a), (1, .int v)]) hx hb dJ7_fill_53178_14 hl (k := 0) rfl (nI_inc i) (by decide) rfl (fun ls hl => ?_)
      refine lv_goto (tgt := 5) hx hb dJ7_fill_53178_17 (by decide) ?_
      exact ih (i + 1) (by omega) H locs ls hP hD hS hl
  refine lp n 0 (by omega) _ _ ls ?_ ?_ hS (lv_sub hl [1, 0, 2, 3] rfl)
  · rw [fl_0]
    exact hP
  · rw [fl_0]
    exact hD
