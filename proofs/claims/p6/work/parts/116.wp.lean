def wp_X6_doProgram_L9 (s1 : Tp) (post : Int32 → Bd → Mo → Pg → Prop) (e59 : Bd → Mo → Pg → Int32 → Prop) : Nat → Bd → Mo → Pg → Int32 → Prop
  | 0, _, _, _, _ => False
  | n9 + 1, t2, t3, t4, z1 => ((200 ≤ z1 → e59 t2 t3 t4 z1) ∧ (¬ 200 ≤ z1 → wp_X4_hasStep (fun r_4 => ((¬ r_4 = 0 → wp_X6_doStep (fun u_8a u_8b => wp_X4_goOn (fun u_10 => wp_X6_doProgram_L9 s1 post e59 n9 u_8a u_8b u_10 (z1 + 1)) t4) s1 t2 t3 t4 (t4.1 2)) ∧ (r_4 = 0 → post z1 t2 t3 t4))) t4 (t4.1 2)))
def wp_X6_doProgram (post : Int32 → Bd → Mo → Pg → Prop) (s1 : Tp) (s2 : Bd) (s4 : Mo) (s5 : Pg) : Prop := wp_X4_startDoing (fun u_2 => (∃ n9, wp_X6_doProgram_L9 s1 post (fun t2 t3 t4 z1 => post 200 t2 t3 t4) n9 s2 s4 u_2 0)) s5
set_option maxHeartbeats 4000000 in
set_option maxRecDepth 100000 in
theorem c2_X6_doProgram {l : Launch} {D : va_G} {q : Nat → ClassId} {sz : Nat} {a0 a1 a2 a3 a4 a5 : Nat → Nat} {p8 s8 : Nat} {s1 : Tp} {s2 : Bd} {s4 : Mo} {s5 : Pg} {post : Int32 → Bd → Mo → Pg → Prop} (h : wp_X6_doProgram post s1 s2 s4 s5) : Met l yX6_doProgram (Cond.code yX6_doProgram cX6_doProgram 2 (some .int) :: w_all) ({ frames := 5, cells := 0, slots := 0, locals := 137 } : Room) (mt_P D q [.ref (a0 0)] (fo_w (a0 0) (a1 0) (a2 0) (a3 0) (a4 0) (a5 0) p8 s8 ++ tp_w a1 q s1 ++ bd_w a2 q s2 ++ mo_w a4 q s4 ++ pg_w a5 q s5) sz) (va_Qi (fun r (u : Bd × Mo × Pg) => post r u.1 u.2.1 u.2.2) (mt_B D (fo_w (a0 0) (a1 0) (a2 0) (a3 0) (a4 0) (a5 0) p8 s8 ++ tp_w a1 q s1 ++ bd_w a2 q s2 ++ mo_w a4 q s4 ++ pg_w a5 q s5) sz (fun u : Bd × Mo × Pg => fo_w (a0 0) (a1 0) (a2 0) (a3 0) (a4 0) (a5 0) p8 s8 ++ tp_w a1 q s1 ++ bd_w a2 q u.1 ++ mo_w a4 q u.2.1 ++ pg_w a5 q u.2.2)) (va_A (fo_w (a0 0) (a1 0) (a2 0) (a3 0) (a4 0) (a5 0) p8 s8 ++ tp_w a1 q s1 ++ bd_w a2 q s2 ++ mo_w a4 q s4 ++ pg_w a5 q s5) sz)) 0 0 (va_A (fo_w (a0 0) (a1 0) (a2 0) (a3 0) (a4 0) (a5 0) p8 s8 ++ tp_w a1 q s1 ++ bd_w a2 q s2 ++ mo_w a4 q s4 ++ pg_w a5 q s5) sz) := by
  refine mt_start (by decide) (Nat.le_of_ble_eq_true rfl) ?_
  intro p e s m below meth c ls hx hb hr hml hown ht hk hin hP hQ hD hA hS hV hl
  have hK := hQ.1
  have hown : s.vm.findClass RX6 = some m.cls := hown
  have hl : lv_has ls 2 [(0, .ref (a0 0))] := hl
  have hP : va_P D vwCl [((a0 0), .inr (5, [.ref (a1 0), .ref (a2 0), .ref (a3 0), .ref (a4 0), .ref (a5 0), .ref p8, .ref s8])), ((a1 0), .inr (4, [.ref (a1 1), .int (s1.1 0), .int (s1.1 1), .int (s1.1 2), .int (s1.1 3), .int (s1.1 4), .int (s1.1 5)])), ((a1 1), .inl (q 0, 400, .inl s1.2)), ((a2 0), .inr (0, [.int (s2.1 0), .int (s2.1 1), .int (s2.1 2), .int (s2.1 3), .int (s2.1 4), .int (s2.1 5), .ref (a2 1), .ref (a2 2), .ref (a2 3), .ref (a2 4), .ref (a2 5), .ref (a2 6), .ref (a2 7), .ref (a2 8), .ref (a2 9), .ref (a2 10), .ref (a2 11), .ref (a2 12)])), ((a2 1), .inl (q 0, 4, .inl (s2.2.1 0))), ((a2 2), .inl (q 0, 4, .inl (s2.2.1 1))), ((a2 3), .inl (q 0, 160, .inl (s2.2.1 2))), ((a2 4), .inl (q 0, 40, .inl (s2.2.1 3))), ((a2 5), .inl (q 0, 40, .inl (s2.2.1 4))), ((a2 6), .inl (q 0, 40, .inl (s2.2.1 5))), ((a2 7), .inl (q 0, 40, .inl (s2.2.1 6))), ((a2 8), .inl (q 0, 40, .inl (s2.2.1 7))), ((a2 9), .inl (q 0, 40, .inl (s2.2.1 8))), ((a2 10), .inl (q 0, 40, .inl (s2.2.1 9))), ((a2 11), .inl (q 1, 40, .inr (.inl s2.2.2.1))), ((a2 12), .inl (q 0, s2.2.2.2.1, .inl s2.2.2.2.2)), ((a4 0), .inr (1, [.ref (a4 1), .ref (a4 2), .ref (a4 3), .int (s4.1 0), .int (s4.1 1), .int (s4.1 2), .int (s4.1 3), .int (s4.1 4), .int (s4.1 5), .int (s4.1 6), .int (s4.1 7), .int (s4.1 8)])), ((a4 1), .inl (q 0, 40, .inl (s4.2 0))), ((a4 2), .inl (q 0, 40, .inl (s4.2 1))), ((a4 3), .inl (q 0, 40, .inl (s4.2 2))), ((a5 0), .inr (3, [.ref (a5 1), .ref (a5 2), .ref (a5 3), .ref (a5 4), .ref (a5 5), .ref (a5 6), .ref (a5 7), .int (s5.1 0), .int (s5.1 1), .int (s5.1 2)])), ((a5 1), .inl (q 0, 80, .inl (s5.2 0))), ((a5 2), .inl (q 0, 80, .inl (s5.2 1))), ((a5 3), .inl (q 0, 80, .inl (s5.2 2))), ((a5 4), .inl (q 0, 80, .inl (s5.2 3))), ((a5 5), .inl (q 0, 80, .inl (s5.2 4))), ((a5 6), .inl (q 0, 3, .inl (s5.2 5))), ((a5 7), .inl (q 0, 3, .inl (s5.2 6)))] s.heap := hP
  have hD : va_D _ [((a0 0), .inr (5, [.ref (a1 0), .ref (a2 0), .ref (a3 0), .ref (a4 0), .ref (a5 0), .ref p8, .ref s8])), ((a1 0), .inr (4, [.ref (a1 1), .int (s1.1 0), .int (s1.1 1), .int (s1.1 2), .int (s1.1 3), .int (s1.1 4), .int (s1.1 5)])), ((a1 1), .inl (q 0, 400, .inl s1.2)), ((a2 0), .inr (0, [.int (s2.1 0), .int (s2.1 1), .int (s2.1 2), .int (s2.1 3), .int (s2.1 4), .int (s2.1 5), .ref (a2 1), .ref (a2 2), .ref (a2 3), .ref (a2 4), .ref (a2 5), .ref (a2 6), .ref (a2 7), .ref (a2 8), .ref (a2 9), .ref (a2 10), .ref (a2 11), .ref (a2 12)])), ((a2 1), .inl (q 0, 4, .inl (s2.2.1 0))), ((a2 2), .inl (q 0, 4, .inl (s2.2.1 1))), ((a2 3), .inl (q 0, 160, .inl (s2.2.1 2))), ((a2 4), .inl (q 0, 40, .inl (s2.2.1 3))), ((a2 5), .inl (q 0, 40, .inl (s2.2.1 4))), ((a2 6), .inl (q 0, 40, .inl (s2.2.1 5))), ((a2 7), .inl (q 0, 40, .inl (s2.2.1 6))), ((a2 8), .inl (q 0, 40, .inl (s2.2.1 7))), ((a2 9), .inl (q 0, 40, .inl (s2.2.1 8))), ((a2 10), .inl (q 0, 40, .inl (s2.2.1 9))), ((a2 11), .inl (q 1, 40, .inr (.inl s2.2.2.1))), ((a2 12), .inl (q 0, s2.2.2.2.1, .inl s2.2.2.2.2)), ((a4 0), .inr (1, [.ref (a4 1), .ref (a4 2), .ref (a4 3), .int (s4.1 0), .int (s4.1 1), .int (s4.1 2), .int (s4.1 3), .int (s4.1 4), .int (s4.1 5), .int (s4.1 6), .int (s4.1 7), .int (s4.1 8)])), ((a4 1), .inl (q 0, 40, .inl (s4.2 0))), ((a4 2), .inl (q 0, 40, .inl (s4.2 1))), ((a4 3), .inl (q 0, 40, .inl (s4.2 2))), ((a5 0), .inr (3, [.ref (a5 1), .ref (a5 2), .ref (a5 3), .ref (a5 4), .ref (a5 5), .ref (a5 6), .ref (a5 7), .int (s5.1 0), .int (s5.1 1), .int (s5.1 2)])), ((a5 1), .inl (q 0, 80, .inl (s5.2 0))), ((a5 2), .inl (q 0, 80, .inl (s5.2 1))), ((a5 3), .inl (q 0, 80, .inl (s5.2 2))), ((a5 4), .inl (q 0, 80, .inl (s5.2 3))), ((a5 5), .inl (q 0, 80, .inl (s5.2 4))), ((a5 6), .inl (q 0, 3, .inl (s5.2 5))), ((a5 7), .inl (q 0, 3, .inl (s5.2 6)))] := hD
  unfold wp_X6_doProgram at h
  refine lv_aload_n hx hb dX6_doProgram_0 rfl (lv_at hl 0 rfl) ?_
  refine fl_get (C := RX6) (T := TX6) (N := 7) (ci := 5) (v := .ref (a5 0)) hx hb ht in_X6 hown hK hP 0 rfl rfl 4 (by decide) mw_359 rfl dX6_doProgram_1 ?_
  refine mt_gov (mt_wV (wc := pg_w a5 q s5) (As := []) (rest := []) hx hb hml hown ht (c2_X4_startDoing h) wd_X4_startDoing mw_830 hQ hV hS hA (hP.sub [20, 21, 22, 23, 24, 25, 26, 27] rfl) (hD.sub [20, 21, 22, 23, 24, 25, 26, 27] (by decide) rfl) rfl rfl rfl hl.1 rfl (Nat.le_of_ble_eq_true rfl) dX6_doProgram_4 ⟨Nat.le_of_ble_eq_true rfl, Nat.le_of_ble_eq_true rfl, rfl, rfl⟩ ⟨Nat.le_of_ble_eq_true rfl, Nat.le_of_ble_eq_true rfl⟩) (wr := [((a0 0), .inr (5, [.ref (a1 0), .ref (a2 0), .ref (a3 0), .ref (a4 0), .ref (a5 0), .ref p8, .ref s8])), ((a1 0), .inr (4, [.ref (a1 1), .int (s1.1 0), .int (s1.1 1), .int (s1.1 2), .int (s1.1 3), .int (s1.1 4), .int (s1.1 5)])), ((a1 1), .inl (q 0, 400, .inl s1.2)), ((a2 0), .inr (0, [.int (s2.1 0), .int (s2.1 1), .int (s2.1 2), .int (s2.1 3), .int (s2.1 4), .int (s2.1 5), .ref (a2 1), .ref (a2 2), .ref (a2 3), .ref (a2 4), .ref (a2 5), .ref (a2 6), .ref (a2 7), .ref (a2 8), .ref (a2 9), .ref (a2 10), .ref (a2 11), .ref (a2 12)])), ((a2 1), .inl (q 0, 4, .inl (s2.2.1 0))), ((a2 2), .inl (q 0, 4, .inl (s2.2.1 1))), ((a2 3), .inl (q 0, 160, .inl (s2.2.1 2))), ((a2 4), .inl (q 0, 40, .inl (s2.2.1 3))), ((a2 5), .inl (q 0, 40, .inl (s2.2.1 4))), ((a2 6), .inl (q 0, 40, .inl (s2.2.1 5))), ((a2 7), .inl (q 0, 40, .inl (s2.2.1 6))), ((a2 8), .inl (q 0, 40, .inl (s2.2.1 7))), ((a2 9), .inl (q 0, 40, .inl (s2.2.1 8))), ((a2 10), .inl (q 0, 40, .inl (s2.2.1 9))), ((a2 11), .inl (q 1, 40, .inr (.inl s2.2.2.1))), ((a2 12), .inl (q 0, s2.2.2.2.1, .inl s2.2.2.2.2)), ((a4 0), .inr (1, [.ref (a4 1), .ref (a4 2), .ref (a4 3), .int (s4.1 0), .int (s4.1 1), .int (s4.1 2), .int (s4.1 3), .int (s4.1 4), .int (s4.1 5), .int (s4.1 6), .int (s4.1 7), .int (s4.1 8)])), ((a4 1), .inl (q 0, 40, .inl (s4.2 0))), ((a4 2), .inl (q 0, 40, .inl (s4.2 1))), ((a4 3), .inl (q 0, 40, .inl (s4.2 2)))]) hP hD hS hA [20, 21, 22, 23, 24, 25, 26, 27] [0, 1, 2, 3, 4, 5, 6, 7, 8, 9, 10, 11, 12, 13, 14, 15, 16, 17, 18, 19] rfl rfl (by decide) (by decide) (fun u_2 H locs h hP hD hS => ?_)
  try dsimp only at h
  have hP : va_P D vwCl [((a0 0), .inr (5, [.ref (a1 0), .ref (a2 0), .ref (a3 0), .ref (a4 0), .ref (a5 0), .ref p8, .ref s8])), ((a1 0), .inr (4, [.ref (a1 1), .int (s1.1 0), .int (s1.1 1), .int (s1.1 2), .int (s1.1 3), .int (s1.1 4), .int (s1.1 5)])), ((a1 1), .inl (q 0, 400, .inl s1.2)), ((a2 0), .inr (0, [.int (s2.1 0), .int (s2.1 1), .int (s2.1 2), .int (s2.1 3), .int (s2.1 4), .int (s2.1 5), .ref (a2 1), .ref (a2 2), .ref (a2 3), .ref (a2 4), .ref (a2 5), .ref (a2 6), .ref (a2 7), .ref (a2 8), .ref (a2 9), .ref (a2 10), .ref (a2 11), .ref (a2 12)])), ((a2 1), .inl (q 0, 4, .inl (s2.2.1 0))), ((a2 2), .inl (q 0, 4, .inl (s2.2.1 1))), ((a2 3), .inl (q 0, 160, .inl (s2.2.1 2))), ((a2 4), .inl (q 0, 40, .inl (s2.2.1 3))), ((a2 5), .inl (q 0, 40, .inl (s2.2.1 4))), ((a2 6), .inl (q 0, 40, .inl (s2.2.1 5))), ((a2 7), .inl (q 0, 40, .inl (s2.2.1 6))), ((a2 8), .inl (q 0, 40, .inl (s2.2.1 7))), ((a2 9), .inl (q 0, 40, .inl (s2.2.1 8))), ((a2 10), .inl (q 0, 40, .inl (s2.2.1 9))), ((a2 11), .inl (q 1, 40, .inr (.inl s2.2.2.1))), ((a2 12), .inl (q 0, s2.2.2.2.1, .inl s2.2.2.2.2)), ((a4 0), .inr (1, [.ref (a4 1), .ref (a4 2), .ref (a4 3), .int (s4.1 0), .int (s4.1 1), .int (s4.1 2), .int (s4.1 3), .int (s4.1 4), .int (s4.1 5), .int (s4.1 6), .int (s4.1 7), .int (s4.1 8)])), ((a4 1), .inl (q 0, 40, .inl (s4.2 0))), ((a4 2), .inl (q 0, 40, .inl (s4.2 1))), ((a4 3), .inl (q 0, 40, .inl (s4.2 2))), ((a5 0), .inr (3, [.ref (a5 1), .ref (a5 2), .ref (a5 3), .ref (a5 4), .ref (a5 5), .ref (a5 6), .ref (a5 7), .int (u_2.1 0), .int (u_2.1 1), .int (u_2.1 2)])), ((a5 1), .inl (q 0, 80, .inl (u_2.2 0))), ((a5 2), .inl (q 0, 80, .inl (u_2.2 1))), ((a5 3), .inl (q 0, 80, .inl (u_2.2 2))), ((a5 4), .inl (q 0, 80, .inl (u_2.2 3))), ((a5 5), .inl (q 0, 80, .inl (u_2.2 4))), ((a5 6), .inl (q 0, 3, .inl (u_2.2 5))), ((a5 7), .inl (q 0, 3, .inl (u_2.2 6)))] H := hP
  have hD : va_D _ [((a0 0), .inr (5, [.ref (a1 0), .ref (a2 0), .ref (a3 0), .ref (a4 0), .ref (a5 0), .ref p8, .ref s8])), ((a1 0), .inr (4, [.ref (a1 1), .int (s1.1 0), .int (s1.1 1), .int (s1.1 2), .int (s1.1 3), .int (s1.1 4), .int (s1.1 5)])), ((a1 1), .inl (q 0, 400, .inl s1.2)), ((a2 0), .inr (0, [.int (s2.1 0), .int (s2.1 1), .int (s2.1 2), .int (s2.1 3), .int (s2.1 4), .int (s2.1 5), .ref (a2 1), .ref (a2 2), .ref (a2 3), .ref (a2 4), .ref (a2 5), .ref (a2 6), .ref (a2 7), .ref (a2 8), .ref (a2 9), .ref (a2 10), .ref (a2 11), .ref (a2 12)])), ((a2 1), .inl (q 0, 4, .inl (s2.2.1 0))), ((a2 2), .inl (q 0, 4, .inl (s2.2.1 1))), ((a2 3), .inl (q 0, 160, .inl (s2.2.1 2))), ((a2 4), .inl (q 0, 40, .inl (s2.2.1 3))), ((a2 5), .inl (q 0, 40, .inl (s2.2.1 4))), ((a2 6), .inl (q 0, 40, .inl (s2.2.1 5))), ((a2 7), .inl (q 0, 40, .inl (s2.2.1 6))), ((a2 8), .inl (q 0, 40, .inl (s2.2.1 7))), ((a2 9), .inl (q 0, 40, .inl (s2.2.1 8))), ((a2 10), .inl (q 0, 40, .inl (s2.2.1 9))), ((a2 11), .inl (q 1, 40, .inr (.inl s2.2.2.1))), ((a2 12), .inl (q 0, s2.2.2.2.1, .inl s2.2.2.2.2)), ((a4 0), .inr (1, [.ref (a4 1), .ref (a4 2), .ref (a4 3), .int (s4.1 0), .int (s4.1 1), .int (s4.1 2), .int (s4.1 3), .int (s4.1 4), .int (s4.1 5), .int (s4.1 6), .int (s4.1 7), .int (s4.1 8)])), ((a4 1), .inl (q 0, 40, .inl (s4.2 0))), ((a4 2), .inl (q 0, 40, .inl (s4.2 1))), ((a4 3), .inl (q 0, 40, .inl (s4.2 2))), ((a5 0), .inr (3, [.ref (a5 1), .ref (a5 2), .ref (a5 3), .ref (a5 4), .ref (a5 5), .ref (a5 6), .ref (a5 7), .int (u_2.1 0), .int (u_2.1 1), .int (u_2.1 2)])), ((a5 1), .inl (q 0, 80, .inl (u_2.2 0))), ((a5 2), .inl (q 0, 80, .inl (u_2.2 1))), ((a5 3), .inl (q 0, 80, .inl (u_2.2 2))), ((a5 4), .inl (q 0, 80, .inl (u_2.2 3))), ((a5 5), .inl (q 0, 80, .inl (u_2.2 4))), ((a5 6), .inl (q 0, 3, .inl (u_2.2 5))), ((a5 7), .inl (q 0, 3, .inl (u_2.2 6)))] := hD
  refine lv_iconst (v := 0) hx hb dX6_doProgram_7 (by decide) ?_
  refine lv_istore_n (lv' := [(1, .int 0), (0, .ref (a0 0))]) hx hb dX6_doProgram_8 rfl hl (by decide) rfl (fun ls hl => ?_)
  have lp9 : ∀ (e59 : Bd → Mo → Pg → Int32 → Prop) (k59 : ∀ (t2 : Bd) (t3 : Mo) (t4 : Pg) (z1 : Int32) (H : Heap) (locs : List Loc) (ls : Array Slot), e59 t2 t3 t4 z1 → va_P D vwCl (fo_w (a0 0) (a1 0) (a2 0) (a3 0) (a4 0) (a5 0) p8 s8 ++ tp_w a1 q s1 ++ bd_w a2 q t2 ++ mo_w a4 q t3 ++ pg_w a5 q t4) H → va_D (va_A (fo_w (a0 0) (a1 0) (a2 0) (a3 0) (a4 0) (a5 0) p8 s8 ++ tp_w a1 q s1 ++ bd_w a2 q s2 ++ mo_w a4 q s4 ++ pg_w a5 q s5) sz) (fo_w (a0 0) (a1 0) (a2 0) (a3 0) (a4 0) (a5 0) p8 s8 ++ tp_w a1 q s1 ++ bd_w a2 q t2 ++ mo_w a4 q t3 ++ pg_w a5 q t4) → va_S (va_A (fo_w (a0 0) (a1 0) (a2 0) (a3 0) (a4 0) (a5 0) p8 s8 ++ tp_w a1 q s1 ++ bd_w a2 q s2 ++ mo_w a4 q s4 ++ pg_w a5 q s5) sz) s.heap H locs → lv_has ls 2 [(1, .int z1), (0, .ref (a0 0))] → W p l e ({ frames := 5, cells := 0, slots := 0, locals := 137 } : Room) s m [.ref (a0 0)].toArray below meth c H locs 0 0 (MQ below (va_Qi (fun r (u : Bd × Mo × Pg) => post r u.1 u.2.1 u.2.2) (mt_B D (fo_w (a0 0) (a1 0) (a2 0) (a3 0) (a4 0) (a5 0) p8 s8 ++ tp_w a1 q s1 ++ bd_w a2 q s2 ++ mo_w a4 q s4 ++ pg_w a5 q s5) sz (fun u : Bd × Mo × Pg => fo_w (a0 0) (a1 0) (a2 0) (a3 0) (a4 0) (a5 0) p8 s8 ++ tp_w a1 q s1 ++ bd_w a2 q u.1 ++ mo_w a4 q u.2.1 ++ pg_w a5 q u.2.2)) (va_A (fo_w (a0 0) (a1 0) (a2 0) (a3 0) (a4 0) (a5 0) p8 s8 ++ tp_w a1 q s1 ++ bd_w a2 q s2 ++ mo_w a4 q s4 ++ pg_w a5 q s5) sz)) [.ref (a0 0)].toArray s 0 0 (va_A (fo_w (a0 0) (a1 0) (a2 0) (a3 0) (a4 0) (a5 0) p8 s8 ++ tp_w a1 q s1 ++ bd_w a2 q s2 ++ mo_w a4 q s4 ++ pg_w a5 q s5) sz)) (F0 m 59 ls [])) (n : Nat) (t2 : Bd) (t3 : Mo) (t4 : Pg) (z1 : Int32) (H : Heap) (locs : List Loc) (ls : Array Slot), wp_X6_doProgram_L9 s1 post e59 n t2 t3 t4 z1 → va_P D vwCl (fo_w (a0 0) (a1 0) (a2 0) (a3 0) (a4 0) (a5 0) p8 s8 ++ tp_w a1 q s1 ++ bd_w a2 q t2 ++ mo_w a4 q t3 ++ pg_w a5 q t4) H → va_D (va_A (fo_w (a0 0) (a1 0) (a2 0) (a3 0) (a4 0) (a5 0) p8 s8 ++ tp_w a1 q s1 ++ bd_w a2 q s2 ++ mo_w a4 q s4 ++ pg_w a5 q s5) sz) (fo_w (a0 0) (a1 0) (a2 0) (a3 0) (a4 0) (a5 0) p8 s8 ++ tp_w a1 q s1 ++ bd_w a2 q t2 ++ mo_w a4 q t3 ++ pg_w a5 q t4) → va_S (va_A (fo_w (a0 0) (a1 0) (a2 0) (a3 0) (a4 0) (a5 0) p8 s8 ++ tp_w a1 q s1 ++ bd_w a2 q s2 ++ mo_w a4 q s4 ++ pg_w a5 q s5) sz) s.heap H locs → lv_has ls 2 [(1, .int z1), (0, .ref (a0 0))] → W p l e ({ frames := 5, cells := 0, slots := 0, locals := 137 } : Room) s m [.ref (a0 0)].toArray below meth c H locs 0 0 (MQ below (va_Qi (fun r (u : Bd × Mo × Pg) => post r u.1 u.2.1 u.2.2) (mt_B D (fo_w (a0 0) (a1 0) (a2 0) (a3 0) (a4 0) (a5 0) p8 s8 ++ tp_w a1 q s1 ++ bd_w a2 q s2 ++ mo_w a4 q s4 ++ pg_w a5 q s5) sz (fun u : Bd × Mo × Pg => fo_w (a0 0) (a1 0) (a2 0) (a3 0) (a4 0) (a5 0) p8 s8 ++ tp_w a1 q s1 ++ bd_w a2 q u.1 ++ mo_w a4 q u.2.1 ++ pg_w a5 q u.2.2)) (va_A (fo_w (a0 0) (a1 0) (a2 0) (a3 0) (a4 0) (a5 0) p8 s8 ++ tp_w a1 q s1 ++ bd_w a2 q s2 ++ mo_w a4 q s4 ++ pg_w a5 q s5) sz)) [.ref (a0 0)].toArray s 0 0 (va_A (fo_w (a0 0) (a1 0) (a2 0) (a3 0) (a4 0) (a5 0) p8 s8 ++ tp_w a1 q s1 ++ bd_w a2 q s2 ++ mo_w a4 q s4 ++ pg_w a5 q s5) sz)) (F0 m 9 ls []) := by
    intro e59 k59 n
    induction n with
    | zero =>
      intro t2 t3 t4 z1 H locs ls h
      exact h.elim
    | succ n ih =>
      intro t2 t3 t4 z1 H locs ls h hP hD hS hl
      have hP : va_P D vwCl [((a0 0), .inr (5, [.ref (a1 0), .ref (a2 0), .ref (a3 0), .ref (a4 0), .ref (a5 0), .ref p8, .ref s8])), ((a1 0), .inr (4, [.ref (a1 1), .int (s1.1 0), .int (s1.1 1), .int (s1.1 2), .int (s1.1 3), .int (s1.1 4), .int (s1.1 5)])), ((a1 1), .inl (q 0, 400, .inl s1.2)), ((a2 0), .inr (0, [.int (t2.1 0), .int (t2.1 1), .int (t2.1 2), .int (t2.1 3), .int (t2.1 4), .int (t2.1 5), .ref (a2 1), .ref (a2 2), .ref (a2 3), .ref (a2 4), .ref (a2 5), .ref (a2 6), .ref (a2 7), .ref (a2 8), .ref (a2 9), .ref (a2 10), .ref (a2 11), .ref (a2 12)])), ((a2 1), .inl (q 0, 4, .inl (t2.2.1 0))), ((a2 2), .inl (q 0, 4, .inl (t2.2.1 1))), ((a2 3), .inl (q 0, 160, .inl (t2.2.1 2))), ((a2 4), .inl (q 0, 40, .inl (t2.2.1 3))), ((a2 5), .inl (q 0, 40, .inl (t2.2.1 4))), ((a2 6), .inl (q 0, 40, .inl (t2.2.1 5))), ((a2 7), .inl (q 0, 40, .inl (t2.2.1 6))), ((a2 8), .inl (q 0, 40, .inl (t2.2.1 7))), ((a2 9), .inl (q 0, 40, .inl (t2.2.1 8))), ((a2 10), .inl (q 0, 40, .inl (t2.2.1 9))), ((a2 11), .inl (q 1, 40, .inr (.inl t2.2.2.1))), ((a2 12), .inl (q 0, t2.2.2.2.1, .inl t2.2.2.2.2)), ((a4 0), .inr (1, [.ref (a4 1), .ref (a4 2), .ref (a4 3), .int (t3.1 0), .int (t3.1 1), .int (t3.1 2), .int (t3.1 3), .int (t3.1 4), .int (t3.1 5), .int (t3.1 6), .int (t3.1 7), .int (t3.1 8)])), ((a4 1), .inl (q 0, 40, .inl (t3.2 0))), ((a4 2), .inl (q 0, 40, .inl (t3.2 1))), ((a4 3), .inl (q 0, 40, .inl (t3.2 2))), ((a5 0), .inr (3, [.ref (a5 1), .ref (a5 2), .ref (a5 3), .ref (a5 4), .ref (a5 5), .ref (a5 6), .ref (a5 7), .int (t4.1 0), .int (t4.1 1), .int (t4.1 2)])), ((a5 1), .inl (q 0, 80, .inl (t4.2 0))), ((a5 2), .inl (q 0, 80, .inl (t4.2 1))), ((a5 3), .inl (q 0, 80, .inl (t4.2 2))), ((a5 4), .inl (q 0, 80, .inl (t4.2 3))), ((a5 5), .inl (q 0, 80, .inl (t4.2 4))), ((a5 6), .inl (q 0, 3, .inl (t4.2 5))), ((a5 7), .inl (q 0, 3, .inl (t4.2 6)))] H := hP
      have hD : va_D _ [((a0 0), .inr (5, [.ref (a1 0), .ref (a2 0), .ref (a3 0), .ref (a4 0), .ref (a5 0), .ref p8, .ref s8])), ((a1 0), .inr (4, [.ref (a1 1), .int (s1.1 0), .int (s1.1 1), .int (s1.1 2), .int (s1.1 3), .int (s1.1 4), .int (s1.1 5)])), ((a1 1), .inl (q 0, 400, .inl s1.2)), ((a2 0), .inr (0, [.int (t2.1 0), .int (t2.1 1), .int (t2.1 2), .int (t2.1 3), .int (t2.1 4), .int (t2.1 5), .ref (a2 1), .ref (a2 2), .ref (a2 3), .ref (a2 4), .ref (a2 5), .ref (a2 6), .ref (a2 7), .ref (a2 8), .ref (a2 9), .ref (a2 10), .ref (a2 11), .ref (a2 12)])), ((a2 1), .inl (q 0, 4, .inl (t2.2.1 0))), ((a2 2), .inl (q 0, 4, .inl (t2.2.1 1))), ((a2 3), .inl (q 0, 160, .inl (t2.2.1 2))), ((a2 4), .inl (q 0, 40, .inl (t2.2.1 3))), ((a2 5), .inl (q 0, 40, .inl (t2.2.1 4))), ((a2 6), .inl (q 0, 40, .inl (t2.2.1 5))), ((a2 7), .inl (q 0, 40, .inl (t2.2.1 6))), ((a2 8), .inl (q 0, 40, .inl (t2.2.1 7))), ((a2 9), .inl (q 0, 40, .inl (t2.2.1 8))), ((a2 10), .inl (q 0, 40, .inl (t2.2.1 9))), ((a2 11), .inl (q 1, 40, .inr (.inl t2.2.2.1))), ((a2 12), .inl (q 0, t2.2.2.2.1, .inl t2.2.2.2.2)), ((a4 0), .inr (1, [.ref (a4 1), .ref (a4 2), .ref (a4 3), .int (t3.1 0), .int (t3.1 1), .int (t3.1 2), .int (t3.1 3), .int (t3.1 4), .int (t3.1 5), .int (t3.1 6), .int (t3.1 7), .int (t3.1 8)])), ((a4 1), .inl (q 0, 40, .inl (t3.2 0))), ((a4 2), .inl (q 0, 40, .inl (t3.2 1))), ((a4 3), .inl (q 0, 40, .inl (t3.2 2))), ((a5 0), .inr (3, [.ref (a5 1), .ref (a5 2), .ref (a5 3), .ref (a5 4), .ref (a5 5), .ref (a5 6), .ref (a5 7), .int (t4.1 0), .int (t4.1 1), .int (t4.1 2)])), ((a5 1), .inl (q 0, 80, .inl (t4.2 0))), ((a5 2), .inl (q 0, 80, .inl (t4.2 1))), ((a5 3), .inl (q 0, 80, .inl (t4.2 2))), ((a5 4), .inl (q 0, 80, .inl (t4.2 3))), ((a5 5), .inl (q 0, 80, .inl (t4.2 4))), ((a5 6), .inl (q 0, 3, .inl (t4.2 5))), ((a5 7), .inl (q 0, 3, .inl (t4.2 6)))] := hD
      unfold wp_X6_doProgram_L9 at h
      refine lv_iload_n hx hb dX6_doProgram_9 rfl (lv_at hl 0 rfl) ?_
      refine lv_sipush (v := 200) hx hb dX6_doProgram_10 (by decide) ?_
      refine lv_icmp_ge (tgt := 59) hx hb dX6_doProgram_13 (by decide) (fun c_3 => ?_) (fun c_3 => ?_)
      · replace h := h.1 c_3
        exact k59 _ _ _ _ _ _ ls h (hP.sub (ws' := fo_w (a0 0) (a1 0) (a2 0) (a3 0) (a4 0) (a5 0) p8 s8 ++ tp_w a1 q s1 ++ bd_w a2 q t2 ++ mo_w a4 q t3 ++ pg_w a5 q t4) [0, 1, 2, 3, 4, 5, 6, 7, 8, 9, 10, 11, 12, 13, 14, 15, 16, 17, 18, 19, 20, 21, 22, 23, 24, 25, 26, 27] rfl) (hD.sub (ws' := fo_w (a0 0) (a1 0) (a2 0) (a3 0) (a4 0) (a5 0) p8 s8 ++ tp_w a1 q s1 ++ bd_w a2 q t2 ++ mo_w a4 q t3 ++ pg_w a5 q t4) [0, 1, 2, 3, 4, 5, 6, 7, 8, 9, 10, 11, 12, 13, 14, 15, 16, 17, 18, 19, 20, 21, 22, 23, 24, 25, 26, 27] (by decide) rfl) hS (lv_sub hl [0, 1] rfl)
      · replace h := h.2 c_3
        refine lv_aload_n hx hb dX6_doProgram_16 rfl (lv_at hl 1 rfl) ?_
        refine fl_get (C := RX6) (T := TX6) (N := 7) (ci := 5) (v := .ref (a5 0)) hx hb ht in_X6 hown hK hP 0 rfl rfl 4 (by decide) mw_359 rfl dX6_doProgram_17 ?_
        refine lv_aload_n hx hb dX6_doProgram_20 rfl (lv_at hl 1 rfl) ?_
        refine fl_get (C := RX6) (T := TX6) (N := 7) (ci := 5) (v := .ref (a5 0)) hx hb ht in_X6 hown hK hP 0 rfl rfl 4 (by decide) mw_359 rfl dX6_doProgram_21 ?_
        refine fl_get (C := RX4) (T := TX4) (N := 10) (ci := 3) (v := .int (t4.1 2)) hx hb ht in_X4 hown hK hP 20 rfl rfl 9 (by decide) mw_314 rfl dX6_doProgram_24 ?_
        refine vp_callSi (rd_wV (wc := pg_w a5 q t4) (As := [.int (t4.1 2)]) (rest := []) hx hb hml hown ht (c2_X4_hasStep h) wd_X4_hasStep mw_834 hQ hV hS (hP.sub [20, 21, 22, 23, 24, 25, 26, 27] rfl) rfl rfl rfl hl.1 rfl (Nat.le_of_ble_eq_true rfl) dX6_doProgram_27 ⟨Nat.le_of_ble_eq_true rfl, Nat.le_of_ble_eq_true rfl, rfl, rfl⟩ ⟨Nat.le_of_ble_eq_true rfl, Nat.le_of_ble_eq_true rfl⟩) (fun r_4 h => ?_)
        try dsimp only at h
        refine lv_if_ne (tgt := 35) hx hb dX6_doProgram_30 (by decide) (fun c_6 => ?_) (fun c_6 => ?_)
        · replace h := h.1 c_6
          refine lv_aload_n hx hb dX6_doProgram_35 rfl (lv_at hl 1 rfl) ?_
          refine lv_aload_n hx hb dX6_doProgram_36 rfl (lv_at hl 1 rfl) ?_
          refine fl_get (C := RX6) (T := TX6) (N := 7) (ci := 5) (v := .ref (a5 0)) hx hb ht in_X6 hown hK hP 0 rfl rfl 4 (by decide) mw_359 rfl dX6_doProgram_37 ?_
          refine fl_get (C := RX4) (T := TX4) (N := 10) (ci := 3) (v := .int (t4.1 2)) hx hb ht in_X4 hown hK hP 20 rfl rfl 9 (by decide) mw_314 rfl dX6_doProgram_40 ?_
          refine mt_gov (mt_wV (wc := fo_w (a0 0) (a1 0) (a2 0) (a3 0) (a4 0) (a5 0) p8 s8 ++ tp_w a1 q s1 ++ bd_w a2 q t2 ++ mo_w a4 q t3 ++ pg_w a5 q t4) (As := [.int (t4.1 2)]) (rest := []) hx hb hml hown ht (c2_X6_doStep h) wd_X6_doStep mw_835 hQ hV hS hA (hP.sub [0, 1, 2, 3, 4, 5, 6, 7, 8, 9, 10, 11, 12, 13, 14, 15, 16, 17, 18, 19, 20, 21, 22, 23, 24, 25, 26, 27] rfl) (hD.sub [0, 1, 2, 3, 4, 5, 6, 7, 8, 9, 10, 11, 12, 13, 14, 15, 16, 17, 18, 19, 20, 21, 22, 23, 24, 25, 26, 27] (by decide) rfl) rfl rfl rfl hl.1 rfl (Nat.le_of_ble_eq_true rfl) dX6_doProgram_43 ⟨Nat.le_of_ble_eq_true rfl, Nat.le_of_ble_eq_true rfl, rfl, rfl⟩ ⟨Nat.le_of_ble_eq_true rfl, Nat.le_of_ble_eq_true rfl⟩) (wr := []) hP hD hS hA [0, 1, 2, 3, 4, 5, 6, 7, 8, 9, 10, 11, 12, 13, 14, 15, 16, 17, 18, 19, 20, 21, 22, 23, 24, 25, 26, 27] [] rfl rfl (by decide) (by decide) (fun u_8 H locs h hP hD hS => ?_)
          obtain ⟨u_8a, u_8b⟩ := u_8
          try dsimp only at h
          have hP : va_P D vwCl [((a0 0), .inr (5, [.ref (a1 0), .ref (a2 0), .ref (a3 0), .ref (a4 0), .ref (a5 0), .ref p8, .ref s8])), ((a1 0), .inr (4, [.ref (a1 1), .int (s1.1 0), .int (s1.1 1), .int (s1.1 2), .int (s1.1 3), .int (s1.1 4), .int (s1.1 5)])), ((a1 1), .inl (q 0, 400, .inl s1.2)), ((a2 0), .inr (0, [.int (u_8a.1 0), .int (u_8a.1 1), .int (u_8a.1 2), .int (u_8a.1 3), .int (u_8a.1 4), .int (u_8a.1 5), .ref (a2 1), .ref (a2 2), .ref (a2 3), .ref (a2 4), .ref (a2 5), .ref (a2 6), .ref (a2 7), .ref (a2 8), .ref (a2 9), .ref (a2 10), .ref (a2 11), .ref (a2 12)])), ((a2 1), .inl (q 0, 4, .inl (u_8a.2.1 0))), ((a2 2), .inl (q 0, 4, .inl (u_8a.2.1 1))), ((a2 3), .inl (q 0, 160, .inl (u_8a.2.1 2))), ((a2 4), .inl (q 0, 40, .inl (u_8a.2.1 3))), ((a2 5), .inl (q 0, 40, .inl (u_8a.2.1 4))), ((a2 6), .inl (q 0, 40, .inl (u_8a.2.1 5))), ((a2 7), .inl (q 0, 40, .inl (u_8a.2.1 6))), ((a2 8), .inl (q 0, 40, .inl (u_8a.2.1 7))), ((a2 9), .inl (q 0, 40, .inl (u_8a.2.1 8))), ((a2 10), .inl (q 0, 40, .inl (u_8a.2.1 9))), ((a2 11), .inl (q 1, 40, .inr (.inl u_8a.2.2.1))), ((a2 12), .inl (q 0, u_8a.2.2.2.1, .inl u_8a.2.2.2.2)), ((a4 0), .inr (1, [.ref (a4 1), .ref (a4 2), .ref (a4 3), .int (u_8b.1 0), .int (u_8b.1 1), .int (u_8b.1 2), .int (u_8b.1 3), .int (u_8b.1 4), .int (u_8b.1 5), .int (u_8b.1 6), .int (u_8b.1 7), .int (u_8b.1 8)])), ((a4 1), .inl (q 0, 40, .inl (u_8b.2 0))), ((a4 2), .inl (q 0, 40, .inl (u_8b.2 1))), ((a4 3), .inl (q 0, 40, .inl (u_8b.2 2))), ((a5 0), .inr (3, [.ref (a5 1), .ref (a5 2), .ref (a5 3), .ref (a5 4), .ref (a5 5), .ref (a5 6), .ref (a5 7), .int (t4.1 0), .int (t4.1 1), .int (t4.1 2)])), ((a5 1), .inl (q 0, 80, .inl (t4.2 0))), ((a5 2), .inl (q 0, 80, .inl (t4.2 1))), ((a5 3), .inl (q 0, 80, .inl (t4.2 2))), ((a5 4), .inl (q 0, 80, .inl (t4.2 3))), ((a5 5), .inl (q 0, 80, .inl (t4.2 4))), ((a5 6), .inl (q 0, 3, .inl (t4.2 5))), ((a5 7), .inl (q 0, 3, .inl (t4.2 6)))] H := hP
          have hD : va_D _ [((a0 0), .inr (5, [.ref (a1 0), .ref (a2 0), .ref (a3 0), .ref (a4 0), .ref (a5 0), .ref p8, .ref s8])), ((a1 0), .inr (4, [.ref (a1 1), .int (s1.1 0), .int (s1.1 1), .int (s1.1 2), .int (s1.1 3), .int (s1.1 4), .int (s1.1 5)])), ((a1 1), .inl (q 0, 400, .inl s1.2)), ((a2 0), .inr (0, [.int (u_8a.1 0), .int (u_8a.1 1), .int (u_8a.1 2), .int (u_8a.1 3), .int (u_8a.1 4), .int (u_8a.1 5), .ref (a2 1), .ref (a2 2), .ref (a2 3), .ref (a2 4), .ref (a2 5), .ref (a2 6), .ref (a2 7), .ref (a2 8), .ref (a2 9), .ref (a2 10), .ref (a2 11), .ref (a2 12)])), ((a2 1), .inl (q 0, 4, .inl (u_8a.2.1 0))), ((a2 2), .inl (q 0, 4, .inl (u_8a.2.1 1))), ((a2 3), .inl (q 0, 160, .inl (u_8a.2.1 2))), ((a2 4), .inl (q 0, 40, .inl (u_8a.2.1 3))), ((a2 5), .inl (q 0, 40, .inl (u_8a.2.1 4))), ((a2 6), .inl (q 0, 40, .inl (u_8a.2.1 5))), ((a2 7), .inl (q 0, 40, .inl (u_8a.2.1 6))), ((a2 8), .inl (q 0, 40, .inl (u_8a.2.1 7))), ((a2 9), .inl (q 0, 40, .inl (u_8a.2.1 8))), ((a2 10), .inl (q 0, 40, .inl (u_8a.2.1 9))), ((a2 11), .inl (q 1, 40, .inr (.inl u_8a.2.2.1))), ((a2 12), .inl (q 0, u_8a.2.2.2.1, .inl u_8a.2.2.2.2)), ((a4 0), .inr (1, [.ref (a4 1), .ref (a4 2), .ref (a4 3), .int (u_8b.1 0), .int (u_8b.1 1), .int (u_8b.1 2), .int (u_8b.1 3), .int (u_8b.1 4), .int (u_8b.1 5), .int (u_8b.1 6), .int (u_8b.1 7), .int (u_8b.1 8)])), ((a4 1), .inl (q 0, 40, .inl (u_8b.2 0))), ((a4 2), .inl (q 0, 40, .inl (u_8b.2 1))), ((a4 3), .inl (q 0, 40, .inl (u_8b.2 2))), ((a5 0), .inr (3, [.ref (a5 1), .ref (a5 2), .ref (a5 3), .ref (a5 4), .ref (a5 5), .ref (a5 6), .ref (a5 7), .int (t4.1 0), .int (t4.1 1), .int (t4.1 2)])), ((a5 1), .inl (q 0, 80, .inl (t4.2 0))), ((a5 2), .inl (q 0, 80, .inl (t4.2 1))), ((a5 3), .inl (q 0, 80, .inl (t4.2 2))), ((a5 4), .inl (q 0, 80, .inl (t4.2 3))), ((a5 5), .inl (q 0, 80, .inl (t4.2 4))), ((a5 6), .inl (q 0, 3, .inl (t4.2 5))), ((a5 7), .inl (q 0, 3, .inl (t4.2 6)))] := hD
          refine lv_aload_n hx hb dX6_doProgram_46 rfl (lv_at hl 1 rfl) ?_
          refine fl_get (C := RX6) (T := TX6) (N := 7) (ci := 5) (v := .ref (a5 0)) hx hb ht in_X6 hown hK hP 0 rfl rfl 4 (by decide) mw_359 rfl dX6_doProgram_47 ?_
          refine mt_gov (mt_wV (wc := pg_w a5 q t4) (As := []) (rest := []) hx hb hml hown ht (c2_X4_goOn h) wd_X4_goOn mw_859 hQ hV hS hA (hP.sub [20, 21, 22, 23, 24, 25, 26, 27] rfl) (hD.sub [20, 21, 22, 23, 24, 25, 26, 27] (by decide) rfl) rfl rfl rfl hl.1 rfl (Nat.le_of_ble_eq_true rfl) dX6_doProgram_50 ⟨Nat.le_of_ble_eq_true rfl, Nat.le_of_ble_eq_true rfl, rfl, rfl⟩ ⟨Nat.le_of_ble_eq_true rfl, Nat.le_of_ble_eq_true rfl⟩) (wr := [((a0 0), .inr (5, [.ref (a1 0), .ref (a2 0), .ref (a3 0), .ref (a4 0), .ref (a5 0), .ref p8, .ref s8])), ((a1 0), .inr (4, [.ref (a1 1), .int (s1.1 0), .int (s1.1 1), .int (s1.1 2), .int (s1.1 3), .int (s1.1 4), .int (s1.1 5)])), ((a1 1), .inl (q 0, 400, .inl s1.2)), ((a2 0), .inr (0, [.int (u_8a.1 0), .int (u_8a.1 1), .int (u_8a.1 2), .int (u_8a.1 3), .int (u_8a.1 4), .int (u_8a.1 5), .ref (a2 1), .ref (a2 2), .ref (a2 3), .ref (a2 4), .ref (a2 5), .ref (a2 6), .ref (a2 7), .ref (a2 8), .ref (a2 9), .ref (a2 10), .ref (a2 11), .ref (a2 12)])), ((a2 1), .inl (q 0, 4, .inl (u_8a.2.1 0))), ((a2 2), .inl (q 0, 4, .inl (u_8a.2.1 1))), ((a2 3), .inl (q 0, 160, .inl (u_8a.2.1 2))), ((a2 4), .inl (q 0, 40, .inl (u_8a.2.1 3))), ((a2 5), .inl (q 0, 40, .inl (u_8a.2.1 4))), ((a2 6), .inl (q 0, 40, .inl (u_8a.2.1 5))), ((a2 7), .inl (q 0, 40, .inl (u_8a.2.1 6))), ((a2 8), .inl (q 0, 40, .inl (u_8a.2.1 7))), ((a2 9), .inl (q 0, 40, .inl (u_8a.2.1 8))), ((a2 10), .inl (q 0, 40, .inl (u_8a.2.1 9))), ((a2 11), .inl (q 1, 40, .inr (.inl u_8a.2.2.1))), ((a2 12), .inl (q 0, u_8a.2.2.2.1, .inl u_8a.2.2.2.2)), ((a4 0), .inr (1, [.ref (a4 1), .ref (a4 2), .ref (a4 3), .int (u_8b.1 0), .int (u_8b.1 1), .int (u_8b.1 2), .int (u_8b.1 3), .int (u_8b.1 4), .int (u_8b.1 5), .int (u_8b.1 6), .int (u_8b.1 7), .int (u_8b.1 8)])), ((a4 1), .inl (q 0, 40, .inl (u_8b.2 0))), ((a4 2), .inl (q 0, 40, .inl (u_8b.2 1))), ((a4 3), .inl (q 0, 40, .inl (u_8b.2 2)))]) hP hD hS hA [20, 21, 22, 23, 24, 25, 26, 27] [0, 1, 2, 3, 4, 5, 6, 7, 8, 9, 10, 11, 12, 13, 14, 15, 16, 17, 18, 19] rfl rfl (by decide) (by decide) (fun u_10 H locs h hP hD hS => ?_)
          try dsimp only at h
          have hP : va_P D vwCl [((a0 0), .inr (5, [.ref (a1 0), .ref (a2 0), .ref (a3 0), .ref (a4 0), .ref (a5 0), .ref p8, .ref s8])), ((a1 0), .inr (4, [.ref (a1 1), .int (s1.1 0), .int (s1.1 1), .int (s1.1 2), .int (s1.1 3), .int (s1.1 4), .int (s1.1 5)])), ((a1 1), .inl (q 0, 400, .inl s1.2)), ((a2 0), .inr (0, [.int (u_8a.1 0), .int (u_8a.1 1), .int (u_8a.1 2), .int (u_8a.1 3), .int (u_8a.1 4), .int (u_8a.1 5), .ref (a2 1), .ref (a2 2), .ref (a2 3), .ref (a2 4), .ref (a2 5), .ref (a2 6), .ref (a2 7), .ref (a2 8), .ref (a2 9), .ref (a2 10), .ref (a2 11), .ref (a2 12)])), ((a2 1), .inl (q 0, 4, .inl (u_8a.2.1 0))), ((a2 2), .inl (q 0, 4, .inl (u_8a.2.1 1))), ((a2 3), .inl (q 0, 160, .inl (u_8a.2.1 2))), ((a2 4), .inl (q 0, 40, .inl (u_8a.2.1 3))), ((a2 5), .inl (q 0, 40, .inl (u_8a.2.1 4))), ((a2 6), .inl (q 0, 40, .inl (u_8a.2.1 5))), ((a2 7), .inl (q 0, 40, .inl (u_8a.2.1 6))), ((a2 8), .inl (q 0, 40, .inl (u_8a.2.1 7))), ((a2 9), .inl (q 0, 40, .inl (u_8a.2.1 8))), ((a2 10), .inl (q 0, 40, .inl (u_8a.2.1 9))), ((a2 11), .inl (q 1, 40, .inr (.inl u_8a.2.2.1))), ((a2 12), .inl (q 0, u_8a.2.2.2.1, .inl u_8a.2.2.2.2)), ((a4 0), .inr (1, [.ref (a4 1), .ref (a4 2), .ref (a4 3), .int (u_8b.1 0), .int (u_8b.1 1), .int (u_8b.1 2), .int (u_8b.1 3), .int (u_8b.1 4), .int (u_8b.1 5), .int (u_8b.1 6), .int (u_8b.1 7), .int (u_8b.1 8)])), ((a4 1), .inl (q 0, 40, .inl (u_8b.2 0))), ((a4 2), .inl (q 0, 40, .inl (u_8b.2 1))), ((a4 3), .inl (q 0, 40, .inl (u_8b.2 2))), ((a5 0), .inr (3, [.ref (a5 1), .ref (a5 2), .ref (a5 3), .ref (a5 4), .ref (a5 5), .ref (a5 6), .ref (a5 7), .int (u_10.1 0), .int (u_10.1 1), .int (u_10.1 2)])), ((a5 1), .inl (q 0, 80, .inl (u_10.2 0))), ((a5 2), .inl (q 0, 80, .inl (u_10.2 1))), ((a5 3), .inl (q 0, 80, .inl (u_10.2 2))), ((a5 4), .inl (q 0, 80, .inl (u_10.2 3))), ((a5 5), .inl (q 0, 80, .inl (u_10.2 4))), ((a5 6), .inl (q 0, 3, .inl (u_10.2 5))), ((a5 7), .inl (q 0, 3, .inl (u_10.2 6)))] H := hP
          have hD : va_D _ [((a0 0), .inr (5, [.ref (a1 0), .ref (a2 0), .ref (a3 0), .ref (a4 0), .ref (a5 0), .ref p8, .ref s8])), ((a1 0), .inr (4, [.ref (a1 1), .int (s1.1 0), .int (s1.1 1), .int (s1.1 2), .int (s1.1 3), .int (s1.1 4), .int (s1.1 5)])), ((a1 1), .inl (q 0, 400, .inl s1.2)), ((a2 0), .inr (0, [.int (u_8a.1 0), .int (u_8a.1 1), .int (u_8a.1 2), .int (u_8a.1 3), .int (u_8a.1 4), .int (u_8a.1 5), .ref (a2 1), .ref (a2 2), .ref (a2 3), .ref (a2 4), .ref (a2 5), .ref (a2 6), .ref (a2 7), .ref (a2 8), .ref (a2 9), .ref (a2 10), .ref (a2 11), .ref (a2 12)])), ((a2 1), .inl (q 0, 4, .inl (u_8a.2.1 0))), ((a2 2), .inl (q 0, 4, .inl (u_8a.2.1 1))), ((a2 3), .inl (q 0, 160, .inl (u_8a.2.1 2))), ((a2 4), .inl (q 0, 40, .inl (u_8a.2.1 3))), ((a2 5), .inl (q 0, 40, .inl (u_8a.2.1 4))), ((a2 6), .inl (q 0, 40, .inl (u_8a.2.1 5))), ((a2 7), .inl (q 0, 40, .inl (u_8a.2.1 6))), ((a2 8), .inl (q 0, 40, .inl (u_8a.2.1 7))), ((a2 9), .inl (q 0, 40, .inl (u_8a.2.1 8))), ((a2 10), .inl (q 0, 40, .inl (u_8a.2.1 9))), ((a2 11), .inl (q 1, 40, .inr (.inl u_8a.2.2.1))), ((a2 12), .inl (q 0, u_8a.2.2.2.1, .inl u_8a.2.2.2.2)), ((a4 0), .inr (1, [.ref (a4 1), .ref (a4 2), .ref (a4 3), .int (u_8b.1 0), .int (u_8b.1 1), .int (u_8b.1 2), .int (u_8b.1 3), .int (u_8b.1 4), .int (u_8b.1 5), .int (u_8b.1 6), .int (u_8b.1 7), .int (u_8b.1 8)])), ((a4 1), .inl (q 0, 40, .inl (u_8b.2 0))), ((a4 2), .inl (q 0, 40, .inl (u_8b.2 1))), ((a4 3), .inl (q 0, 40, .inl (u_8b.2 2))), ((a5 0), .inr (3, [.ref (a5 1), .ref (a5 2), .ref (a5 3), .ref (a5 4), .ref (a5 5), .ref (a5 6), .ref (a5 7), .int (u_10.1 0), .int (u_10.1 1), .int (u_10.1 2)])), ((a5 1), .inl (q 0, 80, .inl (u_10.2 0))), ((a5 2), .inl (q 0, 80, .inl (u_10.2 1))), ((a5 3), .inl (q 0, 80, .inl (u_10.2 2))), ((a5 4), .inl (q 0, 80, .inl (u_10.2 3))), ((a5 5), .inl (q 0, 80, .inl (u_10.2 4))), ((a5 6), .inl (q 0, 3, .inl (u_10.2 5))), ((a5 7), .inl (q 0, 3, .inl (u_10.2 6)))] := hD
          refine lv_iinc (v := (z1 + 1)) (lv' := [(1, .int (z1 + 1)), (0, .ref (a0 0))]) hx hb dX6_doProgram_53 hl (k := 0) rfl rfl (by decide) rfl (fun ls hl => ?_)
          refine lv_goto (tgt := 9) hx hb dX6_doProgram_56 (by decide) ?_
          exact ih _ _ _ _ _ _ ls h (hP.sub (ws' := fo_w (a0 0) (a1 0) (a2 0) (a3 0) (a4 0) (a5 0) p8 s8 ++ tp_w a1 q s1 ++ bd_w a2 q u_8a ++ mo_w a4 q u_8b ++ pg_w a5 q u_10) [0, 1, 2, 3, 4, 5, 6, 7, 8, 9, 10, 11, 12, 13, 14, 15, 16, 17, 18, 19, 20, 21, 22, 23, 24, 25, 26, 27] rfl) (hD.sub (ws' := fo_w (a0 0) (a1 0) (a2 0) (a3 0) (a4 0) (a5 0) p8 s8 ++ tp_w a1 q s1 ++ bd_w a2 q u_8a ++ mo_w a4 q u_8b ++ pg_w a5 q u_10) [0, 1, 2, 3, 4, 5, 6, 7, 8, 9, 10, 11, 12, 13, 14, 15, 16, 17, 18, 19, 20, 21, 22, 23, 24, 25, 26, 27] (by decide) rfl) hS (lv_sub hl [0, 1] rfl)
        · replace h := h.2 c_6
          refine lv_iload_n hx hb dX6_doProgram_33 rfl (lv_at hl 0 rfl) ?_
          exact mt_iret (t2, t3, t4) hx hb hr hk h (hP.sub (ws' := fo_w (a0 0) (a1 0) (a2 0) (a3 0) (a4 0) (a5 0) p8 s8 ++ tp_w a1 q s1 ++ bd_w a2 q t2 ++ mo_w a4 q t3 ++ pg_w a5 q t4) [0, 1, 2, 3, 4, 5, 6, 7, 8, 9, 10, 11, 12, 13, 14, 15, 16, 17, 18, 19, 20, 21, 22, 23, 24, 25, 26, 27] rfl) (hD.sub (ws' := fo_w (a0 0) (a1 0) (a2 0) (a3 0) (a4 0) (a5 0) p8 s8 ++ tp_w a1 q s1 ++ bd_w a2 q t2 ++ mo_w a4 q t3 ++ pg_w a5 q t4) [0, 1, 2, 3, 4, 5, 6, 7, 8, 9, 10, 11, 12, 13, 14, 15, 16, 17, 18, 19, 20, 21, 22, 23, 24, 25, 26, 27] (by decide) rfl) hS dX6_doProgram_34
  obtain ⟨n9, h⟩ := h
  refine lp9 _ ?_ n9 _ _ _ _ _ _ ls h (hP.sub (ws' := fo_w (a0 0) (a1 0) (a2 0) (a3 0) (a4 0) (a5 0) p8 s8 ++ tp_w a1 q s1 ++ bd_w a2 q s2 ++ mo_w a4 q s4 ++ pg_w a5 q u_2) [0, 1, 2, 3, 4, 5, 6, 7, 8, 9, 10, 11, 12, 13, 14, 15, 16, 17, 18, 19, 20, 21, 22, 23, 24, 25, 26, 27] rfl) (hD.sub (ws' := fo_w (a0 0) (a1 0) (a2 0) (a3 0) (a4 0) (a5 0) p8 s8 ++ tp_w a1 q s1 ++ bd_w a2 q s2 ++ mo_w a4 q s4 ++ pg_w a5 q u_2) [0, 1, 2, 3, 4, 5, 6, 7, 8, 9, 10, 11, 12, 13, 14, 15, 16, 17, 18, 19, 20, 21, 22, 23, 24, 25, 26, 27] (by decide) rfl) hS (lv_sub hl [0, 1] rfl)
  · intro t2 t3 t4 z1 H locs ls h hP hD hS hl
    try dsimp only at h
    have hP : va_P D vwCl [((a0 0), .inr (5, [.ref (a1 0), .ref (a2 0), .ref (a3 0), .ref (a4 0), .ref (a5 0), .ref p8, .ref s8])), ((a1 0), .inr (4, [.ref (a1 1), .int (s1.1 0), .int (s1.1 1), .int (s1.1 2), .int (s1.1 3), .int (s1.1 4), .int (s1.1 5)])), ((a1 1), .inl (q 0, 400, .inl s1.2)), ((a2 0), .inr (0, [.int (t2.1 0), .int (t2.1 1), .int (t2.1 2), .int (t2.1 3), .int (t2.1 4), .int (t2.1 5), .ref (a2 1), .ref (a2 2), .ref (a2 3), .ref (a2 4), .ref (a2 5), .ref (a2 6), .ref (a2 7), .ref (a2 8), .ref (a2 9), .ref (a2 10), .ref (a2 11), .ref (a2 12)])), ((a2 1), .inl (q 0, 4, .inl (t2.2.1 0))), ((a2 2), .inl (q 0, 4, .inl (t2.2.1 1))), ((a2 3), .inl (q 0, 160, .inl (t2.2.1 2))), ((a2 4), .inl (q 0, 40, .inl (t2.2.1 3))), ((a2 5), .inl (q 0, 40, .inl (t2.2.1 4))), ((a2 6), .inl (q 0, 40, .inl (t2.2.1 5))), ((a2 7), .inl (q 0, 40, .inl (t2.2.1 6))), ((a2 8), .inl (q 0, 40, .inl (t2.2.1 7))), ((a2 9), .inl (q 0, 40, .inl (t2.2.1 8))), ((a2 10), .inl (q 0, 40, .inl (t2.2.1 9))), ((a2 11), .inl (q 1, 40, .inr (.inl t2.2.2.1))), ((a2 12), .inl (q 0, t2.2.2.2.1, .inl t2.2.2.2.2)), ((a4 0), .inr (1, [.ref (a4 1), .ref (a4 2), .ref (a4 3), .int (t3.1 0), .int (t3.1 1), .int (t3.1 2), .int (t3.1 3), .int (t3.1 4), .int (t3.1 5), .int (t3.1 6), .int (t3.1 7), .int (t3.1 8)])), ((a4 1), .inl (q 0, 40, .inl (t3.2 0))), ((a4 2), .inl (q 0, 40, .inl (t3.2 1))), ((a4 3), .inl (q 0, 40, .inl (t3.2 2))), ((a5 0), .inr (3, [.ref (a5 1), .ref (a5 2), .ref (a5 3), .ref (a5 4), .ref (a5 5), .ref (a5 6), .ref (a5 7), .int (t4.1 0), .int (t4.1 1), .int (t4.1 2)])), ((a5 1), .inl (q 0, 80, .inl (t4.2 0))), ((a5 2), .inl (q 0, 80, .inl (t4.2 1))), ((a5 3), .inl (q 0, 80, .inl (t4.2 2))), ((a5 4), .inl (q 0, 80, .inl (t4.2 3))), ((a5 5), .inl (q 0, 80, .inl (t4.2 4))), ((a5 6), .inl (q 0, 3, .inl (t4.2 5))), ((a5 7), .inl (q 0, 3, .inl (t4.2 6)))] H := hP
    have hD : va_D _ [((a0 0), .inr (5, [.ref (a1 0), .ref (a2 0), .ref (a3 0), .ref (a4 0), .ref (a5 0), .ref p8, .ref s8])), ((a1 0), .inr (4, [.ref (a1 1), .int (s1.1 0), .int (s1.1 1), .int (s1.1 2), .int (s1.1 3), .int (s1.1 4), .int (s1.1 5)])), ((a1 1), .inl (q 0, 400, .inl s1.2)), ((a2 0), .inr (0, [.int (t2.1 0), .int (t2.1 1), .int (t2.1 2), .int (t2.1 3), .int (t2.1 4), .int (t2.1 5), .ref (a2 1), .ref (a2 2), .ref (a2 3), .ref (a2 4), .ref (a2 5), .ref (a2 6), .ref (a2 7), .ref (a2 8), .ref (a2 9), .ref (a2 10), .ref (a2 11), .ref (a2 12)])), ((a2 1), .inl (q 0, 4, .inl (t2.2.1 0))), ((a2 2), .inl (q 0, 4, .inl (t2.2.1 1))), ((a2 3), .inl (q 0, 160, .inl (t2.2.1 2))), ((a2 4), .inl (q 0, 40, .inl (t2.2.1 3))), ((a2 5), .inl (q 0, 40, .inl (t2.2.1 4))), ((a2 6), .inl (q 0, 40, .inl (t2.2.1 5))), ((a2 7), .inl (q 0, 40, .inl (t2.2.1 6))), ((a2 8), .inl (q 0, 40, .inl (t2.2.1 7))), ((a2 9), .inl (q 0, 40, .inl (t2.2.1 8))), ((a2 10), .inl (q 0, 40, .inl (t2.2.1 9))), ((a2 11), .inl (q 1, 40, .inr (.inl t2.2.2.1))), ((a2 12), .inl (q 0, t2.2.2.2.1, .inl t2.2.2.2.2)), ((a4 0), .inr (1, [.ref (a4 1), .ref (a4 2), .ref (a4 3), .int (t3.1 0), .int (t3.1 1), .int (t3.1 2), .int (t3.1 3), .int (t3.1 4), .int (t3.1 5), .int (t3.1 6), .int (t3.1 7), .int (t3.1 8)])), ((a4 1), .inl (q 0, 40, .inl (t3.2 0))), ((a4 2), .inl (q 0, 40, .inl (t3.2 1))), ((a4 3), .inl (q 0, 40, .inl (t3.2 2))), ((a5 0), .inr (3, [.ref (a5 1), .ref (a5 2), .ref (a5 3), .ref (a5 4), .ref (a5 5), .ref (a5 6), .ref (a5 7), .int (t4.1 0), .int (t4.1 1), .int (t4.1 2)])), ((a5 1), .inl (q 0, 80, .inl (t4.2 0))), ((a5 2), .inl (q 0, 80, .inl (t4.2 1))), ((a5 3), .inl (q 0, 80, .inl (t4.2 2))), ((a5 4), .inl (q 0, 80, .inl (t4.2 3))), ((a5 5), .inl (q 0, 80, .inl (t4.2 4))), ((a5 6), .inl (q 0, 3, .inl (t4.2 5))), ((a5 7), .inl (q 0, 3, .inl (t4.2 6)))] := hD
    refine lv_sipush (v := 200) hx hb dX6_doProgram_59 (by decide) ?_
    exact mt_iret (t2, t3, t4) hx hb hr hk h (hP.sub (ws' := fo_w (a0 0) (a1 0) (a2 0) (a3 0) (a4 0) (a5 0) p8 s8 ++ tp_w a1 q s1 ++ bd_w a2 q t2 ++ mo_w a4 q t3 ++ pg_w a5 q t4) [0, 1, 2, 3, 4, 5, 6, 7, 8, 9, 10, 11, 12, 13, 14, 15, 16, 17, 18, 19, 20, 21, 22, 23, 24, 25, 26, 27] rfl) (hD.sub (ws' := fo_w (a0 0) (a1 0) (a2 0) (a3 0) (a4 0) (a5 0) p8 s8 ++ tp_w a1 q s1 ++ bd_w a2 q t2 ++ mo_w a4 q t3 ++ pg_w a5 q t4) [0, 1, 2, 3, 4, 5, 6, 7, 8, 9, 10, 11, 12, 13, 14, 15, 16, 17, 18, 19, 20, 21, 22, 23, 24, 25, 26, 27] (by decide) rfl) hS dX6_doProgram_62

def wp_X6_isShelf (post : Int32 → Prop) (x0 : Int32) : Prop := ((x0 < 0 → post 0) ∧ (¬ x0 < 0 → ((2 ≤ x0 → post 0) ∧ (¬ 2 ≤ x0 → post 1))))
set_option maxHeartbeats 4000000 in
set_option maxRecDepth 100000 in
theorem c2_X6_isShelf {l : Launch} {D : va_G} {q : Nat → ClassId} {x0 : Int32} {post : Int32 → Prop} (h : wp_X6_isShelf post x0) : Met l yX6_isShelf (Cond.code yX6_isShelf cX6_isShelf 1 (some .boolean) :: w_all) ({ frames := 0, cells := 0, slots := 0, locals := 0 } : Room) (rd_P D q [.int x0] (([] : va_W))) (vp_Si post) 0 0 (fun _ => False) := by
  refine rd_start (by decide) (Nat.le_of_ble_eq_true rfl) ?_
  intro p e s m below meth c ls hx hb hr hml hown ht hk hP hQ hV hl
  have hK := hQ.1
  have hown : s.vm.findClass RX6 = some m.cls := hown
  have hl : lv_has ls 1 [(0, .int x0)] := hl
  unfold wp_X6_isShelf at h
  refine lv_iload_n hx hb dX6_isShelf_0 rfl (lv_at hl 0 rfl) ?_
  refine lv_if_lt (tgt := 13) hx hb dX6_isShelf_1 (by decide) (fun c_1 => ?_) (fun c_1 => ?_)
  · replace h := h.1 c_1
    refine lv_iconst (v := 0) hx hb dX6_isShelf_13 (by decide) ?_
    exact rd_zret hx hb hr hk rfl h dX6_isShelf_14
  · replace h := h.2 c_1
    refine lv_iload_n hx hb dX6_isShelf_4 rfl (lv_at hl 0 rfl) ?_
    refine lv_iconst (v := 2) hx hb dX6_isShelf_5 (by decide) ?_
    refine lv_icmp_ge (tgt := 13) hx hb dX6_isShelf_6 (by decide) (fun c_2 => ?_) (fun c_2 => ?_)
    · replace h := h.1 c_2
      refine lv_iconst (v := 0) hx hb dX6_isShelf_13 (by decide) ?_
      exact rd_zret hx hb hr hk rfl h dX6_isShelf_14
    · replace h := h.2 c_2
      refine lv_iconst (v := 1) hx hb dX6_isShelf_9 (by decide) ?_
      refine lv_goto (tgt := 14) hx hb dX6_isShelf_10 (by decide) ?_
      exact rd_zret hx hb hr hk rfl h dX6_isShelf_14

def wp_X6_cell (post : Int32 → Prop) (s2 : Bd) (x1 : Int32) (x2 : Int32) : Prop := wp_X0_hasCell (fun r_1 => ((¬ r_1 = 0 → ((x2 = 0 → vp_in x1 40 ∧ post ((s2.2.1 3) (Int32.toNatClampNeg x1))) ∧ (¬ x2 = 0 → ((x2 = 1 → vp_in x1 40 ∧ post ((s2.2.1 4) (Int32.toNatClampNeg x1))) ∧ (¬ x2 = 1 → ((x2 = 2 → vp_in x1 40 ∧ post ((s2.2.1 5) (Int32.toNatClampNeg x1))) ∧ (¬ x2 = 2 → ((x2 = 3 → vp_in x1 40 ∧ post ((s2.2.1 6) (Int32.toNatClampNeg x1))) ∧ (¬ x2 = 3 → ((x2 = 4 → wp_X0_leftOf (fun r_13 => post r_13) s2 x1) ∧ (¬ x2 = 4 → ((x2 = 5 → vp_in x1 40 ∧ post ((s2.2.1 7) (Int32.toNatClampNeg x1))) ∧ (¬ x2 = 5 → ((x2 = 6 → vp_in x1 40 ∧ post ((s2.2.1 8) (Int32.toNatClampNeg x1))) ∧ (¬ x2 = 6 → ((x2 = 7 → vp_in x1 40 ∧ post ((s2.2.1 9) (Int32.toNatClampNeg x1))) ∧ (¬ x2 = 7 → ((x2 = 8 → wp_X0_wornCount (fun r_22 => post r_22) s2 x1) ∧ (¬ x2 = 8 → post (-1)))))))))))))))))))) ∧ (r_1 = 0 → post (-1)))) s2 x1
set_option maxHeartbeats 4000000 in
set_option maxRecDepth 100000 in
theorem c2_X6_cell {l : Launch} {D : va_G} {q : Nat → ClassId} {a0 a1 a2 a3 a4 a5 : Nat → Nat} {p8 s8 : Nat} {s2 : Bd} {x1 : Int32} {x2 : Int32} {post : Int32 → Prop} (h : wp_X6_cell post s2 x1 x2) : Met l yX6_cell (Cond.code yX6_cell cX6_cell 3 (some .int) :: w_all) ({ frames := 2, cells := 0, slots := 0, locals := 42 } : Room) (rd_P D q [.ref (a0 0), .int x1, .int x2] (fo_w (a0 0) (a1 0) (a2 0) (a3 0) (a4 0) (a5 0) p8 s8 ++ bd_w a2 q s2)) (vp_Si post) 0 0 (fun _ => False) := by
  refine rd_start (by decide) (Nat.le_of_ble_eq_true rfl) ?_
  intro p e s m below meth c ls hx hb hr hml hown ht hk hP hQ hV hl
  have hK := hQ.1
  have hown : s.vm.findClass RX6 = some m.cls := hown
  have hl : lv_has ls 3 [(0, .ref (a0 0)), (1, .int x1), (2, .int x2)] := hl
  have hP : va_P D vwCl [((a0 0), .inr (5, [.ref (a1 0), .ref (a2 0), .ref (a3 0), .ref (a4 0), .ref (a5 0), .ref p8, .ref s8])), ((a2 0), .inr (0, [.int (s2.1 0), .int (s2.1 1), .int (s2.1 2), .int (s2.1 3), .int (s2.1 4), .int (s2.1 5), .ref (a2 1), .ref (a2 2), .ref (a2 3), .ref (a2 4), .ref (a2 5), .ref (a2 6), .ref (a2 7), .ref (a2 8), .ref (a2 9), .ref (a2 10), .ref (a2 11), .ref (a2 12)])), ((a2 1), .inl (q 0, 4, .inl (s2.2.1 0))), ((a2 2), .inl (q 0, 4, .inl (s2.2.1 1))), ((a2 3), .inl (q 0, 160, .inl (s2.2.1 2))), ((a2 4), .inl (q 0, 40, .inl (s2.2.1 3))), ((a2 5), .inl (q 0, 40, .inl (s2.2.1 4))), ((a2 6), .inl (q 0, 40, .inl (s2.2.1 5))), ((a2 7), .inl (q 0, 40, .inl (s2.2.1 6))), ((a2 8), .inl (q 0, 40, .inl (s2.2.1 7))), ((a2 9), .inl (q 0, 40, .inl (s2.2.1 8))), ((a2 10), .inl (q 0, 40, .inl (s2.2.1 9))), ((a2 11), .inl (q 1, 40, .inr (.inl s2.2.2.1))), ((a2 12), .inl (q 0, s2.2.2.2.1, .inl s2.2.2.2.2))] s.heap := hP
  unfold wp_X6_cell at h
  refine lv_aload_n hx hb dX6_cell_0 rfl (lv_at hl 0 rfl) ?_
  refine fl_get (C := RX6) (T := TX6) (N := 7) (ci := 5) (v := .ref (a2 0)) hx hb ht in_X6 hown hK hP 0 rfl rfl 1 (by decide) mw_356 rfl dX6_cell_1 ?_
  refine lv_iload_n hx hb dX6_cell_4 rfl (lv_at hl 1 rfl) ?_
  refine vp_callSi (rd_wV (wc := bd_w a2 q s2) (As := [.int x1]) (rest := []) hx hb hml hown ht (c2_X0_hasCell h) wd_X0_hasCell mw_730 hQ hV va_S.rf (hP.sub [1, 2, 3, 4, 5, 6, 7, 8, 9, 10, 11, 12, 13] rfl) rfl rfl rfl hl.1 rfl (Nat.le_of_ble_eq_true rfl) dX6_cell_5 ⟨Nat.le_of_ble_eq_true rfl, Nat.le_of_ble_eq_true rfl, rfl, rfl⟩ ⟨Nat.le_of_ble_eq_true rfl, Nat.le_of_ble_eq_true rfl⟩) (fun r_1 h => ?_)
  try dsimp only at h
  refine lv_if_ne (tgt := 13) hx hb dX6_cell_8 (by decide) (fun c_3 => ?_) (fun c_3 => ?_)
  · replace h := h.1 c_3
    refine lv_iload_n hx hb dX6_cell_13 rfl (lv_at hl 2 rfl) ?_
    by_cases k_4 : x2 = 0
    · replace h := h.1 k_4
      refine lv_tableIn (tgt := 64) hx hb dX6_cell_14 (by rw [k_4]; decide) (by rw [k_4]; decide) (by rw [k_4]; rfl) (by decide) ?_
      refine lv_aload_n hx hb dX6_cell_64 rfl (lv_at hl 0 rfl) ?_
      refine fl_get (C := RX6) (T := TX6) (N := 7) (ci := 5) (v := .ref (a2 0)) hx hb ht in_X6 hown hK hP 0 rfl rfl 1 (by decide) mw_356 rfl dX6_cell_65 ?_
      refine fl_get (C := RX0) (T := TX0) (N := 18) (ci := 0) (v := .ref (a2 4)) hx hb ht in_X0 hown hK hP 1 rfl rfl 9 (by decide) mw_193 rfl dX6_cell_68 ?_
      refine lv_iload_n hx hb dX6_cell_71 rfl (lv_at hl 1 rfl) ?_
      obtain ⟨g_5, h⟩ := h
      refine va_iald hx hb hK hP 5 0 rfl rfl g_5 dX6_cell_72 ?_
      exact rd_iret hx hb hr hk h dX6_cell_73
    replace h := h.2 k_4
    by_cases k_6 : x2 = 1
    · replace h := h.1 k_6
      refine lv_tableIn (tgt := 74) hx hb dX6_cell_14 (by rw [k_6]; decide) (by rw [k_6]; decide) (by rw [k_6]; rfl) (by decide) ?_
      refine lv_aload_n hx hb dX6_cell_74 rfl (lv_at hl 0 rfl) ?_
      refine fl_get (C := RX6) (T := TX6) (N := 7) (ci := 5) (v := .ref (a2 0)) hx hb ht in_X6 hown hK hP 0 rfl rfl 1 (by decide) mw_356 rfl dX6_cell_75 ?_
      refine fl_get (C := RX0) (T := TX0) (N := 18) (ci := 0) (v := .ref (a2 5)) hx hb ht in_X0 hown hK hP 1 rfl rfl 10 (by decide) mw_195 rfl dX6_cell_78 ?_
      refine lv_iload_n hx hb dX6_cell_81 rfl (lv_at hl 1 rfl) ?_
      obtain ⟨g_7, h⟩ := h
      refine va_iald hx hb hK hP 6 0 rfl rfl g_7 dX6_cell_82 ?_
      exact rd_iret hx hb hr hk h dX6_cell_83
    replace h := h.2 k_6
    by_cases k_8 : x2 = 2
    · replace h := h.1 k_8
      refine lv_tableIn (tgt := 84) hx hb dX6_cell_14 (by rw [k_8]; decide) (by rw [k_8]; decide) (by rw [k_8]; rfl) (by decide) ?_
      refine lv_aload_n hx hb dX6_cell_84 rfl (lv_at hl 0 rfl) ?_
      refine fl_get (C := RX6) (T := TX6) (N := 7) (ci := 5) (v := .ref (a2 0)) hx hb ht in_X6 hown hK hP 0 rfl rfl 1 (by decide) mw_356 rfl dX6_cell_85 ?_
      refine fl_get (C := RX0) (T := TX0) (N := 18) (ci := 0) (v := .ref (a2 6)) hx hb ht in_X0 hown hK hP 1 rfl rfl 11 (by decide) mw_197 rfl dX6_cell_88 ?_
      refine lv_iload_n hx hb dX6_cell_91 rfl (lv_at hl 1 rfl) ?_
      obtain ⟨g_9, h⟩ := h
      refine va_iald hx hb hK hP 7 0 rfl rfl g_9 dX6_cell_92 ?_
      exact rd_iret hx hb hr hk h dX6_cell_93
    replace h := h.2 k_8
    by_cases k_10 : x2 = 3
    · replace h := h.1 k_10
      refine lv_tableIn (tgt := 94) hx hb dX6_cell_14 (by rw [k_10]; decide) (by rw [k_10]; decide) (by rw [k_10]; rfl) (by decide) ?_
      refine lv_aload_n hx hb dX6_cell_94 rfl (lv_at hl 0 rfl) ?_
      refine fl_get (C := RX6) (T := TX6) (N := 7) (ci := 5) (v := .ref (a2 0)) hx hb ht in_X6 hown hK hP 0 rfl rfl 1 (by decide) mw_356 rfl dX6_cell_95 ?_
      refine fl_get (C := RX0) (T := TX0) (N := 18) (ci := 0) (v := .ref (a2 7)) hx hb ht in_X0 hown hK hP 1 rfl rfl 12 (by decide) mw_199 rfl dX6_cell_98 ?_
      refine lv_iload_n hx hb dX6_cell_101 rfl (lv_at hl 1 rfl) ?_
      obtain ⟨g_11, h⟩ := h
      refine va_iald hx hb hK hP 8 0 rfl rfl g_11 dX6_cell_102 ?_
      exact rd_iret hx hb hr hk h dX6_cell_103
    replace h := h.2 k_10
    by_cases k_12 : x2 = 4
    · replace h := h.1 k_12
      refine lv_tableIn (tgt := 104) hx hb dX6_cell_14 (by rw [k_12]; decide) (by rw [k_12]; decide) (by rw [k_12]; rfl) (by decide) ?_
      refine lv_aload_n hx hb dX6_cell_104 rfl (lv_at hl 0 rfl) ?_
      refine fl_get (C := RX6) (T := TX6) (N := 7) (ci := 5) (v := .ref (a2 0)) hx hb ht in_X6 hown hK hP 0 rfl rfl 1 (by decide) mw_356 rfl dX6_cell_105 ?_
      refine lv_iload_n hx hb dX6_cell_108 rfl (lv_at hl 1 rfl) ?_
      refine vp_callSi (rd_wV (wc := bd_w a2 q s2) (As := [.int x1]) (rest := []) hx hb hml hown ht (c2_X0_leftOf h) wd_X0_leftOf mw_894 hQ hV va_S.rf (hP.sub [1, 2, 3, 4, 5, 6, 7, 8, 9, 10, 11, 12, 13] rfl) rfl rfl rfl hl.1 rfl (Nat.le_of_ble_eq_true rfl) dX6_cell_109 ⟨Nat.le_of_ble_eq_true rfl, Nat.le_of_ble_eq_true rfl, rfl, rfl⟩ ⟨Nat.le_of_ble_eq_true rfl, Nat.le_of_ble_eq_true rfl⟩) (fun r_13 h => ?_)
      try dsimp only at h
      exact rd_iret hx hb hr hk h dX6_cell_112
    replace h := h.2 k_12
    by_cases k_15 : x2 = 5
    · replace h := h.1 k_15
      refine lv_tableIn (tgt := 113) hx hb dX6_cell_14 (by rw [k_15]; decide) (by rw [k_15]; decide) (by rw [k_15]; rfl) (by decide) ?_
      refine lv_aload_n hx hb dX6_cell_113 rfl (lv_at hl 0 rfl) ?_
      refine fl_get (C := RX6) (T := TX6) (N := 7) (ci := 5) (v := .ref (a2 0)) hx hb ht in_X6 hown hK hP 0 rfl rfl 1 (by decide) mw_356 rfl dX6_cell_114 ?_
      refine fl_get (C := RX0) (T := TX0) (N := 18) (ci := 0) (v := .ref (a2 8)) hx hb ht in_X0 hown hK hP 1 rfl rfl 13 (by decide) mw_201 rfl dX6_cell_117 ?_
      refine lv_iload_n hx hb dX6_cell_120 rfl (lv_at hl 1 rfl) ?_
      obtain ⟨g_16, h⟩ := h
      refine va_iald hx hb hK hP 9 0 rfl rfl g_16 dX6_cell_121 ?_
      exact rd_iret hx hb hr hk h dX6_cell_122
    replace h := h.2 k_15
    by_cases k_17 : x2 = 6
    · replace h := h.1 k_17
      refine lv_tableIn (tgt := 123) hx hb dX6_cell_14 (by rw [k_17]; decide) (by rw [k_17]; decide) (by rw [k_17]; rfl) (by decide) ?_
      refine lv_aload_n hx hb dX6_cell_123 rfl (lv_at hl 0 rfl) ?_
      refine fl_get (C := RX6) (T := TX6) (N := 7) (ci := 5) (v := .ref (a2 0)) hx hb ht in_X6 hown hK hP 0 rfl rfl 1 (by decide) mw_356 rfl dX6_cell_124 ?_
      refine fl_get (C := RX0) (T := TX0) (N := 18) (ci := 0) (v := .ref (a2 9)) hx hb ht in_X0 hown hK hP 1 rfl rfl 14 (by decide) mw_203 rfl dX6_cell_127 ?_
      refine lv_iload_n hx hb dX6_cell_130 rfl (lv_at hl 1 rfl) ?_
      obtain ⟨g_18, h⟩ := h
      refine va_iald hx hb hK hP 10 0 rfl rfl g_18 dX6_cell_131 ?_
      exact rd_iret hx hb hr hk h dX6_cell_132
    replace h := h.2 k_17
    by_cases k_19 : x2 = 7
    · replace h := h.1 k_19
      refine lv_tableIn (tgt := 133) hx hb dX6_cell_14 (by rw [k_19]; decide) (by rw [k_19]; decide) (by rw [k_19]; rfl) (by decide) ?_
      refine lv_aload_n hx hb dX6_cell_133 rfl (lv_at hl 0 rfl) ?_
      refine fl_get (C := RX6) (T := TX6) (N := 7) (ci := 5) (v := .ref (a2 0)) hx hb ht in_X6 hown hK hP 0 rfl rfl 1 (by decide) mw_356 rfl dX6_cell_134 ?_
      refine fl_get (C := RX0) (T := TX0) (N := 18) (ci := 0) (v := .ref (a2 10)) hx hb ht in_X0 hown hK hP 1 rfl rfl 15 (by decide) mw_205 rfl dX6_cell_137 ?_
      refine lv_iload_n hx hb dX6_cell_140 rfl (lv_at hl 1 rfl) ?_
      obtain ⟨g_20, h⟩ := h
      refine va_iald hx hb hK hP 11 0 rfl rfl g_20 dX6_cell_141 ?_
      exact rd_iret hx hb hr hk h dX6_cell_142
    replace h := h.2 k_19
    by_cases k_21 : x2 = 8
    · replace h := h.1 k_21
      refine lv_tableIn (tgt := 143) hx hb dX6_cell_14 (by rw [k_21]; decide) (by rw [k_21]; decide) (by rw [k_21]; rfl) (by decide) ?_
      refine lv_aload_n hx hb dX6_cell_143 rfl (lv_at hl 0 rfl) ?_
      refine fl_get (C := RX6) (T := TX6) (N := 7) (ci := 5) (v := .ref (a2 0)) hx hb ht in_X6 hown hK hP 0 rfl rfl 1 (by decide) mw_356 rfl dX6_cell_144 ?_
      refine lv_iload_n hx hb dX6_cell_147 rfl (lv_at hl 1 rfl) ?_
      refine vp_callSi (rd_wV (wc := bd_w a2 q s2) (As := [.int x1]) (rest := []) hx hb hml hown ht (c2_X0_wornCount h) wd_X0_wornCount mw_742 hQ hV va_S.rf (hP.sub [1, 2, 3, 4, 5, 6, 7, 8, 9, 10, 11, 12, 13] rfl) rfl rfl rfl hl.1 rfl (Nat.le_of_ble_eq_true rfl) dX6_cell_148 ⟨Nat.le_of_ble_eq_true rfl, Nat.le_of_ble_eq_true rfl, rfl, rfl⟩ ⟨Nat.le_of_ble_eq_true rfl, Nat.le_of_ble_eq_true rfl⟩) (fun r_22 h => ?_)
      try dsimp only at h
      exact rd_iret hx hb hr hk h dX6_cell_151
    replace h := h.2 k_21
    refine lv_tableOut (tgt := 152) hx hb dX6_cell_14 (by have g0 := k_4; have g1 := k_6; have g2 := k_8; have g3 := k_10; have g4 := k_12; have g5 := k_15; have g6 := k_17; have g7 := k_19; have g8 := k_21; (try simp only [lg_cmp_ge, lg_cmp_le, lg_cmp_gt, lg_cmp_lt, lg_cmp_eq] at g0 g1 g2 g3 g4 g5 g6 g7 g8); (try simp only [Int32.lt_iff_toInt_lt, Int32.le_iff_toInt_le, ← Int32.toInt_inj, Int32.reduceToInt, Int64.lt_iff_toInt_lt, Int64.le_iff_toInt_le, ← Int64.toInt_inj, Int64.reduceToInt, Int32.toInt_toInt64] at g0 g1 g2 g3 g4 g5 g6 g7 g8); omega) (by decide) ?_
    refine lv_iconst (v := (-1)) hx hb dX6_cell_152 (by decide) ?_
    exact rd_iret hx hb hr hk h dX6_cell_153
  · replace h := h.2 c_3
    refine lv_iconst (v := (-1)) hx hb dX6_cell_11 (by decide) ?_
    exact rd_iret hx hb hr hk h dX6_cell_12

def wp_X6_worn (post : Int64 → Prop) (s2 : Bd) (x1 : Int32) : Prop := wp_X0_hasCell (fun r_1 => ((r_1 = 0 → post (-1)) ∧ (¬ r_1 = 0 → vp_in x1 40 ∧ post (s2.2.2.1 (Int32.toNatClampNeg x1))))) s2 x1
set_option maxHeartbeats 4000000 in
set_option maxRecDepth 100000 in
theorem c2_X6_worn {l : Launch} {D : va_G} {q : Nat → ClassId} {a0 a1 a2 a3 a4 a5 : Nat → Nat} {p8 s8 : Nat} {s2 : Bd} {x1 : Int32} {post : Int64 → Prop} (h : wp_X6_worn post s2 x1) : Met l yX6_worn (Cond.code yX6_worn cX6_worn 2 (some .long) :: w_all) ({ frames := 2, cells := 0, slots := 0, locals := 41 } : Room) (rd_P D q [.ref (a0 0), .int x1] (fo_w (a0 0) (a1 0) (a2 0) (a3 0) (a4 0) (a5 0) p8 s8 ++ bd_w a2 q s2)) (vp_Sl post) 0 0 (fun _ => False) := by
  refine rd_start (by decide) (Nat.le_of_ble_eq_true rfl) ?_
  intro p e s m below meth c ls hx hb hr hml hown ht hk hP hQ hV hl
  have hK := hQ.1
  have hown : s.vm.findClass RX6 = some m.cls := hown
  have hl : lv_has ls 2 [(0, .ref (a0 0)), (1, .int x1)] := hl
  have hP : va_P D vwCl [((a0 0), .inr (5, [.ref (a1 0), .ref (a2 0), .ref (a3 0), .ref (a4 0), .ref (a5 0), .ref p8, .ref s8])), ((a2 0), .inr (0, [.int (s2.1 0), .int (s2.1 1), .int (s2.1 2), .int (s2.1 3), .int (s2.1 4), .int (s2.1 5), .ref (a2 1), .ref (a2 2), .ref (a2 3), .ref (a2 4), .ref (a2 5), .ref (a2 6), .ref (a2 7), .ref (a2 8), .ref (a2 9), .ref (a2 10), .ref (a2 11), .ref (a2 12)])), ((a2 1), .inl (q 0, 4, .inl (s2.2.1 0))), ((a2 2), .inl (q 0, 4, .inl (s2.2.1 1))), ((a2 3), .inl (q 0, 160, .inl (s2.2.1 2))), ((a2 4), .inl (q 0, 40, .inl (s2.2.1 3))), ((a2 5), .inl (q 0, 40, .inl (s2.2.1 4))), ((a2 6), .inl (q 0, 40, .inl (s2.2.1 5))), ((a2 7), .inl (q 0, 40, .inl (s2.2.1 6))), ((a2 8), .inl (q 0, 40, .inl (s2.2.1 7))), ((a2 9), .inl (q 0, 40, .inl (s2.2.1 8))), ((a2 10), .inl (q 0, 40, .inl (s2.2.1 9))), ((a2 11), .inl (q 1, 40, .inr (.inl s2.2.2.1))), ((a2 12), .inl (q 0, s2.2.2.2.1, .inl s2.2.2.2.2))] s.heap := hP
  unfold wp_X6_worn at h
  refine lv_aload_n hx hb dX6_worn_0 rfl (lv_at hl 0 rfl) ?_
  refine fl_get (C := RX6) (T := TX6) (N := 7) (ci := 5) (v := .ref (a2 0)) hx hb ht in_X6 hown hK hP 0 rfl rfl 1 (by decide) mw_356 rfl dX6_worn_1 ?_
  refine lv_iload_n hx hb dX6_worn_4 rfl (lv_at hl 1 rfl) ?_
  refine vp_callSi (rd_wV (wc := bd_w a2 q s2) (As := [.int x1]) (rest := []) hx hb hml hown ht (c2_X0_hasCell h) wd_X0_hasCell mw_730 hQ hV va_S.rf (hP.sub [1, 2, 3, 4, 5, 6, 7, 8, 9, 10, 11, 12, 13] rfl) rfl rfl rfl hl.1 rfl (Nat.le_of_ble_eq_true rfl) dX6_worn_5 ⟨Nat.le_of_ble_eq_true rfl, Nat.le_of_ble_eq_true rfl, rfl, rfl⟩ ⟨Nat.le_of_ble_eq_true rfl, Nat.le_of_ble_eq_true rfl⟩) (fun r_1 h => ?_)
  try dsimp only at h
  refine lv_if_eq (tgt := 23) hx hb dX6_worn_8 (by decide) (fun c_3 => ?_) (fun c_3 => ?_)
  · replace h := h.1 c_3
    refine lv_ldc2 (v := (-1)) hx hb hown (ht _ mw_899) dX6_worn_23 ?_
    exact rd_lret hx hb hr hk h dX6_worn_26
  · replace h := h.2 c_3
    refine lv_aload_n hx hb dX6_worn_11 rfl (lv_at hl 0 rfl) ?_
    refine fl_get (C := RX6) (T := TX6) (N := 7) (ci := 5) (v := .ref (a2 0)) hx hb ht in_X6 hown hK hP 0 rfl rfl 1 (by decide) mw_356 rfl dX6_worn_12 ?_
    refine fl_get (C := RX0) (T := TX0) (N := 18) (ci := 0) (v := .ref (a2 11)) hx hb ht in_X0 hown hK hP 1 rfl rfl 16 (by decide) mw_207 rfl dX6_worn_15 ?_
    refine lv_iload_n hx hb dX6_worn_18 rfl (lv_at hl 1 rfl) ?_
    obtain ⟨g_4, h⟩ := h
    refine va_lald hx hb hK hP 12 1 rfl rfl g_4 dX6_worn_19 ?_
    refine lv_goto (tgt := 26) hx hb dX6_worn_20 (by decide) ?_
    exact rd_lret hx hb hr hk h dX6_worn_26

def wp_X6_drum (post : Int32 → Prop) (s2 : Bd) (x1 : Int32) (x2 : Int32) : Prop := wp_X0_hasDrum (fun r_1 => ((¬ r_1 = 0 → ((x2 = 0 → vp_in x1 4 ∧ post ((s2.2.1 0) (Int32.toNatClampNeg x1))) ∧ (¬ x2 = 0 → ((x2 = 1 → wp_X0_flapsOn (fun r_7 => post r_7) s2 x1) ∧ (¬ x2 = 1 → ((x2 = 2 → wp_X0_cellsWith (fun r_10 => post r_10) s2 x1) ∧ (¬ x2 = 2 → ((x2 = 3 → wp_X0_unlikeSigns (fun r_13 => post r_13) s2 x1) ∧ (¬ x2 = 3 → ((x2 = 4 → wp_X0_mostOfOneSign (fun r_16 => post r_16) s2 x1) ∧ (¬ x2 = 4 → post (-1)))))))))))) ∧ (r_1 = 0 → post (-1)))) s2 x1
set_option maxHeartbeats 4000000 in
set_option maxRecDepth 100000 in
theorem c2_X6_drum {l : Launch} {D : va_G} {q : Nat → ClassId} {a0 a1 a2 a3 a4 a5 : Nat → Nat} {p8 s8 : Nat} {s2 : Bd} {x1 : Int32} {x2 : Int32} {post : Int32 → Prop} (h : wp_X6_drum post s2 x1 x2) : Met l yX6_drum (Cond.code yX6_drum cX6_drum 3 (some .int) :: w_all) ({ frames := 4, cells := 0, slots := 0, locals := 93 } : Room) (rd_P D q [.ref (a0 0), .int x1, .int x2] (fo_w (a0 0) (a1 0) (a2 0) (a3 0) (a4 0) (a5 0) p8 s8 ++ bd_w a2 q s2)) (vp_Si post) 0 0 (fun _ => False) := by
  refine rd_start (by decide) (Nat.le_of_ble_eq_true rfl) ?_
  intro p e s m below meth c ls hx hb hr hml hown ht hk hP hQ hV hl
  have hK := hQ.1
  have hown : s.vm.findClass RX6 = some m.cls := hown
  have hl : lv_has ls 3 [(0, .ref (a0 0)), (1, .int x1), (2, .int x2)] := hl
  have hP : va_P D vwCl [((a0 0), .inr (5, [.ref (a1 0), .ref (a2 0), .ref (a3 0), .ref (a4 0), .ref (a5 0), .ref p8, .ref s8])), ((a2 0), .inr (0, [.int (s2.1 0), .int (s2.1 1), .int (s2.1 2), .int (s2.1 3), .int (s2.1 4), .int (s2.1 5), .ref (a2 1), .ref (a2 2), .ref (a2 3), .ref (a2 4), .ref (a2 5), .ref (a2 6), .ref (a2 7), .ref (a2 8), .ref (a2 9), .ref (a2 10), .ref (a2 11), .ref (a2 12)])), ((a2 1), .inl (q 0, 4, .inl (s2.2.1 0))), ((a2 2), .inl (q 0, 4, .inl (s2.2.1 1))), ((a2 3), .inl (q 0, 160, .inl (s2.2.1 2))), ((a2 4), .inl (q 0, 40, .inl (s2.2.1 3))), ((a2 5), .inl (q 0, 40, .inl (s2.2.1 4))), ((a2 6), .inl (q 0, 40, .inl (s2.2.1 5))), ((a2 7), .inl (q 0, 40, .inl (s2.2.1 6))), ((a2 8), .inl (q 0, 40, .inl (s2.2.1 7))), ((a2 9), .inl (q 0, 40, .inl (s2.2.1 8))), ((a2 10), .inl (q 0, 40, .inl (s2.2.1 9))), ((a2 11), .inl (q 1, 40, .inr (.inl s2.2.2.1))), ((a2 12), .inl (q 0, s2.2.2.2.1, .inl s2.2.2.2.2))] s.heap := hP
  unfold wp_X6_drum at h
  refine lv_aload_n hx hb dX6_drum_0 rfl (lv_at hl 0 rfl) ?_
  refine fl_get (C := RX6) (T := TX6) (N := 7) (ci := 5) (v := .ref (a2 0)) hx hb ht in_X6 hown hK hP 0 rfl rfl 1 (by decide) mw_356 rfl dX6_drum_1 ?_
  refine lv_iload_n hx hb dX6_drum_4 rfl (lv_at hl 1 rfl) ?_
  refine vp_callSi (rd_wV (wc := bd_w a2 q s2) (As := [.int x1]) (rest := []) hx hb hml hown ht (c2_X0_hasDrum h) wd_X0_hasDrum mw_904 hQ hV va_S.rf (hP.sub [1, 2, 3, 4, 5, 6, 7, 8, 9, 10, 11, 12, 13] rfl) rfl rfl rfl hl.1 rfl (Nat.le_of_ble_eq_true rfl) dX6_drum_5 ⟨Nat.le_of_ble_eq_true rfl, Nat.le_of_ble_eq_true rfl, rfl, rfl⟩ ⟨Nat.le_of_ble_eq_true rfl, Nat.le_of_ble_eq_true rfl⟩) (fun r_1 h => ?_)
  try dsimp only at h
  refine lv_if_ne (tgt := 13) hx hb dX6_drum_8 (by decide) (fun c_3 => ?_) (fun c_3 => ?_)
  · replace h := h.1 c_3
    refine lv_iload_n hx hb dX6_drum_13 rfl (lv_at hl 2 rfl) ?_
    by_cases k_4 : x2 = 0
    · replace h := h.1 k_4
      refine lv_tableIn (tgt := 48) hx hb dX6_drum_14 (by rw [k_4]; decide) (by rw [k_4]; decide) (by rw [k_4]; rfl) (by decide) ?_
      refine lv_aload_n hx hb dX6_drum_48 rfl (lv_at hl 0 rfl) ?_
      refine fl_get (C := RX6) (T := TX6) (N := 7) (ci := 5) (v := .ref (a2 0)) hx hb ht in_X6 hown hK hP 0 rfl rfl 1 (by decide) mw_356 rfl dX6_drum_49 ?_
      refine fl_get (C := RX0) (T := TX0) (N := 18) (ci := 0) (v := .ref (a2 1)) hx hb ht in_X0 hown hK hP 1 rfl rfl 6 (by decide) mw_189 rfl dX6_drum_52 ?_
      refine lv_iload_n hx hb dX6_drum_55 rfl (lv_at hl 1 rfl) ?_
      obtain ⟨g_5, h⟩ := h
      refine va_iald hx hb hK hP 2 0 rfl rfl g_5 dX6_drum_56 ?_
      exact rd_iret hx hb hr hk h dX6_drum_57
    replace h := h.2 k_4
    by_cases k_6 : x2 = 1
    · replace h := h.1 k_6
      refine lv_tableIn (tgt := 58) hx hb dX6_drum_14 (by rw [k_6]; decide) (by rw [k_6]; decide) (by rw [k_6]; rfl) (by decide) ?_
      refine lv_aload_n hx hb dX6_drum_58 rfl (lv_at hl 0 rfl) ?_
      refine fl_get (C := RX6) (T := TX6) (N := 7) (ci := 5) (v := .ref (a2 0)) hx hb ht in_X6 hown hK hP 0 rfl rfl 1 (by decide) mw_356 rfl dX6_drum_59 ?_
      refine lv_iload_n hx hb dX6_drum_62 rfl (lv_at hl 1 rfl) ?_
      refine vp_callSi (rd_wV (wc := bd_w a2 q s2) (As := [.int x1]) (rest := []) hx hb hml hown ht (c2_X0_flapsOn h) wd_X0_flapsOn mw_908 hQ hV va_S.rf (hP.sub [1, 2, 3, 4, 5, 6, 7, 8, 9, 10, 11, 12, 13] rfl) rfl rfl rfl hl.1 rfl (Nat.le_of_ble_eq_true rfl) dX6_drum_63 ⟨Nat.le_of_ble_eq_true rfl, Nat.le_of_ble_eq_true rfl, rfl, rfl⟩ ⟨Nat.le_of_ble_eq_true rfl, Nat.le_of_ble_eq_true rfl⟩) (fun r_7 h => ?_)
      try dsimp only at h
      exact rd_iret hx hb hr hk h dX6_drum_66
    replace h := h.2 k_6
    by_cases k_9 : x2 = 2
    · replace h := h.1 k_9
      refine lv_tableIn (tgt := 67) hx hb dX6_drum_14 (by rw [k_9]; decide) (by rw [k_9]; decide) (by rw [k_9]; rfl) (by decide) ?_
      refine lv_aload_n hx hb dX6_drum_67 rfl (lv_at hl 0 rfl) ?_
      refine fl_get (C := RX6) (T := TX6) (N := 7) (ci := 5) (v := .ref (a2 0)) hx hb ht in_X6 hown hK hP 0 rfl rfl 1 (by decide) mw_356 rfl dX6_drum_68 ?_
      refine lv_iload_n hx hb dX6_drum_71 rfl (lv_at hl 1 rfl) ?_
      refine vp_callSi (rd_wV (wc := bd_w a2 q s2) (As := [.int x1]) (rest := []) hx hb hml hown ht (c2_X0_cellsWith h) wd_X0_cellsWith mw_909 hQ hV va_S.rf (hP.sub [1, 2, 3, 4, 5, 6, 7, 8, 9, 10, 11, 12, 13] rfl) rfl rfl rfl hl.1 rfl (Nat.le_of_ble_eq_true rfl) dX6_drum_72 ⟨Nat.le_of_ble_eq_true rfl, Nat.le_of_ble_eq_true rfl, rfl, rfl⟩ ⟨Nat.le_of_ble_eq_true rfl, Nat.le_of_ble_eq_true rfl⟩) (fun r_10 h => ?_)
      try dsimp only at h
      exact rd_iret hx hb hr hk h dX6_drum_75
    replace h := h.2 k_9
    by_cases k_12 : x2 = 3
    · replace h := h.1 k_12
      refine lv_tableIn (tgt := 76) hx hb dX6_drum_14 (by rw [k_12]; decide) (by rw [k_12]; decide) (by rw [k_12]; rfl) (by decide) ?_
      refine lv_aload_n hx hb dX6_drum_76 rfl (lv_at hl 0 rfl) ?_
      refine fl_get (C := RX6) (T := TX6) (N := 7) (ci := 5) (v := .ref (a2 0)) hx hb ht in_X6 hown hK hP 0 rfl rfl 1 (by decide) mw_356 rfl dX6_drum_77 ?_
      refine lv_iload_n hx hb dX6_drum_80 rfl (lv_at hl 1 rfl) ?_
      refine vp_callSi (rd_wV (wc := bd_w a2 q s2) (As := [.int x1]) (rest := []) hx hb hml hown ht (c2_X0_unlikeSigns h) wd_X0_unlikeSigns mw_913 hQ hV va_S.rf (hP.sub [1, 2, 3, 4, 5, 6, 7, 8, 9, 10, 11, 12, 13] rfl) rfl rfl rfl hl.1 rfl (Nat.le_of_ble_eq_true rfl) dX6_drum_81 ⟨Nat.le_of_ble_eq_true rfl, Nat.le_of_ble_eq_true rfl, rfl, rfl⟩ ⟨Nat.le_of_ble_eq_true rfl, Nat.le_of_ble_eq_true rfl⟩) (fun r_13 h => ?_)
      try dsimp only at h
      exact rd_iret hx hb hr hk h dX6_drum_84
    replace h := h.2 k_12
    by_cases k_15 : x2 = 4
    · replace h := h.1 k_15
      refine lv_tableIn (tgt := 85) hx hb dX6_drum_14 (by rw [k_15]; decide) (by rw [k_15]; decide) (by rw [k_15]; rfl) (by decide) ?_
      refine lv_aload_n hx hb dX6_drum_85 rfl (lv_at hl 0 rfl) ?_
      refine fl_get (C := RX6) (T := TX6) (N := 7) (ci := 5) (v := .ref (a2 0)) hx hb ht in_X6 hown hK hP 0 rfl rfl 1 (by decide) mw_356 rfl dX6_drum_86 ?_
      refine lv_iload_n hx hb dX6_drum_89 rfl (lv_at hl 1 rfl) ?_
      refine vp_callSi (rd_wV (wc := bd_w a2 q s2) (As := [.int x1]) (rest := []) hx hb hml hown ht (c2_X0_mostOfOneSign h) wd_X0_mostOfOneSign mw_925 hQ hV va_S.rf (hP.sub [1, 2, 3, 4, 5, 6, 7, 8, 9, 10, 11, 12, 13] rfl) rfl rfl rfl hl.1 rfl (Nat.le_of_ble_eq_true rfl) dX6_drum_90 ⟨Nat.le_of_ble_eq_true rfl, Nat.le_of_ble_eq_true rfl, rfl, rfl⟩ ⟨Nat.le_of_ble_eq_true rfl, Nat.le_of_ble_eq_true rfl⟩) (fun r_16 h => ?_)
      try dsimp only at h
      exact rd_iret hx hb hr hk h dX6_drum_93
    replace h := h.2 k_15
    refine lv_tableOut (tgt := 94) hx hb dX6_drum_14 (by have g0 := k_4; have g1 := k_6; have g2 := k_9; have g3 := k_12; have g4 := k_15; (try simp only [lg_cmp_ge, lg_cmp_le, lg_cmp_gt, lg_cmp_lt, lg_cmp_eq] at g0 g1 g2 g3 g4); (try simp only [Int32.lt_iff_toInt_lt, Int32.le_iff_toInt_le, ← Int32.toInt_inj, Int32.reduceToInt, Int64.lt_iff_toInt_lt, Int64.le_iff_toInt_le, ← Int64.toInt_inj, Int64.reduceToInt, Int32.toInt_toInt64] at g0 g1 g2 g3 g4); omega) (by decide) ?_
    refine lv_iconst (v := (-1)) hx hb dX6_drum_94 (by decide) ?_
    exact rd_iret hx hb hr hk h dX6_drum_95
  · replace h := h.2 c_3
    refine lv_iconst (v := (-1)) hx hb dX6_drum_11 (by decide) ?_
    exact rd_iret hx hb hr hk h dX6_drum_12

def wp_X6_sign (post : Int32 → Prop) (s2 : Bd) (x1 : Int32) (x2 : Int32) : Prop := wp_X0_signOf (fun r_1 => post r_1) s2 x1 x2
set_option maxHeartbeats 4000000 in
set_option maxRecDepth 100000 in
theorem c2_X6_sign {l : Launch} {D : va_G} {q : Nat → ClassId} {a0 a1 a2 a3 a4 a5 : Nat → Nat} {p8 s8 : Nat} {s2 : Bd} {x1 : Int32} {x2 : Int32} {post : Int32 → Prop} (h : wp_X6_sign post s2 x1 x2) : Met l yX6_sign (Cond.code yX6_sign cX6_sign 3 (some .int) :: w_all) ({ frames := 1, cells := 0, slots := 0, locals := 22 } : Room) (rd_P D q [.ref (a0 0), .int x1, .int x2] (fo_w (a0 0) (a1 0) (a2 0) (a3 0) (a4 0) (a5 0) p8 s8 ++ bd_w a2 q s2)) (vp_Si post) 0 0 (fun _ => False) := by
  refine rd_start (by decide) (Nat.le_of_ble_eq_true rfl) ?_
  intro p e s m below meth c ls hx hb hr hml hown ht hk hP hQ hV hl
  have hK := hQ.1
  have hown : s.vm.findClass RX6 = some m.cls := hown
  have hl : lv_has ls 3 [(0, .ref (a0 0)), (1, .int x1), (2, .int x2)] := hl
  have hP : va_P D vwCl [((a0 0), .inr (5, [.ref (a1 0), .ref (a2 0), .ref (a3 0), .ref (a4 0), .ref (a5 0), .ref p8, .ref s8])), ((a2 0), .inr (0, [.int (s2.1 0), .int (s2.1 1), .int (s2.1 2), .int (s2.1 3), .int (s2.1 4), .int (s2.1 5), .ref (a2 1), .ref (a2 2), .ref (a2 3), .ref (a2 4), .ref (a2 5), .ref (a2 6), .ref (a2 7), .ref (a2 8), .ref (a2 9), .ref (a2 10), .ref (a2 11), .ref (a2 12)])), ((a2 1), .inl (q 0, 4, .inl (s2.2.1 0))), ((a2 2), .inl (q 0, 4, .inl (s2.2.1 1))), ((a2 3), .inl (q 0, 160, .inl (s2.2.1 2))), ((a2 4), .inl (q 0, 40, .inl (s2.2.1 3))), ((a2 5), .inl (q 0, 40, .inl (s2.2.1 4))), ((a2 6), .inl (q 0, 40, .inl (s2.2.1 5))), ((a2 7), .inl (q 0, 40, .inl (s2.2.1 6))), ((a2 8), .inl (q 0, 40, .inl (s2.2.1 7))), ((a2 9), .inl (q 0, 40, .inl (s2.2.1 8))), ((a2 10), .inl (q 0, 40, .inl (s2.2.1 9))), ((a2 11), .inl (q 1, 40, .inr (.inl s2.2.2.1))), ((a2 12), .inl (q 0, s2.2.2.2.1, .inl s2.2.2.2.2))] s.heap := hP
  unfold wp_X6_sign at h
  refine lv_aload_n hx hb dX6_sign_0 rfl (lv_at hl 0 rfl) ?_
  refine fl_get (C := RX6) (T := TX6) (N := 7) (ci := 5) (v := .ref (a2 0)) hx hb ht in_X6 hown hK hP 0 rfl rfl 1 (by decide) mw_356 rfl dX6_sign_1 ?_
  refine lv_iload_n hx hb dX6_sign_4 rfl (lv_at hl 1 rfl) ?_
  refine lv_iload_n hx hb dX6_sign_5 rfl (lv_at hl 2 rfl) ?_
  refine vp_callSi (rd_wV (wc := bd_w a2 q s2) (As := [.int x1, .int x2]) (rest := []) hx hb hml hown ht (c2_X0_signOf h) wd_X0_signOf mw_934 hQ hV va_S.rf (hP.sub [1, 2, 3, 4, 5, 6, 7, 8, 9, 10, 11, 12, 13] rfl) rfl rfl rfl hl.1 rfl (Nat.le_of_ble_eq_true rfl) dX6_sign_6 ⟨Nat.le_of_ble_eq_true rfl, Nat.le_of_ble_eq_true rfl, rfl, rfl⟩ ⟨Nat.le_of_ble_eq_true rfl, Nat.le_of_ble_eq_true rfl⟩) (fun r_1 h => ?_)
  try dsimp only at h
  exact rd_iret hx hb hr hk h dX6_sign_9

def wp_X6_at (post : Int32 → Prop) (s2 : Bd) (x1 : Int32) (x2 : Int32) (x3 : Int32) : Prop := wp_X0_hasRow (fun r_1 => ((r_1 = 0 → post (-1)) ∧ (¬ r_1 = 0 → ((x2 < 0 → post (-1)) ∧ (¬ x2 < 0 → ((x2 < (s2.1 1) → ((x3 = 0 → vp_in ((x1 * (s2.1 1)) + x2) 40 ∧ wp_X0_signOn (fun r_8 => post r_8) s2 ((x1 * (s2.1 1)) + x2) ((s2.2.1 4) (Int32.toNatClampNeg ((x1 * (s2.1 1)) + x2)))) ∧ (¬ x3 = 0 → ((x3 = 1 → vp_in ((x1 * (s2.1 1)) + x2) 40 ∧ wp_X0_signOn (fun r_12 => post r_12) s2 ((x1 * (s2.1 1)) + x2) ((s2.2.1 5) (Int32.toNatClampNeg ((x1 * (s2.1 1)) + x2)))) ∧ (¬ x3 = 1 → ((x3 = 2 → vp_in ((x1 * (s2.1 1)) + x2) 40 ∧ wp_X0_signOn (fun r_16 => post r_16) s2 ((x1 * (s2.1 1)) + x2) ((s2.2.1 6) (Int32.toNatClampNeg ((x1 * (s2.1 1)) + x2)))) ∧ (¬ x3 = 2 → post (-1)))))))) ∧ (¬ x2 < (s2.1 1) → post (-1)))))))) s2 x1
set_option maxHeartbeats 4000000 in
set_option maxRecDepth 100000 in
theorem c2_X6_at {l : Launch} {D : va_G} {q : Nat → ClassId} {a0 a1 a2 a3 a4 a5 : Nat → Nat} {p8 s8 : Nat} {s2 : Bd} {x1 : Int32} {x2 : Int32} {x3 : Int32} {post : Int32 → Prop} (h : wp_X6_at post s2 x1 x2 x3) : Met l yX6_at (Cond.code yX6_at cX6_at 5 (some .int) :: w_all) ({ frames := 2, cells := 0, slots := 0, locals := 44 } : Room) (rd_P D q [.ref (a0 0), .int x1, .int x2, .int x3] (fo_w (a0 0) (a1 0) (a2 0) (a3 0) (a4 0) (a5 0) p8 s8 ++ bd_w a2 q s2)) (vp_Si post) 0 0 (fun _ => False) := by
  refine rd_start (by decide) (Nat.le_of_ble_eq_true rfl) ?_
  intro p e s m below meth c ls hx hb hr hml hown ht hk hP hQ hV hl
  have hK := hQ.1
  have hown : s.vm.findClass RX6 = some m.cls := hown
  have hl : lv_has ls 5 [(0, .ref (a0 0)), (1, .int x1), (2, .int x2), (3, .int x3)] := hl
  have hP : va_P D vwCl [((a0 0), .inr (5, [.ref (a1 0), .ref (a2 0), .ref (a3 0), .ref (a4 0), .ref (a5 0), .ref p8, .ref s8])), ((a2 0), .inr (0, [.int (s2.1 0), .int (s2.1 1), .int (s2.1 2), .int (s2.1 3), .int (s2.1 4), .int (s2.1 5), .ref (a2 1), .ref (a2 2), .ref (a2 3), .ref (a2 4), .ref (a2 5), .ref (a2 6), .ref (a2 7), .ref (a2 8), .ref (a2 9), .ref (a2 10), .ref (a2 11), .ref (a2 12)])), ((a2 1), .inl (q 0, 4, .inl (s2.2.1 0))), ((a2 2), .inl (q 0, 4, .inl (s2.2.1 1))), ((a2 3), .inl (q 0, 160, .inl (s2.2.1 2))), ((a2 4), .inl (q 0, 40, .inl (s2.2.1 3))), ((a2 5), .inl (q 0, 40, .inl (s2.2.1 4))), ((a2 6), .inl (q 0, 40, .inl (s2.2.1 5))), ((a2 7), .inl (q 0, 40, .inl (s2.2.1 6))), ((a2 8), .inl (q 0, 40, .inl (s2.2.1 7))), ((a2 9), .inl (q 0, 40, .inl (s2.2.1 8))), ((a2 10), .inl (q 0, 40, .inl (s2.2.1 9))), ((a2 11), .inl (q 1, 40, .inr (.inl s2.2.2.1))), ((a2 12), .inl (q 0, s2.2.2.2.1, .inl s2.2.2.2.2))] s.heap := hP
  unfold wp_X6_at at h
  refine lv_aload_n hx hb dX6_at_0 rfl (lv_at hl 0 rfl) ?_
  refine fl_get (C := RX6) (T := TX6) (N := 7) (ci := 5) (v := .ref (a2 0)) hx hb ht in_X6 hown hK hP 0 rfl rfl 1 (by decide) mw_356 rfl dX6_at_1 ?_
  refine lv_iload_n hx hb dX6_at_4 rfl (lv_at hl 1 rfl) ?_
  refine vp_callSi (rd_wV (wc := bd_w a2 q s2) (As := [.int x1]) (rest := []) hx hb hml hown ht (c2_X0_hasRow h) wd_X0_hasRow mw_621 hQ hV va_S.rf (hP.sub [1, 2, 3, 4, 5, 6, 7, 8, 9, 10, 11, 12, 13] rfl) rfl rfl rfl hl.1 rfl (Nat.le_of_ble_eq_true rfl) dX6_at_5 ⟨Nat.le_of_ble_eq_true rfl, Nat.le_of_ble_eq_true rfl, rfl, rfl⟩ ⟨Nat.le_of_ble_eq_true rfl, Nat.le_of_ble_eq_true rfl⟩) (fun r_1 h => ?_)
  try dsimp only at h
  refine lv_if_eq (tgt := 26) hx hb dX6_at_8 (by decide) (fun c_3 => ?_) (fun c_3 => ?_)
  · replace h := h.1 c_3
    refine lv_iconst (v := (-1)) hx hb dX6_at_26 (by decide) ?_
    exact rd_iret hx hb hr hk h dX6_at_27
  · replace h := h.2 c_3
    refine lv_iload_n hx hb dX6_at_11 rfl (lv_at hl 2 rfl) ?_
    refine lv_if_lt (tgt := 26) hx hb dX6_at_12 (by decide) (fun c_4 => ?_) (fun c_4 => ?_)
    · replace h := h.1 c_4
      refine lv_iconst (v := (-1)) hx hb dX6_at_26 (by decide) ?_
      exact rd_iret hx hb hr hk h dX6_at_27
    · replace h := h.2 c_4
      refine lv_iload_n hx hb dX6_at_15 rfl (lv_at hl 2 rfl) ?_
      refine lv_aload_n hx hb dX6_at_16 rfl (lv_at hl 0 rfl) ?_
      refine fl_get (C := RX6) (T := TX6) (N := 7) (ci := 5) (v := .ref (a2 0)) hx hb ht in_X6 hown hK hP 0 rfl rfl 1 (by decide) mw_356 rfl dX6_at_17 ?_
      refine fl_get (C := RX0) (T := TX0) (N := 18) (ci := 0) (v := .int (s2.1 1)) hx hb ht in_X0 hown hK hP 1 rfl rfl 1 (by decide) mw_174 rfl dX6_at_20 ?_
      refine lv_icmp_lt (tgt := 28) hx hb dX6_at_23 (by decide) (fun c_5 => ?_) (fun c_5 => ?_)
      · replace h := h.1 c_5
        refine lv_iload_n hx hb dX6_at_28 rfl (lv_at hl 1 rfl) ?_
        refine lv_aload_n hx hb dX6_at_29 rfl (lv_at hl 0 rfl) ?_
        refine fl_get (C := RX6) (T := TX6) (N := 7) (ci := 5) (v := .ref (a2 0)) hx hb ht in_X6 hown hK hP 0 rfl rfl 1 (by decide) mw_356 rfl dX6_at_30 ?_
        refine fl_get (C := RX0) (T := TX0) (N := 18) (ci := 0) (v := .int (s2.1 1)) hx hb ht in_X0 hown hK hP 1 rfl rfl 1 (by decide) mw_174 rfl dX6_at_33 ?_
        refine lv_imul hx hb dX6_at_36 ?_
        refine lv_iload_n hx hb dX6_at_37 rfl (lv_at hl 2 rfl) ?_
        refine lv_iadd hx hb dX6_at_38 ?_
        refine lv_istore (lv' := [(4, .int ((x1 * (s2.1 1)) + x2)), (0, .ref (a0 0)), (1, .int x1), (2, .int x2), (3, .int x3)]) hx hb dX6_at_39 hl (by decide) rfl (fun ls hl => ?_)
        refine lv_iload_n hx hb dX6_at_41 rfl (lv_at hl 4 rfl) ?_
        by_cases k_6 : x3 = 0
        · replace h := h.1 k_6
          refine lv_tableIn (tgt := 68) hx hb dX6_at_42 (by rw [k_6]; decide) (by rw [k_6]; decide) (by rw [k_6]; rfl) (by decide) ?_
          refine lv_aload_n hx hb dX6_at_68 rfl (lv_at hl 1 rfl) ?_
          refine fl_get (C := RX6) (T := TX6) (N := 7) (ci := 5) (v := .ref (a2 0)) hx hb ht in_X6 hown hK hP 0 rfl rfl 1 (by decide) mw_356 rfl dX6_at_69 ?_
          refine lv_iload hx hb dX6_at_72 (lv_at hl 0 rfl) ?_
          refine lv_aload_n hx hb dX6_at_74 rfl (lv_at hl 1 rfl) ?_
          refine fl_get (C := RX6) (T := TX6) (N := 7) (ci := 5) (v := .ref (a2 0)) hx hb ht in_X6 hown hK hP 0 rfl rfl 1 (by decide) mw_356 rfl dX6_at_75 ?_
          refine fl_get (C := RX0) (T := TX0) (N := 18) (ci := 0) (v := .ref (a2 5)) hx hb ht in_X0 hown hK hP 1 rfl rfl 10 (by decide) mw_195 rfl dX6_at_78 ?_
          refine lv_iload hx hb dX6_at_81 (lv_at hl 0 rfl) ?_
          obtain ⟨g_7, h⟩ := h
          refine va_iald hx hb hK hP 6 0 rfl rfl g_7 dX6_at_83 ?_
          refine vp_callSi (rd_wV (wc := bd_w a2 q s2) (As := [.int ((x1 * (s2.1 1)) + x2), .int ((s2.2.1 4) (Int32.toNatClampNeg ((x1 * (s2.1 1)) + x2)))]) (rest := []) hx hb hml hown ht (c2_X0_signOn h) wd_X0_signOn mw_939 hQ hV va_S.rf (hP.sub [1, 2, 3, 4, 5, 6, 7, 8, 9, 10, 11, 12, 13] rfl) rfl rfl rfl hl.1 rfl (Nat.le_of_ble_eq_true rfl) dX6_at_84 ⟨Nat.le_of_ble_eq_true rfl, Nat.le_of_ble_eq_true rfl, rfl, rfl⟩ ⟨Nat.le_of_ble_eq_true rfl, Nat.le_of_ble_eq_true rfl⟩) (fun r_8 h => ?_)
          try dsimp only at h
          exact rd_iret hx hb hr hk h dX6_at_87
        replace h := h.2 k_6
        by_cases k_10 : x3 = 1
        · replace h := h.1 k_10
          refine lv_tableIn (tgt := 88) hx hb dX6_at_42 (by rw [k_10]; decide) (by rw [k_10]; decide) (by rw [k_10]; rfl) (by decide) ?_
          refine lv_aload_n hx hb dX6_at_88 rfl (lv_at hl 1 rfl) ?_
          refine fl_get (C := RX6) (T := TX6) (N := 7) (ci := 5) (v := .ref (a2 0)) hx hb ht in_X6 hown hK hP 0 rfl rfl 1 (by decide) mw_356 rfl dX6_at_89 ?_
          refine lv_iload hx hb dX6_at_92 (lv_at hl 0 rfl) ?_
          refine lv_aload_n hx hb dX6_at_94 rfl (lv_at hl 1 rfl) ?_
          refine fl_get (C := RX6) (T := TX6) (N := 7) (ci := 5) (v := .ref (a2 0)) hx hb ht in_X6 hown hK hP 0 rfl rfl 1 (by decide) mw_356 rfl dX6_at_95 ?_
          refine fl_get (C := RX0) (T := TX0) (N := 18) (ci := 0) (v := .ref (a2 6)) hx hb ht in_X0 hown hK hP 1 rfl rfl 11 (by decide) mw_197 rfl dX6_at_98 ?_
          refine lv_iload hx hb dX6_at_101 (lv_at hl 0 rfl) ?_
          obtain ⟨g_11, h⟩ := h
          refine va_iald hx hb hK hP 7 0 rfl rfl g_11 dX6_at_103 ?_
          refine vp_callSi (rd_wV (wc := bd_w a2 q s2) (As := [.int ((x1 * (s2.1 1)) + x2), .int ((s2.2.1 5) (Int32.toNatClampNeg ((x1 * (s2.1 1)) + x2)))]) (rest := []) hx hb hml hown ht (c2_X0_signOn h) wd_X0_signOn mw_939 hQ hV va_S.rf (hP.sub [1, 2, 3, 4, 5, 6, 7, 8, 9, 10, 11, 12, 13] rfl) rfl rfl rfl hl.1 rfl (Nat.le_of_ble_eq_true rfl) dX6_at_104 ⟨Nat.le_of_ble_eq_true rfl, Nat.le_of_ble_eq_true rfl, rfl, rfl⟩ ⟨Nat.le_of_ble_eq_true rfl, Nat.le_of_ble_eq_true rfl⟩) (fun r_12 h => ?_)
          try dsimp only at h
          exact rd_iret hx hb hr hk h dX6_at_107
        replace h := h.2 k_10
        by_cases k_14 : x3 = 2
        · replace h := h.1 k_14
          refine lv_tableIn (tgt := 108) hx hb dX6_at_42 (by rw [k_14]; decide) (by rw [k_14]; decide) (by rw [k_14]; rfl) (by decide) ?_
          refine lv_aload_n hx hb dX6_at_108 rfl (lv_at hl 1 rfl) ?_
          refine fl_get (C := RX6) (T := TX6) (N := 7) (ci := 5) (v := .ref (a2 0)) hx hb ht in_X6 hown hK hP 0 rfl rfl 1 (by decide) mw_356 rfl dX6_at_109 ?_
          refine lv_iload hx hb dX6_at_112 (lv_at hl 0 rfl) ?_
          refine lv_aload_n hx hb dX6_at_114 rfl (lv_at hl 1 rfl) ?_
          refine fl_get (C := RX6) (T := TX6) (N := 7) (ci := 5) (v := .ref (a2 0)) hx hb ht in_X6 hown hK hP 0 rfl rfl 1 (by decide) mw_356 rfl dX6_at_115 ?_
          refine fl_get (C := RX0) (T := TX0) (N := 18) (ci := 0) (v := .ref (a2 7)) hx hb ht in_X0 hown hK hP 1 rfl rfl 12 (by decide) mw_199 rfl dX6_at_118 ?_
          refine lv_iload hx hb dX6_at_121 (lv_at hl 0 rfl) ?_
          obtain ⟨g_15, h⟩ := h
          refine va_iald hx hb hK hP 8 0 rfl rfl g_15 dX6_at_123 ?_
          refine vp_callSi (rd_wV (wc := bd_w a2 q s2) (As := [.int ((x1 * (s2.1 1)) + x2), .int ((s2.2.1 6) (Int32.toNatClampNeg ((x1 * (s2.1 1)) + x2)))]) (rest := []) hx hb hml hown ht (c2_X0_signOn h) wd_X0_signOn mw_939 hQ hV va_S.rf (hP.sub [1, 2, 3, 4, 5, 6, 7, 8, 9, 10, 11, 12, 13] rfl) rfl rfl rfl hl.1 rfl (Nat.le_of_ble_eq_true rfl) dX6_at_124 ⟨Nat.le_of_ble_eq_true rfl, Nat.le_of_ble_eq_true rfl, rfl, rfl⟩ ⟨Nat.le_of_ble_eq_true rfl, Nat.le_of_ble_eq_true rfl⟩) (fun r_16 h => ?_)
          try dsimp only at h
          exact rd_iret hx hb hr hk h dX6_at_127
        replace h := h.2 k_14
        refine lv_tableOut (tgt := 128) hx hb dX6_at_42 (by have g0 := k_6; have g1 := k_10; have g2 := k_14; (try simp only [lg_cmp_ge, lg_cmp_le, lg_cmp_gt, lg_cmp_lt, lg_cmp_eq] at g0 g1 g2); (try simp only [Int32.lt_iff_toInt_lt, Int32.le_iff_toInt_le, ← Int32.toInt_inj, Int32.reduceToInt, Int64.lt_iff_toInt_lt, Int64.le_iff_toInt_le, ← Int64.toInt_inj, Int64.reduceToInt, Int32.toInt_toInt64] at g0 g1 g2); omega) (by decide) ?_
        refine lv_iconst (v := (-1)) hx hb dX6_at_128 (by decide) ?_
        exact rd_iret hx hb hr hk h dX6_at_129
      · replace h := h.2 c_5
        refine lv_iconst (v := (-1)) hx hb dX6_at_26 (by decide) ?_
        exact rd_iret hx hb hr hk h dX6_at_27

def wp_X6_isSuch (post : Int32 → Prop) (s2 : Bd) (x1 : Int32) (x2 : Int32) : Prop := ((x2 = 0 → wp_X0_leftOf (fun r_2 => ((r_2 ≤ 0 → post 0) ∧ (¬ r_2 ≤ 0 → post 1))) s2 x1) ∧ (¬ x2 = 0 → ((x2 = 1 → vp_in x1 40 ∧ vp_in x1 40 ∧ ((((s2.2.1 4) (Int32.toNatClampNeg x1)) = ((s2.2.1 5) (Int32.toNatClampNeg x1)) → post 0) ∧ (¬ ((s2.2.1 4) (Int32.toNatClampNeg x1)) = ((s2.2.1 5) (Int32.toNatClampNeg x1)) → post 1))) ∧ (¬ x2 = 1 → ((x2 = 2 → wp_X0_showsWrong (fun r_10 => narrow .boolean (.int r_10) = .int r_10 ∧ post r_10) s2 x1) ∧ (¬ x2 = 2 → ((x2 = 3 → post 0) ∧ (¬ x2 = 3 → ((x2 = 4 → wp_X0_currentOf (fun r_15 => ((r_15 ≤ (s2.1 2) → post 0) ∧ (¬ r_15 ≤ (s2.1 2) → post 1))) s2 x1) ∧ (¬ x2 = 4 → post 0))))))))))
set_option maxHeartbeats 4000000 in
set_option maxRecDepth 100000 in
theorem c2_X6_isSuch {l : Launch} {D : va_G} {q : Nat → ClassId} {a0 a1 a2 a3 a4 a5 : Nat → Nat} {p8 s8 : Nat} {s2 : Bd} {x1 : Int32} {x2 : Int32} {post : Int32 → Prop} (h : wp_X6_isSuch post s2 x1 x2) : Met l yX6_isSuch (Cond.code yX6_isSuch cX6_isSuch 3 (some .boolean) :: w_all) ({ frames := 4, cells := 0, slots := 0, locals := 86 } : Room) (rd_P D q [.ref (a0 0), .int x1, .int x2] (fo_w (a0 0) (a1 0) (a2 0) (a3 0) (a4 0) (a5 0) p8 s8 ++ bd_w a2 q s2)) (vp_Si post) 0 0 (fun _ => False) := by
  refine rd_start (by decide) (Nat.le_of_ble_eq_true rfl) ?_
  intro p e s m below meth c ls hx hb hr hml hown ht hk hP hQ hV hl
  have hK := hQ.1
  have hown : s.vm.findClass RX6 = some m.cls := hown
  have hl : lv_has ls 3 [(0, .ref (a0 0)), (1, .int x1), (2, .int x2)] := hl
  have hP : va_P D vwCl [((a0 0), .inr (5, [.ref (a1 0), .ref (a2 0), .ref (a3 0), .ref (a4 0), .ref (a5 0), .ref p8, .ref s8])), ((a2 0), .inr (0, [.int (s2.1 0), .int (s2.1 1), .int (s2.1 2), .int (s2.1 3), .int (s2.1 4), .int (s2.1 5), .ref (a2 1), .ref (a2 2), .ref (a2 3), .ref (a2 4), .ref (a2 5), .ref (a2 6), .ref (a2 7), .ref (a2 8), .ref (a2 9), .ref (a2 10), .ref (a2 11), .ref (a2 12)])), ((a2 1), .inl (q 0, 4, .inl (s2.2.1 0))), ((a2 2), .inl (q 0, 4, .inl (s2.2.1 1))), ((a2 3), .inl (q 0, 160, .inl (s2.2.1 2))), ((a2 4), .inl (q 0, 40, .inl (s2.2.1 3))), ((a2 5), .inl (q 0, 40, .inl (s2.2.1 4))), ((a2 6), .inl (q 0, 40, .inl (s2.2.1 5))), ((a2 7), .inl (q 0, 40, .inl (s2.2.1 6))), ((a2 8), .inl (q 0, 40, .inl (s2.2.1 7))), ((a2 9), .inl (q 0, 40, .inl (s2.2.1 8))), ((a2 10), .inl (q 0, 40, .inl (s2.2.1 9))), ((a2 11), .inl (q 1, 40, .inr (.inl s2.2.2.1))), ((a2 12), .inl (q 0, s2.2.2.2.1, .inl s2.2.2.2.2))] s.heap := hP
  unfold wp_X6_isSuch at h
  refine lv_iload_n hx hb dX6_isSuch_0 rfl (lv_at hl 2 rfl) ?_
  by_cases k_1 : x2 = 0
  · replace h := h.1 k_1
    refine lv_tableIn (tgt := 36) hx hb dX6_isSuch_1 (by rw [k_1]; decide) (by rw [k_1]; decide) (by rw [k_1]; rfl) (by decide) ?_
    refine lv_aload_n hx hb dX6_isSuch_36 rfl (lv_at hl 0 rfl) ?_
    refine fl_get (C := RX6) (T := TX6) (N := 7) (ci := 5) (v := .ref (a2 0)) hx hb ht in_X6 hown hK hP 0 rfl rfl 1 (by decide) mw_356 rfl dX6_isSuch_37 ?_
    refine lv_iload_n hx hb dX6_isSuch_40 rfl (lv_at hl 1 rfl) ?_
    refine vp_callSi (rd_wV (wc := bd_w a2 q s2) (As := [.int x1]) (rest := []) hx hb hml hown ht (c2_X0_leftOf h) wd_X0_leftOf mw_894 hQ hV va_S.rf (hP.sub [1, 2, 3, 4, 5, 6, 7, 8, 9, 10, 11, 12, 13] rfl) rfl rfl rfl hl.1 rfl (Nat.le_of_ble_eq_true rfl) dX6_isSuch_41 ⟨Nat.le_of_ble_eq_true rfl, Nat.le_of_ble_eq_true rfl, rfl, rfl⟩ ⟨Nat.le_of_ble_eq_true rfl, Nat.le_of_ble_eq_true rfl⟩) (fun r_2 h => ?_)
    try dsimp only at h
    refine lv_if_le (tgt := 51) hx hb dX6_isSuch_44 (by decide) (fun c_4 => ?_) (fun c_4 => ?_)
    · replace h := h.1 c_4
      refine lv_iconst (v := 0) hx hb dX6_isSuch_51 (by decide) ?_
      exact rd_zret hx hb hr hk rfl h dX6_isSuch_52
    · replace h := h.2 c_4
      refine lv_iconst (v := 1) hx hb dX6_isSuch_47 (by decide) ?_
      refine lv_goto (tgt := 52) hx hb dX6_isSuch_48 (by decide) ?_
      exact rd_zret hx hb hr hk rfl h dX6_isSuch_52
  replace h := h.2 k_1
  by_cases k_5 : x2 = 1
  · replace h := h.1 k_5
    refine lv_tableIn (tgt := 53) hx hb dX6_isSuch_1 (by rw [k_5]; decide) (by rw [k_5]; decide) (by rw [k_5]; rfl) (by decide) ?_
    refine lv_aload_n hx hb dX6_isSuch_53 rfl (lv_at hl 0 rfl) ?_
    refine fl_get (C := RX6) (T := TX6) (N := 7) (ci := 5) (v := .ref (a2 0)) hx hb ht in_X6 hown hK hP 0 rfl rfl 1 (by decide) mw_356 rfl dX6_isSuch_54 ?_
    refine fl_get (C := RX0) (T := TX0) (N := 18) (ci := 0) (v := .ref (a2 5)) hx hb ht in_X0 hown hK hP 1 rfl rfl 10 (by decide) mw_195 rfl dX6_isSuch_57 ?_
    refine lv_iload_n hx hb dX6_isSuch_60 rfl (lv_at hl 1 rfl) ?_
    obtain ⟨g_6, h⟩ := h
    refine va_iald hx hb hK hP 6 0 rfl rfl g_6 dX6_isSuch_61 ?_
    refine lv_aload_n hx hb dX6_isSuch_62 rfl (lv_at hl 0 rfl) ?_
    refine fl_get (C := RX6) (T := TX6) (N := 7) (ci := 5) (v := .ref (a2 0)) hx hb ht in_X6 hown hK hP 0 rfl rfl 1 (by decide) mw_356 rfl dX6_isSuch_63 ?_
    refine fl_get (C := RX0) (T := TX0) (N := 18) (ci := 0) (v := .ref (a2 6)) hx hb ht in_X0 hown hK hP 1 rfl rfl 11 (by decide) mw_197 rfl dX6_isSuch_66 ?_
    refine lv_iload_n hx hb dX6_isSuch_69 rfl (lv_at hl 1 rfl) ?_
    obtain ⟨g_7, h⟩ := h
    refine va_iald hx hb hK hP 7 0 rfl rfl g_7 dX6_isSuch_70 ?_
    refine lv_icmp_eq (tgt := 78) hx hb dX6_isSuch_71 (by decide) (fun c_8 => ?_) (fun c_8 => ?_)
    · replace h := h.1 c_8
      refine lv_iconst (v := 0) hx hb dX6_isSuch_78 (by decide) ?_
      exact rd_zret hx hb hr hk rfl h dX6_isSuch_79
    · replace h := h.2 c_8
      refine lv_iconst (v := 1) hx hb dX6_isSuch_74 (by decide) ?_
      refine lv_goto (tgt := 79) hx hb dX6_isSuch_75 (by decide) ?_
      exact rd_zret hx hb hr hk rfl h dX6_isSuch_79
  replace h := h.2 k_5
  by_cases k_9 : x2 = 2
  · replace h := h.1 k_9
    refine lv_tableIn (tgt := 80) hx hb dX6_isSuch_1 (by rw [k_9]; decide) (by rw [k_9]; decide) (by rw [k_9]; rfl) (by decide) ?_
    refine lv_aload_n hx hb dX6_isSuch_80 rfl (lv_at hl 0 rfl) ?_
    refine fl_get (C := RX6) (T := TX6) (N := 7) (ci := 5) (v := .ref (a2 0)) hx hb ht in_X6 hown hK hP 0 rfl rfl 1 (by decide) mw_356 rfl dX6_isSuch_81 ?_
    refine lv_iload_n hx hb dX6_isSuch_84 rfl (lv_at hl 1 rfl) ?_
    refine vp_callSi (rd_wV (wc := bd_w a2 q s2) (As := [.int x1]) (rest := []) hx hb hml hown ht (c2_X0_showsWrong h) wd_X0_showsWrong mw_952 hQ hV va_S.rf (hP.sub [1, 2, 3, 4, 5, 6, 7, 8, 9, 10, 11, 12, 13] rfl) rfl rfl rfl hl.1 rfl (Nat.le_of_ble_eq_true rfl) dX6_isSuch_85 ⟨Nat.le_of_ble_eq_true rfl, Nat.le_of_ble_eq_true rfl, rfl, rfl⟩ ⟨Nat.le_of_ble_eq_true rfl, Nat.le_of_ble_eq_true rfl⟩) (fun r_10 h => ?_)
    try dsimp only at h
    obtain ⟨g_12, h⟩ := h
    exact rd_zret hx hb hr hk g_12 h dX6_isSuch_88
  replace h := h.2 k_9
  by_cases k_13 : x2 = 3
  · replace h := h.1 k_13
    refine lv_tableIn (tgt := 113) hx hb dX6_isSuch_1 (by rw [k_13]; decide) (by rw [k_13]; decide) (by rw [k_13]; rfl) (by decide) ?_
    refine lv_iconst (v := 0) hx hb dX6_isSuch_113 (by decide) ?_
    exact rd_zret hx hb hr hk rfl h dX6_isSuch_114
  replace h := h.2 k_13
  by_cases k_14 : x2 = 4
  · replace h := h.1 k_14
    refine lv_tableIn (tgt := 89) hx hb dX6_isSuch_1 (by rw [k_14]; decide) (by rw [k_14]; decide) (by rw [k_14]; rfl) (by decide) ?_
    refine lv_aload_n hx hb dX6_isSuch_89 rfl (lv_at hl 0 rfl) ?_
    refine fl_get (C := RX6) (T := TX6) (N := 7) (ci := 5) (v := .ref (a2 0)) hx hb ht in_X6 hown hK hP 0 rfl rfl 1 (by decide) mw_356 rfl dX6_isSuch_90 ?_
    refine lv_iload_n hx hb dX6_isSuch_93 rfl (lv_at hl 1 rfl) ?_
    refine vp_callSi (rd_wV (wc := bd_w a2 q s2) (As := [.int x1]) (rest := []) hx hb hml hown ht (c2_X0_currentOf h) wd_X0_currentOf mw_956 hQ hV va_S.rf (hP.sub [1, 2, 3, 4, 5, 6, 7, 8, 9, 10, 11, 12, 13] rfl) rfl rfl rfl hl.1 rfl (Nat.le_of_ble_eq_true rfl) dX6_isSuch_94 ⟨Nat.le_of_ble_eq_true rfl, Nat.le_of_ble_eq_true rfl, rfl, rfl⟩ ⟨Nat.le_of_ble_eq_true rfl, Nat.le_of_ble_eq_true rfl⟩) (fun r_15 h => ?_)
    try dsimp only at h
    refine lv_aload_n hx hb dX6_isSuch_97 rfl (lv_at hl 0 rfl) ?_
    refine fl_get (C := RX6) (T := TX6) (N := 7) (ci := 5) (v := .ref (a2 0)) hx hb ht in_X6 hown hK hP 0 rfl rfl 1 (by decide) mw_356 rfl dX6_isSuch_98 ?_
    refine fl_get (C := RX0) (T := TX0) (N := 18) (ci := 0) (v := .int (s2.1 2)) hx hb ht in_X0 hown hK hP 1 rfl rfl 2 (by decide) mw_178 rfl dX6_isSuch_101 ?_
    refine lv_icmp_le (tgt := 111) hx hb dX6_isSuch_104 (by decide) (fun c_17 => ?_) (fun c_17 => ?_)
    · replace h := h.1 c_17
      refine lv_iconst (v := 0) hx hb dX6_isSuch_111 (by decide) ?_
      exact rd_zret hx hb hr hk rfl h dX6_isSuch_112
    · replace h := h.2 c_17
      refine lv_iconst (v := 1) hx hb dX6_isSuch_107 (by decide) ?_
      refine lv_goto (tgt := 112) hx hb dX6_isSuch_108 (by decide) ?_
      exact rd_zret hx hb hr hk rfl h dX6_isSuch_112
  replace h := h.2 k_14
  refine lv_tableOut (tgt := 113) hx hb dX6_isSuch_1 (by have g0 := k_1; have g1 := k_5; have g2 := k_9; have g3 := k_13; have g4 := k_14; (try simp only [lg_cmp_ge, lg_cmp_le, lg_cmp_gt, lg_cmp_lt, lg_cmp_eq] at g0 g1 g2 g3 g4); (try simp only [Int32.lt_iff_toInt_lt, Int32.le_iff_toInt_le, ← Int32.toInt_inj, Int32.reduceToInt, Int64.lt_iff_toInt_lt, Int64.le_iff_toInt_le, ← Int64.toInt_inj, Int64.reduceToInt, Int32.toInt_toInt64] at g0 g1 g2 g3 g4); omega) (by decide) ?_
  refine lv_iconst (v := 0) hx hb dX6_isSuch_113 (by decide) ?_
  exact rd_zret hx hb hr hk rfl h dX6_isSuch_114

def wp_X6_which_L52 (s2 : Bd) (post : Int64 → Mo → Prop) (e87 : Mo → Int32 → Int64 → Int32 → Prop) : Nat → Mo → Int32 → Int64 → Int32 → Prop
  | 0, _, _, _, _ => False
  | n52 + 1, t2, z1, w2, z4 => wp_X0_cells (fun r_7 => ((r_7 ≤ z4 → e87 t2 z1 w2 z4) ∧ (¬ r_7 ≤ z4 → wp_X6_isSuch (fun r_10 => ((r_10 = 0 → wp_X6_which_L52 s2 post e87 n52 t2 z1 w2 (z4 + 1)) ∧ (¬ r_10 = 0 → wp_X6_which_L52 s2 post e87 n52 t2 z1 (w2 ||| ((1 : Int64) <<< (Int32.toInt64 z4 &&& 63))) (z4 + 1)))) s2 z4 z1))) s2
def wp_X6_which (post : Int64 → Mo → Prop) (s2 : Bd) (s4 : Mo) (x1 : Int32) : Prop := wp_X0_isThere (fun r_1 => ((r_1 = 0 → post (-1) s4) ∧ (¬ r_1 = 0 → ((x1 < 0 → post (-1) s4) ∧ (¬ x1 < 0 → ((x1 ≤ 4 → ((¬ x1 = 3 → (∃ n52, wp_X6_which_L52 s2 post (fun t2 z1 w2 z4 => post w2 t2) n52 s4 x1 0 0)) ∧ (x1 = 3 → wp_X2_choose (fun u_14 => wp_X2_chosenBits (fun r_15 => post r_15 u_14) u_14) s4 s2))) ∧ (¬ x1 ≤ 4 → post (-1) s4))))))) s2
set_option maxHeartbeats 4000000 in
set_option maxRecDepth 100000 in
theorem c2_X6_which {l : Launch} {D : va_G} {q : Nat → ClassId} {sz : Nat} {a0 a1 a2 a3 a4 a5 : Nat → Nat} {p8 s8 : Nat} {s2 : Bd} {s4 : Mo} {x1 : Int32} {post : Int64 → Mo → Prop} (h : wp_X6_which post s2 s4 x1) : Met l yX6_which (Cond.code yX6_which cX6_which 5 (some .long) :: w_all) ({ frames := 5, cells := 0, slots := 0, locals := 108 } : Room) (mt_P D q [.ref (a0 0), .int x1] (fo_w (a0 0) (a1 0) (a2 0) (a3 0) (a4 0) (a5 0) p8 s8 ++ bd_w a2 q s2 ++ mo_w a4 q s4) sz) (va_Ql (fun r (u : Mo) => post r u) (mt_B D (fo_w (a0 0) (a1 0) (a2 0) (a3 0) (a4 0) (a5 0) p8 s8 ++ bd_w a2 q s2 ++ mo_w a4 q s4) sz (fun u : Mo => fo_w (a0 0) (a1 0) (a2 0) (a3 0) (a4 0) (a5 0) p8 s8 ++ bd_w a2 q s2 ++ mo_w a4 q u)) (va_A (fo_w (a0 0) (a1 0) (a2 0) (a3 0) (a4 0) (a5 0) p8 s8 ++ bd_w a2 q s2 ++ mo_w a4 q s4) sz)) 0 0 (va_A (fo_w (a0 0) (a1 0) (a2 0) (a3 0) (a4 0) (a5 0) p8 s8 ++ bd_w a2 q s2 ++ mo_w a4 q s4) sz) := by
  refine mt_start (by decide) (Nat.le_of_ble_eq_true rfl) ?_
  intro p e s m below meth c ls hx hb hr hml hown ht hk hin hP hQ hD hA hS hV hl
  have hK := hQ.1
  have hown : s.vm.findClass RX6 = some m.cls := hown
  have hl : lv_has ls 5 [(0, .ref (a0 0)), (1, .int x1)] := hl
  have hP : va_P D vwCl [((a0 0), .inr (5, [.ref (a1 0), .ref (a2 0), .ref (a3 0), .ref (a4 0), .ref (a5 0), .ref p8, .ref s8])), ((a2 0), .inr (0, [.int (s2.1 0), .int (s2.1 1), .int (s2.1 2), .int (s2.1 3), .int (s2.1 4), .int (s2.1 5), .ref (a2 1), .ref (a2 2), .ref (a2 3), .ref (a2 4), .ref (a2 5), .ref (a2 6), .ref (a2 7), .ref (a2 8), .ref (a2 9), .ref (a2 10), .ref (a2 11), .ref (a2 12)])), ((a2 1), .inl (q 0, 4, .inl (s2.2.1 0))), ((a2 2), .inl (q 0, 4, .inl (s2.2.1 1))), ((a2 3), .inl (q 0, 160, .inl (s2.2.1 2))), ((a2 4), .inl (q 0, 40, .inl (s2.2.1 3))), ((a2 5), .inl (q 0, 40, .inl (s2.2.1 4))), ((a2 6), .inl (q 0, 40, .inl (s2.2.1 5))), ((a2 7), .inl (q 0, 40, .inl (s2.2.1 6))), ((a2 8), .inl (q 0, 40, .inl (s2.2.1 7))), ((a2 9), .inl (q 0, 40, .inl (s2.2.1 8))), ((a2 10), .inl (q 0, 40, .inl (s2.2.1 9))), ((a2 11), .inl (q 1, 40, .inr (.inl s2.2.2.1))), ((a2 12), .inl (q 0, s2.2.2.2.1, .inl s2.2.2.2.2)), ((a4 0), .inr (1, [.ref (a4 1), .ref (a4 2), .ref (a4 3), .int (s4.1 0), .int (s4.1 1), .int (s4.1 2), .int (s4.1 3), .int (s4.1 4), .int (s4.1 5), .int (s4.1 6), .int (s4.1 7), .int (s4.1 8)])), ((a4 1), .inl (q 0, 40, .inl (s4.2 0))), ((a4 2), .inl (q 0, 40, .inl (s4.2 1))), ((a4 3), .inl (q 0, 40, .inl (s4.2 2)))] s.heap := hP
  have hD : va_D _ [((a0 0), .inr (5, [.ref (a1 0), .ref (a2 0), .ref (a3 0), .ref (a4 0), .ref (a5 0), .ref p8, .ref s8])), ((a2 0), .inr (0, [.int (s2.1 0), .int (s2.1 1), .int (s2.1 2), .int (s2.1 3), .int (s2.1 4), .int (s2.1 5), .ref (a2 1), .ref (a2 2), .ref (a2 3), .ref (a2 4), .ref (a2 5), .ref (a2 6), .ref (a2 7), .ref (a2 8), .ref (a2 9), .ref (a2 10), .ref (a2 11), .ref (a2 12)])), ((a2 1), .inl (q 0, 4, .inl (s2.2.1 0))), ((a2 2), .inl (q 0, 4, .inl (s2.2.1 1))), ((a2 3), .inl (q 0, 160, .inl (s2.2.1 2))), ((a2 4), .inl (q 0, 40, .inl (s2.2.1 3))), ((a2 5), .inl (q 0, 40, .inl (s2.2.1 4))), ((a2 6), .inl (q 0, 40, .inl (s2.2.1 5))), ((a2 7), .inl (q 0, 40, .inl (s2.2.1 6))), ((a2 8), .inl (q 0, 40, .inl (s2.2.1 7))), ((a2 9), .inl (q 0, 40, .inl (s2.2.1 8))), ((a2 10), .inl (q 0, 40, .inl (s2.2.1 9))), ((a2 11), .inl (q 1, 40, .inr (.inl s2.2.2.1))), ((a2 12), .inl (q 0, s2.2.2.2.1, .inl s2.2.2.2.2)), ((a4 0), .inr (1, [.ref (a4 1), .ref (a4 2), .ref (a4 3), .int (s4.1 0), .int (s4.1 1), .int (s4.1 2), .int (s4.1 3), .int (s4.1 4), .int (s4.1 5), .int (s4.1 6), .int (s4.1 7), .int (s4.1 8)])), ((a4 1), .inl (q 0, 40, .inl (s4.2 0))), ((a4 2), .inl (q 0, 40, .inl (s4.2 1))), ((a4 3), .inl (q 0, 40, .inl (s4.2 2)))] := hD
  unfold wp_X6_which at h
  refine lv_aload_n hx hb dX6_which_0 rfl (lv_at hl 0 rfl) ?_
  refine fl_get (C := RX6) (T := TX6) (N := 7) (ci := 5) (v := .ref (a2 0)) hx hb ht in_X6 hown hK hP 0 rfl rfl 1 (by decide) mw_356 rfl dX6_which_1 ?_
  refine vp_callSi (rd_wV (wc := bd_w a2 q s2) (As := []) (rest := []) hx hb hml hown ht (c2_X0_isThere h) wd_X0_isThere mw_677 hQ hV hS (hP.sub [1, 2, 3, 4, 5, 6, 7, 8, 9, 10, 11, 12, 13] rfl) rfl rfl rfl hl.1 rfl (Nat.le_of_ble_eq_true rfl) dX6_which_4 ⟨Nat.le_of_ble_eq_true rfl, Nat.le_of_ble_eq_true rfl, rfl, rfl⟩ ⟨Nat.le_of_ble_eq_true rfl, Nat.le_of_ble_eq_true rfl⟩) (fun r_1 h => ?_)
  try dsimp only at h
  refine lv_if_eq (tgt := 19) hx hb dX6_which_7 (by decide) (fun c_3 => ?_) (fun c_3 => ?_)
  · replace h := h.1 c_3
    refine lv_ldc2 (v := (-1)) hx hb hown (ht _ mw_899) dX6_which_19 ?_
    exact mt_lret s4 hx hb hr hk h (hP.sub (ws' := fo_w (a0 0) (a1 0) (a2 0) (a3 0) (a4 0) (a5 0) p8 s8 ++ bd_w a2 q s2 ++ mo_w a4 q s4) [0, 1, 2, 3, 4, 5, 6, 7, 8, 9, 10, 11, 12, 13, 14, 15, 16, 17] rfl) (hD.sub (ws' := fo_w (a0 0) (a1 0) (a2 0) (a3 0) (a4 0) (a5 0) p8 s8 ++ bd_w a2 q s2 ++ mo_w a4 q s4) [0, 1, 2, 3, 4, 5, 6, 7, 8, 9, 10, 11, 12, 13, 14, 15, 16, 17] (by decide) rfl) hS dX6_which_22
  · replace h := h.2 c_3
    refine lv_iload_n hx hb dX6_which_10 rfl (lv_at hl 1 rfl) ?_
    refine lv_if_lt (tgt := 19) hx hb dX6_which_11 (by decide) (fun c_4 => ?_) (fun c_4 => ?_)
    · replace h := h.1 c_4
      refine lv_ldc2 (v := (-1)) hx hb hown (ht _ mw_899) dX6_which_19 ?_
      exact mt_lret s4 hx hb hr hk h (hP.sub (ws' := fo_w (a0 0) (a1 0) (a2 0) (a3 0) (a4 0) (a5 0) p8 s8 ++ bd_w a2 q s2 ++ mo_w a4 q s4) [0, 1, 2, 3, 4, 5, 6, 7, 8, 9, 10, 11, 12, 13, 14, 15, 16, 17] rfl) (hD.sub (ws' := fo_w (a0 0) (a1 0) (a2 0) (a3 0) (a4 0) (a5 0) p8 s8 ++ bd_w a2 q s2 ++ mo_w a4 q s4) [0, 1, 2, 3, 4, 5, 6, 7, 8, 9, 10, 11, 12, 13, 14, 15, 16, 17] (by decide) rfl) hS dX6_which_22
    · replace h := h.2 c_4
      refine lv_iload_n hx hb dX6_which_14 rfl (lv_at hl 1 rfl) ?_
      refine lv_iconst (v := 4) hx hb dX6_which_15 (by decide) ?_
      refine lv_icmp_le (tgt := 23) hx hb dX6_which_16 (by decide) (fun c_5 => ?_) (fun c_5 => ?_)
      · replace h := h.1 c_5
        refine lv_iload_n hx hb dX6_which_23 rfl (lv_at hl 1 rfl) ?_
        refine lv_iconst (v := 3) hx hb dX6_which_24 (by decide) ?_
        refine lv_icmp_ne (tgt := 47) hx hb dX6_which_25 (by decide) (fun c_6 => ?_) (fun c_6 => ?_)
        · replace h := h.1 c_6
          refine lv_lconst (v := 0) hx hb dX6_which_47 (by decide) ?_
          refine lv_lstore_n (lv' := [(2, .long 0), (0, .ref (a0 0)), (1, .int x1)]) hx hb dX6_which_48 rfl hl (by decide) rfl (fun ls hl => ?_)
          refine lv_iconst (v := 0) hx hb dX6_which_49 (by decide) ?_
          refine lv_istore (lv' := [(4, .int 0), (2, .long 0), (0, .ref (a0 0)), (1, .int x1)]) hx hb dX6_which_50 hl (by decide) rfl (fun ls hl => ?_)
          have lp52 : ∀ (e87 : Mo → Int32 → Int64 → Int32 → Prop) (k87 : ∀ (t2 : Mo) (z1 : Int32) (w2 : Int64) (z4 : Int32) (H : Heap) (locs : List Loc) (ls : Array Slot), e87 t2 z1 w2 z4 → va_P D vwCl (fo_w (a0 0) (a1 0) (a2 0) (a3 0) (a4 0) (a5 0) p8 s8 ++ bd_w a2 q s2 ++ mo_w a4 q t2) H → va_D (va_A (fo_w (a0 0) (a1 0) (a2 0) (a3 0) (a4 0) (a5 0) p8 s8 ++ bd_w a2 q s2 ++ mo_w a4 q s4) sz) (fo_w (a0 0) (a1 0) (a2 0) (a3 0) (a4 0) (a5 0) p8 s8 ++ bd_w a2 q s2 ++ mo_w a4 q t2) → va_S (va_A (fo_w (a0 0) (a1 0) (a2 0) (a3 0) (a4 0) (a5 0) p8 s8 ++ bd_w a2 q s2 ++ mo_w a4 q s4) sz) s.heap H locs → lv_has ls 5 [(1, .int z1), (2, .long w2), (4, .int z4), (0, .ref (a0 0))] → W p l e ({ frames := 5, cells := 0, slots := 0, locals := 108 } : Room) s m [.ref (a0 0), .int x1].toArray below meth c H locs 0 0 (MQ below (va_Ql (fun r (u : Mo) => post r u) (mt_B D (fo_w (a0 0) (a1 0) (a2 0) (a3 0) (a4 0) (a5 0) p8 s8 ++ bd_w a2 q s2 ++ mo_w a4 q s4) sz (fun u : Mo => fo_w (a0 0) (a1 0) (a2 0) (a3 0) (a4 0) (a5 0) p8 s8 ++ bd_w a2 q s2 ++ mo_w a4 q u)) (va_A (fo_w (a0 0) (a1 0) (a2 0) (a3 0) (a4 0) (a5 0) p8 s8 ++ bd_w a2 q s2 ++ mo_w a4 q s4) sz)) [.ref (a0 0), .int x1].toArray s 0 0 (va_A (fo_w (a0 0) (a1 0) (a2 0) (a3 0) (a4 0) (a5 0) p8 s8 ++ bd_w a2 q s2 ++ mo_w a4 q s4) sz)) (F0 m 87 ls [])) (n : Nat) (t2 : Mo) (z1 : Int32) (w2 : Int64) (z4 : Int32) (H : Heap) (locs : List Loc) (ls : Array Slot), wp_X6_which_L52 s2 post e87 n t2 z1 w2 z4 → va_P D vwCl (fo_w (a0 0) (a1 0) (a2 0) (a3 0) (a4 0) (a5 0) p8 s8 ++ bd_w a2 q s2 ++ mo_w a4 q t2) H → va_D (va_A (fo_w (a0 0) (a1 0) (a2 0) (a3 0) (a4 0) (a5 0) p8 s8 ++ bd_w a2 q s2 ++ mo_w a4 q s4) sz) (fo_w (a0 0) (a1 0) (a2 0) (a3 0) (a4 0) (a5 0) p8 s8 ++ bd_w a2 q s2 ++ mo_w a4 q t2) → va_S (va_A (fo_w (a0 0) (a1 0) (a2 0) (a3 0) (a4 0) (a5 0) p8 s8 ++ bd_w a2 q s2 ++ mo_w a4 q s4) sz) s.heap H locs → lv_has ls 5 [(1, .int z1), (2, .long w2), (4, .int z4), (0, .ref (a0 0))] → W p l e ({ frames := 5, cells := 0, slots := 0, locals := 108 } : Room) s m [.ref (a0 0), .int x1].toArray below meth c H locs 0 0 (MQ below (va_Ql (fun r (u : Mo) => post r u) (mt_B D (fo_w (a0 0) (a1 0) (a2 0) (a3 0) (a4 0) (a5 0) p8 s8 ++ bd_w a2 q s2 ++ mo_w a4 q s4) sz (fun u : Mo => fo_w (a0 0) (a1 0) (a2 0) (a3 0) (a4 0) (a5 0) p8 s8 ++ bd_w a2 q s2 ++ mo_w a4 q u)) (va_A (fo_w (a0 0) (a1 0) (a2 0) (a3 0) (a4 0) (a5 0) p8 s8 ++ bd_w a2 q s2 ++ mo_w a4 q s4) sz)) [.ref (a0 0), .int x1].toArray s 0 0 (va_A (fo_w (a0 0) (a1 0) (a2 0) (a3 0) (a4 0) (a5 0) p8 s8 ++ bd_w a2 q s2 ++ mo_w a4 q s4) sz)) (F0 m 52 ls []) := by
            intro e87 k87 n
            induction n with
            | zero =>
              intro t2 z1 w2 z4 H locs ls h
              exact h.elim
            | succ n ih =>
              intro t2 z1 w2 z4 H locs ls h hP hD hS hl
              have hP : va_P D vwCl [((a0 0), .inr (5, [.ref (a1 0), .ref (a2 0), .ref (a3 0), .ref (a4 0), .ref (a5 0), .ref p8, .ref s8])), ((a2 0), .inr (0, [.int (s2.1 0), .int (s2.1 1), .int (s2.1 2), .int (s2.1 3), .int (s2.1 4), .int (s2.1 5), .ref (a2 1), .ref (a2 2), .ref (a2 3), .ref (a2 4), .ref (a2 5), .ref (a2 6), .ref (a2 7), .ref (a2 8), .ref (a2 9), .ref (a2 10), .ref (a2 11), .ref (a2 12)])), ((a2 1), .inl (q 0, 4, .inl (s2.2.1 0))), ((a2 2), .inl (q 0, 4, .inl (s2.2.1 1))), ((a2 3), .inl (q 0, 160, .inl (s2.2.1 2))), ((a2 4), .inl (q 0, 40, .inl (s2.2.1 3))), ((a2 5), .inl (q 0, 40, .inl (s2.2.1 4))), ((a2 6), .inl (q 0, 40, .inl (s2.2.1 5))), ((a2 7), .inl (q 0, 40, .inl (s2.2.1 6))), ((a2 8), .inl (q 0, 40, .inl (s2.2.1 7))), ((a2 9), .inl (q 0, 40, .inl (s2.2.1 8))), ((a2 10), .inl (q 0, 40, .inl (s2.2.1 9))), ((a2 11), .inl (q 1, 40, .inr (.inl s2.2.2.1))), ((a2 12), .inl (q 0, s2.2.2.2.1, .inl s2.2.2.2.2)), ((a4 0), .inr (1, [.ref (a4 1), .ref (a4 2), .ref (a4 3), .int (t2.1 0), .int (t2.1 1), .int (t2.1 2), .int (t2.1 3), .int (t2.1 4), .int (t2.1 5), .int (t2.1 6), .int (t2.1 7), .int (t2.1 8)])), ((a4 1), .inl (q 0, 40, .inl (t2.2 0))), ((a4 2), .inl (q 0, 40, .inl (t2.2 1))), ((a4 3), .inl (q 0, 40, .inl (t2.2 2)))] H := hP
              have hD : va_D _ [((a0 0), .inr (5, [.ref (a1 0), .ref (a2 0), .ref (a3 0), .ref (a4 0), .ref (a5 0), .ref p8, .ref s8])), ((a2 0), .inr (0, [.int (s2.1 0), .int (s2.1 1), .int (s2.1 2), .int (s2.1 3), .int (s2.1 4), .int (s2.1 5), .ref (a2 1), .ref (a2 2), .ref (a2 3), .ref (a2 4), .ref (a2 5), .ref (a2 6), .ref (a2 7), .ref (a2 8), .ref (a2 9), .ref (a2 10), .ref (a2 11), .ref (a2 12)])), ((a2 1), .inl (q 0, 4, .inl (s2.2.1 0))), ((a2 2), .inl (q 0, 4, .inl (s2.2.1 1))), ((a2 3), .inl (q 0, 160, .inl (s2.2.1 2))), ((a2 4), .inl (q 0, 40, .inl (s2.2.1 3))), ((a2 5), .inl (q 0, 40, .inl (s2.2.1 4))), ((a2 6), .inl (q 0, 40, .inl (s2.2.1 5))), ((a2 7), .inl (q 0, 40, .inl (s2.2.1 6))), ((a2 8), .inl (q 0, 40, .inl (s2.2.1 7))), ((a2 9), .inl (q 0, 40, .inl (s2.2.1 8))), ((a2 10), .inl (q 0, 40, .inl (s2.2.1 9))), ((a2 11), .inl (q 1, 40, .inr (.inl s2.2.2.1))), ((a2 12), .inl (q 0, s2.2.2.2.1, .inl s2.2.2.2.2)), ((a4 0), .inr (1, [.ref (a4 1), .ref (a4 2), .ref (a4 3), .int (t2.1 0), .int (t2.1 1), .int (t2.1 2), .int (t2.1 3), .int (t2.1 4), .int (t2.1 5), .int (t2.1 6), .int (t2.1 7), .int (t2.1 8)])), ((a4 1), .inl (q 0, 40, .inl (t2.2 0))), ((a4 2), .inl (q 0, 40, .inl (t2.2 1))), ((a4 3), .inl (q 0, 40, .inl (t2.2 2)))] := hD
              unfold wp_X6_which_L52 at h
              refine lv_iload hx hb dX6_which_52 (lv_at hl 2 rfl) ?_
              refine lv_aload_n hx hb dX6_which_54 rfl (lv_at hl 3 rfl) ?_
              refine fl_get (C := RX6) (T := TX6) (N := 7) (ci := 5) (v := .ref (a2 0)) hx hb ht in_X6 hown hK hP 0 rfl rfl 1 (by decide) mw_356 rfl dX6_which_55 ?_
              refine vp_callSi (rd_wV (wc := bd_w a2 q s2) (As := []) (rest := [.int z4]) hx hb hml hown ht (c2_X0_cells h) wd_X0_cells mw_885 hQ hV hS (hP.sub [1, 2, 3, 4, 5, 6, 7, 8, 9, 10, 11, 12, 13] rfl) rfl rfl rfl hl.1 rfl (Nat.le_of_ble_eq_true rfl) dX6_which_58 ⟨Nat.le_of_ble_eq_true rfl, Nat.le_of_ble_eq_true rfl, rfl, rfl⟩ ⟨Nat.le_of_ble_eq_true rfl, Nat.le_of_ble_eq_true rfl⟩) (fun r_7 h => ?_)
              try dsimp only at h
              refine lv_icmp_ge (tgt := 87) hx hb dX6_which_61 (by decide) (fun c_9 => ?_) (fun c_9 => ?_)
              · replace h := h.1 c_9
                exact k87 _ _ _ _ _ _ ls h (hP.sub (ws' := fo_w (a0 0) (a1 0) (a2 0) (a3 0) (a4 0) (a5 0) p8 s8 ++ bd_w a2 q s2 ++ mo_w a4 q t2) [0, 1, 2, 3, 4, 5, 6, 7, 8, 9, 10, 11, 12, 13, 14, 15, 16, 17] rfl) (hD.sub (ws' := fo_w (a0 0) (a1 0) (a2 0) (a3 0) (a4 0) (a5 0) p8 s8 ++ bd_w a2 q s2 ++ mo_w a4 q t2) [0, 1, 2, 3, 4, 5, 6, 7, 8, 9, 10, 11, 12, 13, 14, 15, 16, 17] (by decide) rfl) hS (lv_sub hl [0, 1, 2, 3] rfl)
              · replace h := h.2 c_9
                refine lv_aload_n hx hb dX6_which_64 rfl (lv_at hl 3 rfl) ?_
                refine lv_iload hx hb dX6_which_65 (lv_at hl 2 rfl) ?_
                refine lv_iload_n hx hb dX6_which_67 rfl (lv_at hl 0 rfl) ?_
                refine vp_callSi (rd_wV (wc := fo_w (a0 0) (a1 0) (a2 0) (a3 0) (a4 0) (a5 0) p8 s8 ++ bd_w a2 q s2) (As := [.int z4, .int z1]) (rest := []) hx hb hml hown ht (c2_X6_isSuch h) wd_X6_isSuch mw_948 hQ hV hS (hP.sub [0, 1, 2, 3, 4, 5, 6, 7, 8, 9, 10, 11, 12, 13] rfl) rfl rfl rfl hl.1 rfl (Nat.le_of_ble_eq_true rfl) dX6_which_68 ⟨Nat.le_of_ble_eq_true rfl, Nat.le_of_ble_eq_true rfl, rfl, rfl⟩ ⟨Nat.le_of_ble_eq_true rfl, Nat.le_of_ble_eq_true rfl⟩) (fun r_10 h => ?_)
                try dsimp only at h
                refine lv_if_eq (tgt := 81) hx hb dX6_which_71 (by decide) (fun c_12 => ?_) (fun c_12 => ?_)
                · replace h := h.1 c_12
                  refine lv_iinc (v := (z4 + 1)) (lv' := [(4, .int (z4 + 1)), (1, .int z1), (2, .long w2), (0, .ref (a0 0))]) hx hb dX6_which_81 hl (k := 2) rfl rfl (by decide) rfl (fun ls hl => ?_)
                  refine lv_goto (tgt := 52) hx hb dX6_which_84 (by decide) ?_
                  exact ih _ _ _ _ _ _ ls h (hP.sub (ws' := fo_w (a0 0) (a1 0) (a2 0) (a3 0) (a4 0) (a5 0) p8 s8 ++ bd_w a2 q s2 ++ mo_w a4 q t2) [0, 1, 2, 3, 4, 5, 6, 7, 8, 9, 10, 11, 12, 13, 14, 15, 16, 17] rfl) (hD.sub (ws' := fo_w (a0 0) (a1 0) (a2 0) (a3 0) (a4 0) (a5 0) p8 s8 ++ bd_w a2 q s2 ++ mo_w a4 q t2) [0, 1, 2, 3, 4, 5, 6, 7, 8, 9, 10, 11, 12, 13, 14, 15, 16, 17] (by decide) rfl) hS (lv_sub hl [1, 2, 0, 3] rfl)
                · replace h := h.2 c_12
                  refine lv_lload_n hx hb dX6_which_74 rfl (lv_at hl 1 rfl) ?_
                  refine lv_lconst (v := 1) hx hb dX6_which_75 (by decide) ?_
                  refine lv_iload hx hb dX6_which_76 (lv_at hl 2 rfl) ?_
                  refine lv_lshl (v := ((1 : Int64) <<< (Int32.toInt64 z4 &&& 63))) hx hb dX6_which_78 rfl ?_
                  refine lv_lor hx hb dX6_which_79 ?_
                  refine lv_lstore_n (lv' := [(2, .long (w2 ||| ((1 : Int64) <<< (Int32.toInt64 z4 &&& 63)))), (1, .int z1), (4, .int z4), (0, .ref (a0 0))]) hx hb dX6_which_80 rfl hl (by decide) rfl (fun ls hl => ?_)
                  refine lv_iinc (v := (z4 + 1)) (lv' := [(4, .int (z4 + 1)), (2, .long (w2 ||| ((1 : Int64) <<< (Int32.toInt64 z4 &&& 63)))), (1, .int z1), (0, .ref (a0 0))]) hx hb dX6_which_81 hl (k := 2) rfl rfl (by decide) rfl (fun ls hl => ?_)
                  refine lv_goto (tgt := 52) hx hb dX6_which_84 (by decide) ?_
                  exact ih _ _ _ _ _ _ ls h (hP.sub (ws' := fo_w (a0 0) (a1 0) (a2 0) (a3 0) (a4 0) (a5 0) p8 s8 ++ bd_w a2 q s2 ++ mo_w a4 q t2) [0, 1, 2, 3, 4, 5, 6, 7, 8, 9, 10, 11, 12, 13, 14, 15, 16, 17] rfl) (hD.sub (ws' := fo_w (a0 0) (a1 0) (a2 0) (a3 0) (a4 0) (a5 0) p8 s8 ++ bd_w a2 q s2 ++ mo_w a4 q t2) [0, 1, 2, 3, 4, 5, 6, 7, 8, 9, 10, 11, 12, 13, 14, 15, 16, 17] (by decide) rfl) hS (lv_sub hl [2, 1, 0, 3] rfl)
          obtain ⟨n52, h⟩ := h
          refine lp52 _ ?_ n52 _ _ _ _ _ _ ls h (hP.sub (ws' := fo_w (a0 0) (a1 0) (a2 0) (a3 0) (a4 0) (a5 0) p8 s8 ++ bd_w a2 q s2 ++ mo_w a4 q s4) [0, 1, 2, 3, 4, 5, 6, 7, 8, 9, 10, 11, 12, 13, 14, 15, 16, 17] rfl) (hD.sub (ws' := fo_w (a0 0) (a1 0) (a2 0) (a3 0) (a4 0) (a5 0) p8 s8 ++ bd_w a2 q s2 ++ mo_w a4 q s4) [0, 1, 2, 3, 4, 5, 6, 7, 8, 9, 10, 11, 12, 13, 14, 15, 16, 17] (by decide) rfl) hS (lv_sub hl [3, 1, 0, 2] rfl)
          · intro t2 z1 w2 z4 H locs ls h hP hD hS hl
            try dsimp only at h
            have hP : va_P D vwCl [((a0 0), .inr (5, [.ref (a1 0), .ref (a2 0), .ref (a3 0), .ref (a4 0), .ref (a5 0), .ref p8, .ref s8])), ((a2 0), .inr (0, [.int (s2.1 0), .int (s2.1 1), .int (s2.1 2), .int (s2.1 3), .int (s2.1 4), .int (s2.1 5), .ref (a2 1), .ref (a2 2), .ref (a2 3), .ref (a2 4), .ref (a2 5), .ref (a2 6), .ref (a2 7), .ref (a2 8), .ref (a2 9), .ref (a2 10), .ref (a2 11), .ref (a2 12)])), ((a2 1), .inl (q 0, 4, .inl (s2.2.1 0))), ((a2 2), .inl (q 0, 4, .inl (s2.2.1 1))), ((a2 3), .inl (q 0, 160, .inl (s2.2.1 2))), ((a2 4), .inl (q 0, 40, .inl (s2.2.1 3))), ((a2 5), .inl (q 0, 40, .inl (s2.2.1 4))), ((a2 6), .inl (q 0, 40, .inl (s2.2.1 5))), ((a2 7), .inl (q 0, 40, .inl (s2.2.1 6))), ((a2 8), .inl (q 0, 40, .inl (s2.2.1 7))), ((a2 9), .inl (q 0, 40, .inl (s2.2.1 8))), ((a2 10), .inl (q 0, 40, .inl (s2.2.1 9))), ((a2 11), .inl (q 1, 40, .inr (.inl s2.2.2.1))), ((a2 12), .inl (q 0, s2.2.2.2.1, .inl s2.2.2.2.2)), ((a4 0), .inr (1, [.ref (a4 1), .ref (a4 2), .ref (a4 3), .int (t2.1 0), .int (t2.1 1), .int (t2.1 2), .int (t2.1 3), .int (t2.1 4), .int (t2.1 5), .int (t2.1 6), .int (t2.1 7), .int (t2.1 8)])), ((a4 1), .inl (q 0, 40, .inl (t2.2 0))), ((a4 2), .inl (q 0, 40, .inl (t2.2 1))), ((a4 3), .inl (q 0, 40, .inl (t2.2 2)))] H := hP
            have hD : va_D _ [((a0 0), .inr (5, [.ref (a1 0), .ref (a2 0), .ref (a3 0), .ref (a4 0), .ref (a5 0), .ref p8, .ref s8])), ((a2 0), .inr (0, [.int (s2.1 0), .int (s2.1 1), .int (s2.1 2), .int (s2.1 3), .int (s2.1 4), .int (s2.1 5), .ref (a2 1), .ref (a2 2), .ref (a2 3), .ref (a2 4), .ref (a2 5), .ref (a2 6), .ref (a2 7), .ref (a2 8), .ref (a2 9), .ref (a2 10), .ref (a2 11), .ref (a2 12)])), ((a2 1), .inl (q 0, 4, .inl (s2.2.1 0))), ((a2 2), .inl (q 0, 4, .inl (s2.2.1 1))), ((a2 3), .inl (q 0, 160, .inl (s2.2.1 2))), ((a2 4), .inl (q 0, 40, .inl (s2.2.1 3))), ((a2 5), .inl (q 0, 40, .inl (s2.2.1 4))), ((a2 6), .inl (q 0, 40, .inl (s2.2.1 5))), ((a2 7), .inl (q 0, 40, .inl (s2.2.1 6))), ((a2 8), .inl (q 0, 40, .inl (s2.2.1 7))), ((a2 9), .inl (q 0, 40, .inl (s2.2.1 8))), ((a2 10), .inl (q 0, 40, .inl (s2.2.1 9))), ((a2 11), .inl (q 1, 40, .inr (.inl s2.2.2.1))), ((a2 12), .inl (q 0, s2.2.2.2.1, .inl s2.2.2.2.2)), ((a4 0), .inr (1, [.ref (a4 1), .ref (a4 2), .ref (a4 3), .int (t2.1 0), .int (t2.1 1), .int (t2.1 2), .int (t2.1 3), .int (t2.1 4), .int (t2.1 5), .int (t2.1 6), .int (t2.1 7), .int (t2.1 8)])), ((a4 1), .inl (q 0, 40, .inl (t2.2 0))), ((a4 2), .inl (q 0, 40, .inl (t2.2 1))), ((a4 3), .inl (q 0, 40, .inl (t2.2 2)))] := hD
            refine lv_lload_n hx hb dX6_which_87 rfl (lv_at hl 1 rfl) ?_
            exact mt_lret t2 hx hb hr hk h (hP.sub (ws' := fo_w (a0 0) (a1 0) (a2 0) (a3 0) (a4 0) (a5 0) p8 s8 ++ bd_w a2 q s2 ++ mo_w a4 q t2) [0, 1, 2, 3, 4, 5, 6, 7, 8, 9, 10, 11, 12, 13, 14, 15, 16, 17] rfl) (hD.sub (ws' := fo_w (a0 0) (a1 0) (a2 0) (a3 0) (a4 0) (a5 0) p8 s8 ++ bd_w a2 q s2 ++ mo_w a4 q t2) [0, 1, 2, 3, 4, 5, 6, 7, 8, 9, 10, 11, 12, 13, 14, 15, 16, 17] (by decide) rfl) hS dX6_which_88
        · replace h := h.2 c_6
          refine lv_aload_n hx hb dX6_which_28 rfl (lv_at hl 0 rfl) ?_
          refine fl_get (C := RX6) (T := TX6) (N := 7) (ci := 5) (v := .ref (a4 0)) hx hb ht in_X6 hown hK hP 0 rfl rfl 3 (by decide) mw_358 rfl dX6_which_29 ?_
          refine lv_aload_n hx hb dX6_which_32 rfl (lv_at hl 0 rfl) ?_
          refine fl_get (C := RX6) (T := TX6) (N := 7) (ci := 5) (v := .ref (a2 0)) hx hb ht in_X6 hown hK hP 0 rfl rfl 1 (by decide) mw_356 rfl dX6_which_33 ?_
          refine mt_gov (mt_wV (wc := mo_w a4 q s4 ++ bd_w a2 q s2) (As := [.ref (a2 0)]) (rest := []) hx hb hml hown ht (c2_X2_choose h) wd_X2_choose mw_725 hQ hV hS hA (hP.sub [14, 15, 16, 17, 1, 2, 3, 4, 5, 6, 7, 8, 9, 10, 11, 12, 13] rfl) (hD.sub [14, 15, 16, 17, 1, 2, 3, 4, 5, 6, 7, 8, 9, 10, 11, 12, 13] (by decide) rfl) rfl rfl rfl hl.1 rfl (Nat.le_of_ble_eq_true rfl) dX6_which_36 ⟨Nat.le_of_ble_eq_true rfl, Nat.le_of_ble_eq_true rfl, rfl, rfl⟩ ⟨Nat.le_of_ble_eq_true rfl, Nat.le_of_ble_eq_true rfl⟩) (wr := [((a0 0), .inr (5, [.ref (a1 0), .ref (a2 0), .ref (a3 0), .ref (a4 0), .ref (a5 0), .ref p8, .ref s8]))]) hP hD hS hA [14, 15, 16, 17, 1, 2, 3, 4, 5, 6, 7, 8, 9, 10, 11, 12, 13] [0] rfl rfl (by decide) (by decide) (fun u_14 H locs h hP hD hS => ?_)
          try dsimp only at h
          have hP : va_P D vwCl [((a0 0), .inr (5, [.ref (a1 0), .ref (a2 0), .ref (a3 0), .ref (a4 0), .ref (a5 0), .ref p8, .ref s8])), ((a4 0), .inr (1, [.ref (a4 1), .ref (a4 2), .ref (a4 3), .int (u_14.1 0), .int (u_14.1 1), .int (u_14.1 2), .int (u_14.1 3), .int (u_14.1 4), .int (u_14.1 5), .int (u_14.1 6), .int (u_14.1 7), .int (u_14.1 8)])), ((a4 1), .inl (q 0, 40, .inl (u_14.2 0))), ((a4 2), .inl (q 0, 40, .inl (u_14.2 1))), ((a4 3), .inl (q 0, 40, .inl (u_14.2 2))), ((a2 0), .inr (0, [.int (s2.1 0), .int (s2.1 1), .int (s2.1 2), .int (s2.1 3), .int (s2.1 4), .int (s2.1 5), .ref (a2 1), .ref (a2 2), .ref (a2 3), .ref (a2 4), .ref (a2 5), .ref (a2 6), .ref (a2 7), .ref (a2 8), .ref (a2 9), .ref (a2 10), .ref (a2 11), .ref (a2 12)])), ((a2 1), .inl (q 0, 4, .inl (s2.2.1 0))), ((a2 2), .inl (q 0, 4, .inl (s2.2.1 1))), ((a2 3), .inl (q 0, 160, .inl (s2.2.1 2))), ((a2 4), .inl (q 0, 40, .inl (s2.2.1 3))), ((a2 5), .inl (q 0, 40, .inl (s2.2.1 4))), ((a2 6), .inl (q 0, 40, .inl (s2.2.1 5))), ((a2 7), .inl (q 0, 40, .inl (s2.2.1 6))), ((a2 8), .inl (q 0, 40, .inl (s2.2.1 7))), ((a2 9), .inl (q 0, 40, .inl (s2.2.1 8))), ((a2 10), .inl (q 0, 40, .inl (s2.2.1 9))), ((a2 11), .inl (q 1, 40, .inr (.inl s2.2.2.1))), ((a2 12), .inl (q 0, s2.2.2.2.1, .inl s2.2.2.2.2))] H := hP
          have hD : va_D _ [((a0 0), .inr (5, [.ref (a1 0), .ref (a2 0), .ref (a3 0), .ref (a4 0), .ref (a5 0), .ref p8, .ref s8])), ((a4 0), .inr (1, [.ref (a4 1), .ref (a4 2), .ref (a4 3), .int (u_14.1 0), .int (u_14.1 1), .int (u_14.1 2), .int (u_14.1 3), .int (u_14.1 4), .int (u_14.1 5), .int (u_14.1 6), .int (u_14.1 7), .int (u_14.1 8)])), ((a4 1), .inl (q 0, 40, .inl (u_14.2 0))), ((a4 2), .inl (q 0, 40, .inl (u_14.2 1))), ((a4 3), .inl (q 0, 40, .inl (u_14.2 2))), ((a2 0), .inr (0, [.int (s2.1 0), .int (s2.1 1), .int (s2.1 2), .int (s2.1 3), .int (s2.1 4), .int (s2.1 5), .ref (a2 1), .ref (a2 2), .ref (a2 3), .ref (a2 4), .ref (a2 5), .ref (a2 6), .ref (a2 7), .ref (a2 8), .ref (a2 9), .ref (a2 10), .ref (a2 11), .ref (a2 12)])), ((a2 1), .inl (q 0, 4, .inl (s2.2.1 0))), ((a2 2), .inl (q 0, 4, .inl (s2.2.1 1))), ((a2 3), .inl (q 0, 160, .inl (s2.2.1 2))), ((a2 4), .inl (q 0, 40, .inl (s2.2.1 3))), ((a2 5), .inl (q 0, 40, .inl (s2.2.1 4))), ((a2 6), .inl (q 0, 40, .inl (s2.2.1 5))), ((a2 7), .inl (q 0, 40, .inl (s2.2.1 6))), ((a2 8), .inl (q 0, 40, .inl (s2.2.1 7))), ((a2 9), .inl (q 0, 40, .inl (s2.2.1 8))), ((a2 10), .inl (q 0, 40, .inl (s2.2.1 9))), ((a2 11), .inl (q 1, 40, .inr (.inl s2.2.2.1))), ((a2 12), .inl (q 0, s2.2.2.2.1, .inl s2.2.2.2.2))] := hD
          refine lv_aload_n hx hb dX6_which_39 rfl (lv_at hl 0 rfl) ?_
          refine fl_get (C := RX6) (T := TX6) (N := 7) (ci := 5) (v := .ref (a4 0)) hx hb ht in_X6 hown hK hP 0 rfl rfl 3 (by decide) mw_358 rfl dX6_which_40 ?_
          refine vp_callSl (rd_wV (wc := mo_w a4 q u_14) (As := []) (rest := []) hx hb hml hown ht (c2_X2_chosenBits h) wd_X2_chosenBits mw_944 hQ hV hS (hP.sub [1, 2, 3, 4] rfl) rfl rfl rfl hl.1 rfl (Nat.le_of_ble_eq_true rfl) dX6_which_43 ⟨Nat.le_of_ble_eq_true rfl, Nat.le_of_ble_eq_true rfl, rfl, rfl⟩ ⟨Nat.le_of_ble_eq_true rfl, Nat.le_of_ble_eq_true rfl⟩) (fun r_15 h => ?_)
          try dsimp only at h
          exact mt_lret u_14 hx hb hr hk h (hP.sub (ws' := fo_w (a0 0) (a1 0) (a2 0) (a3 0) (a4 0) (a5 0) p8 s8 ++ bd_w a2 q s2 ++ mo_w a4 q u_14) [0, 5, 6, 7, 8, 9, 10, 11, 12, 13, 14, 15, 16, 17, 1, 2, 3, 4] rfl) (hD.sub (ws' := fo_w (a0 0) (a1 0) (a2 0) (a3 0) (a4 0) (a5 0) p8 s8 ++ bd_w a2 q s2 ++ mo_w a4 q u_14) [0, 5, 6, 7, 8, 9, 10, 11, 12, 13, 14, 15, 16, 17, 1, 2, 3, 4] (by decide) rfl) hS dX6_which_46
      · replace h := h.2 c_5
        refine lv_ldc2 (v := (-1)) hx hb hown (ht _ mw_899) dX6_which_19 ?_
        exact mt_lret s4 hx hb hr hk h (hP.sub (ws' := fo_w (a0 0) (a1 0) (a2 0) (a3 0) (a4 0) (a5 0) p8 s8 ++ bd_w a2 q s2 ++ mo_w a4 q s4) [0, 1, 2, 3, 4, 5, 6, 7, 8, 9, 10, 11, 12, 13, 14, 15, 16, 17] rfl) (hD.sub (ws' := fo_w (a0 0) (a1 0) (a2 0) (a3 0) (a4 0) (a5 0) p8 s8 ++ bd_w a2 q s2 ++ mo_w a4 q s4) [0, 1, 2, 3, 4, 5, 6, 7, 8, 9, 10, 11, 12, 13, 14, 15, 16, 17] (by decide) rfl) hS dX6_which_22
