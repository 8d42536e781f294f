set_option maxHeartbeats 4000000 in
theorem dt_X1_readCells (s0 : Bd) (s1 : Tp) : dt (fun P : (Bd × Tp) → Prop => wp_X1_readCells (fun a0 a1 => P (a0, a1)) s0 s1) (fun P : (Bd × Tp) → Prop => wp_X1_readCells (fun a0 a1 => P (a0, a1)) s0 s1) := by
  unfold wp_X1_readCells
  exact (dt_b1 (F := fun k => wp_X0_cells k s0) (dt_X0_cells s0) (fun r_1 => (dt_b2 (F := fun k => wp_X5_takeNumber k s1 (0 : Int32) (r_1 - 1)) (dt_X5_takeNumber s1 (0 : Int32) (r_1 - 1)) (fun r_3 u_4 => (dt_b2 (F := fun k => wp_X5_takeNumber k u_4 r_3 (r_1 - 1)) (dt_X5_takeNumber u_4 r_3 (r_1 - 1)) (fun r_5 u_6 => (dt_b2 (F := fun k => wp_X5_takeNumber k u_6 (0 : Int32) ((s0.1 3) - 1)) (dt_X5_takeNumber u_6 (0 : Int32) ((s0.1 3) - 1)) (fun r_7 u_8 => (dt_x (fun n38 m_n38 => (dl_X1_readCells_L38  (fun v0 v1 => (dt_r _)) (fun t0 t1 z2 z3 z4 z5 z6 => (dt_r _)) n38 m_n38 s0 u_8 (r_1 - 1) r_3 r_5 r_7 r_3)))))))))))
set_option maxHeartbeats 4000000 in
theorem dt_X1_readWorn (s0 : Bd) (s1 : Tp) : dt (fun P : (Bd × Tp) → Prop => wp_X1_readWorn (fun a0 a1 => P (a0, a1)) s0 s1) (fun P : (Bd × Tp) → Prop => wp_X1_readWorn (fun a0 a1 => P (a0, a1)) s0 s1) := by
  unfold wp_X1_readWorn
  exact (dt_b1 (F := fun k => wp_X0_cells k s0) (dt_X0_cells s0) (fun r_1 => (dt_b2 (F := fun k => wp_X5_takeNumber k s1 (0 : Int32) (r_1 - 1)) (dt_X5_takeNumber s1 (0 : Int32) (r_1 - 1)) (fun r_3 u_4 => (dt_b1 (F := fun k => wp_X0_flapsOf k s0 r_3) (dt_X0_flapsOf s0 r_3) (fun r_5 => (dt_b2 (F := fun k => wp_X5_takeNumber k u_4 (1 : Int32) (r_5 - 1)) (dt_X5_takeNumber u_4 (1 : Int32) (r_5 - 1)) (fun r_7 u_8 => (dt_b1 (F := fun k => wp_X5_isSound k u_8) (dt_X5_isSound u_8) (fun r_9 => (dt_p (dt_b1 (F := fun k => wp_X5_isSound k u_8) (dt_X5_isSound u_8) (fun r_12 => (dt_p (dt_r _) (dt_b1 (F := fun k => wp_X0_wearFlap k s0 r_3 r_7) (dt_X0_wearFlap s0 r_3 r_7) (fun u_16 => (dt_r _)))))) (dt_b1 (F := fun k => wp_X0_isWorn k s0 r_3 r_7) (dt_X0_isWorn s0 r_3 r_7) (fun r_17 => (dt_p (dt_b1 (F := fun k => wp_X5_isSound k u_8) (dt_X5_isSound u_8) (fun r_20 => (dt_p (dt_r _) (dt_b1 (F := fun k => wp_X0_wearFlap k s0 r_3 r_7) (dt_X0_wearFlap s0 r_3 r_7) (fun u_24 => (dt_r _)))))) (dt_b1 (F := fun k => wp_X5_blame k u_8 (u_8.1 2) (2 : Int32)) (dt_X5_blame u_8 (u_8.1 2) (2 : Int32)) (fun u_26 => (dt_b1 (F := fun k => wp_X5_isSound k u_26) (dt_X5_isSound u_26) (fun r_27 => (dt_p (dt_r _) (dt_b1 (F := fun k => wp_X0_wearFlap k s0 r_3 r_7) (dt_X0_wearFlap s0 r_3 r_7) (fun u_31 => (dt_r _))))))))))))))))))))))
set_option maxHeartbeats 4000000 in
theorem dt_X1_readRow (s0 : Bd) (s1 : Tp) : dt (fun P : (Bd × Tp) → Prop => wp_X1_readRow (fun a0 a1 => P (a0, a1)) s0 s1) (fun P : (Bd × Tp) → Prop => wp_X1_readRow (fun a0 a1 => P (a0, a1)) s0 s1) := by
  unfold wp_X1_readRow
  exact (dt_b2 (F := fun k => wp_X5_takeNumber k s1 (0 : Int32) ((s0.1 0) - 1)) (dt_X5_takeNumber s1 (0 : Int32) ((s0.1 0) - 1)) (fun r_1 u_2 => (dt_b1 (F := fun k => wp_X5_takeQuoted k u_2 (0 : Int32) (s0.1 1)) (dt_X5_takeQuoted u_2 (0 : Int32) (s0.1 1)) (fun u_4 => (dt_b1 (F := fun k => wp_X5_isSound k u_4) (dt_X5_isSound u_4) (fun r_5 => (dt_p (dt_r _) (dt_b1 (F := fun k => wp_X0_showSigns k s0 u_4 r_1 (u_4.1 3) (u_4.1 4)) (dt_X0_showSigns s0 u_4 r_1 (u_4.1 3) (u_4.1 4)) (fun u_9 => (dt_r _))))))))))
set_option maxHeartbeats 4000000 in
theorem dt_X1_readLose (s0 : Bd) (s1 : Tp) : dt (fun P : (Bd × Tp) → Prop => wp_X1_readLose (fun a0 a1 => P (a0, a1)) s0 s1) (fun P : (Bd × Tp) → Prop => wp_X1_readLose (fun a0 a1 => P (a0, a1)) s0 s1) := by
  unfold wp_X1_readLose
  exact (dt_b1 (F := fun k => wp_X0_cells k s0) (dt_X0_cells s0) (fun r_1 => (dt_b2 (F := fun k => wp_X5_takeNumber k s1 (0 : Int32) (r_1 - 1)) (dt_X5_takeNumber s1 (0 : Int32) (r_1 - 1)) (fun r_3 u_4 => (dt_b2 (F := fun k => wp_X5_takeNumber k u_4 (0 : Int32) (9 : Int32)) (dt_X5_takeNumber u_4 (0 : Int32) (9 : Int32)) (fun r_5 u_6 => (dt_b1 (F := fun k => wp_X5_isSound k u_6) (dt_X5_isSound u_6) (fun r_7 => (dt_p (dt_r _) (dt_b1 (F := fun k => wp_X0_setLost k s0 r_3 r_5) (dt_X0_setLost s0 r_3 r_5) (fun u_11 => (dt_r _))))))))))))
set_option maxHeartbeats 4000000 in
theorem dt_X1_readPart (s0 : Bd) (s1 : Tp) : dt (fun P : (Bd × Tp) → Prop => wp_X1_readPart (fun a0 a1 => P (a0, a1)) s0 s1) (fun P : (Bd × Tp) → Prop => wp_X1_readPart (fun a0 a1 => P (a0, a1)) s0 s1) := by
  unfold wp_X1_readPart
  exact (dt_b2 (F := fun k => wp_X5_takeWord k s1) (dt_X5_takeWord s1) (fun r_1 u_2 => (dt_p (dt_b1 (F := fun k => wp_X5_blame k u_2 (u_2.1 2) (1 : Int32)) (dt_X5_blame u_2 (u_2.1 2) (1 : Int32)) (fun u_5 => (dt_b1 (F := fun k => wp_X5_isSound k u_5) (dt_X5_isSound u_5) (fun r_6 => (dt_n (dt_p (dt_b2 (F := fun k => wp_X1_readDrum k s0 u_5) (dt_X1_readDrum s0 u_5) (fun u_11a u_11b => (dt_r _))) (dt_p (dt_b2 (F := fun k => wp_X1_readCells k s0 u_5) (dt_X1_readCells s0 u_5) (fun u_14a u_14b => (dt_r _))) (dt_p (dt_b2 (F := fun k => wp_X1_readWorn k s0 u_5) (dt_X1_readWorn s0 u_5) (fun u_17a u_17b => (dt_r _))) (dt_p (dt_b2 (F := fun k => wp_X1_readRow k s0 u_5) (dt_X1_readRow s0 u_5) (fun u_20a u_20b => (dt_r _))) (dt_b2 (F := fun k => wp_X1_readLose k s0 u_5) (dt_X1_readLose s0 u_5) (fun u_22a u_22b => (dt_r _))))))) (dt_r _)))))) (dt_p (dt_n (dt_n (dt_b1 (F := fun k => wp_X5_isSound k u_2) (dt_X5_isSound u_2) (fun r_26 => (dt_n (dt_p (dt_b2 (F := fun k => wp_X1_readDrum k s0 u_2) (dt_X1_readDrum s0 u_2) (fun u_31a u_31b => (dt_r _))) (dt_p (dt_b2 (F := fun k => wp_X1_readCells k s0 u_2) (dt_X1_readCells s0 u_2) (fun u_34a u_34b => (dt_r _))) (dt_p (dt_b2 (F := fun k => wp_X1_readWorn k s0 u_2) (dt_X1_readWorn s0 u_2) (fun u_37a u_37b => (dt_r _))) (dt_p (dt_b2 (F := fun k => wp_X1_readRow k s0 u_2) (dt_X1_readRow s0 u_2) (fun u_40a u_40b => (dt_r _))) (dt_b2 (F := fun k => wp_X1_readLose k s0 u_2) (dt_X1_readLose s0 u_2) (fun u_42a u_42b => (dt_r _))))))) (dt_r _)))) (dt_b1 (F := fun k => wp_X5_blame k u_2 (u_2.1 2) (3 : Int32)) (dt_X5_blame u_2 (u_2.1 2) (3 : Int32)) (fun u_44 => (dt_b1 (F := fun k => wp_X5_isSound k u_44) (dt_X5_isSound u_44) (fun r_45 => (dt_n (dt_p (dt_b2 (F := fun k => wp_X1_readDrum k s0 u_44) (dt_X1_readDrum s0 u_44) (fun u_50a u_50b => (dt_r _))) (dt_p (dt_b2 (F := fun k => wp_X1_readCells k s0 u_44) (dt_X1_readCells s0 u_44) (fun u_53a u_53b => (dt_r _))) (dt_p (dt_b2 (F := fun k => wp_X1_readWorn k s0 u_44) (dt_X1_readWorn s0 u_44) (fun u_56a u_56b => (dt_r _))) (dt_p (dt_b2 (F := fun k => wp_X1_readRow k s0 u_44) (dt_X1_readRow s0 u_44) (fun u_59a u_59b => (dt_r _))) (dt_b2 (F := fun k => wp_X1_readLose k s0 u_44) (dt_X1_readLose s0 u_44) (fun u_61a u_61b => (dt_r _))))))) (dt_r _))))))) (dt_n (dt_b1 (F := fun k => wp_X5_isSound k u_2) (dt_X5_isSound u_2) (fun r_63 => (dt_n (dt_p (dt_b2 (F := fun k => wp_X1_readDrum k s0 u_2) (dt_X1_readDrum s0 u_2) (fun u_68a u_68b => (dt_r _))) (dt_p (dt_b2 (F := fun k => wp_X1_readCells k s0 u_2) (dt_X1_readCells s0 u_2) (fun u_71a u_71b => (dt_r _))) (dt_p (dt_b2 (F := fun k => wp_X1_readWorn k s0 u_2) (dt_X1_readWorn s0 u_2) (fun u_74a u_74b => (dt_r _))) (dt_p (dt_b2 (F := fun k => wp_X1_readRow k s0 u_2) (dt_X1_readRow s0 u_2) (fun u_77a u_77b => (dt_r _))) (dt_b2 (F := fun k => wp_X1_readLose k s0 u_2) (dt_X1_readLose s0 u_2) (fun u_79a u_79b => (dt_r _))))))) (dt_r _)))) (dt_b1 (F := fun k => wp_X5_blame k u_2 (u_2.1 2) (3 : Int32)) (dt_X5_blame u_2 (u_2.1 2) (3 : Int32)) (fun u_81 => (dt_b1 (F := fun k => wp_X5_isSound k u_81) (dt_X5_isSound u_81) (fun r_82 => (dt_n (dt_p (dt_b2 (F := fun k => wp_X1_readDrum k s0 u_81) (dt_X1_readDrum s0 u_81) (fun u_87a u_87b => (dt_r _))) (dt_p (dt_b2 (F := fun k => wp_X1_readCells k s0 u_81) (dt_X1_readCells s0 u_81) (fun u_90a u_90b => (dt_r _))) (dt_p (dt_b2 (F := fun k => wp_X1_readWorn k s0 u_81) (dt_X1_readWorn s0 u_81) (fun u_93a u_93b => (dt_r _))) (dt_p (dt_b2 (F := fun k => wp_X1_readRow k s0 u_81) (dt_X1_readRow s0 u_81) (fun u_96a u_96b => (dt_r _))) (dt_b2 (F := fun k => wp_X1_readLose k s0 u_81) (dt_X1_readLose s0 u_81) (fun u_98a u_98b => (dt_r _))))))) (dt_r _)))))))) (dt_b1 (F := fun k => wp_X5_blame k u_2 (u_2.1 2) (1 : Int32)) (dt_X5_blame u_2 (u_2.1 2) (1 : Int32)) (fun u_100 => (dt_b1 (F := fun k => wp_X5_isSound k u_100) (dt_X5_isSound u_100) (fun r_101 => (dt_n (dt_p (dt_b2 (F := fun k => wp_X1_readDrum k s0 u_100) (dt_X1_readDrum s0 u_100) (fun u_106a u_106b => (dt_r _))) (dt_p (dt_b2 (F := fun k => wp_X1_readCells k s0 u_100) (dt_X1_readCells s0 u_100) (fun u_109a u_109b => (dt_r _))) (dt_p (dt_b2 (F := fun k => wp_X1_readWorn k s0 u_100) (dt_X1_readWorn s0 u_100) (fun u_112a u_112b => (dt_r _))) (dt_p (dt_b2 (F := fun k => wp_X1_readRow k s0 u_100) (dt_X1_readRow s0 u_100) (fun u_115a u_115b => (dt_r _))) (dt_b2 (F := fun k => wp_X1_readLose k s0 u_100) (dt_X1_readLose s0 u_100) (fun u_117a u_117b => (dt_r _))))))) (dt_r _))))))))))
set_option maxHeartbeats 4000000 in
theorem dl_X1_readInto_L15  {O : Type} {G_post G2_post : Bd → Tp → (O → Prop) → Prop} {G_e54 G2_e54 : Bd → Tp → Int32 → (O → Prop) → Prop} (h_post : ∀ v0 v1, dt (G_post v0 v1) (G2_post v0 v1)) (h_e54 : ∀ v0 v1 v2, dt (G_e54 v0 v1 v2) (G2_e54 v0 v1 v2)) : ∀ (n m : Nat) (t0 : Bd) (t1 : Tp) (z2 : Int32), dt (fun P : O → Prop => wp_X1_readInto_L15 (fun v0 v1 => G_post v0 v1 P) (fun v0 v1 v2 => G_e54 v0 v1 v2 P) n t0 t1 z2) (fun P : O → Prop => wp_X1_readInto_L15 (fun v0 v1 => G2_post v0 v1 P) (fun v0 v1 v2 => G2_e54 v0 v1 v2 P) m t0 t1 z2) := by
  intro n
  induction n with
  | zero => exact fun _ _ _ _ => dt_F
  | succ n15 ih =>
    intro m t0 t1 z2
    have key : ∀ m9 : Nat, dt (fun P : O → Prop => wp_X1_readInto_L15 (fun v0 v1 => G_post v0 v1 P) (fun v0 v1 v2 => G_e54 v0 v1 v2 P) (n15 + 1) t0 t1 z2) (fun P : O → Prop => wp_X1_readInto_L15 (fun v0 v1 => G2_post v0 v1 P) (fun v0 v1 v2 => G2_e54 v0 v1 v2 P) (m9 + 1) t0 t1 z2) := by
      intro m9
      unfold wp_X1_readInto_L15
      exact (dt_p (h_e54 t0 t1 z2) (dt_b1 (F := fun k => wp_X5_isSound k t1) (dt_X5_isSound t1) (fun r_8 => (dt_p (h_e54 t0 t1 z2) (dt_b2 (F := fun k => wp_X5_peek k t1) (dt_X5_peek t1) (fun r_11 u_12 => (dt_p (h_e54 t0 u_12 z2) (dt_b1 (F := fun k => wp_X5_takeByte k u_12 (59 : Int32)) (dt_X5_takeByte u_12 (59 : Int32)) (fun u_15 => (dt_b2 (F := fun k => wp_X1_readPart k t0 u_15) (dt_X1_readPart t0 u_15) (fun u_17a u_17b => (ih m9 u_17a u_17b (z2 + 1)))))))))))))
    cases m with
    | zero => exact dt_0 (key 0)
    | succ m9 => exact key m9
set_option maxHeartbeats 4000000 in
theorem dt_X1_readInto (s0 : Bd) (s1 : Tp) : dt (fun P : (Bd × Tp) → Prop => wp_X1_readInto (fun a0 a1 => P (a0, a1)) s0 s1) (fun P : (Bd × Tp) → Prop => wp_X1_readInto (fun a0 a1 => P (a0, a1)) s0 s1) := by
  unfold wp_X1_readInto
  exact (dt_b1 (F := fun k => wp_X0_clear k s0) (dt_X0_clear s0) (fun u_2 => (dt_b1 (F := fun k => wp_X5_startReading k s1) (dt_X5_startReading s1) (fun u_4 => (dt_b2 (F := fun k => wp_X1_readHead k u_2 u_4) (dt_X1_readHead u_2 u_4) (fun u_6a u_6b => (dt_x (fun n15 m_n15 => (dl_X1_readInto_L15  (fun v0 v1 => (dt_r _)) (fun t0 t1 z2 => (dt_n (dt_r _) (dt_b1 (F := fun k => wp_X5_blame k t1 (t1.1 0) (4 : Int32)) (dt_X5_blame t1 (t1.1 0) (4 : Int32)) (fun u_20 => (dt_r _))))) n15 m_n15 u_6a u_6b 0)))))))))
set_option maxHeartbeats 4000000 in
theorem dt_X2_startCounting (s0 : Mo) : dt (fun P : Mo → Prop => wp_X2_startCounting (fun a0 => P a0) s0) (fun P : Mo → Prop => wp_X2_startCounting (fun a0 => P a0) s0) := by
  unfold wp_X2_startCounting
  exact (dt_r _)
set_option maxHeartbeats 4000000 in
theorem dl_X2_sortByLeft_L17 (s1 : Bd) {O : Type} {G_post G2_post : Int32 → Mo → (O → Prop) → Prop} {G_e74 G2_e74 : Mo → Int32 → Int32 → (O → Prop) → Prop} (h_post : ∀ v0 v1, dt (G_post v0 v1) (G2_post v0 v1)) (h_e74 : ∀ v0 v1 v2, dt (G_e74 v0 v1 v2) (G2_e74 v0 v1 v2)) : ∀ (n m : Nat) (t0 : Mo) (z2 : Int32) (z3 : Int32), dt (fun P : O → Prop => wp_X2_sortByLeft_L17 s1 (fun v0 v1 => G_post v0 v1 P) (fun v0 v1 v2 => G_e74 v0 v1 v2 P) n t0 z2 z3) (fun P : O → Prop => wp_X2_sortByLeft_L17 s1 (fun v0 v1 => G2_post v0 v1 P) (fun v0 v1 v2 => G2_e74 v0 v1 v2 P) m t0 z2 z3) := by
  intro n
  induction n with
  | zero => exact fun _ _ _ _ => dt_F
  | succ n17 ih =>
    intro m t0 z2 z3
    have key : ∀ m9 : Nat, dt (fun P : O → Prop => wp_X2_sortByLeft_L17 s1 (fun v0 v1 => G_post v0 v1 P) (fun v0 v1 v2 => G_e74 v0 v1 v2 P) (n17 + 1) t0 z2 z3) (fun P : O → Prop => wp_X2_sortByLeft_L17 s1 (fun v0 v1 => G2_post v0 v1 P) (fun v0 v1 v2 => G2_e74 v0 v1 v2 P) (m9 + 1) t0 z2 z3) := by
      intro m9
      unfold wp_X2_sortByLeft_L17
      exact (dt_p (h_e74 t0 z2 z3) (dt_b1 (F := fun k => wp_X0_leftOf k s1 z3) (dt_X0_leftOf s1 z3) (fun r_5 => (dt_p (ih m9 t0 z2 (z3 + (-1))) (dt_p (ih m9 t0 z2 (z3 + (-1))) (dt_c (dt_c (dt_c (ih m9 (t0.1, (va_up (va_up t0.2 0 (upd (t0.2 0) (Int32.toNatClampNeg r_5) z3)) 1 (upd (t0.2 1) (Int32.toNatClampNeg z3) ((t0.2 0) (Int32.toNatClampNeg r_5))))) (if (z2 < r_5) then r_5 else z2) (z3 + (-1)))))))))))
    cases m with
    | zero => exact dt_0 (key 0)
    | succ m9 => exact key m9
set_option maxHeartbeats 4000000 in
theorem dt_X2_sortByLeft (s0 : Mo) (s1 : Bd) : dt (fun P : (Int32 × Mo) → Prop => wp_X2_sortByLeft (fun a0 a1 => P (a0, a1)) s0 s1) (fun P : (Int32 × Mo) → Prop => wp_X2_sortByLeft (fun a0 a1 => P (a0, a1)) s0 s1) := by
  unfold wp_X2_sortByLeft
  exact (dt_b1 (F := fun k => wp_X0_cells k s1) (dt_X0_cells s1) (fun r_2 => (dt_x (fun n17 m_n17 => (dl_X2_sortByLeft_L17 s1 (fun v0 v1 => (dt_r _)) (fun t0 z2 z3 => (dt_r _)) n17 m_n17 (s0.1, (va_up s0.2 0 (fl_f 40 (-1) (s0.2 0)))) 0 (r_2 - 1))))))
set_option maxHeartbeats 4000000 in
theorem dl_X2_choose_L44 (s1 : Bd) {O : Type} {G_post G2_post : Mo → (O → Prop) → Prop} {G_e130 G2_e130 : Mo → Int32 → Int32 → Int32 → Int32 → (O → Prop) → Prop} (h_post : ∀ v0, dt (G_post v0) (G2_post v0)) (h_e130 : ∀ v0 v1 v2 v3 v4, dt (G_e130 v0 v1 v2 v3 v4) (G2_e130 v0 v1 v2 v3 v4)) : ∀ (n m : Nat) (t0 : Mo) (z2 : Int32) (z3 : Int32) (z4 : Int32) (z5 : Int32), dt (fun P : O → Prop => wp_X2_choose_L44 s1 (fun v0 => G_post v0 P) (fun v0 v1 v2 v3 v4 => G_e130 v0 v1 v2 v3 v4 P) n t0 z2 z3 z4 z5) (fun P : O → Prop => wp_X2_choose_L44 s1 (fun v0 => G2_post v0 P) (fun v0 v1 v2 v3 v4 => G2_e130 v0 v1 v2 v3 v4 P) m t0 z2 z3 z4 z5) := by
  intro n
  induction n with
  | zero => exact fun _ _ _ _ _ _ => dt_F
  | succ n44 ih =>
    intro m t0 z2 z3 z4 z5
    have key : ∀ m9 : Nat, dt (fun P : O → Prop => wp_X2_choose_L44 s1 (fun v0 => G_post v0 P) (fun v0 v1 v2 v3 v4 => G_e130 v0 v1 v2 v3 v4 P) (n44 + 1) t0 z2 z3 z4 z5) (fun P : O → Prop => wp_X2_choose_L44 s1 (fun v0 => G2_post v0 P) (fun v0 v1 v2 v3 v4 => G2_e130 v0 v1 v2 v3 v4 P) (m9 + 1) t0 z2 z3 z4 z5) := by
      intro m9
      unfold wp_X2_choose_L44
      exact (dt_p (h_e130 t0 z2 z3 z4 z5) (dt_p (h_e130 t0 z2 z3 z4 z5) (dt_b1 (F := fun k => wp_X0_currentOf k s1 z4) (dt_X0_currentOf s1 z4) (fun r_8 => (dt_p (dt_c (ih m9 t0 z2 z3 ((t0.2 1) (Int32.toNatClampNeg z4)) (z5 + 1))) (dt_p (dt_c (ih m9 t0 z2 z3 ((t0.2 1) (Int32.toNatClampNeg z4)) (z5 + 1))) (dt_c (dt_c (ih m9 ((va_up (va_up t0.1 0 ((t0.1 0) + 1)) 1 ((t0.1 1) + r_8)), (va_up t0.2 2 (upd (t0.2 2) (Int32.toNatClampNeg (t0.1 0)) z4))) z2 z3 ((t0.2 1) (Int32.toNatClampNeg z4)) (z5 + 1))))))))))
    cases m with
    | zero => exact dt_0 (key 0)
    | succ m9 => exact key m9
set_option maxHeartbeats 4000000 in
theorem dl_X2_choose_L18 (s1 : Bd) {O : Type} {G_post G2_post : Mo → (O → Prop) → Prop} {G_e136 G2_e136 : Mo → Int32 → Int32 → (O → Prop) → Prop} (h_post : ∀ v0, dt (G_post v0) (G2_post v0)) (h_e136 : ∀ v0 v1 v2, dt (G_e136 v0 v1 v2) (G2_e136 v0 v1 v2)) : ∀ (n m : Nat) (t0 : Mo) (z2 : Int32) (z3 : Int32), dt (fun P : O → Prop => wp_X2_choose_L18 s1 (fun v0 => G_post v0 P) (fun v0 v1 v2 => G_e136 v0 v1 v2 P) n t0 z2 z3) (fun P : O → Prop => wp_X2_choose_L18 s1 (fun v0 => G2_post v0 P) (fun v0 v1 v2 => G2_e136 v0 v1 v2 P) m t0 z2 z3) := by
  intro n
  induction n with
  | zero => exact fun _ _ _ _ => dt_F
  | succ n18 ih =>
    intro m t0 z2 z3
    have key : ∀ m9 : Nat, dt (fun P : O → Prop => wp_X2_choose_L18 s1 (fun v0 => G_post v0 P) (fun v0 v1 v2 => G_e136 v0 v1 v2 P) (n18 + 1) t0 z2 z3) (fun P : O → Prop => wp_X2_choose_L18 s1 (fun v0 => G2_post v0 P) (fun v0 v1 v2 => G2_e136 v0 v1 v2 P) (m9 + 1) t0 z2 z3) := by
      intro m9
      unfold wp_X2_choose_L18
      exact (dt_p (h_e136 t0 z2 z3) (dt_p (h_e136 t0 z2 z3) (dt_c (dt_x (fun n44 m_n44 => (dl_X2_choose_L44 s1 (fun v0 => (h_post v0)) (fun t0 z2 z3 z4 z5 => (ih m9 t0 z2 (z3 + (-1)))) n44 m_n44 t0 z2 z3 ((t0.2 0) (Int32.toNatClampNeg z3)) 0))))))
    cases m with
    | zero => exact dt_0 (key 0)
    | succ m9 => exact key m9
set_option maxHeartbeats 4000000 in
theorem dt_X2_choose (s0 : Mo) (s1 : Bd) : dt (fun P : Mo → Prop => wp_X2_choose (fun a0 => P a0) s0 s1) (fun P : Mo → Prop => wp_X2_choose (fun a0 => P a0) s0 s1) := by
  unfold wp_X2_choose
  exact (dt_b2 (F := fun k => wp_X2_sortByLeft k ((va_up (va_up s0.1 0 0) 1 0), s0.2) s1) (dt_X2_sortByLeft ((va_up (va_up s0.1 0 0) 1 0), s0.2) s1) (fun r_1 u_2 => (dt_x (fun n18 m_n18 => (dl_X2_choose_L18 s1 (fun v0 => (dt_r _)) (fun t0 z2 z3 => (dt_r _)) n18 m_n18 u_2 r_1 r_1)))))
set_option maxHeartbeats 4000000 in
theorem dt_X2_countTick (s0 : Mo) (x1 : Int32) : dt (fun P : Mo → Prop => wp_X2_countTick (fun a0 => P a0) s0 x1) (fun P : Mo → Prop => wp_X2_countTick (fun a0 => P a0) s0 x1) := by
  unfold wp_X2_countTick
  exact (dt_p (dt_r _) (dt_r _))
set_option maxHeartbeats 4000000 in
theorem dl_X2_turn_L27  {O : Type} {G_post G2_post : Mo → Bd → (O → Prop) → Prop} {G_e62 G2_e62 : Mo → Bd → Int32 → Int32 → Int32 → (O → Prop) → Prop} (h_post : ∀ v0 v1, dt (G_post v0 v1) (G2_post v0 v1)) (h_e62 : ∀ v0 v1 v2 v3 v4, dt (G_e62 v0 v1 v2 v3 v4) (G2_e62 v0 v1 v2 v3 v4)) : ∀ (n m : Nat) (t0 : Mo) (t1 : Bd) (z2 : Int32) (z3 : Int32) (z4 : Int32), dt (fun P : O → Prop => wp_X2_turn_L27 (fun v0 v1 => G_post v0 v1 P) (fun v0 v1 v2 v3 v4 => G_e62 v0 v1 v2 v3 v4 P) n t0 t1 z2 z3 z4) (fun P : O → Prop => wp_X2_turn_L27 (fun v0 v1 => G2_post v0 v1 P) (fun v0 v1 v2 v3 v4 => G2_e62 v0 v1 v2 v3 v4 P) m t0 t1 z2 z3 z4) := by
  intro n
  induction n with
  | zero => exact fun _ _ _ _ _ _ => dt_F
  | succ n27 ih =>
    intro m t0 t1 z2 z3 z4
    have key : ∀ m9 : Nat, dt (fun P : O → Prop => wp_X2_turn_L27 (fun v0 v1 => G_post v0 v1 P) (fun v0 v1 v2 v3 v4 => G_e62 v0 v1 v2 v3 v4 P) (n27 + 1) t0 t1 z2 z3 z4) (fun P : O → Prop => wp_X2_turn_L27 (fun v0 v1 => G2_post v0 v1 P) (fun v0 v1 v2 v3 v4 => G2_e62 v0 v1 v2 v3 v4 P) (m9 + 1) t0 t1 z2 z3 z4) := by
      intro m9
      unfold wp_X2_turn_L27
      exact (dt_p (h_e62 t0 t1 z2 z3 z4) (dt_c (dt_b2 (F := fun k => wp_X0_stepOn k t1 ((t0.2 2) (Int32.toNatClampNeg z4))) (dt_X0_stepOn t1 ((t0.2 2) (Int32.toNatClampNeg z4))) (fun r_9 u_10 => (ih m9 ((va_up t0.1 8 ((t0.1 8) + r_9)), t0.2) u_10 z2 z3 (z4 + 1))))))
    cases m with
    | zero => exact dt_0 (key 0)
    | succ m9 => exact key m9
set_option maxHeartbeats 4000000 in
theorem dl_X2_turn_L6  {O : Type} {G_post G2_post : Mo → Bd → (O → Prop) → Prop} {G_e109 G2_e109 : Mo → Bd → Int32 → Int32 → (O → Prop) → Prop} (h_post : ∀ v0 v1, dt (G_post v0 v1) (G2_post v0 v1)) (h_e109 : ∀ v0 v1 v2 v3, dt (G_e109 v0 v1 v2 v3) (G2_e109 v0 v1 v2 v3)) : ∀ (n m : Nat) (t0 : Mo) (t1 : Bd) (z2 : Int32) (z3 : Int32), dt (fun P : O → Prop => wp_X2_turn_L6 (fun v0 v1 => G_post v0 v1 P) (fun v0 v1 v2 v3 => G_e109 v0 v1 v2 v3 P) n t0 t1 z2 z3) (fun P : O → Prop => wp_X2_turn_L6 (fun v0 v1 => G2_post v0 v1 P) (fun v0 v1 v2 v3 => G2_e109 v0 v1 v2 v3 P) m t0 t1 z2 z3) := by
  intro n
  induction n with
  | zero => exact fun _ _ _ _ _ => dt_F
  | succ n6 ih =>
    intro m t0 t1 z2 z3
    have key : ∀ m9 : Nat, dt (fun P : O → Prop => wp_X2_turn_L6 (fun v0 v1 => G_post v0 v1 P) (fun v0 v1 v2 v3 => G_e109 v0 v1 v2 v3 P) (n6 + 1) t0 t1 z2 z3) (fun P : O → Prop => wp_X2_turn_L6 (fun v0 v1 => G2_post v0 v1 P) (fun v0 v1 v2 v3 => G2_e109 v0 v1 v2 v3 P) (m9 + 1) t0 t1 z2 z3) := by
      intro m9
      unfold wp_X2_turn_L6
      exact (dt_p (h_e109 t0 t1 z2 z3) (dt_b1 (F := fun k => wp_X2_choose k t0 t1) (dt_X2_choose t0 t1) (fun u_5 => (dt_n (dt_x (fun n27 m_n27 => (dl_X2_turn_L27  (fun v0 v1 => (h_post v0 v1)) (fun t0 t1 z2 z3 z4 => (dt_b1 (F := fun k => wp_X2_countTick k t0 ((t0.1 0) * (t0.1 0))) (dt_X2_countTick t0 ((t0.1 0) * (t0.1 0))) (fun u_12 => (ih m9 u_12 ((va_up (va_up t1.1 4 ((t1.1 4) + ((t0.1 0) * (t0.1 0)))) 5 ((t1.1 5) + 1)), t1.2.1, t1.2.2.1, t1.2.2.2.1, t1.2.2.2.2) z2 (z3 + 1))))) n27 m_n27 u_5 t1 z2 z3 0))) (h_post u_5 t1)))))
    cases m with
    | zero => exact dt_0 (key 0)
    | succ m9 => exact key m9
set_option maxHeartbeats 4000000 in
theorem dt_X2_turn (s0 : Mo) (s1 : Bd) (x2 : Int32) : dt (fun P : (Mo × Bd) → Prop => wp_X2_turn (fun a0 a1 => P (a0, a1)) s0 s1 x2) (fun P : (Mo × Bd) → Prop => wp_X2_turn (fun a0 a1 => P (a0, a1)) s0 s1 x2) := by
  unfold wp_X2_turn
  exact (dt_b1 (F := fun k => wp_X2_startCounting k s0) (dt_X2_startCounting s0) (fun u_2 => (dt_x (fun n6 m_n6 => (dl_X2_turn_L6  (fun v0 v1 => (dt_r _)) (fun t0 t1 z2 z3 => (dt_r _)) n6 m_n6 u_2 s1 x2 0)))))
set_option maxHeartbeats 4000000 in
theorem dl_X2_chosenBits_L4 (s0 : Mo) {O : Type} {G_post G2_post : Int64 → (O → Prop) → Prop} {G_e29 G2_e29 : Int64 → Int32 → (O → Prop) → Prop} (h_post : ∀ v0, dt (G_post v0) (G2_post v0)) (h_e29 : ∀ v0 v1, dt (G_e29 v0 v1) (G2_e29 v0 v1)) : ∀ (n m : Nat) (w1 : Int64) (z3 : Int32), dt (fun P : O → Prop => wp_X2_chosenBits_L4 s0 (fun v0 => G_post v0 P) (fun v0 v1 => G_e29 v0 v1 P) n w1 z3) (fun P : O → Prop => wp_X2_chosenBits_L4 s0 (fun v0 => G2_post v0 P) (fun v0 v1 => G2_e29 v0 v1 P) m w1 z3) := by
  intro n
  induction n with
  | zero => exact fun _ _ _ => dt_F
  | succ n4 ih =>
    intro m w1 z3
    have key : ∀ m9 : Nat, dt (fun P : O → Prop => wp_X2_chosenBits_L4 s0 (fun v0 => G_post v0 P) (fun v0 v1 => G_e29 v0 v1 P) (n4 + 1) w1 z3) (fun P : O → Prop => wp_X2_chosenBits_L4 s0 (fun v0 => G2_post v0 P) (fun v0 v1 => G2_e29 v0 v1 P) (m9 + 1) w1 z3) := by
      intro m9
      unfold wp_X2_chosenBits_L4
      exact (dt_p (h_e29 w1 z3) (dt_c (ih m9 (w1 ||| ((1 : Int64) <<< ((Int32.toInt64 ((s0.2 2) (Int32.toNatClampNeg z3))) &&& 63))) (z3 + 1))))
    cases m with
    | zero => exact dt_0 (key 0)
    | succ m9 => exact key m9
set_option maxHeartbeats 4000000 in
theorem dt_X2_chosenBits (s0 : Mo) : dt (fun P : Int64 → Prop => wp_X2_chosenBits (fun a0 => P a0) s0) (fun P : Int64 → Prop => wp_X2_chosenBits (fun a0 => P a0) s0) := by
  unfold wp_X2_chosenBits
  exact (dt_x (fun n4 m_n4 => (dl_X2_chosenBits_L4 s0 (fun v0 => (dt_r _)) (fun w1 z3 => (dt_r _)) n4 m_n4 0 0)))
set_option maxHeartbeats 4000000 in
theorem dt_X4_hasStep (s0 : Pg) (x1 : Int32) : dt (fun P : Int32 → Prop => wp_X4_hasStep (fun a0 => P a0) s0 x1) (fun P : Int32 → Prop => wp_X4_hasStep (fun a0 => P a0) s0 x1) := by
  unfold wp_X4_hasStep
  exact (dt_p (dt_r _) (dt_p (dt_r _) (dt_r _)))
set_option maxHeartbeats 4000000 in
theorem dt_X4_kindOf (s0 : Pg) (x1 : Int32) : dt (fun P : Int32 → Prop => wp_X4_kindOf (fun a0 => P a0) s0 x1) (fun P : Int32 → Prop => wp_X4_kindOf (fun a0 => P a0) s0 x1) := by
  unfold wp_X4_kindOf
  exact (dt_b1 (F := fun k => wp_X4_hasStep k s0 x1) (dt_X4_hasStep s0 x1) (fun r_1 => (dt_p (dt_r _) (dt_c (dt_r _)))))
set_option maxHeartbeats 4000000 in
theorem dt_X4_oneOf (s0 : Pg) (x1 : Int32) : dt (fun P : Int32 → Prop => wp_X4_oneOf (fun a0 => P a0) s0 x1) (fun P : Int32 → Prop => wp_X4_oneOf (fun a0 => P a0) s0 x1) := by
  unfold wp_X4_oneOf
  exact (dt_b1 (F := fun k => wp_X4_hasStep k s0 x1) (dt_X4_hasStep s0 x1) (fun r_1 => (dt_p (dt_r _) (dt_c (dt_r _)))))
set_option maxHeartbeats 4000000 in
theorem dt_X4_twoOf (s0 : Pg) (x1 : Int32) : dt (fun P : Int32 → Prop => wp_X4_twoOf (fun a0 => P a0) s0 x1) (fun P : Int32 → Prop => wp_X4_twoOf (fun a0 => P a0) s0 x1) := by
  unfold wp_X4_twoOf
  exact (dt_b1 (F := fun k => wp_X4_hasStep k s0 x1) (dt_X4_hasStep s0 x1) (fun r_1 => (dt_p (dt_r _) (dt_c (dt_r _)))))
set_option maxHeartbeats 4000000 in
theorem dt_X4_quotedOf (s0 : Pg) (x1 : Int32) : dt (fun P : Int32 → Prop => wp_X4_quotedOf (fun a0 => P a0) s0 x1) (fun P : Int32 → Prop => wp_X4_quotedOf (fun a0 => P a0) s0 x1) := by
  unfold wp_X4_quotedOf
  exact (dt_b1 (F := fun k => wp_X4_hasStep k s0 x1) (dt_X4_hasStep s0 x1) (fun r_1 => (dt_p (dt_r _) (dt_c (dt_r _)))))
set_option maxHeartbeats 4000000 in
theorem dt_X4_endOf (s0 : Pg) (x1 : Int32) : dt (fun P : Int32 → Prop => wp_X4_endOf (fun a0 => P a0) s0 x1) (fun P : Int32 → Prop => wp_X4_endOf (fun a0 => P a0) s0 x1) := by
  unfold wp_X4_endOf
  exact (dt_b1 (F := fun k => wp_X4_hasStep k s0 x1) (dt_X4_hasStep s0 x1) (fun r_1 => (dt_p (dt_r _) (dt_c (dt_r _)))))
set_option maxHeartbeats 4000000 in
theorem dt_X4_startDoing (s0 : Pg) : dt (fun P : Pg → Prop => wp_X4_startDoing (fun a0 => P a0) s0) (fun P : Pg → Prop => wp_X4_startDoing (fun a0 => P a0) s0) := by
  unfold wp_X4_startDoing
  exact (dt_r _)
set_option maxHeartbeats 4000000 in
theorem dl_X4_goOn_L99  {O : Type} {G_post G2_post : Pg → (O → Prop) → Prop} {G_e198 G2_e198 : Pg → Int32 → (O → Prop) → Prop} (h_post : ∀ v0, dt (G_post v0) (G2_post v0)) (h_e198 : ∀ v0 v1, dt (G_e198 v0 v1) (G2_e198 v0 v1)) : ∀ (n m : Nat) (t0 : Pg) (z1 : Int32), dt (fun P : O → Prop => wp_X4_goOn_L99 (fun v0 => G_post v0 P) (fun v0 v1 => G_e198 v0 v1 P) n t0 z1) (fun P : O → Prop => wp_X4_goOn_L99 (fun v0 => G2_post v0 P) (fun v0 v1 => G2_e198 v0 v1 P) m t0 z1) := by
  intro n
  induction n with
  | zero => exact fun _ _ _ => dt_F
  | succ n99 ih =>
    intro m t0 z1
    have key : ∀ m9 : Nat, dt (fun P : O → Prop => wp_X4_goOn_L99 (fun v0 => G_post v0 P) (fun v0 v1 => G_e198 v0 v1 P) (n99 + 1) t0 z1) (fun P : O → Prop => wp_X4_goOn_L99 (fun v0 => G2_post v0 P) (fun v0 v1 => G2_e198 v0 v1 P) (m9 + 1) t0 z1) := by
      intro m9
      unfold wp_X4_goOn_L99
      exact (dt_p (h_e198 t0 z1) (dt_p (h_e198 t0 z1) (dt_c (dt_b1 (F := fun k => wp_X4_endOf k t0 ((t0.2 5) (Int32.toNatClampNeg ((t0.1 0) - 1)))) (dt_X4_endOf t0 ((t0.2 5) (Int32.toNatClampNeg ((t0.1 0) - 1)))) (fun r_9 => (dt_n (h_e198 t0 z1) (dt_c (dt_p (ih m9 ((va_up t0.1 0 ((t0.1 0) - 1)), t0.2) (z1 + 1)) (dt_c (dt_c (dt_c (ih m9 ((va_up t0.1 2 (((t0.2 5) (Int32.toNatClampNeg ((t0.1 0) - 1))) + 1)), (va_up t0.2 6 (upd (t0.2 6) (Int32.toNatClampNeg ((t0.1 0) - 1)) (((t0.2 6) (Int32.toNatClampNeg ((t0.1 0) - 1))) - 1)))) (z1 + 1)))))))))))))
    cases m with
    | zero => exact dt_0 (key 0)
    | succ m9 => exact key m9
set_option maxHeartbeats 4000000 in
theorem dl_X4_goOn_L99b  {O : Type} {G_post G2_post : Pg → (O → Prop) → Prop} {G_e198 G2_e198 : Pg → Int32 → (O → Prop) → Prop} (h_post : ∀ v0, dt (G_post v0) (G2_post v0)) (h_e198 : ∀ v0 v1, dt (G_e198 v0 v1) (G2_e198 v0 v1)) : ∀ (n m : Nat) (t0 : Pg) (z1 : Int32), dt (fun P : O → Prop => wp_X4_goOn_L99b (fun v0 => G_post v0 P) (fun v0 v1 => G_e198 v0 v1 P) n t0 z1) (fun P : O → Prop => wp_X4_goOn_L99b (fun v0 => G2_post v0 P) (fun v0 v1 => G2_e198 v0 v1 P) m t0 z1) := by
  intro n
  induction n with
  | zero => exact fun _ _ _ => dt_F
  | succ n99 ih =>
    intro m t0 z1
    have key : ∀ m9 : Nat, dt (fun P : O → Prop => wp_X4_goOn_L99b (fun v0 => G_post v0 P) (fun v0 v1 => G_e198 v0 v1 P) (n99 + 1) t0 z1) (fun P : O → Prop => wp_X4_goOn_L99b (fun v0 => G2_post v0 P) (fun v0 v1 => G2_e198 v0 v1 P) (m9 + 1) t0 z1) := by
      intro m9
      unfold wp_X4_goOn_L99b
      exact (dt_p (h_e198 t0 z1) (dt_p (h_e198 t0 z1) (dt_c (dt_b1 (F := fun k => wp_X4_endOf k t0 ((t0.2 5) (Int32.toNatClampNeg ((t0.1 0) - 1)))) (dt_X4_endOf t0 ((t0.2 5) (Int32.toNatClampNeg ((t0.1 0) - 1)))) (fun r_25 => (dt_n (h_e198 t0 z1) (dt_c (dt_p (ih m9 ((va_up t0.1 0 ((t0.1 0) - 1)), t0.2) (z1 + 1)) (dt_c (dt_c (dt_c (ih m9 ((va_up t0.1 2 (((t0.2 5) (Int32.toNatClampNeg ((t0.1 0) - 1))) + 1)), (va_up t0.2 6 (upd (t0.2 6) (Int32.toNatClampNeg ((t0.1 0) - 1)) (((t0.2 6) (Int32.toNatClampNeg ((t0.1 0) - 1))) - 1)))) (z1 + 1)))))))))))))
    cases m with
    | zero => exact dt_0 (key 0)
    | succ m9 => exact key m9
set_option maxHeartbeats 4000000 in
theorem dl_X4_goOn_L99bb  {O : Type} {G_post G2_post : Pg → (O → Prop) → Prop} {G_e198 G2_e198 : Pg → Int32 → (O → Prop) → Prop} (h_post : ∀ v0, dt (G_post v0) (G2_post v0)) (h_e198 : ∀ v0 v1, dt (G_e198 v0 v1) (G2_e198 v0 v1)) : ∀ (n m : Nat) (t0 : Pg) (z1 : Int32), dt (fun P : O → Prop => wp_X4_goOn_L99bb (fun v0 => G_post v0 P) (fun v0 v1 => G_e198 v0 v1 P) n t0 z1) (fun P : O → Prop => wp_X4_goOn_L99bb (fun v0 => G2_post v0 P) (fun v0 v1 => G2_e198 v0 v1 P) m t0 z1) := by
  intro n
  induction n with
  | zero => exact fun _ _ _ => dt_F
  | succ n99 ih =>
    intro m t0 z1
    have key : ∀ m9 : Nat, dt (fun P : O → Prop => wp_X4_goOn_L99bb (fun v0 => G_post v0 P) (fun v0 v1 => G_e198 v0 v1 P) (n99 + 1) t0 z1) (fun P : O → Prop => wp_X4_goOn_L99bb (fun v0 => G2_post v0 P) (fun v0 v1 => G2_e198 v0 v1 P) (m9 + 1) t0 z1) := by
      intro m9
      unfold wp_X4_goOn_L99bb
      exact (dt_p (h_e198 t0 z1) (dt_p (h_e198 t0 z1) (dt_c (dt_b1 (F := fun k => wp_X4_endOf k t0 ((t0.2 5) (Int32.toNatClampNeg ((t0.1 0) - 1)))) (dt_X4_endOf t0 ((t0.2 5) (Int32.toNatClampNeg ((t0.1 0) - 1)))) (fun r_39 => (dt_n (h_e198 t0 z1) (dt_c (dt_p (ih m9 ((va_up t0.1 0 ((t0.1 0) - 1)), t0.2) (z1 + 1)) (dt_c (dt_c (dt_c (ih m9 ((va_up t0.1 2 (((t0.2 5) (Int32.toNatClampNeg ((t0.1 0) - 1))) + 1)), (va_up t0.2 6 (upd (t0.2 6) (Int32.toNatClampNeg ((t0.1 0) - 1)) (((t0.2 6) (Int32.toNatClampNeg ((t0.1 0) - 1))) - 1)))) (z1 + 1)))))))))))))
    cases m with
    | zero => exact dt_0 (key 0)
    | succ m9 => exact key m9
set_option maxHeartbeats 4000000 in
theorem dt_X4_goOn (s0 : Pg) : dt (fun P : Pg → Prop => wp_X4_goOn (fun a0 => P a0) s0) (fun P : Pg → Prop => wp_X4_goOn (fun a0 => P a0) s0) := by
  unfold wp_X4_goOn
  exact (dt_b1 (F := fun k => wp_X4_kindOf k s0 (s0.1 2)) (dt_X4_kindOf s0 (s0.1 2)) (fun r_1 => (dt_n (dt_b1 (F := fun k => wp_X4_endOf k s0 (s0.1 2)) (dt_X4_endOf s0 (s0.1 2)) (fun r_4 => (dt_x (fun n99 m_n99 => (dl_X4_goOn_L99  (fun v0 => (dt_r _)) (fun t0 z1 => (dt_r _)) n99 m_n99 ((va_up s0.1 2 r_4), s0.2) 0))))) (dt_b1 (F := fun k => wp_X4_oneOf k s0 (s0.1 2)) (dt_X4_oneOf s0 (s0.1 2)) (fun r_17 => (dt_p (dt_b1 (F := fun k => wp_X4_endOf k s0 (s0.1 2)) (dt_X4_endOf s0 (s0.1 2)) (fun r_20 => (dt_x (fun n99 m_n99 => (dl_X4_goOn_L99b  (fun v0 => (dt_r _)) (fun t0 z1 => (dt_r _)) n99 m_n99 ((va_up s0.1 2 r_20), s0.2) 0))))) (dt_p (dt_b1 (F := fun k => wp_X4_endOf k s0 (s0.1 2)) (dt_X4_endOf s0 (s0.1 2)) (fun r_34 => (dt_x (fun n99 m_n99 => (dl_X4_goOn_L99bb  (fun v0 => (dt_r _)) (fun t0 z1 => (dt_r _)) n99 m_n99 ((va_up s0.1 2 r_34), s0.2) 0))))) (dt_c (dt_b1 (F := fun k => wp_X4_oneOf k (s0.1, (va_up s0.2 5 (upd (s0.2 5) (Int32.toNatClampNeg (s0.1 0)) (s0.1 2)))) (s0.1 2)) (dt_X4_oneOf (s0.1, (va_up s0.2 5 (upd (s0.2 5) (Int32.toNatClampNeg (s0.1 0)) (s0.1 2)))) (s0.1 2)) (fun r_48 => (dt_c (dt_r _))))))))))))
set_option maxHeartbeats 4000000 in
theorem dt_X4_openTimes (s0 : Pg) (s1 : Tp) : dt (fun P : (Pg × Tp) → Prop => wp_X4_openTimes (fun a0 a1 => P (a0, a1)) s0 s1) (fun P : (Pg × Tp) → Prop => wp_X4_openTimes (fun a0 a1 => P (a0, a1)) s0 s1) := by
  unfold wp_X4_openTimes
  exact (dt_b2 (F := fun k => wp_X5_peek k s1) (dt_X5_peek s1) (fun r_1 u_2 => (dt_n (dt_b1 (F := fun k => wp_X5_takeByte k u_2 (40 : Int32)) (dt_X5_takeByte u_2 (40 : Int32)) (fun u_5 => (dt_b1 (F := fun k => wp_X5_isSound k u_5) (dt_X5_isSound u_5) (fun r_6 => (dt_p (dt_r _) (dt_c (dt_r _))))))) (dt_p (dt_b1 (F := fun k => wp_X5_takeByte k u_2 (40 : Int32)) (dt_X5_takeByte u_2 (40 : Int32)) (fun u_12 => (dt_b1 (F := fun k => wp_X5_isSound k u_12) (dt_X5_isSound u_12) (fun r_13 => (dt_p (dt_r _) (dt_c (dt_r _))))))) (dt_b1 (F := fun k => wp_X5_blame k u_2 (u_2.1 1) (3 : Int32)) (dt_X5_blame u_2 (u_2.1 1) (3 : Int32)) (fun u_18 => (dt_b1 (F := fun k => wp_X5_takeByte k u_18 (40 : Int32)) (dt_X5_takeByte u_18 (40 : Int32)) (fun u_20 => (dt_b1 (F := fun k => wp_X5_isSound k u_20) (dt_X5_isSound u_20) (fun r_21 => (dt_p (dt_r _) (dt_c (dt_r _)))))))))))))
set_option maxHeartbeats 4000000 in
theorem dt_X4_addStep (s0 : Pg) (x1 : Int32) (x2 : Int32) (x3 : Int32) (x4 : Int32) : dt (fun P : Pg → Prop => wp_X4_addStep (fun a0 => P a0) s0 x1 x2 x3 x4) (fun P : Pg → Prop => wp_X4_addStep (fun a0 => P a0) s0 x1 x2 x3 x4) := by
  unfold wp_X4_addStep
  exact (dt_p (dt_r _) (dt_c (dt_c (dt_c (dt_c (dt_c (dt_r _)))))))
set_option maxHeartbeats 4000000 in
theorem dt_X4_readStep (s0 : Pg) (s1 : Tp) (s2 : Bd) (x1 : Int32) : dt (fun P : (Pg × Tp) → Prop => wp_X4_readStep (fun a0 a1 => P (a0, a1)) s0 s1 s2 x1) (fun P : (Pg × Tp) → Prop => wp_X4_readStep (fun a0 a1 => P (a0, a1)) s0 s1 s2 x1) := by
  unfold wp_X4_readStep
  exact (dt_p (dt_b2 (F := fun k => wp_X5_takeNumber k ((va_up s1.1 4 0), s1.2) (0 : Int32) ((s2.1 0) - 1)) (dt_X5_takeNumber ((va_up s1.1 4 0), s1.2) (0 : Int32) ((s2.1 0) - 1)) (fun r_2 u_3 => (dt_b1 (F := fun k => wp_X5_takeQuoted k u_3 (0 : Int32) (s2.1 1)) (dt_X5_takeQuoted u_3 (0 : Int32) (s2.1 1)) (fun u_5 => (dt_b1 (F := fun k => wp_X5_isSound k u_5) (dt_X5_isSound u_5) (fun r_6 => (dt_p (dt_r _) (dt_b1 (F := fun k => wp_X4_addStep k s0 x1 r_2 (u_5.1 3) (u_5.1 4)) (dt_X4_addStep s0 x1 r_2 (u_5.1 3) (u_5.1 4)) (fun u_10 => (dt_r _)))))))))) (dt_p (dt_b1 (F := fun k => wp_X0_cells k s2) (dt_X0_cells s2) (fun r_12 => (dt_b2 (F := fun k => wp_X5_takeNumber k ((va_up s1.1 4 0), s1.2) (0 : Int32) (r_12 - 1)) (dt_X5_takeNumber ((va_up s1.1 4 0), s1.2) (0 : Int32) (r_12 - 1)) (fun r_14 u_15 => (dt_b2 (F := fun k => wp_X5_takeNumber k u_15 (0 : Int32) (9 : Int32)) (dt_X5_takeNumber u_15 (0 : Int32) (9 : Int32)) (fun r_16 u_17 => (dt_b1 (F := fun k => wp_X5_isSound k u_17) (dt_X5_isSound u_17) (fun r_18 => (dt_p (dt_r _) (dt_b1 (F := fun k => wp_X4_addStep k s0 x1 r_14 r_16 (u_17.1 4)) (dt_X4_addStep s0 x1 r_14 r_16 (u_17.1 4)) (fun u_22 => (dt_r _)))))))))))) (dt_p (dt_b1 (F := fun k => wp_X5_takeQuoted k ((va_up s1.1 4 0), s1.2) (0 : Int32) (s2.1 1)) (dt_X5_takeQuoted ((va_up s1.1 4 0), s1.2) (0 : Int32) (s2.1 1)) (fun u_25 => (dt_b1 (F := fun k => wp_X5_isSound k u_25) (dt_X5_isSound u_25) (fun r_26 => (dt_p (dt_r _) (dt_b1 (F := fun k => wp_X4_addStep k s0 x1 (0 : Int32) (u_25.1 3) (u_25.1 4)) (dt_X4_addStep s0 x1 (0 : Int32) (u_25.1 3) (u_25.1 4)) (fun u_30 => (dt_r _)))))))) (dt_p (dt_b2 (F := fun k => wp_X5_takeNumber k ((va_up s1.1 4 0), s1.2) (0 : Int32) ((s2.1 0) - 1)) (dt_X5_takeNumber ((va_up s1.1 4 0), s1.2) (0 : Int32) ((s2.1 0) - 1)) (fun r_32 u_33 => (dt_b1 (F := fun k => wp_X5_isSound k u_33) (dt_X5_isSound u_33) (fun r_34 => (dt_p (dt_r _) (dt_b1 (F := fun k => wp_X4_addStep k s0 x1 r_32 (0 : Int32) (u_33.1 4)) (dt_X4_addStep s0 x1 r_32 (0 : Int32) (u_33.1 4)) (fun u_38 => (dt_r _)))))))) (dt_p (dt_b2 (F := fun k => wp_X5_takeNumber k ((va_up s1.1 4 0), s1.2) (1 : Int32) (99 : Int32)) (dt_X5_takeNumber ((va_up s1.1 4 0), s1.2) (1 : Int32) (99 : Int32)) (fun r_40 u_41 => (dt_b1 (F := fun k => wp_X5_isSound k u_41) (dt_X5_isSound u_41) (fun r_42 => (dt_p (dt_r _) (dt_b1 (F := fun k => wp_X4_addStep k s0 x1 r_40 (0 : Int32) (u_41.1 4)) (dt_X4_addStep s0 x1 r_40 (0 : Int32) (u_41.1 4)) (fun u_46 => (dt_r _)))))))) (dt_p (dt_b1 (F := fun k => wp_X5_isSound k ((va_up s1.1 4 0), s1.2)) (dt_X5_isSound ((va_up s1.1 4 0), s1.2)) (fun r_48 => (dt_p (dt_r _) (dt_b1 (F := fun k => wp_X4_addStep k s0 x1 (0 : Int32) (0 : Int32) (0 : Int32)) (dt_X4_addStep s0 x1 (0 : Int32) (0 : Int32) (0 : Int32)) (fun u_52 => (dt_r _)))))) (dt_p (dt_b2 (F := fun k => wp_X5_takeNumber k ((va_up s1.1 4 0), s1.2) (0 : Int32) (20 : Int32)) (dt_X5_takeNumber ((va_up s1.1 4 0), s1.2) (0 : Int32) (20 : Int32)) (fun r_54 u_55 => (dt_b2 (F := fun k => wp_X4_openTimes k s0 u_55) (dt_X4_openTimes s0 u_55) (fun u_57a u_57b => (dt_b1 (F := fun k => wp_X5_isSound k u_57b) (dt_X5_isSound u_57b) (fun r_58 => (dt_p (dt_r _) (dt_b1 (F := fun k => wp_X4_addStep k u_57a x1 r_54 (0 : Int32) (u_57b.1 4)) (dt_X4_addStep u_57a x1 r_54 (0 : Int32) (u_57b.1 4)) (fun u_62 => (dt_r _)))))))))) (dt_b1 (F := fun k => wp_X5_blame k ((va_up s1.1 4 0), s1.2) (s1.1 2) (1 : Int32)) (dt_X5_blame ((va_up s1.1 4 0), s1.2) (s1.1 2) (1 : Int32)) (fun u_64 => (dt_b1 (F := fun k => wp_X5_isSound k u_64) (dt_X5_isSound u_64) (fun r_65 => (dt_p (dt_r _) (dt_b1 (F := fun k => wp_X4_addStep k s0 x1 (0 : Int32) (0 : Int32) (u_64.1 4)) (dt_X4_addStep s0 x1 (0 : Int32) (0 : Int32) (u_64.1 4)) (fun u_69 => (dt_r _)))))))))))))))
set_option maxHeartbeats 4000000 in
theorem dt_X4_closeTimes (s0 : Pg) (x1 : Int32) : dt (fun P : Pg → Prop => wp_X4_closeTimes (fun a0 => P a0) s0 x1) (fun P : Pg → Prop => wp_X4_closeTimes (fun a0 => P a0) s0 x1) := by
  unfold wp_X4_closeTimes
  exact (dt_b1 (F := fun k => wp_X4_hasStep k s0 x1) (dt_X4_hasStep s0 x1) (fun r_1 => (dt_p (dt_r _) (dt_c (dt_r _)))))
set_option maxHeartbeats 4000000 in
theorem dl_X4_goesOn_L2  {O : Type} {G_post G2_post : Int32 → Pg → Tp → (O → Prop) → Prop} {G_e105 G2_e105 : Pg → Tp → Int32 → (O → Prop) → Prop} (h_post : ∀ v0 v1 v2, dt (G_post v0 v1 v2) (G2_post v0 v1 v2)) (h_e105 : ∀ v0 v1 v2, dt (G_e105 v0 v1 v2) (G2_e105 v0 v1 v2)) : ∀ (n m : Nat) (t0 : Pg) (t1 : Tp) (z2 : Int32), dt (fun P : O → Prop => wp_X4_goesOn_L2 (fun v0 v1 v2 => G_post v0 v1 v2 P) (fun v0 v1 v2 => G_e105 v0 v1 v2 P) n t0 t1 z2) (fun P : O → Prop => wp_X4_goesOn_L2 (fun v0 v1 v2 => G2_post v0 v1 v2 P) (fun v0 v1 v2 => G2_e105 v0 v1 v2 P) m t0 t1 z2) := by
  intro n
  induction n with
  | zero => exact fun _ _ _ _ => dt_F
  | succ n2 ih =>
    intro m t0 t1 z2
    have key : ∀ m9 : Nat, dt (fun P : O → Prop => wp_X4_goesOn_L2 (fun v0 v1 v2 => G_post v0 v1 v2 P) (fun v0 v1 v2 => G_e105 v0 v1 v2 P) (n2 + 1) t0 t1 z2) (fun P : O → Prop => wp_X4_goesOn_L2 (fun v0 v1 v2 => G2_post v0 v1 v2 P) (fun v0 v1 v2 => G2_e105 v0 v1 v2 P) (m9 + 1) t0 t1 z2) := by
      intro m9
      unfold wp_X4_goesOn_L2
      exact (dt_p (h_e105 t0 t1 z2) (dt_b2 (F := fun k => wp_X5_peek k t1) (dt_X5_peek t1) (fun r_2 u_3 => (dt_n (dt_n (dt_n (dt_b1 (F := fun k => wp_X5_blame k u_3 (u_3.1 1) (1 : Int32)) (dt_X5_blame u_3 (u_3.1 1) (1 : Int32)) (fun u_8 => (h_post 0 t0 u_8))) (dt_p (h_post 0 t0 u_3) (dt_b1 (F := fun k => wp_X5_blame k u_3 (u_3.1 1) (1 : Int32)) (dt_X5_blame u_3 (u_3.1 1) (1 : Int32)) (fun u_11 => (h_post 0 t0 u_11))))) (dt_p (dt_c (dt_b1 (F := fun k => wp_X4_closeTimes k ((va_up t0.1 0 ((t0.1 0) - 1)), t0.2) ((t0.2 5) (Int32.toNatClampNeg ((t0.1 0) - 1)))) (dt_X4_closeTimes ((va_up t0.1 0 ((t0.1 0) - 1)), t0.2) ((t0.2 5) (Int32.toNatClampNeg ((t0.1 0) - 1)))) (fun u_15 => (ih m9 u_15 ((va_up u_3.1 1 ((u_3.1 1) + 1)), u_3.2) (z2 + 1))))) (dt_n (dt_b1 (F := fun k => wp_X5_blame k u_3 (u_3.1 1) (1 : Int32)) (dt_X5_blame u_3 (u_3.1 1) (1 : Int32)) (fun u_18 => (h_post 0 t0 u_18))) (dt_p (h_post 0 t0 u_3) (dt_b1 (F := fun k => wp_X5_blame k u_3 (u_3.1 1) (1 : Int32)) (dt_X5_blame u_3 (u_3.1 1) (1 : Int32)) (fun u_21 => (h_post 0 t0 u_21))))))) (h_post 1 t0 ((va_up u_3.1 1 ((u_3.1 1) + 1)), u_3.2))))))
    cases m with
    | zero => exact dt_0 (key 0)
    | succ m9 => exact key m9
set_option maxHeartbeats 4000000 in
theorem dt_X4_goesOn (s0 : Pg) (s1 : Tp) : dt (fun P : (Int32 × Pg × Tp) → Prop => wp_X4_goesOn (fun a0 a1 a2 => P (a0, a1, a2)) s0 s1) (fun P : (Int32 × Pg × Tp) → Prop => wp_X4_goesOn (fun a0 a1 a2 => P (a0, a1, a2)) s0 s1) := by
  unfold wp_X4_goesOn
  exact (dt_x (fun n2 m_n2 => (dl_X4_goesOn_L2  (fun v0 v1 v2 => (dt_r _)) (fun t0 t1 z2 => (dt_r _)) n2 m_n2 s0 s1 0)))
set_option maxHeartbeats 4000000 in
theorem dl_X4_readFrom_L19 (s2 : Bd) {O : Type} {G_post G2_post : Pg → Tp → (O → Prop) → Prop} {G_e78 G2_e78 : Pg → Tp → Int32 → Int32 → (O → Prop) → Prop} (h_post : ∀ v0 v1, dt (G_post v0 v1) (G2_post v0 v1)) (h_e78 : ∀ v0 v1 v2 v3, dt (G_e78 v0 v1 v2 v3) (G2_e78 v0 v1 v2 v3)) : ∀ (n m : Nat) (t0 : Pg) (t1 : Tp) (z3 : Int32) (z4 : Int32), dt (fun P : O → Prop => wp_X4_readFrom_L19 s2 (fun v0 v1 => G_post v0 v1 P) (fun v0 v1 v2 v3 => G_e78 v0 v1 v2 v3 P) n t0 t1 z3 z4) (fun P : O → Prop => wp_X4_readFrom_L19 s2 (fun v0 v1 => G2_post v0 v1 P) (fun v0 v1 v2 v3 => G2_e78 v0 v1 v2 v3 P) m t0 t1 z3 z4) := by
  intro n
  induction n with
  | zero => exact fun _ _ _ _ _ => dt_F
  | succ n19 ih =>
    intro m t0 t1 z3 z4
    have key : ∀ m9 : Nat, dt (fun P : O → Prop => wp_X4_readFrom_L19 s2 (fun v0 v1 => G_post v0 v1 P) (fun v0 v1 v2 v3 => G_e78 v0 v1 v2 v3 P) (n19 + 1) t0 t1 z3 z4) (fun P : O → Prop => wp_X4_readFrom_L19 s2 (fun v0 v1 => G2_post v0 v1 P) (fun v0 v1 v2 v3 => G2_e78 v0 v1 v2 v3 P) (m9 + 1) t0 t1 z3 z4) := by
      intro m9
      unfold wp_X4_readFrom_L19
      exact (dt_p (h_e78 t0 t1 z3 z4) (dt_p (h_e78 t0 t1 z3 z4) (dt_b2 (F := fun k => wp_X5_takeWord k t1) (dt_X5_takeWord t1) (fun r_5 u_6 => (dt_b2 (F := fun k => wp_X4_readStep k t0 u_6 s2 r_5) (dt_X4_readStep t0 u_6 s2 r_5) (fun u_8a u_8b => (dt_b1 (F := fun k => wp_X5_isSound k u_8b) (dt_X5_isSound u_8b) (fun r_9 => (dt_p (ih m9 u_8a u_8b 0 (z4 + 1)) (dt_p (ih m9 u_8a u_8b 1 (z4 + 1)) (dt_b3 (F := fun k => wp_X4_goesOn k u_8a u_8b) (dt_X4_goesOn u_8a u_8b) (fun r_13 u_14a u_14b => (dt_p (ih m9 u_14a u_14b 0 (z4 + 1)) (ih m9 u_14a u_14b 1 (z4 + 1)))))))))))))))
    cases m with
    | zero => exact dt_0 (key 0)
    | succ m9 => exact key m9
set_option maxHeartbeats 4000000 in
theorem dt_X4_readFrom (s0 : Pg) (s1 : Tp) (s2 : Bd) : dt (fun P : (Pg × Tp) → Prop => wp_X4_readFrom (fun a0 a1 => P (a0, a1)) s0 s1 s2) (fun P : (Pg × Tp) → Prop => wp_X4_readFrom (fun a0 a1 => P (a0, a1)) s0 s1 s2) := by
  unfold wp_X4_readFrom
  exact (dt_b1 (F := fun k => wp_X5_startReading k s1) (dt_X5_startReading s1) (fun u_2 => (dt_x (fun n19 m_n19 => (dl_X4_readFrom_L19 s2 (fun v0 v1 => (dt_r _)) (fun t0 t1 z3 z4 => (dt_r _)) n19 m_n19 ((va_up (va_up s0.1 0 0) 1 0), s0.2) u_2 1 0)))))
set_option maxHeartbeats 4000000 in
theorem dl_X5_addNumber_L3  {O : Type} {G_post G2_post : Tp → (O → Prop) → Prop} {G_e49 G2_e49 : Tp → Int32 → Int32 → (O → Prop) → Prop} (h_post : ∀ v0, dt (G_post v0) (G2_post v0)) (h_e49 : ∀ v0 v1 v2, dt (G_e49 v0 v1 v2) (G2_e49 v0 v1 v2)) : ∀ (n m : Nat) (t0 : Tp) (z1 : Int32) (z2 : Int32), dt (fun P : O → Prop => wp_X5_addNumber_L3 (fun v0 => G_post v0 P) (fun v0 v1 v2 => G_e49 v0 v1 v2 P) n t0 z1 z2) (fun P : O → Prop => wp_X5_addNumber_L3 (fun v0 => G2_post v0 P) (fun v0 v1 v2 => G2_e49 v0 v1 v2 P) m t0 z1 z2) := by
  intro n
  induction n with
  | zero => exact fun _ _ _ _ => dt_F
  | succ n3 ih =>
    intro m t0 z1 z2
    have key : ∀ m9 : Nat, dt (fun P : O → Prop => wp_X5_addNumber_L3 (fun v0 => G_post v0 P) (fun v0 v1 v2 => G_e49 v0 v1 v2 P) (n3 + 1) t0 z1 z2) (fun P : O → Prop => wp_X5_addNumber_L3 (fun v0 => G2_post v0 P) (fun v0 v1 v2 => G2_e49 v0 v1 v2 P) (m9 + 1) t0 z1 z2) := by
      intro m9
      unfold wp_X5_addNumber_L3
      exact (dt_p (h_e49 t0 z1 z2) (dt_p (ih m9 t0 z1 (z2 + (-8))) (dt_c (ih m9 ((va_up t0.1 0 ((t0.1 0) + 1)), (upd t0.2 (Int32.toNatClampNeg (t0.1 0)) ((z1 >>> (z2 &&& 31)) &&& 255))) z1 (z2 + (-8))))))
    cases m with
    | zero => exact dt_0 (key 0)
    | succ m9 => exact key m9
set_option maxHeartbeats 4000000 in
theorem dt_X5_addNumber (s0 : Tp) (x1 : Int32) : dt (fun P : Tp → Prop => wp_X5_addNumber (fun a0 => P a0) s0 x1) (fun P : Tp → Prop => wp_X5_addNumber (fun a0 => P a0) s0 x1) := by
  unfold wp_X5_addNumber
  exact (dt_x (fun n3 m_n3 => (dl_X5_addNumber_L3  (fun v0 => (dt_r _)) (fun t0 z1 z2 => (dt_r _)) n3 m_n3 s0 x1 24)))
set_option maxHeartbeats 4000000 in
theorem dt_X6_feed (s1 : Tp) (x1 : Int32) (x2 : Int32) (x3 : Int32) (x4 : Int32) (x5 : Int32) : dt (fun P : (Int32 × Tp) → Prop => wp_X6_feed (fun a0 a1 => P (a0, a1)) s1 x1 x2 x3 x4 x5) (fun P : (Int32 × Tp) → Prop => wp_X6_feed (fun a0 a1 => P (a0, a1)) s1 x1 x2 x3 x4 x5) := by
  unfold wp_X6_feed
  exact (dt_p (dt_b1 (F := fun k => wp_X5_addNumber k s1 x1) (dt_X5_addNumber s1 x1) (fun u_3 => (dt_b1 (F := fun k => wp_X5_addNumber k u_3 x2) (dt_X5_addNumber u_3 x2) (fun u_5 => (dt_b1 (F := fun k => wp_X5_addNumber k u_5 x3) (dt_X5_addNumber u_5 x3) (fun u_7 => (dt_b1 (F := fun k => wp_X5_addNumber k u_7 x4) (dt_X5_addNumber u_7 x4) (fun u_9 => (dt_b1 (F := fun k => wp_X5_addNumber k u_9 x5) (dt_X5_addNumber u_9 x5) (fun u_11 => (dt_r _))))))))))) (dt_r _))
set_option maxHeartbeats 4000000 in
theorem dt_X6_end (s1 : Tp) (x1 : Int32) : dt (fun P : (Int32 × Tp) → Prop => wp_X6_end (fun a0 a1 => P (a0, a1)) s1 x1) (fun P : (Int32 × Tp) → Prop => wp_X6_end (fun a0 a1 => P (a0, a1)) s1 x1) := by
  unfold wp_X6_end
  exact (dt_p (dt_r _) (dt_p (dt_r _) (dt_r _)))
set_option maxHeartbeats 4000000 in
theorem dl_X6_isRowText_L15 (s1 : Tp) (s2 : Bd) {O : Type} {G_post G2_post : Int32 → (O → Prop) → Prop} {G_e44 G2_e44 : Int32 → Int32 → Int32 → (O → Prop) → Prop} (h_post : ∀ v0, dt (G_post v0) (G2_post v0)) (h_e44 : ∀ v0 v1 v2, dt (G_e44 v0 v1 v2) (G2_e44 v0 v1 v2)) : ∀ (n m : Nat) (z1 : Int32) (z2 : Int32) (z3 : Int32), dt (fun P : O → Prop => wp_X6_isRowText_L15 s1 s2 (fun v0 => G_post v0 P) (fun v0 v1 v2 => G_e44 v0 v1 v2 P) n z1 z2 z3) (fun P : O → Prop => wp_X6_isRowText_L15 s1 s2 (fun v0 => G2_post v0 P) (fun v0 v1 v2 => G2_e44 v0 v1 v2 P) m z1 z2 z3) := by
  intro n
  induction n with
  | zero => exact fun _ _ _ _ => dt_F
  | succ n15 ih =>
    intro m z1 z2 z3
    have key : ∀ m9 : Nat, dt (fun P : O → Prop => wp_X6_isRowText_L15 s1 s2 (fun v0 => G_post v0 P) (fun v0 v1 v2 => G_e44 v0 v1 v2 P) (n15 + 1) z1 z2 z3) (fun P : O → Prop => wp_X6_isRowText_L15 s1 s2 (fun v0 => G2_post v0 P) (fun v0 v1 v2 => G2_e44 v0 v1 v2 P) (m9 + 1) z1 z2 z3) := by
      intro m9
      unfold wp_X6_isRowText_L15
      exact (dt_p (h_e44 z1 z2 z3) (dt_b1 (F := fun k => wp_X5_byteAt k s1 (z1 + z3)) (dt_X5_byteAt s1 (z1 + z3)) (fun r_3 => (dt_b1 (F := fun k => wp_X6_isSign k r_3) (dt_X6_isSign r_3) (fun r_5 => (dt_n (ih m9 z1 z2 (z3 + 1)) (h_post 0)))))))
    cases m with
    | zero => exact dt_0 (key 0)
    | succ m9 => exact key m9
set_option maxHeartbeats 4000000 in
theorem dt_X6_isRowText (s1 : Tp) (s2 : Bd) (x1 : Int32) (x2 : Int32) : dt (fun P : Int32 → Prop => wp_X6_isRowText (fun a0 => P a0) s1 s2 x1 x2) (fun P : Int32 → Prop => wp_X6_isRowText (fun a0 => P a0) s1 s2 x1 x2) := by
  unfold wp_X6_isRowText
  exact (dt_p (dt_x (fun n15 m_n15 => (dl_X6_isRowText_L15 s1 s2 (fun v0 => (dt_r _)) (fun z1 z2 z3 => (dt_r _)) n15 m_n15 x1 x2 0))) (dt_r _))
set_option maxHeartbeats 4000000 in
theorem dt_X6_whyNotRow (s1 : Tp) (s2 : Bd) (x1 : Int32) : dt (fun P : Int32 → Prop => wp_X6_whyNotRow (fun a0 => P a0) s1 s2 x1) (fun P : Int32 → Prop => wp_X6_whyNotRow (fun a0 => P a0) s1 s2 x1) := by
  unfold wp_X6_whyNotRow
  exact (dt_b1 (F := fun k => wp_X0_hasRow k s2 x1) (dt_X0_hasRow s2 x1) (fun r_1 => (dt_n (dt_b1 (F := fun k => wp_X6_isRowText k s1 s2 (0 : Int32) (s1.1 0)) (dt_X6_isRowText s1 s2 (0 : Int32) (s1.1 0)) (fun r_4 => (dt_p (dt_r _) (dt_r _)))) (dt_r _))))
set_option maxHeartbeats 4000000 in
theorem dt_X6_whyNotProgram (s1 : Tp) (s2 : Bd) (s5 : Pg) : dt (fun P : (Int32 × Tp × Pg) → Prop => wp_X6_whyNotProgram (fun a0 a1 a2 => P (a0, a1, a2)) s1 s2 s5) (fun P : (Int32 × Tp × Pg) → Prop => wp_X6_whyNotProgram (fun a0 a1 a2 => P (a0, a1, a2)) s1 s2 s5) := by
  unfold wp_X6_whyNotProgram
  exact (dt_b1 (F := fun k => wp_X0_isThere k s2) (dt_X0_isThere s2) (fun r_1 => (dt_n (dt_b2 (F := fun k => wp_X4_readFrom k s5 s1 s2) (dt_X4_readFrom s5 s1 s2) (fun u_5a u_5b => (dt_b1 (F := fun k => wp_X5_isSound k u_5b) (dt_X5_isSound u_5b) (fun r_6 => (dt_p (dt_r _) (dt_r _)))))) (dt_r _))))
set_option maxHeartbeats 4000000 in
theorem dt_X6_doStep (s1 : Tp) (s2 : Bd) (s4 : Mo) (s5 : Pg) (x1 : Int32) : dt (fun P : (Bd × Mo) → Prop => wp_X6_doStep (fun a0 a1 => P (a0, a1)) s1 s2 s4 s5 x1) (fun P : (Bd × Mo) → Prop => wp_X6_doStep (fun a0 a1 => P (a0, a1)) s1 s2 s4 s5 x1) := by
  unfold wp_X6_doStep
  exact (dt_b1 (F := fun k => wp_X4_oneOf k s5 x1) (dt_X4_oneOf s5 x1) (fun r_1 => (dt_b1 (F := fun k => wp_X4_twoOf k s5 x1) (dt_X4_twoOf s5 x1) (fun r_3 => (dt_b1 (F := fun k => wp_X4_kindOf k s5 x1) (dt_X4_kindOf s5 x1) (fun r_5 => (dt_p (dt_b1 (F := fun k => wp_X4_quotedOf k s5 x1) (dt_X4_quotedOf s5 x1) (fun r_8 => (dt_b2 (F := fun k => wp_X0_wantSigns k s2 s1 r_1 r_3 r_8) (dt_X0_wantSigns s2 s1 r_1 r_3 r_8) (fun r_10 u_11 => (dt_r _))))) (dt_p (dt_b1 (F := fun k => wp_X0_setLost k s2 r_1 r_3) (dt_X0_setLost s2 r_1 r_3) (fun u_14 => (dt_r _))) (dt_p (dt_b1 (F := fun k => wp_X4_quotedOf k s5 x1) (dt_X4_quotedOf s5 x1) (fun r_16 => (dt_b2 (F := fun k => wp_X0_scrollUp k s2 s1 r_3 r_16) (dt_X0_scrollUp s2 s1 r_3 r_16) (fun r_18 u_19 => (dt_r _))))) (dt_p (dt_b1 (F := fun k => wp_X0_wantHome k s2 r_1) (dt_X0_wantHome s2 r_1) (fun u_22 => (dt_r _))) (dt_p (dt_b2 (F := fun k => wp_X2_turn k s4 s2 r_1) (dt_X2_turn s4 s2 r_1) (fun u_25a u_25b => (dt_r _))) (dt_p (dt_b2 (F := fun k => wp_X2_turn k s4 s2 (9999 : Int32)) (dt_X2_turn s4 s2 (9999 : Int32)) (fun u_28a u_28b => (dt_r _))) (dt_r _)))))))))))))
set_option maxHeartbeats 4000000 in
theorem dl_X6_doProgram_L9 (s1 : Tp) {O : Type} {G_post G2_post : Int32 → Bd → Mo → Pg → (O → Prop) → Prop} {G_e59 G2_e59 : Bd → Mo → Pg → Int32 → (O → Prop) → Prop} (h_post : ∀ v0 v1 v2 v3, dt (G_post v0 v1 v2 v3) (G2_post v0 v1 v2 v3)) (h_e59 : ∀ v0 v1 v2 v3, dt (G_e59 v0 v1 v2 v3) (G2_e59 v0 v1 v2 v3)) : ∀ (n m : Nat) (t2 : Bd) (t3 : Mo) (t4 : Pg) (z1 : Int32), dt (fun P : O → Prop => wp_X6_doProgram_L9 s1 (fun v0 v1 v2 v3 => G_post v0 v1 v2 v3 P) (fun v0 v1 v2 v3 => G_e59 v0 v1 v2 v3 P) n t2 t3 t4 z1) (fun P : O → Prop => wp_X6_doProgram_L9 s1 (fun v0 v1 v2 v3 => G2_post v0 v1 v2 v3 P) (fun v0 v1 v2 v3 => G2_e59 v0 v1 v2 v3 P) m t2 t3 t4 z1) := by
  intro n
  induction n with
  | zero => exact fun _ _ _ _ _ => dt_F
  | succ n9 ih =>
    intro m t2 t3 t4 z1
    have key : ∀ m9 : Nat, dt (fun P : O → Prop => wp_X6_doProgram_L9 s1 (fun v0 v1 v2 v3 => G_post v0 v1 v2 v3 P) (fun v0 v1 v2 v3 => G_e59 v0 v1 v2 v3 P) (n9 + 1) t2 t3 t4 z1) (fun P : O → Prop => wp_X6_doProgram_L9 s1 (fun v0 v1 v2 v3 => G2_post v0 v1 v2 v3 P) (fun v0 v1 v2 v3 => G2_e59 v0 v1 v2 v3 P) (m9 + 1) t2 t3 t4 z1) := by
      intro m9
      unfold wp_X6_doProgram_L9
      exact (dt_p (h_e59 t2 t3 t4 z1) (dt_b1 (F := fun k => wp_X4_hasStep k t4 (t4.1 2)) (dt_X4_hasStep t4 (t4.1 2)) (fun r_4 => (dt_n (dt_b2 (F := fun k => wp_X6_doStep k s1 t2 t3 t4 (t4.1 2)) (dt_X6_doStep s1 t2 t3 t4 (t4.1 2)) (fun u_8a u_8b => (dt_b1 (F := fun k => wp_X4_goOn k t4) (dt_X4_goOn t4) (fun u_10 => (ih m9 u_8a u_8b u_10 (z1 + 1)))))) (h_post z1 t2 t3 t4)))))
    cases m with
    | zero => exact dt_0 (key 0)
    | succ m9 => exact key m9
set_option maxHeartbeats 4000000 in
theorem dt_X6_doProgram (s1 : Tp) (s2 : Bd) (s4 : Mo) (s5 : Pg) : dt (fun P : (Int32 × Bd × Mo × Pg) → Prop => wp_X6_doProgram (fun a0 a1 a2 a3 => P (a0, a1, a2, a3)) s1 s2 s4 s5) (fun P : (Int32 × Bd × Mo × Pg) → Prop => wp_X6_doProgram (fun a0 a1 a2 a3 => P (a0, a1, a2, a3)) s1 s2 s4 s5) := by
  unfold wp_X6_doProgram
  exact (dt_b1 (F := fun k => wp_X4_startDoing k s5) (dt_X4_startDoing s5) (fun u_2 => (dt_x (fun n9 m_n9 => (dl_X6_doProgram_L9 s1 (fun v0 v1 v2 v3 => (dt_r _)) (fun t2 t3 t4 z1 => (dt_r _)) n9 m_n9 s2 s4 u_2 0)))))
set_option maxHeartbeats 4000000 in
theorem dt_X6_isShelf (x0 : Int32) : dt (fun P : Int32 → Prop => wp_X6_isShelf (fun a0 => P a0) x0) (fun P : Int32 → Prop => wp_X6_isShelf (fun a0 => P a0) x0) := by
  unfold wp_X6_isShelf
  exact (dt_p (dt_r _) (dt_p (dt_r _) (dt_r _)))
set_option maxHeartbeats 4000000 in
theorem dt_X6_cell (s2 : Bd) (x1 : Int32) (x2 : Int32) : dt (fun P : Int32 → Prop => wp_X6_cell (fun a0 => P a0) s2 x1 x2) (fun P : Int32 → Prop => wp_X6_cell (fun a0 => P a0) s2 x1 x2) := by
  unfold wp_X6_cell
  exact (dt_b1 (F := fun k => wp_X0_hasCell k s2 x1) (dt_X0_hasCell s2 x1) (fun r_1 => (dt_n (dt_p (dt_c (dt_r _)) (dt_p (dt_c (dt_r _)) (dt_p (dt_c (dt_r _)) (dt_p (dt_c (dt_r _)) (dt_p (dt_b1 (F := fun k => wp_X0_leftOf k s2 x1) (dt_X0_leftOf s2 x1) (fun r_13 => (dt_r _))) (dt_p (dt_c (dt_r _)) (dt_p (dt_c (dt_r _)) (dt_p (dt_c (dt_r _)) (dt_p (dt_b1 (F := fun k => wp_X0_wornCount k s2 x1) (dt_X0_wornCount s2 x1) (fun r_22 => (dt_r _))) (dt_r _)))))))))) (dt_r _))))
set_option maxHeartbeats 4000000 in
theorem dt_X6_worn (s2 : Bd) (x1 : Int32) : dt (fun P : Int64 → Prop => wp_X6_worn (fun a0 => P a0) s2 x1) (fun P : Int64 → Prop => wp_X6_worn (fun a0 => P a0) s2 x1) := by
  unfold wp_X6_worn
  exact (dt_b1 (F := fun k => wp_X0_hasCell k s2 x1) (dt_X0_hasCell s2 x1) (fun r_1 => (dt_p (dt_r _) (dt_c (dt_r _)))))
set_option maxHeartbeats 4000000 in
theorem dt_X6_drum (s2 : Bd) (x1 : Int32) (x2 : Int32) : dt (fun P : Int32 → Prop => wp_X6_drum (fun a0 => P a0) s2 x1 x2) (fun P : Int32 → Prop => wp_X6_drum (fun a0 => P a0) s2 x1 x2) := by
  unfold wp_X6_drum
  exact (dt_b1 (F := fun k => wp_X0_hasDrum k s2 x1) (dt_X0_hasDrum s2 x1) (fun r_1 => (dt_n (dt_p (dt_c (dt_r _)) (dt_p (dt_b1 (F := fun k => wp_X0_flapsOn k s2 x1) (dt_X0_flapsOn s2 x1) (fun r_7 => (dt_r _))) (dt_p (dt_b1 (F := fun k => wp_X0_cellsWith k s2 x1) (dt_X0_cellsWith s2 x1) (fun r_10 => (dt_r _))) (dt_p (dt_b1 (F := fun k => wp_X0_unlikeSigns k s2 x1) (dt_X0_unlikeSigns s2 x1) (fun r_13 => (dt_r _))) (dt_p (dt_b1 (F := fun k => wp_X0_mostOfOneSign k s2 x1) (dt_X0_mostOfOneSign s2 x1) (fun r_16 => (dt_r _))) (dt_r _)))))) (dt_r _))))
set_option maxHeartbeats 4000000 in
theorem dt_X6_sign (s2 : Bd) (x1 : Int32) (x2 : Int32) : dt (fun P : Int32 → Prop => wp_X6_sign (fun a0 => P a0) s2 x1 x2) (fun P : Int32 → Prop => wp_X6_sign (fun a0 => P a0) s2 x1 x2) := by
  unfold wp_X6_sign
  exact (dt_b1 (F := fun k => wp_X0_signOf k s2 x1 x2) (dt_X0_signOf s2 x1 x2) (fun r_1 => (dt_r _)))
set_option maxHeartbeats 4000000 in
theorem dt_X6_at (s2 : Bd) (x1 : Int32) (x2 : Int32) (x3 : Int32) : dt (fun P : Int32 → Prop => wp_X6_at (fun a0 => P a0) s2 x1 x2 x3) (fun P : Int32 → Prop => wp_X6_at (fun a0 => P a0) s2 x1 x2 x3) := by
  unfold wp_X6_at
  exact (dt_b1 (F := fun k => wp_X0_hasRow k s2 x1) (dt_X0_hasRow s2 x1) (fun r_1 => (dt_p (dt_r _) (dt_p (dt_r _) (dt_p (dt_p (dt_c (dt_b1 (F := fun k => wp_X0_signOn k s2 ((x1 * (s2.1 1)) + x2) ((s2.2.1 4) (Int32.toNatClampNeg ((x1 * (s2.1 1)) + x2)))) (dt_X0_signOn s2 ((x1 * (s2.1 1)) + x2) ((s2.2.1 4) (Int32.toNatClampNeg ((x1 * (s2.1 1)) + x2)))) (fun r_8 => (dt_r _)))) (dt_p (dt_c (dt_b1 (F := fun k => wp_X0_signOn k s2 ((x1 * (s2.1 1)) + x2) ((s2.2.1 5) (Int32.toNatClampNeg ((x1 * (s2.1 1)) + x2)))) (dt_X0_signOn s2 ((x1 * (s2.1 1)) + x2) ((s2.2.1 5) (Int32.toNatClampNeg ((x1 * (s2.1 1)) + x2)))) (fun r_12 => (dt_r _)))) (dt_p (dt_c (dt_b1 (F := fun k => wp_X0_signOn k s2 ((x1 * (s2.1 1)) + x2) ((s2.2.1 6) (Int32.toNatClampNeg ((x1 * (s2.1 1)) + x2)))) (dt_X0_signOn s2 ((x1 * (s2.1 1)) + x2) ((s2.2.1 6) (Int32.toNatClampNeg ((x1 * (s2.1 1)) + x2)))) (fun r_16 => (dt_r _)))) (dt_r _)))) (dt_r _))))))
set_option maxHeartbeats 4000000 in
theorem dt_X6_isSuch (s2 : Bd) (x1 : Int32) (x2 : Int32) : dt (fun P : Int32 → Prop => wp_X6_isSuch (fun a0 => P a0) s2 x1 x2) (fun P : Int32 → Prop => wp_X6_isSuch (fun a0 => P a0) s2 x1 x2) := by
  unfold wp_X6_isSuch
  exact (dt_p (dt_b1 (F := fun k => wp_X0_leftOf k s2 x1) (dt_X0_leftOf s2 x1) (fun r_2 => (dt_p (dt_r _) (dt_r _)))) (dt_p (dt_c (dt_c (dt_p (dt_r _) (dt_r _)))) (dt_p (dt_b1 (F := fun k => wp_X0_showsWrong k s2 x1) (dt_X0_showsWrong s2 x1) (fun r_10 => (dt_c (dt_r _)))) (dt_p (dt_r _) (dt_p (dt_b1 (F := fun k => wp_X0_currentOf k s2 x1) (dt_X0_currentOf s2 x1) (fun r_15 => (dt_p (dt_r _) (dt_r _)))) (dt_r _))))))
set_option maxHeartbeats 4000000 in
theorem dl_X6_which_L52 (s2 : Bd) {O : Type} {G_post G2_post : Int64 → Mo → (O → Prop) → Prop} {G_e87 G2_e87 : Mo → Int32 → Int64 → Int32 → (O → Prop) → Prop} (h_post : ∀ v0 v1, dt (G_post v0 v1) (G2_post v0 v1)) (h_e87 : ∀ v0 v1 v2 v3, dt (G_e87 v0 v1 v2 v3) (G2_e87 v0 v1 v2 v3)) : ∀ (n m : Nat) (t2 : Mo) (z1 : Int32) (w2 : Int64) (z4 : Int32), dt (fun P : O → Prop => wp_X6_which_L52 s2 (fun v0 v1 => G_post v0 v1 P) (fun v0 v1 v2 v3 => G_e87 v0 v1 v2 v3 P) n t2 z1 w2 z4) (fun P : O → Prop => wp_X6_which_L52 s2 (fun v0 v1 => G2_post v0 v1 P) (fun v0 v1 v2 v3 => G2_e87 v0 v1 v2 v3 P) m t2 z1 w2 z4) := by
  intro n
  induction n with
  | zero => exact fun _ _ _ _ _ => dt_F
  | succ n52 ih =>
    intro m t2 z1 w2 z4
    have key : ∀ m9 : Nat, dt (fun P : O → Prop => wp_X6_which_L52 s2 (fun v0 v1 => G_post v0 v1 P) (fun v0 v1 v2 v3 => G_e87 v0 v1 v2 v3 P) (n52 + 1) t2 z1 w2 z4) (fun P : O → Prop => wp_X6_which_L52 s2 (fun v0 v1 => G2_post v0 v1 P) (fun v0 v1 v2 v3 => G2_e87 v0 v1 v2 v3 P) (m9 + 1) t2 z1 w2 z4) := by
      intro m9
      unfold wp_X6_which_L52
      exact (dt_b1 (F := fun k => wp_X0_cells k s2) (dt_X0_cells s2) (fun r_7 => (dt_p (h_e87 t2 z1 w2 z4) (dt_b1 (F := fun k => wp_X6_isSuch k s2 z4 z1) (dt_X6_isSuch s2 z4 z1) (fun r_10 => (dt_p (ih m9 t2 z1 w2 (z4 + 1)) (ih m9 t2 z1 (w2 ||| ((1 : Int64) <<< ((Int32.toInt64 z4) &&& 63))) (z4 + 1))))))))
    cases m with
    | zero => exact dt_0 (key 0)
    | succ m9 => exact key m9
set_option maxHeartbeats 4000000 in
theorem dt_X6_which (s2 : Bd) (s4 : Mo) (x1 : Int32) : dt (fun P : (Int64 × Mo) → Prop => wp_X6_which (fun a0 a1 => P (a0, a1)) s2 s4 x1) (fun P : (Int64 × Mo) → Prop => wp_X6_which (fun a0 a1 => P (a0, a1)) s2 s4 x1) := by
  unfold wp_X6_which
  exact (dt_b1 (F := fun k => wp_X0_isThere k s2) (dt_X0_isThere s2) (fun r_1 => (dt_p (dt_r _) (dt_p (dt_r _) (dt_p (dt_n (dt_x (fun n52 m_n52 => (dl_X6_which_L52 s2 (fun v0 v1 => (dt_r _)) (fun t2 z1 w2 z4 => (dt_r _)) n52 m_n52 s4 x1 0 0))) (dt_b1 (F := fun k => wp_X2_choose k s4 s2) (dt_X2_choose s4 s2) (fun u_14 => (dt_b1 (F := fun k => wp_X2_chosenBits k u_14) (dt_X2_chosenBits u_14) (fun r_15 => (dt_r _)))))) (dt_r _))))))
set_option maxHeartbeats 4000000 in
theorem dt_X6_leastTicks (s2 : Bd) : dt (fun P : Int32 → Prop => wp_X6_leastTicks (fun a0 => P a0) s2) (fun P : Int32 → Prop => wp_X6_leastTicks (fun a0 => P a0) s2) := by
  unfold wp_X6_leastTicks
  exact (dt_b1 (F := fun k => wp_X0_leftOfAll k s2 (1 : Int32)) (dt_X0_leftOfAll s2 (1 : Int32)) (fun r_1 => (dt_c (dt_b1 (F := fun k => wp_X0_mostLeft k s2) (dt_X0_mostLeft s2) (fun r_4 => (dt_r _))))))
set_option maxHeartbeats 4000000 in
theorem dt_X6_left (s2 : Bd) (x1 : Int32) : dt (fun P : Int32 → Prop => wp_X6_left (fun a0 => P a0) s2 x1) (fun P : Int32 → Prop => wp_X6_left (fun a0 => P a0) s2 x1) := by
  unfold wp_X6_left
  exact (dt_b1 (F := fun k => wp_X0_isThere k s2) (dt_X0_isThere s2) (fun r_1 => (dt_n (dt_p (dt_b1 (F := fun k => wp_X0_leftOfAll k s2 (0 : Int32)) (dt_X0_leftOfAll s2 (0 : Int32)) (fun r_5 => (dt_r _))) (dt_p (dt_b1 (F := fun k => wp_X0_mostLeft k s2) (dt_X0_mostLeft s2) (fun r_8 => (dt_r _))) (dt_p (dt_b1 (F := fun k => wp_X0_leftOfAll k s2 (1 : Int32)) (dt_X0_leftOfAll s2 (1 : Int32)) (fun r_11 => (dt_r _))) (dt_p (dt_b1 (F := fun k => wp_X6_leastTicks k s2) (dt_X6_leastTicks s2) (fun r_14 => (dt_r _))) (dt_r _))))) (dt_r _))))
