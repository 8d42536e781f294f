set_option maxHeartbeats 4000000 in
theorem dt_J0_coder_7d493 (i0 : Nat) : dt (fun P : Int32 → Prop => wp_J0_coder_7d493 (fun a0 => P a0) i0) (fun P : Int32 → Prop => wp_J0_coder_7d493 (fun a0 => P a0) i0) := by
  unfold wp_J0_coder_7d493
  exact (dt_r _)
set_option maxHeartbeats 4000000 in
theorem dt_J0_length_8abf5 (i0 : Nat) : dt (fun P : Int32 → Prop => wp_J0_length_8abf5 (fun a0 => P a0) i0) (fun P : Int32 → Prop => wp_J0_length_8abf5 (fun a0 => P a0) i0) := by
  unfold wp_J0_length_8abf5
  exact (dt_b1 (F := fun k => wp_J0_coder_7d493 k i0) (dt_J0_coder_7d493 i0) (fun r_1 => (dt_r _)))
set_option maxHeartbeats 4000000 in
theorem dt_J0_isLatin1_aae02 (i0 : Nat) : dt (fun P : Int32 → Prop => wp_J0_isLatin1_aae02 (fun a0 => P a0) i0) (fun P : Int32 → Prop => wp_J0_isLatin1_aae02 (fun a0 => P a0) i0) := by
  unfold wp_J0_isLatin1_aae02
  exact (dt_r _)
set_option maxHeartbeats 4000000 in
theorem dt_J3_checkIndex_8e157_n (x0 : Int32) (x1 : Int32) : dt (fun P : Int32 → Prop => wp_J3_checkIndex_8e157_n (fun a0 => P a0) x0 x1) (fun P : Int32 → Prop => wp_J3_checkIndex_8e157_n (fun a0 => P a0) x0 x1) := by
  unfold wp_J3_checkIndex_8e157_n
  exact (dt_p dt_F (dt_p (dt_r _) dt_F))
set_option maxHeartbeats 4000000 in
theorem dt_J0_checkIndex_df160 (x0 : Int32) (x1 : Int32) : dt (fun P : Unit → Prop => wp_J0_checkIndex_df160 (P ()) x0 x1) (fun P : Unit → Prop => wp_J0_checkIndex_df160 (P ()) x0 x1) := by
  unfold wp_J0_checkIndex_df160
  exact (dt_b1 (F := fun k => wp_J3_checkIndex_8e157_n k x0 x1) (dt_J3_checkIndex_8e157_n x0 x1) (fun r_3 => (dt_r _)))
set_option maxHeartbeats 4000000 in
theorem dt_J1_charAt_3b067 (i0 : Nat) (x1 : Int32) : dt (fun P : Int32 → Prop => wp_J1_charAt_3b067 (fun a0 => P a0) i0 x1) (fun P : Int32 → Prop => wp_J1_charAt_3b067 (fun a0 => P a0) i0 x1) := by
  unfold wp_J1_charAt_3b067
  exact (dt_b0 (F := fun k => wp_J0_checkIndex_df160 k x1 (Int32.ofNat (st_len.getD i0 0))) (dt_J0_checkIndex_df160 x1 (Int32.ofNat (st_len.getD i0 0))) (dt_c (dt_c (dt_r _))))
set_option maxHeartbeats 4000000 in
theorem dt_J0_charAt_5068e (i0 : Nat) (x1 : Int32) : dt (fun P : Int32 → Prop => wp_J0_charAt_5068e (fun a0 => P a0) i0 x1) (fun P : Int32 → Prop => wp_J0_charAt_5068e (fun a0 => P a0) i0 x1) := by
  unfold wp_J0_charAt_5068e
  exact (dt_b1 (F := fun k => wp_J0_isLatin1_aae02 k i0) (dt_J0_isLatin1_aae02 i0) (fun r_1 => (dt_p dt_F (dt_b1 (F := fun k => wp_J1_charAt_3b067 k i0 x1) (dt_J1_charAt_3b067 i0 x1) (fun r_4 => (dt_c (dt_r _)))))))
set_option maxHeartbeats 4000000 in
theorem dt_X0_makeCell (s0 : Bd) (x1 : Int32) (x2 : Int32) : dt (fun P : Bd → Prop => wp_X0_makeCell (fun a0 => P a0) s0 x1 x2) (fun P : Bd → Prop => wp_X0_makeCell (fun a0 => P a0) s0 x1 x2) := by
  unfold wp_X0_makeCell
  exact (dt_c (dt_c (dt_c (dt_c (dt_c (dt_c (dt_c (dt_c (dt_r _)))))))))
set_option maxHeartbeats 4000000 in
theorem dl_X0_clear_L32  {O : Type} {G_post G2_post : Bd → (O → Prop) → Prop} {G_e50 G2_e50 : Bd → Int32 → (O → Prop) → Prop} (h_post : ∀ v0, dt (G_post v0) (G2_post v0)) (h_e50 : ∀ v0 v1, dt (G_e50 v0 v1) (G2_e50 v0 v1)) : ∀ (n m : Nat) (t0 : Bd) (z1 : Int32), dt (fun P : O → Prop => wp_X0_clear_L32 (fun v0 => G_post v0 P) (fun v0 v1 => G_e50 v0 v1 P) n t0 z1) (fun P : O → Prop => wp_X0_clear_L32 (fun v0 => G2_post v0 P) (fun v0 v1 => G2_e50 v0 v1 P) m t0 z1) := by
  intro n
  induction n with
  | zero => exact fun _ _ _ => dt_F
  | succ n32 ih =>
    intro m t0 z1
    have key : ∀ m9 : Nat, dt (fun P : O → Prop => wp_X0_clear_L32 (fun v0 => G_post v0 P) (fun v0 v1 => G_e50 v0 v1 P) (n32 + 1) t0 z1) (fun P : O → Prop => wp_X0_clear_L32 (fun v0 => G2_post v0 P) (fun v0 v1 => G2_e50 v0 v1 P) (m9 + 1) t0 z1) := by
      intro m9
      unfold wp_X0_clear_L32
      exact (dt_p (h_e50 t0 z1) (dt_b1 (F := fun k => wp_X0_makeCell k t0 z1 (0 : Int32)) (dt_X0_makeCell t0 z1 (0 : Int32)) (fun u_3 => (ih m9 u_3 (z1 + 1)))))
    cases m with
    | zero => exact dt_0 (key 0)
    | succ m9 => exact key m9
set_option maxHeartbeats 4000000 in
theorem dt_X0_clear (s0 : Bd) : dt (fun P : Bd → Prop => wp_X0_clear (fun a0 => P a0) s0) (fun P : Bd → Prop => wp_X0_clear (fun a0 => P a0) s0) := by
  unfold wp_X0_clear
  exact (dt_x (fun n32 m_n32 => (dl_X0_clear_L32  (fun v0 => (dt_r _)) (fun t0 z1 => (dt_r _)) n32 m_n32 ((va_up (va_up (va_up (va_up (va_up (va_up s0.1 0 0) 1 0) 2 0) 3 0) 4 0) 5 0), s0.2.1, s0.2.2.1, s0.2.2.2.1, s0.2.2.2.2) 0)))
set_option maxHeartbeats 4000000 in
theorem dt_X0_cells (s0 : Bd) : dt (fun P : Int32 → Prop => wp_X0_cells (fun a0 => P a0) s0) (fun P : Int32 → Prop => wp_X0_cells (fun a0 => P a0) s0) := by
  unfold wp_X0_cells
  exact (dt_r _)
set_option maxHeartbeats 4000000 in
theorem dt_X0_hasCell (s0 : Bd) (x1 : Int32) : dt (fun P : Int32 → Prop => wp_X0_hasCell (fun a0 => P a0) s0 x1) (fun P : Int32 → Prop => wp_X0_hasCell (fun a0 => P a0) s0 x1) := by
  unfold wp_X0_hasCell
  exact (dt_p (dt_r _) (dt_b1 (F := fun k => wp_X0_cells k s0) (dt_X0_cells s0) (fun r_2 => (dt_p (dt_r _) (dt_r _)))))
set_option maxHeartbeats 4000000 in
theorem dt_X0_setLost (s0 : Bd) (x1 : Int32) (x2 : Int32) : dt (fun P : Bd → Prop => wp_X0_setLost (fun a0 => P a0) s0 x1 x2) (fun P : Bd → Prop => wp_X0_setLost (fun a0 => P a0) s0 x1 x2) := by
  unfold wp_X0_setLost
  exact (dt_b1 (F := fun k => wp_X0_hasCell k s0 x1) (dt_X0_hasCell s0 x1) (fun r_1 => (dt_p (dt_r _) (dt_c (dt_r _)))))
set_option maxHeartbeats 4000000 in
theorem dt_X5_byteAt (s0 : Tp) (x1 : Int32) : dt (fun P : Int32 → Prop => wp_X5_byteAt (fun a0 => P a0) s0 x1) (fun P : Int32 → Prop => wp_X5_byteAt (fun a0 => P a0) s0 x1) := by
  unfold wp_X5_byteAt
  exact (dt_p (dt_r _) (dt_p (dt_r _) (dt_c (dt_r _))))
set_option maxHeartbeats 4000000 in
theorem dl_X0_addDrum_L40 (s1 : Tp) {O : Type} {G_post G2_post : Bd → (O → Prop) → Prop} {G_e76 G2_e76 : Bd → Int32 → Int32 → Int32 → Int32 → (O → Prop) → Prop} (h_post : ∀ v0, dt (G_post v0) (G2_post v0)) (h_e76 : ∀ v0 v1 v2 v3 v4, dt (G_e76 v0 v1 v2 v3 v4) (G2_e76 v0 v1 v2 v3 v4)) : ∀ (n m : Nat) (t0 : Bd) (z1 : Int32) (z3 : Int32) (z4 : Int32) (z5 : Int32), dt (fun P : O → Prop => wp_X0_addDrum_L40 s1 (fun v0 => G_post v0 P) (fun v0 v1 v2 v3 v4 => G_e76 v0 v1 v2 v3 v4 P) n t0 z1 z3 z4 z5) (fun P : O → Prop => wp_X0_addDrum_L40 s1 (fun v0 => G2_post v0 P) (fun v0 v1 v2 v3 v4 => G2_e76 v0 v1 v2 v3 v4 P) m t0 z1 z3 z4 z5) := by
  intro n
  induction n with
  | zero => exact fun _ _ _ _ _ _ => dt_F
  | succ n40 ih =>
    intro m t0 z1 z3 z4 z5
    have key : ∀ m9 : Nat, dt (fun P : O → Prop => wp_X0_addDrum_L40 s1 (fun v0 => G_post v0 P) (fun v0 v1 v2 v3 v4 => G_e76 v0 v1 v2 v3 v4 P) (n40 + 1) t0 z1 z3 z4 z5) (fun P : O → Prop => wp_X0_addDrum_L40 s1 (fun v0 => G2_post v0 P) (fun v0 v1 v2 v3 v4 => G2_e76 v0 v1 v2 v3 v4 P) (m9 + 1) t0 z1 z3 z4 z5) := by
      intro m9
      unfold wp_X0_addDrum_L40
      exact (dt_p (h_e76 t0 z1 z3 z4 z5) (dt_b1 (F := fun k => wp_X5_byteAt k s1 (z3 + z5)) (dt_X5_byteAt s1 (z3 + z5)) (fun r_6 => (dt_c (ih m9 (t0.1, (va_up t0.2.1 2 (upd (t0.2.1 2) (Int32.toNatClampNeg (((t0.1 3) * 40) + z5)) r_6)), t0.2.2.1, t0.2.2.2.1, t0.2.2.2.2) z1 z3 z4 (z5 + 1))))))
    cases m with
    | zero => exact dt_0 (key 0)
    | succ m9 => exact key m9
set_option maxHeartbeats 4000000 in
theorem dt_X0_addDrum (s0 : Bd) (s1 : Tp) (x1 : Int32) (x3 : Int32) (x4 : Int32) : dt (fun P : Bd → Prop => wp_X0_addDrum (fun a0 => P a0) s0 s1 x1 x3 x4) (fun P : Bd → Prop => wp_X0_addDrum (fun a0 => P a0) s0 s1 x1 x3 x4) := by
  unfold wp_X0_addDrum
  exact (dt_p (dt_r _) (dt_p (dt_c (dt_c (dt_x (fun n40 m_n40 => (dl_X0_addDrum_L40 s1 (fun v0 => (dt_r _)) (fun t0 z1 z3 z4 z5 => (dt_r _)) n40 m_n40 (s0.1, (va_up (va_up s0.2.1 0 (upd (s0.2.1 0) (Int32.toNatClampNeg (s0.1 3)) x1)) 1 (upd (s0.2.1 1) (Int32.toNatClampNeg (s0.1 3)) x4)), s0.2.2.1, s0.2.2.2.1, s0.2.2.2.2) x1 x3 x4 0))))) (dt_r _)))
set_option maxHeartbeats 4000000 in
theorem dt_X0_copyAllButLog (s0 : Bd) (s1 : Bd) : dt (fun P : Bd → Prop => wp_X0_copyAllButLog (fun a0 => P a0) s0 s1) (fun P : Bd → Prop => wp_X0_copyAllButLog (fun a0 => P a0) s0 s1) := by
  unfold wp_X0_copyAllButLog
  exact (dt_b1 (F := fun k => wp_X0_cells k s1) (dt_X0_cells s1) (fun r_1 => (dt_c (dt_c (dt_c (dt_c (dt_c (dt_c (dt_c (dt_c (dt_c (dt_c (dt_c (dt_c (dt_c (dt_c (dt_c (dt_c (dt_c (dt_c (dt_c (dt_c (dt_c (dt_c (dt_c (dt_c (dt_r _)))))))))))))))))))))))))))
set_option maxHeartbeats 4000000 in
theorem dl_X0_entryStart_L4 (s0 : Bd) {O : Type} {G_post G2_post : Int32 → (O → Prop) → Prop} {G_e39 G2_e39 : Int32 → Int32 → Int32 → (O → Prop) → Prop} (h_post : ∀ v0, dt (G_post v0) (G2_post v0)) (h_e39 : ∀ v0 v1 v2, dt (G_e39 v0 v1 v2) (G2_e39 v0 v1 v2)) : ∀ (n m : Nat) (z1 : Int32) (z2 : Int32) (z3 : Int32), dt (fun P : O → Prop => wp_X0_entryStart_L4 s0 (fun v0 => G_post v0 P) (fun v0 v1 v2 => G_e39 v0 v1 v2 P) n z1 z2 z3) (fun P : O → Prop => wp_X0_entryStart_L4 s0 (fun v0 => G2_post v0 P) (fun v0 v1 v2 => G2_e39 v0 v1 v2 P) m z1 z2 z3) := by
  intro n
  induction n with
  | zero => exact fun _ _ _ _ => dt_F
  | succ n4 ih =>
    intro m z1 z2 z3
    have key : ∀ m9 : Nat, dt (fun P : O → Prop => wp_X0_entryStart_L4 s0 (fun v0 => G_post v0 P) (fun v0 v1 v2 => G_e39 v0 v1 v2 P) (n4 + 1) z1 z2 z3) (fun P : O → Prop => wp_X0_entryStart_L4 s0 (fun v0 => G2_post v0 P) (fun v0 v1 v2 => G2_e39 v0 v1 v2 P) (m9 + 1) z1 z2 z3) := by
      intro m9
      unfold wp_X0_entryStart_L4
      exact (dt_p (h_e39 z1 z2 z3) (dt_p (h_e39 z1 z2 z3) (dt_c (dt_c (ih m9 z1 (z2 + (((s0.2.1 1) (Int32.toNatClampNeg z3)) * ((s0.2.1 1) (Int32.toNatClampNeg z3)))) (z3 + 1))))))
    cases m with
    | zero => exact dt_0 (key 0)
    | succ m9 => exact key m9
set_option maxHeartbeats 4000000 in
theorem dt_X0_entryStart (s0 : Bd) (x1 : Int32) : dt (fun P : Int32 → Prop => wp_X0_entryStart (fun a0 => P a0) s0 x1) (fun P : Int32 → Prop => wp_X0_entryStart (fun a0 => P a0) s0 x1) := by
  unfold wp_X0_entryStart
  exact (dt_x (fun n4 m_n4 => (dl_X0_entryStart_L4 s0 (fun v0 => (dt_r _)) (fun z1 z2 z3 => (dt_r _)) n4 m_n4 x1 0 0)))
set_option maxHeartbeats 4000000 in
theorem dt_X0_entryCount (s0 : Bd) : dt (fun P : Int32 → Prop => wp_X0_entryCount (fun a0 => P a0) s0) (fun P : Int32 → Prop => wp_X0_entryCount (fun a0 => P a0) s0) := by
  unfold wp_X0_entryCount
  exact (dt_b1 (F := fun k => wp_X0_entryStart k s0 (s0.1 3)) (dt_X0_entryStart s0 (s0.1 3)) (fun r_1 => (dt_r _)))
set_option maxHeartbeats 4000000 in
theorem dt_X0_copyAll (s0 : Bd) (s1 : Bd) : dt (fun P : Bd → Prop => wp_X0_copyAll (fun a0 => P a0) s0 s1) (fun P : Bd → Prop => wp_X0_copyAll (fun a0 => P a0) s0 s1) := by
  unfold wp_X0_copyAll
  exact (dt_b1 (F := fun k => wp_X0_copyAllButLog k s0 s1) (dt_X0_copyAllButLog s0 s1) (fun u_2 => (dt_b1 (F := fun k => wp_X0_entryCount k s1) (dt_X0_entryCount s1) (fun r_3 => (dt_p (dt_c (dt_c (dt_c (dt_r _)))) (dt_c (dt_c (dt_c (dt_c (dt_c (dt_r _)))))))))))
set_option maxHeartbeats 4000000 in
theorem dt_X0_isThere (s0 : Bd) : dt (fun P : Int32 → Prop => wp_X0_isThere (fun a0 => P a0) s0) (fun P : Int32 → Prop => wp_X0_isThere (fun a0 => P a0) s0) := by
  unfold wp_X0_isThere
  exact (dt_p (dt_r _) (dt_r _))
set_option maxHeartbeats 4000000 in
theorem dt_X0_hasRow (s0 : Bd) (x1 : Int32) : dt (fun P : Int32 → Prop => wp_X0_hasRow (fun a0 => P a0) s0 x1) (fun P : Int32 → Prop => wp_X0_hasRow (fun a0 => P a0) s0 x1) := by
  unfold wp_X0_hasRow
  exact (dt_p (dt_r _) (dt_p (dt_r _) (dt_r _)))
set_option maxHeartbeats 4000000 in
theorem dt_X0_hasDrum (s0 : Bd) (x1 : Int32) : dt (fun P : Int32 → Prop => wp_X0_hasDrum (fun a0 => P a0) s0 x1) (fun P : Int32 → Prop => wp_X0_hasDrum (fun a0 => P a0) s0 x1) := by
  unfold wp_X0_hasDrum
  exact (dt_p (dt_r _) (dt_p (dt_r _) (dt_r _)))
set_option maxHeartbeats 4000000 in
theorem dt_X0_flapsOf (s0 : Bd) (x1 : Int32) : dt (fun P : Int32 → Prop => wp_X0_flapsOf (fun a0 => P a0) s0 x1) (fun P : Int32 → Prop => wp_X0_flapsOf (fun a0 => P a0) s0 x1) := by
  unfold wp_X0_flapsOf
  exact (dt_c (dt_p (dt_r _) (dt_p (dt_r _) (dt_c (dt_r _)))))
set_option maxHeartbeats 4000000 in
theorem dt_X0_hasFlap (s0 : Bd) (x1 : Int32) (x2 : Int32) : dt (fun P : Int32 → Prop => wp_X0_hasFlap (fun a0 => P a0) s0 x1 x2) (fun P : Int32 → Prop => wp_X0_hasFlap (fun a0 => P a0) s0 x1 x2) := by
  unfold wp_X0_hasFlap
  exact (dt_b1 (F := fun k => wp_X0_hasCell k s0 x1) (dt_X0_hasCell s0 x1) (fun r_1 => (dt_p (dt_r _) (dt_p (dt_r _) (dt_b1 (F := fun k => wp_X0_flapsOf k s0 x1) (dt_X0_flapsOf s0 x1) (fun r_5 => (dt_p (dt_r _) (dt_r _))))))))
set_option maxHeartbeats 4000000 in
theorem dt_X0_flapsOn (s0 : Bd) (x1 : Int32) : dt (fun P : Int32 → Prop => wp_X0_flapsOn (fun a0 => P a0) s0 x1) (fun P : Int32 → Prop => wp_X0_flapsOn (fun a0 => P a0) s0 x1) := by
  unfold wp_X0_flapsOn
  exact (dt_p (dt_r _) (dt_p (dt_r _) (dt_c (dt_r _))))
set_option maxHeartbeats 4000000 in
theorem dt_X0_isMovable (s0 : Bd) (x1 : Int32) (x2 : Int32) : dt (fun P : Int32 → Prop => wp_X0_isMovable (fun a0 => P a0) s0 x1 x2) (fun P : Int32 → Prop => wp_X0_isMovable (fun a0 => P a0) s0 x1 x2) := by
  unfold wp_X0_isMovable
  exact (dt_p (dt_r _) (dt_b1 (F := fun k => wp_X0_flapsOn k s0 x1) (dt_X0_flapsOn s0 x1) (fun r_2 => (dt_p (dt_r _) (dt_r _)))))
set_option maxHeartbeats 4000000 in
theorem dt_X0_currentOf (s0 : Bd) (x1 : Int32) : dt (fun P : Int32 → Prop => wp_X0_currentOf (fun a0 => P a0) s0 x1) (fun P : Int32 → Prop => wp_X0_currentOf (fun a0 => P a0) s0 x1) := by
  unfold wp_X0_currentOf
  exact (dt_c (dt_p (dt_r _) (dt_p (dt_r _) (dt_c (dt_r _)))))
set_option maxHeartbeats 4000000 in
theorem dt_X0_signOf (s0 : Bd) (x1 : Int32) (x2 : Int32) : dt (fun P : Int32 → Prop => wp_X0_signOf (fun a0 => P a0) s0 x1 x2) (fun P : Int32 → Prop => wp_X0_signOf (fun a0 => P a0) s0 x1 x2) := by
  unfold wp_X0_signOf
  exact (dt_p (dt_r _) (dt_p (dt_r _) (dt_p (dt_r _) (dt_c (dt_p (dt_c (dt_r _)) (dt_r _))))))
set_option maxHeartbeats 4000000 in
theorem dt_X0_signOn (s0 : Bd) (x1 : Int32) (x2 : Int32) : dt (fun P : Int32 → Prop => wp_X0_signOn (fun a0 => P a0) s0 x1 x2) (fun P : Int32 → Prop => wp_X0_signOn (fun a0 => P a0) s0 x1 x2) := by
  unfold wp_X0_signOn
  exact (dt_c (dt_b1 (F := fun k => wp_X0_signOf k s0 ((s0.2.1 3) (Int32.toNatClampNeg x1)) x2) (dt_X0_signOf s0 ((s0.2.1 3) (Int32.toNatClampNeg x1)) x2) (fun r_2 => (dt_r _))))
set_option maxHeartbeats 4000000 in
theorem dt_X0_wantedSign (s0 : Bd) (x1 : Int32) : dt (fun P : Int32 → Prop => wp_X0_wantedSign (fun a0 => P a0) s0 x1) (fun P : Int32 → Prop => wp_X0_wantedSign (fun a0 => P a0) s0 x1) := by
  unfold wp_X0_wantedSign
  exact (dt_c (dt_b1 (F := fun k => wp_X0_signOn k s0 x1 ((s0.2.1 6) (Int32.toNatClampNeg x1))) (dt_X0_signOn s0 x1 ((s0.2.1 6) (Int32.toNatClampNeg x1))) (fun r_2 => (dt_r _))))
set_option maxHeartbeats 4000000 in
theorem dt_X0_showsWrong (s0 : Bd) (x1 : Int32) : dt (fun P : Int32 → Prop => wp_X0_showsWrong (fun a0 => P a0) s0 x1) (fun P : Int32 → Prop => wp_X0_showsWrong (fun a0 => P a0) s0 x1) := by
  unfold wp_X0_showsWrong
  exact (dt_c (dt_b1 (F := fun k => wp_X0_signOn k s0 x1 ((s0.2.1 4) (Int32.toNatClampNeg x1))) (dt_X0_signOn s0 x1 ((s0.2.1 4) (Int32.toNatClampNeg x1))) (fun r_2 => (dt_b1 (F := fun k => wp_X0_wantedSign k s0 x1) (dt_X0_wantedSign s0 x1) (fun r_4 => (dt_p (dt_r _) (dt_r _)))))))
set_option maxHeartbeats 4000000 in
theorem dl_X0_wrongCount_L4 (s0 : Bd) {O : Type} {G_post G2_post : Int32 → (O → Prop) → Prop} {G_e29 G2_e29 : Int32 → Int32 → (O → Prop) → Prop} (h_post : ∀ v0, dt (G_post v0) (G2_post v0)) (h_e29 : ∀ v0 v1, dt (G_e29 v0 v1) (G2_e29 v0 v1)) : ∀ (n m : Nat) (z1 : Int32) (z2 : Int32), dt (fun P : O → Prop => wp_X0_wrongCount_L4 s0 (fun v0 => G_post v0 P) (fun v0 v1 => G_e29 v0 v1 P) n z1 z2) (fun P : O → Prop => wp_X0_wrongCount_L4 s0 (fun v0 => G2_post v0 P) (fun v0 v1 => G2_e29 v0 v1 P) m z1 z2) := by
  intro n
  induction n with
  | zero => exact fun _ _ _ => dt_F
  | succ n4 ih =>
    intro m z1 z2
    have key : ∀ m9 : Nat, dt (fun P : O → Prop => wp_X0_wrongCount_L4 s0 (fun v0 => G_post v0 P) (fun v0 v1 => G_e29 v0 v1 P) (n4 + 1) z1 z2) (fun P : O → Prop => wp_X0_wrongCount_L4 s0 (fun v0 => G2_post v0 P) (fun v0 v1 => G2_e29 v0 v1 P) (m9 + 1) z1 z2) := by
      intro m9
      unfold wp_X0_wrongCount_L4
      exact (dt_b1 (F := fun k => wp_X0_cells k s0) (dt_X0_cells s0) (fun r_1 => (dt_p (h_e29 z1 z2) (dt_b1 (F := fun k => wp_X0_showsWrong k s0 z2) (dt_X0_showsWrong s0 z2) (fun r_4 => (dt_p (ih m9 z1 (z2 + 1)) (ih m9 (z1 + 1) (z2 + 1))))))))
    cases m with
    | zero => exact dt_0 (key 0)
    | succ m9 => exact key m9
set_option maxHeartbeats 4000000 in
theorem dt_X0_wrongCount (s0 : Bd) : dt (fun P : Int32 → Prop => wp_X0_wrongCount (fun a0 => P a0) s0) (fun P : Int32 → Prop => wp_X0_wrongCount (fun a0 => P a0) s0) := by
  unfold wp_X0_wrongCount
  exact (dt_x (fun n4 m_n4 => (dl_X0_wrongCount_L4 s0 (fun v0 => (dt_r _)) (fun z1 z2 => (dt_r _)) n4 m_n4 0 0)))
set_option maxHeartbeats 4000000 in
theorem dl_X0_sumOf_8_L4 (s0 : Bd) {O : Type} {G_post G2_post : Int32 → (O → Prop) → Prop} {G_e30 G2_e30 : Int32 → Int32 → (O → Prop) → Prop} (h_post : ∀ v0, dt (G_post v0) (G2_post v0)) (h_e30 : ∀ v0 v1, dt (G_e30 v0 v1) (G2_e30 v0 v1)) : ∀ (n m : Nat) (z2 : Int32) (z3 : Int32), dt (fun P : O → Prop => wp_X0_sumOf_8_L4 s0 (fun v0 => G_post v0 P) (fun v0 v1 => G_e30 v0 v1 P) n z2 z3) (fun P : O → Prop => wp_X0_sumOf_8_L4 s0 (fun v0 => G2_post v0 P) (fun v0 v1 => G2_e30 v0 v1 P) m z2 z3) := by
  intro n
  induction n with
  | zero => exact fun _ _ _ => dt_F
  | succ n4 ih =>
    intro m z2 z3
    have key : ∀ m9 : Nat, dt (fun P : O → Prop => wp_X0_sumOf_8_L4 s0 (fun v0 => G_post v0 P) (fun v0 v1 => G_e30 v0 v1 P) (n4 + 1) z2 z3) (fun P : O → Prop => wp_X0_sumOf_8_L4 s0 (fun v0 => G2_post v0 P) (fun v0 v1 => G2_e30 v0 v1 P) (m9 + 1) z2 z3) := by
      intro m9
      unfold wp_X0_sumOf_8_L4
      exact (dt_b1 (F := fun k => wp_X0_cells k s0) (dt_X0_cells s0) (fun r_1 => (dt_p (h_e30 z2 z3) (dt_p (h_e30 z2 z3) (dt_c (ih m9 (z2 + ((s0.2.1 8) (Int32.toNatClampNeg z3))) (z3 + 1)))))))
    cases m with
    | zero => exact dt_0 (key 0)
    | succ m9 => exact key m9
set_option maxHeartbeats 4000000 in
theorem dt_X0_sumOf_8 (s0 : Bd) : dt (fun P : Int32 → Prop => wp_X0_sumOf_8 (fun a0 => P a0) s0) (fun P : Int32 → Prop => wp_X0_sumOf_8 (fun a0 => P a0) s0) := by
  unfold wp_X0_sumOf_8
  exact (dt_x (fun n4 m_n4 => (dl_X0_sumOf_8_L4 s0 (fun v0 => (dt_r _)) (fun z2 z3 => (dt_r _)) n4 m_n4 0 0)))
set_option maxHeartbeats 4000000 in
theorem dl_X0_sumOf_9_L4 (s0 : Bd) {O : Type} {G_post G2_post : Int32 → (O → Prop) → Prop} {G_e30 G2_e30 : Int32 → Int32 → (O → Prop) → Prop} (h_post : ∀ v0, dt (G_post v0) (G2_post v0)) (h_e30 : ∀ v0 v1, dt (G_e30 v0 v1) (G2_e30 v0 v1)) : ∀ (n m : Nat) (z2 : Int32) (z3 : Int32), dt (fun P : O → Prop => wp_X0_sumOf_9_L4 s0 (fun v0 => G_post v0 P) (fun v0 v1 => G_e30 v0 v1 P) n z2 z3) (fun P : O → Prop => wp_X0_sumOf_9_L4 s0 (fun v0 => G2_post v0 P) (fun v0 v1 => G2_e30 v0 v1 P) m z2 z3) := by
  intro n
  induction n with
  | zero => exact fun _ _ _ => dt_F
  | succ n4 ih =>
    intro m z2 z3
    have key : ∀ m9 : Nat, dt (fun P : O → Prop => wp_X0_sumOf_9_L4 s0 (fun v0 => G_post v0 P) (fun v0 v1 => G_e30 v0 v1 P) (n4 + 1) z2 z3) (fun P : O → Prop => wp_X0_sumOf_9_L4 s0 (fun v0 => G2_post v0 P) (fun v0 v1 => G2_e30 v0 v1 P) (m9 + 1) z2 z3) := by
      intro m9
      unfold wp_X0_sumOf_9_L4
      exact (dt_b1 (F := fun k => wp_X0_cells k s0) (dt_X0_cells s0) (fun r_1 => (dt_p (h_e30 z2 z3) (dt_p (h_e30 z2 z3) (dt_c (ih m9 (z2 + ((s0.2.1 9) (Int32.toNatClampNeg z3))) (z3 + 1)))))))
    cases m with
    | zero => exact dt_0 (key 0)
    | succ m9 => exact key m9
set_option maxHeartbeats 4000000 in
theorem dt_X0_sumOf_9 (s0 : Bd) : dt (fun P : Int32 → Prop => wp_X0_sumOf_9 (fun a0 => P a0) s0) (fun P : Int32 → Prop => wp_X0_sumOf_9 (fun a0 => P a0) s0) := by
  unfold wp_X0_sumOf_9
  exact (dt_x (fun n4 m_n4 => (dl_X0_sumOf_9_L4 s0 (fun v0 => (dt_r _)) (fun z2 z3 => (dt_r _)) n4 m_n4 0 0)))
set_option maxHeartbeats 4000000 in
theorem dt_X0_swapSigns (s0 : Bd) (x1 : Int32) (x2 : Int32) (x3 : Int32) : dt (fun P : Bd → Prop => wp_X0_swapSigns (fun a0 => P a0) s0 x1 x2 x3) (fun P : Bd → Prop => wp_X0_swapSigns (fun a0 => P a0) s0 x1 x2 x3) := by
  unfold wp_X0_swapSigns
  exact (dt_b1 (F := fun k => wp_X0_isMovable k s0 x1 x2) (dt_X0_isMovable s0 x1 x2) (fun r_1 => (dt_p (dt_r _) (dt_b1 (F := fun k => wp_X0_isMovable k s0 x1 x3) (dt_X0_isMovable s0 x1 x3) (fun r_4 => (dt_n (dt_c (dt_c (dt_c (dt_c (dt_r _))))) (dt_r _)))))))
set_option maxHeartbeats 4000000 in
theorem dl_X0_cellsWith_L4 (s0 : Bd) {O : Type} {G_post G2_post : Int32 → (O → Prop) → Prop} {G_e31 G2_e31 : Int32 → Int32 → Int32 → (O → Prop) → Prop} (h_post : ∀ v0, dt (G_post v0) (G2_post v0)) (h_e31 : ∀ v0 v1 v2, dt (G_e31 v0 v1 v2) (G2_e31 v0 v1 v2)) : ∀ (n m : Nat) (z1 : Int32) (z2 : Int32) (z3 : Int32), dt (fun P : O → Prop => wp_X0_cellsWith_L4 s0 (fun v0 => G_post v0 P) (fun v0 v1 v2 => G_e31 v0 v1 v2 P) n z1 z2 z3) (fun P : O → Prop => wp_X0_cellsWith_L4 s0 (fun v0 => G2_post v0 P) (fun v0 v1 v2 => G2_e31 v0 v1 v2 P) m z1 z2 z3) := by
  intro n
  induction n with
  | zero => exact fun _ _ _ _ => dt_F
  | succ n4 ih =>
    intro m z1 z2 z3
    have key : ∀ m9 : Nat, dt (fun P : O → Prop => wp_X0_cellsWith_L4 s0 (fun v0 => G_post v0 P) (fun v0 v1 v2 => G_e31 v0 v1 v2 P) (n4 + 1) z1 z2 z3) (fun P : O → Prop => wp_X0_cellsWith_L4 s0 (fun v0 => G2_post v0 P) (fun v0 v1 v2 => G2_e31 v0 v1 v2 P) (m9 + 1) z1 z2 z3) := by
      intro m9
      unfold wp_X0_cellsWith_L4
      exact (dt_b1 (F := fun k => wp_X0_cells k s0) (dt_X0_cells s0) (fun r_1 => (dt_p (h_e31 z1 z2 z3) (dt_c (dt_n (ih m9 z1 z2 (z3 + 1)) (ih m9 z1 (z2 + 1) (z3 + 1)))))))
    cases m with
    | zero => exact dt_0 (key 0)
    | succ m9 => exact key m9
set_option maxHeartbeats 4000000 in
theorem dt_X0_cellsWith (s0 : Bd) (x1 : Int32) : dt (fun P : Int32 → Prop => wp_X0_cellsWith (fun a0 => P a0) s0 x1) (fun P : Int32 → Prop => wp_X0_cellsWith (fun a0 => P a0) s0 x1) := by
  unfold wp_X0_cellsWith
  exact (dt_x (fun n4 m_n4 => (dl_X0_cellsWith_L4 s0 (fun v0 => (dt_r _)) (fun z1 z2 z3 => (dt_r _)) n4 m_n4 x1 0 0)))
set_option maxHeartbeats 4000000 in
theorem dl_X0_flapsWith_L19 (s0 : Bd) {O : Type} {G_post G2_post : Int32 → (O → Prop) → Prop} {G_e49 G2_e49 : Int32 → Int32 → Int32 → Int32 → Int32 → Int32 → Int32 → (O → Prop) → Prop} (h_post : ∀ v0, dt (G_post v0) (G2_post v0)) (h_e49 : ∀ v0 v1 v2 v3 v4 v5 v6, dt (G_e49 v0 v1 v2 v3 v4 v5 v6) (G2_e49 v0 v1 v2 v3 v4 v5 v6)) : ∀ (n m : Nat) (z1 : Int32) (z2 : Int32) (z3 : Int32) (z4 : Int32) (z5 : Int32) (z6 : Int32) (z7 : Int32), dt (fun P : O → Prop => wp_X0_flapsWith_L19 s0 (fun v0 => G_post v0 P) (fun v0 v1 v2 v3 v4 v5 v6 => G_e49 v0 v1 v2 v3 v4 v5 v6 P) n z1 z2 z3 z4 z5 z6 z7) (fun P : O → Prop => wp_X0_flapsWith_L19 s0 (fun v0 => G2_post v0 P) (fun v0 v1 v2 v3 v4 v5 v6 => G2_e49 v0 v1 v2 v3 v4 v5 v6 P) m z1 z2 z3 z4 z5 z6 z7) := by
  intro n
  induction n with
  | zero => exact fun _ _ _ _ _ _ _ _ => dt_F
  | succ n19 ih =>
    intro m z1 z2 z3 z4 z5 z6 z7
    have key : ∀ m9 : Nat, dt (fun P : O → Prop => wp_X0_flapsWith_L19 s0 (fun v0 => G_post v0 P) (fun v0 v1 v2 v3 v4 v5 v6 => G_e49 v0 v1 v2 v3 v4 v5 v6 P) (n19 + 1) z1 z2 z3 z4 z5 z6 z7) (fun P : O → Prop => wp_X0_flapsWith_L19 s0 (fun v0 => G2_post v0 P) (fun v0 v1 v2 v3 v4 v5 v6 => G2_e49 v0 v1 v2 v3 v4 v5 v6 P) (m9 + 1) z1 z2 z3 z4 z5 z6 z7) := by
      intro m9
      unfold wp_X0_flapsWith_L19
      exact (dt_p (h_e49 z1 z2 z3 z4 z5 z6 z7) (dt_c (dt_n (ih m9 z1 z2 z3 z4 z5 z6 (z7 + 1)) (ih m9 z1 z2 z3 z4 z5 (z6 + 1) (z7 + 1)))))
    cases m with
    | zero => exact dt_0 (key 0)
    | succ m9 => exact key m9
set_option maxHeartbeats 4000000 in
theorem dt_X0_flapsWith (s0 : Bd) (x1 : Int32) (x2 : Int32) (x3 : Int32) : dt (fun P : Int32 → Prop => wp_X0_flapsWith (fun a0 => P a0) s0 x1 x2 x3) (fun P : Int32 → Prop => wp_X0_flapsWith (fun a0 => P a0) s0 x1 x2 x3) := by
  unfold wp_X0_flapsWith
  exact (dt_b1 (F := fun k => wp_X0_flapsOn k s0 x1) (dt_X0_flapsOn s0 x1) (fun r_1 => (dt_x (fun n19 m_n19 => (dl_X0_flapsWith_L19 s0 (fun v0 => (dt_r _)) (fun z1 z2 z3 z4 z5 z6 z7 => (dt_r _)) n19 m_n19 x1 x2 x3 (x1 * 40) r_1 0 x3)))))
set_option maxHeartbeats 4000000 in
theorem dt_X0_drumHas (s0 : Bd) (x1 : Int32) (x2 : Int32) : dt (fun P : Int32 → Prop => wp_X0_drumHas (fun a0 => P a0) s0 x1 x2) (fun P : Int32 → Prop => wp_X0_drumHas (fun a0 => P a0) s0 x1 x2) := by
  unfold wp_X0_drumHas
  exact (dt_b1 (F := fun k => wp_X0_flapsWith k s0 x1 x2 (0 : Int32)) (dt_X0_flapsWith s0 x1 x2 (0 : Int32)) (fun r_1 => (dt_p (dt_r _) (dt_r _))))
set_option maxHeartbeats 4000000 in
theorem dl_X0_someDrumHas_L2 (s0 : Bd) {O : Type} {G_post G2_post : Int32 → (O → Prop) → Prop} {G_e27 G2_e27 : Int32 → Int32 → (O → Prop) → Prop} (h_post : ∀ v0, dt (G_post v0) (G2_post v0)) (h_e27 : ∀ v0 v1, dt (G_e27 v0 v1) (G2_e27 v0 v1)) : ∀ (n m : Nat) (z1 : Int32) (z2 : Int32), dt (fun P : O → Prop => wp_X0_someDrumHas_L2 s0 (fun v0 => G_post v0 P) (fun v0 v1 => G_e27 v0 v1 P) n z1 z2) (fun P : O → Prop => wp_X0_someDrumHas_L2 s0 (fun v0 => G2_post v0 P) (fun v0 v1 => G2_e27 v0 v1 P) m z1 z2) := by
  intro n
  induction n with
  | zero => exact fun _ _ _ => dt_F
  | succ n2 ih =>
    intro m z1 z2
    have key : ∀ m9 : Nat, dt (fun P : O → Prop => wp_X0_someDrumHas_L2 s0 (fun v0 => G_post v0 P) (fun v0 v1 => G_e27 v0 v1 P) (n2 + 1) z1 z2) (fun P : O → Prop => wp_X0_someDrumHas_L2 s0 (fun v0 => G2_post v0 P) (fun v0 v1 => G2_e27 v0 v1 P) (m9 + 1) z1 z2) := by
      intro m9
      unfold wp_X0_someDrumHas_L2
      exact (dt_p (h_e27 z1 z2) (dt_b1 (F := fun k => wp_X0_drumHas k s0 z2 z1) (dt_X0_drumHas s0 z2 z1) (fun r_2 => (dt_p (ih m9 z1 (z2 + 1)) (h_post 1)))))
    cases m with
    | zero => exact dt_0 (key 0)
    | succ m9 => exact key m9
set_option maxHeartbeats 4000000 in
theorem dt_X0_someDrumHas (s0 : Bd) (x1 : Int32) : dt (fun P : Int32 → Prop => wp_X0_someDrumHas (fun a0 => P a0) s0 x1) (fun P : Int32 → Prop => wp_X0_someDrumHas (fun a0 => P a0) s0 x1) := by
  unfold wp_X0_someDrumHas
  exact (dt_x (fun n2 m_n2 => (dl_X0_someDrumHas_L2 s0 (fun v0 => (dt_r _)) (fun z1 z2 => (dt_r _)) n2 m_n2 x1 0)))
set_option maxHeartbeats 4000000 in
theorem dt_X0_isLastOfSign (s0 : Bd) (x1 : Int32) (x2 : Int32) : dt (fun P : Int32 → Prop => wp_X0_isLastOfSign (fun a0 => P a0) s0 x1 x2) (fun P : Int32 → Prop => wp_X0_isLastOfSign (fun a0 => P a0) s0 x1 x2) := by
  unfold wp_X0_isLastOfSign
  exact (dt_b1 (F := fun k => wp_X0_signOf k s0 x1 x2) (dt_X0_signOf s0 x1 x2) (fun r_1 => (dt_b1 (F := fun k => wp_X0_flapsWith k s0 x1 r_1 (x2 + 1)) (dt_X0_flapsWith s0 x1 r_1 (x2 + 1)) (fun r_3 => (dt_n (dt_r _) (dt_r _))))))
set_option maxHeartbeats 4000000 in
theorem dl_X0_nearest_L60 (s0 : Bd) {O : Type} {G_post G2_post : Int32 → (O → Prop) → Prop} {G_e121 G2_e121 : Int32 → Int32 → Int32 → Int32 → Int32 → Int64 → Int32 → Int32 → (O → Prop) → Prop} (h_post : ∀ v0, dt (G_post v0) (G2_post v0)) (h_e121 : ∀ v0 v1 v2 v3 v4 v5 v6 v7, dt (G_e121 v0 v1 v2 v3 v4 v5 v6 v7) (G2_e121 v0 v1 v2 v3 v4 v5 v6 v7)) : ∀ (n m : Nat) (z1 : Int32) (z2 : Int32) (z3 : Int32) (z4 : Int32) (z5 : Int32) (w6 : Int64) (z8 : Int32) (z9 : Int32), dt (fun P : O → Prop => wp_X0_nearest_L60 s0 (fun v0 => G_post v0 P) (fun v0 v1 v2 v3 v4 v5 v6 v7 => G_e121 v0 v1 v2 v3 v4 v5 v6 v7 P) n z1 z2 z3 z4 z5 w6 z8 z9) (fun P : O → Prop => wp_X0_nearest_L60 s0 (fun v0 => G2_post v0 P) (fun v0 v1 v2 v3 v4 v5 v6 v7 => G2_e121 v0 v1 v2 v3 v4 v5 v6 v7 P) m z1 z2 z3 z4 z5 w6 z8 z9) := by
  intro n
  induction n with
  | zero => exact fun _ _ _ _ _ _ _ _ _ => dt_F
  | succ n60 ih =>
    intro m z1 z2 z3 z4 z5 w6 z8 z9
    have key : ∀ m9 : Nat, dt (fun P : O → Prop => wp_X0_nearest_L60 s0 (fun v0 => G_post v0 P) (fun v0 v1 v2 v3 v4 v5 v6 v7 => G_e121 v0 v1 v2 v3 v4 v5 v6 v7 P) (n60 + 1) z1 z2 z3 z4 z5 w6 z8 z9) (fun P : O → Prop => wp_X0_nearest_L60 s0 (fun v0 => G2_post v0 P) (fun v0 v1 v2 v3 v4 v5 v6 v7 => G2_e121 v0 v1 v2 v3 v4 v5 v6 v7 P) (m9 + 1) z1 z2 z3 z4 z5 w6 z8 z9) := by
      intro m9
      unfold wp_X0_nearest_L60
      exact (dt_p (h_e121 z1 z2 z3 z4 z5 w6 z8 z9) (dt_c (dt_n (dt_p (ih m9 z1 z2 z3 z4 z5 w6 0 (z9 + 1)) (ih m9 z1 z2 z3 z4 z5 w6 (z8 + 1) (z9 + 1))) (dt_p (dt_p (ih m9 z1 z2 z3 z4 z5 w6 0 (z9 + 1)) (ih m9 z1 z2 z3 z4 z5 w6 (z8 + 1) (z9 + 1))) (h_post z8)))))
    cases m with
    | zero => exact dt_0 (key 0)
    | succ m9 => exact key m9
set_option maxHeartbeats 4000000 in
theorem dt_X0_nearest (s0 : Bd) (x1 : Int32) (x2 : Int32) : dt (fun P : Int32 → Prop => wp_X0_nearest (fun a0 => P a0) s0 x1 x2) (fun P : Int32 → Prop => wp_X0_nearest (fun a0 => P a0) s0 x1 x2) := by
  unfold wp_X0_nearest
  exact (dt_c (dt_p (dt_c (dt_c (dt_x (fun n60 m_n60 => (dl_X0_nearest_L60 s0 (fun v0 => (dt_r _)) (fun z1 z2 z3 z4 z5 w6 z8 z9 => (dt_r _)) n60 m_n60 x1 x2 ((s0.2.1 3) (Int32.toNatClampNeg x1)) 0 (((s0.2.1 3) (Int32.toNatClampNeg x1)) * 40) ((s0.2.2.1 (Int32.toNatClampNeg x1)) ^^^ (-1)) ((s0.2.1 5) (Int32.toNatClampNeg x1)) 0))))) (dt_p (dt_c (dt_c (dt_x (fun n60 m_n60 => (dl_X0_nearest_L60 s0 (fun v0 => (dt_r _)) (fun z1 z2 z3 z4 z5 w6 z8 z9 => (dt_r _)) n60 m_n60 x1 x2 ((s0.2.1 3) (Int32.toNatClampNeg x1)) 0 (((s0.2.1 3) (Int32.toNatClampNeg x1)) * 40) ((s0.2.2.1 (Int32.toNatClampNeg x1)) ^^^ (-1)) ((s0.2.1 5) (Int32.toNatClampNeg x1)) 0))))) (dt_c (dt_c (dt_c (dt_x (fun n60 m_n60 => (dl_X0_nearest_L60 s0 (fun v0 => (dt_r _)) (fun z1 z2 z3 z4 z5 w6 z8 z9 => (dt_r _)) n60 m_n60 x1 x2 ((s0.2.1 3) (Int32.toNatClampNeg x1)) ((s0.2.1 1) (Int32.toNatClampNeg ((s0.2.1 3) (Int32.toNatClampNeg x1)))) (((s0.2.1 3) (Int32.toNatClampNeg x1)) * 40) ((s0.2.2.1 (Int32.toNatClampNeg x1)) ^^^ (-1)) ((s0.2.1 5) (Int32.toNatClampNeg x1)) 0)))))))))
set_option maxHeartbeats 4000000 in
theorem dl_X0_missedOfOwn_L12 (s0 : Bd) {O : Type} {G_post G2_post : Int32 → (O → Prop) → Prop} {G_e57 G2_e57 : Int32 → Int32 → Int32 → Int32 → (O → Prop) → Prop} (h_post : ∀ v0, dt (G_post v0) (G2_post v0)) (h_e57 : ∀ v0 v1 v2 v3, dt (G_e57 v0 v1 v2 v3) (G2_e57 v0 v1 v2 v3)) : ∀ (n m : Nat) (z1 : Int32) (z2 : Int32) (z3 : Int32) (z4 : Int32), dt (fun P : O → Prop => wp_X0_missedOfOwn_L12 s0 (fun v0 => G_post v0 P) (fun v0 v1 v2 v3 => G_e57 v0 v1 v2 v3 P) n z1 z2 z3 z4) (fun P : O → Prop => wp_X0_missedOfOwn_L12 s0 (fun v0 => G2_post v0 P) (fun v0 v1 v2 v3 => G2_e57 v0 v1 v2 v3 P) m z1 z2 z3 z4) := by
  intro n
  induction n with
  | zero => exact fun _ _ _ _ _ => dt_F
  | succ n12 ih =>
    intro m z1 z2 z3 z4
    have key : ∀ m9 : Nat, dt (fun P : O → Prop => wp_X0_missedOfOwn_L12 s0 (fun v0 => G_post v0 P) (fun v0 v1 v2 v3 => G_e57 v0 v1 v2 v3 P) (n12 + 1) z1 z2 z3 z4) (fun P : O → Prop => wp_X0_missedOfOwn_L12 s0 (fun v0 => G2_post v0 P) (fun v0 v1 v2 v3 => G2_e57 v0 v1 v2 v3 P) (m9 + 1) z1 z2 z3 z4) := by
      intro m9
      unfold wp_X0_missedOfOwn_L12
      exact (dt_b1 (F := fun k => wp_X0_flapsOn k s0 z2) (dt_X0_flapsOn s0 z2) (fun r_2 => (dt_p (h_e57 z1 z2 z3 z4) (dt_b1 (F := fun k => wp_X0_isLastOfSign k s0 z2 z4) (dt_X0_isLastOfSign s0 z2 z4) (fun r_5 => (dt_p (ih m9 z1 z2 z3 (z4 + 1)) (dt_b1 (F := fun k => wp_X0_signOf k s0 z2 z4) (dt_X0_signOf s0 z2 z4) (fun r_8 => (dt_b1 (F := fun k => wp_X0_nearest k s0 z1 r_8) (dt_X0_nearest s0 z1 r_8) (fun r_10 => (dt_n (ih m9 z1 z2 z3 (z4 + 1)) (ih m9 z1 z2 (z3 + 1) (z4 + 1)))))))))))))
    cases m with
    | zero => exact dt_0 (key 0)
    | succ m9 => exact key m9
set_option maxHeartbeats 4000000 in
theorem dt_X0_missedOfOwn (s0 : Bd) (x1 : Int32) : dt (fun P : Int32 → Prop => wp_X0_missedOfOwn (fun a0 => P a0) s0 x1) (fun P : Int32 → Prop => wp_X0_missedOfOwn (fun a0 => P a0) s0 x1) := by
  unfold wp_X0_missedOfOwn
  exact (dt_c (dt_x (fun n12 m_n12 => (dl_X0_missedOfOwn_L12 s0 (fun v0 => (dt_r _)) (fun z1 z2 z3 z4 => (dt_r _)) n12 m_n12 x1 ((s0.2.1 3) (Int32.toNatClampNeg x1)) 0 0))))
set_option maxHeartbeats 4000000 in
theorem dl_X0_signsOfOthers_L5 (s0 : Bd) {O : Type} {G_post G2_post : Int32 → (O → Prop) → Prop} {G_e37 G2_e37 : Int32 → Int32 → Int32 → (O → Prop) → Prop} (h_post : ∀ v0, dt (G_post v0) (G2_post v0)) (h_e37 : ∀ v0 v1 v2, dt (G_e37 v0 v1 v2) (G2_e37 v0 v1 v2)) : ∀ (n m : Nat) (z1 : Int32) (z2 : Int32) (z3 : Int32), dt (fun P : O → Prop => wp_X0_signsOfOthers_L5 s0 (fun v0 => G_post v0 P) (fun v0 v1 v2 => G_e37 v0 v1 v2 P) n z1 z2 z3) (fun P : O → Prop => wp_X0_signsOfOthers_L5 s0 (fun v0 => G2_post v0 P) (fun v0 v1 v2 => G2_e37 v0 v1 v2 P) m z1 z2 z3) := by
  intro n
  induction n with
  | zero => exact fun _ _ _ _ => dt_F
  | succ n5 ih =>
    intro m z1 z2 z3
    have key : ∀ m9 : Nat, dt (fun P : O → Prop => wp_X0_signsOfOthers_L5 s0 (fun v0 => G_post v0 P) (fun v0 v1 v2 => G_e37 v0 v1 v2 P) (n5 + 1) z1 z2 z3) (fun P : O → Prop => wp_X0_signsOfOthers_L5 s0 (fun v0 => G2_post v0 P) (fun v0 v1 v2 => G2_e37 v0 v1 v2 P) (m9 + 1) z1 z2 z3) := by
      intro m9
      unfold wp_X0_signsOfOthers_L5
      exact (dt_p (h_e37 z1 z2 z3) (dt_b1 (F := fun k => wp_X0_someDrumHas k s0 z3) (dt_X0_someDrumHas s0 z3) (fun r_2 => (dt_p (ih m9 z1 z2 (z3 + 1)) (dt_b1 (F := fun k => wp_X0_drumHas k s0 z1 z3) (dt_X0_drumHas s0 z1 z3) (fun r_5 => (dt_n (ih m9 z1 z2 (z3 + 1)) (ih m9 z1 (z2 + 1) (z3 + 1)))))))))
    cases m with
    | zero => exact dt_0 (key 0)
    | succ m9 => exact key m9
set_option maxHeartbeats 4000000 in
theorem dt_X0_signsOfOthers (s0 : Bd) (x1 : Int32) : dt (fun P : Int32 → Prop => wp_X0_signsOfOthers (fun a0 => P a0) s0 x1) (fun P : Int32 → Prop => wp_X0_signsOfOthers (fun a0 => P a0) s0 x1) := by
  unfold wp_X0_signsOfOthers
  exact (dt_x (fun n5 m_n5 => (dl_X0_signsOfOthers_L5 s0 (fun v0 => (dt_r _)) (fun z1 z2 z3 => (dt_r _)) n5 m_n5 x1 0 32)))
set_option maxHeartbeats 4000000 in
theorem dl_X0_unlikeSigns_L4 (s0 : Bd) {O : Type} {G_post G2_post : Int32 → (O → Prop) → Prop} {G_e31 G2_e31 : Int32 → Int32 → Int32 → (O → Prop) → Prop} (h_post : ∀ v0, dt (G_post v0) (G2_post v0)) (h_e31 : ∀ v0 v1 v2, dt (G_e31 v0 v1 v2) (G2_e31 v0 v1 v2)) : ∀ (n m : Nat) (z1 : Int32) (z2 : Int32) (z3 : Int32), dt (fun P : O → Prop => wp_X0_unlikeSigns_L4 s0 (fun v0 => G_post v0 P) (fun v0 v1 v2 => G_e31 v0 v1 v2 P) n z1 z2 z3) (fun P : O → Prop => wp_X0_unlikeSigns_L4 s0 (fun v0 => G2_post v0 P) (fun v0 v1 v2 => G2_e31 v0 v1 v2 P) m z1 z2 z3) := by
  intro n
  induction n with
  | zero => exact fun _ _ _ _ => dt_F
  | succ n4 ih =>
    intro m z1 z2 z3
    have key : ∀ m9 : Nat, dt (fun P : O → Prop => wp_X0_unlikeSigns_L4 s0 (fun v0 => G_post v0 P) (fun v0 v1 v2 => G_e31 v0 v1 v2 P) (n4 + 1) z1 z2 z3) (fun P : O → Prop => wp_X0_unlikeSigns_L4 s0 (fun v0 => G2_post v0 P) (fun v0 v1 v2 => G2_e31 v0 v1 v2 P) (m9 + 1) z1 z2 z3) := by
      intro m9
      unfold wp_X0_unlikeSigns_L4
      exact (dt_b1 (F := fun k => wp_X0_flapsOn k s0 z1) (dt_X0_flapsOn s0 z1) (fun r_1 => (dt_p (h_e31 z1 z2 z3) (dt_b1 (F := fun k => wp_X0_isLastOfSign k s0 z1 z3) (dt_X0_isLastOfSign s0 z1 z3) (fun r_4 => (dt_p (ih m9 z1 z2 (z3 + 1)) (ih m9 z1 (z2 + 1) (z3 + 1))))))))
    cases m with
    | zero => exact dt_0 (key 0)
    | succ m9 => exact key m9
set_option maxHeartbeats 4000000 in
theorem dt_X0_unlikeSigns (s0 : Bd) (x1 : Int32) : dt (fun P : Int32 → Prop => wp_X0_unlikeSigns (fun a0 => P a0) s0 x1) (fun P : Int32 → Prop => wp_X0_unlikeSigns (fun a0 => P a0) s0 x1) := by
  unfold wp_X0_unlikeSigns
  exact (dt_x (fun n4 m_n4 => (dl_X0_unlikeSigns_L4 s0 (fun v0 => (dt_r _)) (fun z1 z2 z3 => (dt_r _)) n4 m_n4 x1 0 0)))
set_option maxHeartbeats 4000000 in
theorem dl_X0_mostOfOneSign_L4 (s0 : Bd) {O : Type} {G_post G2_post : Int32 → (O → Prop) → Prop} {G_e36 G2_e36 : Int32 → Int32 → Int32 → (O → Prop) → Prop} (h_post : ∀ v0, dt (G_post v0) (G2_post v0)) (h_e36 : ∀ v0 v1 v2, dt (G_e36 v0 v1 v2) (G2_e36 v0 v1 v2)) : ∀ (n m : Nat) (z1 : Int32) (z2 : Int32) (z3 : Int32), dt (fun P : O → Prop => wp_X0_mostOfOneSign_L4 s0 (fun v0 => G_post v0 P) (fun v0 v1 v2 => G_e36 v0 v1 v2 P) n z1 z2 z3) (fun P : O → Prop => wp_X0_mostOfOneSign_L4 s0 (fun v0 => G2_post v0 P) (fun v0 v1 v2 => G2_e36 v0 v1 v2 P) m z1 z2 z3) := by
  intro n
  induction n with
  | zero => exact fun _ _ _ _ => dt_F
  | succ n4 ih =>
    intro m z1 z2 z3
    have key : ∀ m9 : Nat, dt (fun P : O → Prop => wp_X0_mostOfOneSign_L4 s0 (fun v0 => G_post v0 P) (fun v0 v1 v2 => G_e36 v0 v1 v2 P) (n4 + 1) z1 z2 z3) (fun P : O → Prop => wp_X0_mostOfOneSign_L4 s0 (fun v0 => G2_post v0 P) (fun v0 v1 v2 => G2_e36 v0 v1 v2 P) (m9 + 1) z1 z2 z3) := by
      intro m9
      unfold wp_X0_mostOfOneSign_L4
      exact (dt_b1 (F := fun k => wp_X0_flapsOn k s0 z1) (dt_X0_flapsOn s0 z1) (fun r_1 => (dt_p (h_e36 z1 z2 z3) (dt_b1 (F := fun k => wp_X0_signOf k s0 z1 z3) (dt_X0_signOf s0 z1 z3) (fun r_4 => (dt_b1 (F := fun k => wp_X0_flapsWith k s0 z1 r_4 z3) (dt_X0_flapsWith s0 z1 r_4 z3) (fun r_6 => (ih m9 z1 (if (z2 < r_6) then r_6 else z2) (z3 + 1)))))))))
    cases m with
    | zero => exact dt_0 (key 0)
    | succ m9 => exact key m9
set_option maxHeartbeats 4000000 in
theorem dt_X0_mostOfOneSign (s0 : Bd) (x1 : Int32) : dt (fun P : Int32 → Prop => wp_X0_mostOfOneSign (fun a0 => P a0) s0 x1) (fun P : Int32 → Prop => wp_X0_mostOfOneSign (fun a0 => P a0) s0 x1) := by
  unfold wp_X0_mostOfOneSign
  exact (dt_x (fun n4 m_n4 => (dl_X0_mostOfOneSign_L4 s0 (fun v0 => (dt_r _)) (fun z1 z2 z3 => (dt_r _)) n4 m_n4 x1 0 0)))
set_option maxHeartbeats 4000000 in
theorem dt_X0_isWorn (s0 : Bd) (x1 : Int32) (x2 : Int32) : dt (fun P : Int32 → Prop => wp_X0_isWorn (fun a0 => P a0) s0 x1 x2) (fun P : Int32 → Prop => wp_X0_isWorn (fun a0 => P a0) s0 x1 x2) := by
  unfold wp_X0_isWorn
  exact (dt_c (dt_p (dt_r _) (dt_r _)))
set_option maxHeartbeats 4000000 in
theorem dt_J13_bitCount_95d88 (y0 : Int64) : dt (fun P : Int32 → Prop => wp_J13_bitCount_95d88 (fun a0 => P a0) y0) (fun P : Int32 → Prop => wp_J13_bitCount_95d88 (fun a0 => P a0) y0) := by
  unfold wp_J13_bitCount_95d88
  exact (dt_r _)
