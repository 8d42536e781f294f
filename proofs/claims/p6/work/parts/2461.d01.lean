set_option maxHeartbeats 4000000 in
theorem dt_X0_wornCount (s0 : Bd) (x1 : Int32) : dt (fun P : Int32 → Prop => wp_X0_wornCount (fun a0 => P a0) s0 x1) (fun P : Int32 → Prop => wp_X0_wornCount (fun a0 => P a0) s0 x1) := by
  unfold wp_X0_wornCount
  exact (dt_c (dt_b1 (F := fun k => wp_J13_bitCount_95d88 k (s0.2.2.1 (Int32.toNatClampNeg x1))) (dt_J13_bitCount_95d88 (s0.2.2.1 (Int32.toNatClampNeg x1))) (fun r_2 => (dt_r _))))
set_option maxHeartbeats 4000000 in
theorem dt_X0_wearFlap (s0 : Bd) (x1 : Int32) (x2 : Int32) : dt (fun P : Bd → Prop => wp_X0_wearFlap (fun a0 => P a0) s0 x1 x2) (fun P : Bd → Prop => wp_X0_wearFlap (fun a0 => P a0) s0 x1 x2) := by
  unfold wp_X0_wearFlap
  exact (dt_c (dt_c (dt_c (dt_n (dt_r _) (dt_c (dt_r _))))))
set_option maxHeartbeats 4000000 in
theorem dt_X0_mendFlap (s0 : Bd) (x1 : Int32) (x2 : Int32) : dt (fun P : Bd → Prop => wp_X0_mendFlap (fun a0 => P a0) s0 x1 x2) (fun P : Bd → Prop => wp_X0_mendFlap (fun a0 => P a0) s0 x1 x2) := by
  unfold wp_X0_mendFlap
  exact (dt_c (dt_c (dt_r _)))
set_option maxHeartbeats 4000000 in
theorem dt_X6_onFrom (x0 : Int32) (x1 : Int32) (x2 : Int32) : dt (fun P : Int32 → Prop => wp_X6_onFrom (fun a0 => P a0) x0 x1 x2) (fun P : Int32 → Prop => wp_X6_onFrom (fun a0 => P a0) x0 x1 x2) := by
  unfold wp_X6_onFrom
  exact (dt_p (dt_r _) (dt_r _))
set_option maxHeartbeats 4000000 in
theorem dt_X0_flapsOnTo (s0 : Bd) (x1 : Int32) (x2 : Int32) : dt (fun P : Int32 → Prop => wp_X0_flapsOnTo (fun a0 => P a0) s0 x1 x2) (fun P : Int32 → Prop => wp_X0_flapsOnTo (fun a0 => P a0) s0 x1 x2) := by
  unfold wp_X0_flapsOnTo
  exact (dt_c (dt_b1 (F := fun k => wp_X0_flapsOf k s0 x1) (dt_X0_flapsOf s0 x1) (fun r_2 => (dt_b1 (F := fun k => wp_X6_onFrom k ((s0.2.1 5) (Int32.toNatClampNeg x1)) x2 r_2) (dt_X6_onFrom ((s0.2.1 5) (Int32.toNatClampNeg x1)) x2 r_2) (fun r_4 => (dt_r _))))))
set_option maxHeartbeats 4000000 in
theorem dt_X0_leftOf (s0 : Bd) (x1 : Int32) : dt (fun P : Int32 → Prop => wp_X0_leftOf (fun a0 => P a0) s0 x1) (fun P : Int32 → Prop => wp_X0_leftOf (fun a0 => P a0) s0 x1) := by
  unfold wp_X0_leftOf
  exact (dt_c (dt_c (dt_c (dt_p (dt_r _) (dt_p (dt_r _) (dt_p (dt_r _) (dt_c (dt_r _))))))))
set_option maxHeartbeats 4000000 in
theorem dt_X0_flapFor (s0 : Bd) (s1 : Tp) (x1 : Int32) (x2 : Int32) (x4 : Int32) (x5 : Int32) : dt (fun P : Int32 → Prop => wp_X0_flapFor (fun a0 => P a0) s0 s1 x1 x2 x4 x5) (fun P : Int32 → Prop => wp_X0_flapFor (fun a0 => P a0) s0 s1 x1 x2 x4 x5) := by
  unfold wp_X0_flapFor
  exact (dt_p (dt_r _) (dt_p (dt_r _) (dt_b1 (F := fun k => wp_X5_byteAt k s1 (x4 + x2)) (dt_X5_byteAt s1 (x4 + x2)) (fun r_3 => (dt_b1 (F := fun k => wp_X0_nearest k s0 x1 r_3) (dt_X0_nearest s0 x1 r_3) (fun r_5 => (dt_r _)))))))
set_option maxHeartbeats 4000000 in
theorem dl_X0_costOf_L6 (s0 : Bd) (s1 : Tp) {O : Type} {G_post G2_post : Int32 → (O → Prop) → Prop} {G_e72 G2_e72 : Int32 → Int32 → Int32 → Int32 → Int32 → Int32 → (O → Prop) → Prop} (h_post : ∀ v0, dt (G_post v0) (G2_post v0)) (h_e72 : ∀ v0 v1 v2 v3 v4 v5, dt (G_e72 v0 v1 v2 v3 v4 v5) (G2_e72 v0 v1 v2 v3 v4 v5)) : ∀ (n m : Nat) (z1 : Int32) (z2 : Int32) (z4 : Int32) (z5 : Int32) (z6 : Int32) (z7 : Int32), dt (fun P : O → Prop => wp_X0_costOf_L6 s0 s1 (fun v0 => G_post v0 P) (fun v0 v1 v2 v3 v4 v5 => G_e72 v0 v1 v2 v3 v4 v5 P) n z1 z2 z4 z5 z6 z7) (fun P : O → Prop => wp_X0_costOf_L6 s0 s1 (fun v0 => G2_post v0 P) (fun v0 v1 v2 v3 v4 v5 => G2_e72 v0 v1 v2 v3 v4 v5 P) m z1 z2 z4 z5 z6 z7) := by
  intro n
  induction n with
  | zero => exact fun _ _ _ _ _ _ _ => dt_F
  | succ n6 ih =>
    intro m z1 z2 z4 z5 z6 z7
    have key : ∀ m9 : Nat, dt (fun P : O → Prop => wp_X0_costOf_L6 s0 s1 (fun v0 => G_post v0 P) (fun v0 v1 v2 v3 v4 v5 => G_e72 v0 v1 v2 v3 v4 v5 P) (n6 + 1) z1 z2 z4 z5 z6 z7) (fun P : O → Prop => wp_X0_costOf_L6 s0 s1 (fun v0 => G2_post v0 P) (fun v0 v1 v2 v3 v4 v5 => G2_e72 v0 v1 v2 v3 v4 v5 P) (m9 + 1) z1 z2 z4 z5 z6 z7) := by
      intro m9
      unfold wp_X0_costOf_L6
      exact (dt_p (h_e72 z1 z2 z4 z5 z6 z7) (dt_b1 (F := fun k => wp_X0_flapFor k s0 s1 ((z1 * (s0.1 1)) + z7) (z7 - z2) z4 z5) (dt_X0_flapFor s0 s1 ((z1 * (s0.1 1)) + z7) (z7 - z2) z4 z5) (fun r_2 => (dt_n (dt_b1 (F := fun k => wp_X0_flapsOnTo k s0 ((z1 * (s0.1 1)) + z7) r_2) (dt_X0_flapsOnTo s0 ((z1 * (s0.1 1)) + z7) r_2) (fun r_5 => (ih m9 z1 z2 z4 z5 (z6 + r_5) (z7 + 1)))) (ih m9 z1 z2 z4 z5 (z6 + 0) (z7 + 1))))))
    cases m with
    | zero => exact dt_0 (key 0)
    | succ m9 => exact key m9
set_option maxHeartbeats 4000000 in
theorem dt_X0_costOf (s0 : Bd) (s1 : Tp) (x1 : Int32) (x2 : Int32) (x4 : Int32) (x5 : Int32) : dt (fun P : Int32 → Prop => wp_X0_costOf (fun a0 => P a0) s0 s1 x1 x2 x4 x5) (fun P : Int32 → Prop => wp_X0_costOf (fun a0 => P a0) s0 s1 x1 x2 x4 x5) := by
  unfold wp_X0_costOf
  exact (dt_x (fun n6 m_n6 => (dl_X0_costOf_L6 s0 s1 (fun v0 => (dt_r _)) (fun z1 z2 z4 z5 z6 z7 => (dt_r _)) n6 m_n6 x1 x2 x4 x5 0 0)))
set_option maxHeartbeats 4000000 in
theorem dl_X0_missesOf_L6 (s0 : Bd) (s1 : Tp) {O : Type} {G_post G2_post : Int32 → (O → Prop) → Prop} {G_e50 G2_e50 : Int32 → Int32 → Int32 → Int32 → Int32 → Int32 → (O → Prop) → Prop} (h_post : ∀ v0, dt (G_post v0) (G2_post v0)) (h_e50 : ∀ v0 v1 v2 v3 v4 v5, dt (G_e50 v0 v1 v2 v3 v4 v5) (G2_e50 v0 v1 v2 v3 v4 v5)) : ∀ (n m : Nat) (z1 : Int32) (z2 : Int32) (z4 : Int32) (z5 : Int32) (z6 : Int32) (z7 : Int32), dt (fun P : O → Prop => wp_X0_missesOf_L6 s0 s1 (fun v0 => G_post v0 P) (fun v0 v1 v2 v3 v4 v5 => G_e50 v0 v1 v2 v3 v4 v5 P) n z1 z2 z4 z5 z6 z7) (fun P : O → Prop => wp_X0_missesOf_L6 s0 s1 (fun v0 => G2_post v0 P) (fun v0 v1 v2 v3 v4 v5 => G2_e50 v0 v1 v2 v3 v4 v5 P) m z1 z2 z4 z5 z6 z7) := by
  intro n
  induction n with
  | zero => exact fun _ _ _ _ _ _ _ => dt_F
  | succ n6 ih =>
    intro m z1 z2 z4 z5 z6 z7
    have key : ∀ m9 : Nat, dt (fun P : O → Prop => wp_X0_missesOf_L6 s0 s1 (fun v0 => G_post v0 P) (fun v0 v1 v2 v3 v4 v5 => G_e50 v0 v1 v2 v3 v4 v5 P) (n6 + 1) z1 z2 z4 z5 z6 z7) (fun P : O → Prop => wp_X0_missesOf_L6 s0 s1 (fun v0 => G2_post v0 P) (fun v0 v1 v2 v3 v4 v5 => G2_e50 v0 v1 v2 v3 v4 v5 P) (m9 + 1) z1 z2 z4 z5 z6 z7) := by
      intro m9
      unfold wp_X0_missesOf_L6
      exact (dt_p (h_e50 z1 z2 z4 z5 z6 z7) (dt_b1 (F := fun k => wp_X0_flapFor k s0 s1 ((z1 * (s0.1 1)) + z7) (z7 - z2) z4 z5) (dt_X0_flapFor s0 s1 ((z1 * (s0.1 1)) + z7) (z7 - z2) z4 z5) (fun r_2 => (dt_n (ih m9 z1 z2 z4 z5 z6 (z7 + 1)) (ih m9 z1 z2 z4 z5 (z6 + 1) (z7 + 1))))))
    cases m with
    | zero => exact dt_0 (key 0)
    | succ m9 => exact key m9
set_option maxHeartbeats 4000000 in
theorem dt_X0_missesOf (s0 : Bd) (s1 : Tp) (x1 : Int32) (x2 : Int32) (x4 : Int32) (x5 : Int32) : dt (fun P : Int32 → Prop => wp_X0_missesOf (fun a0 => P a0) s0 s1 x1 x2 x4 x5) (fun P : Int32 → Prop => wp_X0_missesOf (fun a0 => P a0) s0 s1 x1 x2 x4 x5) := by
  unfold wp_X0_missesOf
  exact (dt_x (fun n6 m_n6 => (dl_X0_missesOf_L6 s0 s1 (fun v0 => (dt_r _)) (fun z1 z2 z4 z5 z6 z7 => (dt_r _)) n6 m_n6 x1 x2 x4 x5 0 0)))
set_option maxHeartbeats 4000000 in
theorem dt_X0_wantFlap (s0 : Bd) (x1 : Int32) (x2 : Int32) : dt (fun P : (Int32 × Bd) → Prop => wp_X0_wantFlap (fun a0 a1 => P (a0, a1)) s0 x1 x2) (fun P : (Int32 × Bd) → Prop => wp_X0_wantFlap (fun a0 a1 => P (a0, a1)) s0 x1 x2) := by
  unfold wp_X0_wantFlap
  exact (dt_n (dt_c (dt_c (dt_c (dt_b1 (F := fun k => wp_X0_entryStart k (s0.1, (va_up s0.2.1 6 (upd (s0.2.1 6) (Int32.toNatClampNeg x1) x2)), s0.2.2.1, s0.2.2.2.1, s0.2.2.2.2) ((s0.2.1 3) (Int32.toNatClampNeg x1))) (dt_X0_entryStart (s0.1, (va_up s0.2.1 6 (upd (s0.2.1 6) (Int32.toNatClampNeg x1) x2)), s0.2.2.1, s0.2.2.2.1, s0.2.2.2.2) ((s0.2.1 3) (Int32.toNatClampNeg x1))) (fun r_5 => (dt_b1 (F := fun k => wp_X0_flapsOf k (s0.1, (va_up s0.2.1 6 (upd (s0.2.1 6) (Int32.toNatClampNeg x1) x2)), s0.2.2.1, s0.2.2.2.1, s0.2.2.2.2) x1) (dt_X0_flapsOf (s0.1, (va_up s0.2.1 6 (upd (s0.2.1 6) (Int32.toNatClampNeg x1) x2)), s0.2.2.1, s0.2.2.2.1, s0.2.2.2.2) x1) (fun r_7 => (dt_p (dt_r _) (dt_p (dt_r _) (dt_p (dt_r _) (dt_c (dt_c (dt_r _))))))))))))) (dt_r _))
set_option maxHeartbeats 4000000 in
theorem dl_X0_wantSigns_L6 (s1 : Tp) {O : Type} {G_post G2_post : Int32 → Bd → (O → Prop) → Prop} {G_e55 G2_e55 : Bd → Int32 → Int32 → Int32 → Int32 → Int32 → (O → Prop) → Prop} (h_post : ∀ v0 v1, dt (G_post v0 v1) (G2_post v0 v1)) (h_e55 : ∀ v0 v1 v2 v3 v4 v5, dt (G_e55 v0 v1 v2 v3 v4 v5) (G2_e55 v0 v1 v2 v3 v4 v5)) : ∀ (n m : Nat) (t0 : Bd) (z1 : Int32) (z3 : Int32) (z4 : Int32) (z5 : Int32) (z6 : Int32), dt (fun P : O → Prop => wp_X0_wantSigns_L6 s1 (fun v0 v1 => G_post v0 v1 P) (fun v0 v1 v2 v3 v4 v5 => G_e55 v0 v1 v2 v3 v4 v5 P) n t0 z1 z3 z4 z5 z6) (fun P : O → Prop => wp_X0_wantSigns_L6 s1 (fun v0 v1 => G2_post v0 v1 P) (fun v0 v1 v2 v3 v4 v5 => G2_e55 v0 v1 v2 v3 v4 v5 P) m t0 z1 z3 z4 z5 z6) := by
  intro n
  induction n with
  | zero => exact fun _ _ _ _ _ _ _ => dt_F
  | succ n6 ih =>
    intro m t0 z1 z3 z4 z5 z6
    have key : ∀ m9 : Nat, dt (fun P : O → Prop => wp_X0_wantSigns_L6 s1 (fun v0 v1 => G_post v0 v1 P) (fun v0 v1 v2 v3 v4 v5 => G_e55 v0 v1 v2 v3 v4 v5 P) (n6 + 1) t0 z1 z3 z4 z5 z6) (fun P : O → Prop => wp_X0_wantSigns_L6 s1 (fun v0 v1 => G2_post v0 v1 P) (fun v0 v1 v2 v3 v4 v5 => G2_e55 v0 v1 v2 v3 v4 v5 P) (m9 + 1) t0 z1 z3 z4 z5 z6) := by
      intro m9
      unfold wp_X0_wantSigns_L6
      exact (dt_p (h_e55 t0 z1 z3 z4 z5 z6) (dt_b1 (F := fun k => wp_X0_flapFor k t0 s1 ((z1 * (t0.1 1)) + z6) z6 z3 z4) (dt_X0_flapFor t0 s1 ((z1 * (t0.1 1)) + z6) z6 z3 z4) (fun r_2 => (dt_b2 (F := fun k => wp_X0_wantFlap k t0 ((z1 * (t0.1 1)) + z6) r_2) (dt_X0_wantFlap t0 ((z1 * (t0.1 1)) + z6) r_2) (fun r_4 u_5 => (ih m9 u_5 z1 z3 z4 (z5 + r_4) (z6 + 1)))))))
    cases m with
    | zero => exact dt_0 (key 0)
    | succ m9 => exact key m9
set_option maxHeartbeats 4000000 in
theorem dt_X0_wantSigns (s0 : Bd) (s1 : Tp) (x1 : Int32) (x3 : Int32) (x4 : Int32) : dt (fun P : (Int32 × Bd) → Prop => wp_X0_wantSigns (fun a0 a1 => P (a0, a1)) s0 s1 x1 x3 x4) (fun P : (Int32 × Bd) → Prop => wp_X0_wantSigns (fun a0 a1 => P (a0, a1)) s0 s1 x1 x3 x4) := by
  unfold wp_X0_wantSigns
  exact (dt_x (fun n6 m_n6 => (dl_X0_wantSigns_L6 s1 (fun v0 v1 => (dt_r _)) (fun t0 z1 z3 z4 z5 z6 => (dt_r _)) n6 m_n6 s0 x1 x3 x4 0 0)))
set_option maxHeartbeats 4000000 in
theorem dl_X0_scrollUp_L6 (s1 : Tp) {O : Type} {G_post G2_post : Int32 → Bd → (O → Prop) → Prop} {G_e54 G2_e54 : Bd → Int32 → Int32 → Int32 → Int32 → (O → Prop) → Prop} (h_post : ∀ v0 v1, dt (G_post v0 v1) (G2_post v0 v1)) (h_e54 : ∀ v0 v1 v2 v3 v4, dt (G_e54 v0 v1 v2 v3 v4) (G2_e54 v0 v1 v2 v3 v4)) : ∀ (n m : Nat) (t0 : Bd) (z2 : Int32) (z3 : Int32) (z4 : Int32) (z5 : Int32), dt (fun P : O → Prop => wp_X0_scrollUp_L6 s1 (fun v0 v1 => G_post v0 v1 P) (fun v0 v1 v2 v3 v4 => G_e54 v0 v1 v2 v3 v4 P) n t0 z2 z3 z4 z5) (fun P : O → Prop => wp_X0_scrollUp_L6 s1 (fun v0 v1 => G2_post v0 v1 P) (fun v0 v1 v2 v3 v4 => G2_e54 v0 v1 v2 v3 v4 P) m t0 z2 z3 z4 z5) := by
  intro n
  induction n with
  | zero => exact fun _ _ _ _ _ _ => dt_F
  | succ n6 ih =>
    intro m t0 z2 z3 z4 z5
    have key : ∀ m9 : Nat, dt (fun P : O → Prop => wp_X0_scrollUp_L6 s1 (fun v0 v1 => G_post v0 v1 P) (fun v0 v1 v2 v3 v4 => G_e54 v0 v1 v2 v3 v4 P) (n6 + 1) t0 z2 z3 z4 z5) (fun P : O → Prop => wp_X0_scrollUp_L6 s1 (fun v0 v1 => G2_post v0 v1 P) (fun v0 v1 v2 v3 v4 => G2_e54 v0 v1 v2 v3 v4 P) (m9 + 1) t0 z2 z3 z4 z5) := by
      intro m9
      unfold wp_X0_scrollUp_L6
      exact (dt_b1 (F := fun k => wp_X0_cells k t0) (dt_X0_cells t0) (fun r_1 => (dt_p (h_e54 t0 z2 z3 z4 z5) (dt_b1 (F := fun k => wp_X0_wantedSign k t0 (z5 + (t0.1 1))) (dt_X0_wantedSign t0 (z5 + (t0.1 1))) (fun r_4 => (dt_b1 (F := fun k => wp_X0_nearest k t0 z5 r_4) (dt_X0_nearest t0 z5 r_4) (fun r_6 => (dt_b2 (F := fun k => wp_X0_wantFlap k t0 z5 r_6) (dt_X0_wantFlap t0 z5 r_6) (fun r_8 u_9 => (ih m9 u_9 z2 z3 (z4 + r_8) (z5 + 1)))))))))))
    cases m with
    | zero => exact dt_0 (key 0)
    | succ m9 => exact key m9
set_option maxHeartbeats 4000000 in
theorem dt_X0_scrollUp (s0 : Bd) (s1 : Tp) (x2 : Int32) (x3 : Int32) : dt (fun P : (Int32 × Bd) → Prop => wp_X0_scrollUp (fun a0 a1 => P (a0, a1)) s0 s1 x2 x3) (fun P : (Int32 × Bd) → Prop => wp_X0_scrollUp (fun a0 a1 => P (a0, a1)) s0 s1 x2 x3) := by
  unfold wp_X0_scrollUp
  exact (dt_x (fun n6 m_n6 => (dl_X0_scrollUp_L6 s1 (fun v0 v1 => (dt_r _)) (fun t0 z2 z3 z4 z5 => (dt_b2 (F := fun k => wp_X0_wantSigns k t0 s1 ((t0.1 0) - 1) z2 z3) (dt_X0_wantSigns t0 s1 ((t0.1 0) - 1) z2 z3) (fun r_10 u_11 => (dt_r _)))) n6 m_n6 s0 x2 x3 0 0)))
set_option maxHeartbeats 4000000 in
theorem dl_X0_wantHome_L2  {O : Type} {G_post G2_post : Bd → (O → Prop) → Prop} {G_e30 G2_e30 : Bd → Int32 → Int32 → (O → Prop) → Prop} (h_post : ∀ v0, dt (G_post v0) (G2_post v0)) (h_e30 : ∀ v0 v1 v2, dt (G_e30 v0 v1 v2) (G2_e30 v0 v1 v2)) : ∀ (n m : Nat) (t0 : Bd) (z1 : Int32) (z2 : Int32), dt (fun P : O → Prop => wp_X0_wantHome_L2 (fun v0 => G_post v0 P) (fun v0 v1 v2 => G_e30 v0 v1 v2 P) n t0 z1 z2) (fun P : O → Prop => wp_X0_wantHome_L2 (fun v0 => G2_post v0 P) (fun v0 v1 v2 => G2_e30 v0 v1 v2 P) m t0 z1 z2) := by
  intro n
  induction n with
  | zero => exact fun _ _ _ _ => dt_F
  | succ n2 ih =>
    intro m t0 z1 z2
    have key : ∀ m9 : Nat, dt (fun P : O → Prop => wp_X0_wantHome_L2 (fun v0 => G_post v0 P) (fun v0 v1 v2 => G_e30 v0 v1 v2 P) (n2 + 1) t0 z1 z2) (fun P : O → Prop => wp_X0_wantHome_L2 (fun v0 => G2_post v0 P) (fun v0 v1 v2 => G2_e30 v0 v1 v2 P) (m9 + 1) t0 z1 z2) := by
      intro m9
      unfold wp_X0_wantHome_L2
      exact (dt_p (h_e30 t0 z1 z2) (dt_c (ih m9 (t0.1, (va_up t0.2.1 6 (upd (t0.2.1 6) (Int32.toNatClampNeg ((z1 * (t0.1 1)) + z2)) 0)), t0.2.2.1, t0.2.2.2.1, t0.2.2.2.2) z1 (z2 + 1))))
    cases m with
    | zero => exact dt_0 (key 0)
    | succ m9 => exact key m9
set_option maxHeartbeats 4000000 in
theorem dt_X0_wantHome (s0 : Bd) (x1 : Int32) : dt (fun P : Bd → Prop => wp_X0_wantHome (fun a0 => P a0) s0 x1) (fun P : Bd → Prop => wp_X0_wantHome (fun a0 => P a0) s0 x1) := by
  unfold wp_X0_wantHome
  exact (dt_x (fun n2 m_n2 => (dl_X0_wantHome_L2  (fun v0 => (dt_r _)) (fun t0 z1 z2 => (dt_r _)) n2 m_n2 s0 x1 0)))
set_option maxHeartbeats 4000000 in
theorem dl_X0_showSigns_L3 (s1 : Tp) {O : Type} {G_post G2_post : Bd → (O → Prop) → Prop} {G_e86 G2_e86 : Bd → Int32 → Int32 → Int32 → Int32 → (O → Prop) → Prop} (h_post : ∀ v0, dt (G_post v0) (G2_post v0)) (h_e86 : ∀ v0 v1 v2 v3 v4, dt (G_e86 v0 v1 v2 v3 v4) (G2_e86 v0 v1 v2 v3 v4)) : ∀ (n m : Nat) (t0 : Bd) (z1 : Int32) (z3 : Int32) (z4 : Int32) (z5 : Int32), dt (fun P : O → Prop => wp_X0_showSigns_L3 s1 (fun v0 => G_post v0 P) (fun v0 v1 v2 v3 v4 => G_e86 v0 v1 v2 v3 v4 P) n t0 z1 z3 z4 z5) (fun P : O → Prop => wp_X0_showSigns_L3 s1 (fun v0 => G2_post v0 P) (fun v0 v1 v2 v3 v4 => G2_e86 v0 v1 v2 v3 v4 P) m t0 z1 z3 z4 z5) := by
  intro n
  induction n with
  | zero => exact fun _ _ _ _ _ _ => dt_F
  | succ n3 ih =>
    intro m t0 z1 z3 z4 z5
    have key : ∀ m9 : Nat, dt (fun P : O → Prop => wp_X0_showSigns_L3 s1 (fun v0 => G_post v0 P) (fun v0 v1 v2 v3 v4 => G_e86 v0 v1 v2 v3 v4 P) (n3 + 1) t0 z1 z3 z4 z5) (fun P : O → Prop => wp_X0_showSigns_L3 s1 (fun v0 => G2_post v0 P) (fun v0 v1 v2 v3 v4 => G2_e86 v0 v1 v2 v3 v4 P) (m9 + 1) t0 z1 z3 z4 z5) := by
      intro m9
      unfold wp_X0_showSigns_L3
      exact (dt_p (h_e86 t0 z1 z3 z4 z5) (dt_b1 (F := fun k => wp_X0_flapFor k t0 s1 ((z1 * (t0.1 1)) + z5) z5 z3 z4) (dt_X0_flapFor t0 s1 ((z1 * (t0.1 1)) + z5) z5 z3 z4) (fun r_2 => (dt_p (dt_c (dt_c (dt_c (dt_c (ih m9 (t0.1, (va_up (va_up t0.2.1 4 (upd (t0.2.1 4) (Int32.toNatClampNeg ((z1 * (t0.1 1)) + z5)) ((t0.2.1 6) (Int32.toNatClampNeg ((z1 * (t0.1 1)) + z5))))) 5 (upd (t0.2.1 5) (Int32.toNatClampNeg ((z1 * (t0.1 1)) + z5)) ((t0.2.1 6) (Int32.toNatClampNeg ((z1 * (t0.1 1)) + z5))))), t0.2.2.1, t0.2.2.2.1, t0.2.2.2.2) z1 z3 z4 (z5 + 1)))))) (dt_c (dt_c (dt_c (dt_c (dt_c (ih m9 (t0.1, (va_up (va_up (va_up t0.2.1 4 (upd (t0.2.1 4) (Int32.toNatClampNeg ((z1 * (t0.1 1)) + z5)) ((upd (t0.2.1 6) (Int32.toNatClampNeg ((z1 * (t0.1 1)) + z5)) r_2) (Int32.toNatClampNeg ((z1 * (t0.1 1)) + z5))))) 5 (upd (t0.2.1 5) (Int32.toNatClampNeg ((z1 * (t0.1 1)) + z5)) ((upd (t0.2.1 6) (Int32.toNatClampNeg ((z1 * (t0.1 1)) + z5)) r_2) (Int32.toNatClampNeg ((z1 * (t0.1 1)) + z5))))) 6 (upd (t0.2.1 6) (Int32.toNatClampNeg ((z1 * (t0.1 1)) + z5)) r_2)), t0.2.2.1, t0.2.2.2.1, t0.2.2.2.2) z1 z3 z4 (z5 + 1)))))))))))
    cases m with
    | zero => exact dt_0 (key 0)
    | succ m9 => exact key m9
set_option maxHeartbeats 4000000 in
theorem dt_X0_showSigns (s0 : Bd) (s1 : Tp) (x1 : Int32) (x3 : Int32) (x4 : Int32) : dt (fun P : Bd → Prop => wp_X0_showSigns (fun a0 => P a0) s0 s1 x1 x3 x4) (fun P : Bd → Prop => wp_X0_showSigns (fun a0 => P a0) s0 s1 x1 x3 x4) := by
  unfold wp_X0_showSigns
  exact (dt_x (fun n3 m_n3 => (dl_X0_showSigns_L3 s1 (fun v0 => (dt_r _)) (fun t0 z1 z3 z4 z5 => (dt_r _)) n3 m_n3 s0 x1 x3 x4 0)))
set_option maxHeartbeats 4000000 in
theorem dt_X6_behind (x0 : Int32) (x1 : Int32) : dt (fun P : Int32 → Prop => wp_X6_behind (fun a0 => P a0) x0 x1) (fun P : Int32 → Prop => wp_X6_behind (fun a0 => P a0) x0 x1) := by
  unfold wp_X6_behind
  exact (dt_p (dt_r _) (dt_r _))
set_option maxHeartbeats 4000000 in
theorem dt_X0_stepOn (s0 : Bd) (x1 : Int32) : dt (fun P : (Int32 × Bd) → Prop => wp_X0_stepOn (fun a0 a1 => P (a0, a1)) s0 x1) (fun P : (Int32 × Bd) → Prop => wp_X0_stepOn (fun a0 a1 => P (a0, a1)) s0 x1) := by
  unfold wp_X0_stepOn
  exact (dt_b1 (F := fun k => wp_X0_flapsOf k s0 x1) (dt_X0_flapsOf s0 x1) (fun r_1 => (dt_c (dt_b1 (F := fun k => wp_X6_behind k ((s0.2.1 5) (Int32.toNatClampNeg x1)) r_1) (dt_X6_behind ((s0.2.1 5) (Int32.toNatClampNeg x1)) r_1) (fun r_4 => (dt_c (dt_p (dt_c (dt_b1 (F := fun k => wp_X6_behind k ((s0.2.1 4) (Int32.toNatClampNeg x1)) r_1) (dt_X6_behind ((s0.2.1 4) (Int32.toNatClampNeg x1)) r_1) (fun r_9 => (dt_c (dt_c (dt_n (dt_c (dt_c (dt_c (dt_c (dt_c (dt_r _)))))) (dt_c (dt_c (dt_c (dt_c (dt_c (dt_r _)))))))))))) (dt_c (dt_c (dt_c (dt_c (dt_c (dt_c (dt_c (dt_r _)))))))))))))))
set_option maxHeartbeats 4000000 in
theorem dl_X0_leftOfAll_L4 (s0 : Bd) {O : Type} {G_post G2_post : Int32 → (O → Prop) → Prop} {G_e40 G2_e40 : Int32 → Int32 → Int32 → (O → Prop) → Prop} (h_post : ∀ v0, dt (G_post v0) (G2_post v0)) (h_e40 : ∀ v0 v1 v2, dt (G_e40 v0 v1 v2) (G2_e40 v0 v1 v2)) : ∀ (n m : Nat) (z1 : Int32) (z2 : Int32) (z3 : Int32), dt (fun P : O → Prop => wp_X0_leftOfAll_L4 s0 (fun v0 => G_post v0 P) (fun v0 v1 v2 => G_e40 v0 v1 v2 P) n z1 z2 z3) (fun P : O → Prop => wp_X0_leftOfAll_L4 s0 (fun v0 => G2_post v0 P) (fun v0 v1 v2 => G2_e40 v0 v1 v2 P) m z1 z2 z3) := by
  intro n
  induction n with
  | zero => exact fun _ _ _ _ => dt_F
  | succ n4 ih =>
    intro m z1 z2 z3
    have key : ∀ m9 : Nat, dt (fun P : O → Prop => wp_X0_leftOfAll_L4 s0 (fun v0 => G_post v0 P) (fun v0 v1 v2 => G_e40 v0 v1 v2 P) (n4 + 1) z1 z2 z3) (fun P : O → Prop => wp_X0_leftOfAll_L4 s0 (fun v0 => G2_post v0 P) (fun v0 v1 v2 => G2_e40 v0 v1 v2 P) (m9 + 1) z1 z2 z3) := by
      intro m9
      unfold wp_X0_leftOfAll_L4
      exact (dt_b1 (F := fun k => wp_X0_cells k s0) (dt_X0_cells s0) (fun r_1 => (dt_p (h_e40 z1 z2 z3) (dt_b1 (F := fun k => wp_X0_leftOf k s0 z3) (dt_X0_leftOf s0 z3) (fun r_4 => (dt_p (ih m9 z1 (z2 + (r_4 * 1)) (z3 + 1)) (dt_b1 (F := fun k => wp_X0_currentOf k s0 z3) (dt_X0_currentOf s0 z3) (fun r_7 => (ih m9 z1 (z2 + (r_4 * r_7)) (z3 + 1))))))))))
    cases m with
    | zero => exact dt_0 (key 0)
    | succ m9 => exact key m9
set_option maxHeartbeats 4000000 in
theorem dt_X0_leftOfAll (s0 : Bd) (x1 : Int32) : dt (fun P : Int32 → Prop => wp_X0_leftOfAll (fun a0 => P a0) s0 x1) (fun P : Int32 → Prop => wp_X0_leftOfAll (fun a0 => P a0) s0 x1) := by
  unfold wp_X0_leftOfAll
  exact (dt_x (fun n4 m_n4 => (dl_X0_leftOfAll_L4 s0 (fun v0 => (dt_r _)) (fun z1 z2 z3 => (dt_r _)) n4 m_n4 x1 0 0)))
set_option maxHeartbeats 4000000 in
theorem dl_X0_mostLeft_L4 (s0 : Bd) {O : Type} {G_post G2_post : Int32 → (O → Prop) → Prop} {G_e28 G2_e28 : Int32 → Int32 → (O → Prop) → Prop} (h_post : ∀ v0, dt (G_post v0) (G2_post v0)) (h_e28 : ∀ v0 v1, dt (G_e28 v0 v1) (G2_e28 v0 v1)) : ∀ (n m : Nat) (z1 : Int32) (z2 : Int32), dt (fun P : O → Prop => wp_X0_mostLeft_L4 s0 (fun v0 => G_post v0 P) (fun v0 v1 => G_e28 v0 v1 P) n z1 z2) (fun P : O → Prop => wp_X0_mostLeft_L4 s0 (fun v0 => G2_post v0 P) (fun v0 v1 => G2_e28 v0 v1 P) m z1 z2) := by
  intro n
  induction n with
  | zero => exact fun _ _ _ => dt_F
  | succ n4 ih =>
    intro m z1 z2
    have key : ∀ m9 : Nat, dt (fun P : O → Prop => wp_X0_mostLeft_L4 s0 (fun v0 => G_post v0 P) (fun v0 v1 => G_e28 v0 v1 P) (n4 + 1) z1 z2) (fun P : O → Prop => wp_X0_mostLeft_L4 s0 (fun v0 => G2_post v0 P) (fun v0 v1 => G2_e28 v0 v1 P) (m9 + 1) z1 z2) := by
      intro m9
      unfold wp_X0_mostLeft_L4
      exact (dt_b1 (F := fun k => wp_X0_cells k s0) (dt_X0_cells s0) (fun r_1 => (dt_p (h_e28 z1 z2) (dt_b1 (F := fun k => wp_X0_leftOf k s0 z2) (dt_X0_leftOf s0 z2) (fun r_4 => (ih m9 (if (z1 < r_4) then r_4 else z1) (z2 + 1)))))))
    cases m with
    | zero => exact dt_0 (key 0)
    | succ m9 => exact key m9
set_option maxHeartbeats 4000000 in
theorem dt_X0_mostLeft (s0 : Bd) : dt (fun P : Int32 → Prop => wp_X0_mostLeft (fun a0 => P a0) s0) (fun P : Int32 → Prop => wp_X0_mostLeft (fun a0 => P a0) s0) := by
  unfold wp_X0_mostLeft
  exact (dt_x (fun n4 m_n4 => (dl_X0_mostLeft_L4 s0 (fun v0 => (dt_r _)) (fun z1 z2 => (dt_r _)) n4 m_n4 0 0)))
set_option maxHeartbeats 4000000 in
theorem dt_X0_emptyLog (s0 : Bd) : dt (fun P : Bd → Prop => wp_X0_emptyLog (fun a0 => P a0) s0) (fun P : Bd → Prop => wp_X0_emptyLog (fun a0 => P a0) s0) := by
  unfold wp_X0_emptyLog
  exact (dt_b1 (F := fun k => wp_X0_entryCount k s0) (dt_X0_entryCount s0) (fun r_1 => (dt_p (dt_c (dt_r _)) (dt_c (dt_c (dt_r _))))))
set_option maxHeartbeats 4000000 in
theorem dt_X0_entryAt (s0 : Bd) (x1 : Int32) (x2 : Int32) (x3 : Int32) (x4 : Int32) : dt (fun P : Int32 → Prop => wp_X0_entryAt (fun a0 => P a0) s0 x1 x2 x3 x4) (fun P : Int32 → Prop => wp_X0_entryAt (fun a0 => P a0) s0 x1 x2 x3 x4) := by
  unfold wp_X0_entryAt
  exact (dt_p (dt_r _) (dt_p (dt_r _) (dt_c (dt_r _))))
set_option maxHeartbeats 4000000 in
theorem dl_X0_journey_L27 (s0 : Bd) {O : Type} {G_post G2_post : Int32 → (O → Prop) → Prop} {G_e63 G2_e63 : Int32 → Int32 → Int32 → Int32 → Int32 → Int32 → (O → Prop) → Prop} (h_post : ∀ v0, dt (G_post v0) (G2_post v0)) (h_e63 : ∀ v0 v1 v2 v3 v4 v5, dt (G_e63 v0 v1 v2 v3 v4 v5) (G2_e63 v0 v1 v2 v3 v4 v5)) : ∀ (n m : Nat) (z1 : Int32) (z2 : Int32) (z3 : Int32) (z4 : Int32) (z5 : Int32) (z6 : Int32), dt (fun P : O → Prop => wp_X0_journey_L27 s0 (fun v0 => G_post v0 P) (fun v0 v1 v2 v3 v4 v5 => G_e63 v0 v1 v2 v3 v4 v5 P) n z1 z2 z3 z4 z5 z6) (fun P : O → Prop => wp_X0_journey_L27 s0 (fun v0 => G2_post v0 P) (fun v0 v1 v2 v3 v4 v5 => G2_e63 v0 v1 v2 v3 v4 v5 P) m z1 z2 z3 z4 z5 z6) := by
  intro n
  induction n with
  | zero => exact fun _ _ _ _ _ _ _ => dt_F
  | succ n27 ih =>
    intro m z1 z2 z3 z4 z5 z6
    have key : ∀ m9 : Nat, dt (fun P : O → Prop => wp_X0_journey_L27 s0 (fun v0 => G_post v0 P) (fun v0 v1 v2 v3 v4 v5 => G_e63 v0 v1 v2 v3 v4 v5 P) (n27 + 1) z1 z2 z3 z4 z5 z6) (fun P : O → Prop => wp_X0_journey_L27 s0 (fun v0 => G2_post v0 P) (fun v0 v1 v2 v3 v4 v5 => G2_e63 v0 v1 v2 v3 v4 v5 P) (m9 + 1) z1 z2 z3 z4 z5 z6) := by
      intro m9
      unfold wp_X0_journey_L27
      exact (dt_p (h_e63 z1 z2 z3 z4 z5 z6) (dt_b1 (F := fun k => wp_X0_entryAt k s0 z2 z3 z5 z6) (dt_X0_entryAt s0 z2 z3 z5 z6) (fun r_7 => (dt_b1 (F := fun k => wp_X6_onFrom k z5 z6 z3) (dt_X6_onFrom z5 z6 z3) (fun r_9 => (ih m9 z1 z2 z3 (z4 + (r_7 * r_9)) z5 (z6 + 1)))))))
    cases m with
    | zero => exact dt_0 (key 0)
    | succ m9 => exact key m9
set_option maxHeartbeats 4000000 in
theorem dl_X0_journey_L18 (s0 : Bd) {O : Type} {G_post G2_post : Int32 → (O → Prop) → Prop} {G_e69 G2_e69 : Int32 → Int32 → Int32 → Int32 → Int32 → (O → Prop) → Prop} (h_post : ∀ v0, dt (G_post v0) (G2_post v0)) (h_e69 : ∀ v0 v1 v2 v3 v4, dt (G_e69 v0 v1 v2 v3 v4) (G2_e69 v0 v1 v2 v3 v4)) : ∀ (n m : Nat) (z1 : Int32) (z2 : Int32) (z3 : Int32) (z4 : Int32) (z5 : Int32), dt (fun P : O → Prop => wp_X0_journey_L18 s0 (fun v0 => G_post v0 P) (fun v0 v1 v2 v3 v4 => G_e69 v0 v1 v2 v3 v4 P) n z1 z2 z3 z4 z5) (fun P : O → Prop => wp_X0_journey_L18 s0 (fun v0 => G2_post v0 P) (fun v0 v1 v2 v3 v4 => G2_e69 v0 v1 v2 v3 v4 P) m z1 z2 z3 z4 z5) := by
  intro n
  induction n with
  | zero => exact fun _ _ _ _ _ _ => dt_F
  | succ n18 ih =>
    intro m z1 z2 z3 z4 z5
    have key : ∀ m9 : Nat, dt (fun P : O → Prop => wp_X0_journey_L18 s0 (fun v0 => G_post v0 P) (fun v0 v1 v2 v3 v4 => G_e69 v0 v1 v2 v3 v4 P) (n18 + 1) z1 z2 z3 z4 z5) (fun P : O → Prop => wp_X0_journey_L18 s0 (fun v0 => G2_post v0 P) (fun v0 v1 v2 v3 v4 => G2_e69 v0 v1 v2 v3 v4 P) (m9 + 1) z1 z2 z3 z4 z5) := by
      intro m9
      unfold wp_X0_journey_L18
      exact (dt_p (h_e69 z1 z2 z3 z4 z5) (dt_x (fun n27 m_n27 => (dl_X0_journey_L27 s0 (fun v0 => (h_post v0)) (fun z1 z2 z3 z4 z5 z6 => (ih m9 z1 z2 z3 z4 (z5 + 1))) n27 m_n27 z1 z2 z3 z4 z5 0))))
    cases m with
    | zero => exact dt_0 (key 0)
    | succ m9 => exact key m9
set_option maxHeartbeats 4000000 in
theorem dt_X0_journey (s0 : Bd) (x1 : Int32) : dt (fun P : Int32 → Prop => wp_X0_journey (fun a0 => P a0) s0 x1) (fun P : Int32 → Prop => wp_X0_journey (fun a0 => P a0) s0 x1) := by
  unfold wp_X0_journey
  exact (dt_b1 (F := fun k => wp_X0_entryStart k s0 x1) (dt_X0_entryStart s0 x1) (fun r_1 => (dt_b1 (F := fun k => wp_X0_flapsOn k s0 x1) (dt_X0_flapsOn s0 x1) (fun r_3 => (dt_x (fun n18 m_n18 => (dl_X0_journey_L18 s0 (fun v0 => (dt_r _)) (fun z1 z2 z3 z4 z5 => (dt_r _)) n18 m_n18 x1 r_1 r_3 0 0)))))))
set_option maxHeartbeats 4000000 in
theorem dl_X0_entriesOf_L20 (s0 : Bd) {O : Type} {G_post G2_post : Int32 → (O → Prop) → Prop} {G_e67 G2_e67 : Int32 → Int32 → Int32 → Int32 → Int32 → Int32 → Int32 → (O → Prop) → Prop} (h_post : ∀ v0, dt (G_post v0) (G2_post v0)) (h_e67 : ∀ v0 v1 v2 v3 v4 v5 v6, dt (G_e67 v0 v1 v2 v3 v4 v5 v6) (G2_e67 v0 v1 v2 v3 v4 v5 v6)) : ∀ (n m : Nat) (z1 : Int32) (z2 : Int32) (z3 : Int32) (z4 : Int32) (z5 : Int32) (z6 : Int32) (z7 : Int32), dt (fun P : O → Prop => wp_X0_entriesOf_L20 s0 (fun v0 => G_post v0 P) (fun v0 v1 v2 v3 v4 v5 v6 => G_e67 v0 v1 v2 v3 v4 v5 v6 P) n z1 z2 z3 z4 z5 z6 z7) (fun P : O → Prop => wp_X0_entriesOf_L20 s0 (fun v0 => G2_post v0 P) (fun v0 v1 v2 v3 v4 v5 v6 => G2_e67 v0 v1 v2 v3 v4 v5 v6 P) m z1 z2 z3 z4 z5 z6 z7) := by
  intro n
  induction n with
  | zero => exact fun _ _ _ _ _ _ _ _ => dt_F
  | succ n20 ih =>
    intro m z1 z2 z3 z4 z5 z6 z7
    have key : ∀ m9 : Nat, dt (fun P : O → Prop => wp_X0_entriesOf_L20 s0 (fun v0 => G_post v0 P) (fun v0 v1 v2 v3 v4 v5 v6 => G_e67 v0 v1 v2 v3 v4 v5 v6 P) (n20 + 1) z1 z2 z3 z4 z5 z6 z7) (fun P : O → Prop => wp_X0_entriesOf_L20 s0 (fun v0 => G2_post v0 P) (fun v0 v1 v2 v3 v4 v5 v6 => G2_e67 v0 v1 v2 v3 v4 v5 v6 P) (m9 + 1) z1 z2 z3 z4 z5 z6 z7) := by
      intro m9
      unfold wp_X0_entriesOf_L20
      exact (dt_p (h_e67 z1 z2 z3 z4 z5 z6 z7) (dt_p (dt_b1 (F := fun k => wp_X0_entryAt k s0 z4 z5 z2 z7) (dt_X0_entryAt s0 z4 z5 z2 z7) (fun r_7 => (ih m9 z1 z2 z3 z4 z5 (z6 + r_7) (z7 + 1)))) (dt_b1 (F := fun k => wp_X0_entryAt k s0 z4 z5 z7 z2) (dt_X0_entryAt s0 z4 z5 z7 z2) (fun r_9 => (ih m9 z1 z2 z3 z4 z5 (z6 + r_9) (z7 + 1))))))
    cases m with
    | zero => exact dt_0 (key 0)
    | succ m9 => exact key m9
set_option maxHeartbeats 4000000 in
theorem dt_X0_entriesOf (s0 : Bd) (x1 : Int32) (x2 : Int32) (x3 : Int32) : dt (fun P : Int32 → Prop => wp_X0_entriesOf (fun a0 => P a0) s0 x1 x2 x3) (fun P : Int32 → Prop => wp_X0_entriesOf (fun a0 => P a0) s0 x1 x2 x3) := by
  unfold wp_X0_entriesOf
  exact (dt_b1 (F := fun k => wp_X0_entryStart k s0 x1) (dt_X0_entryStart s0 x1) (fun r_1 => (dt_b1 (F := fun k => wp_X0_flapsOn k s0 x1) (dt_X0_flapsOn s0 x1) (fun r_3 => (dt_x (fun n20 m_n20 => (dl_X0_entriesOf_L20 s0 (fun v0 => (dt_r _)) (fun z1 z2 z3 z4 z5 z6 z7 => (dt_r _)) n20 m_n20 x1 x2 x3 r_1 r_3 0 0)))))))
set_option maxHeartbeats 4000000 in
theorem dl_X0_logSize_L4 (s0 : Bd) {O : Type} {G_post G2_post : Int32 → (O → Prop) → Prop} {G_e29 G2_e29 : Int32 → Int32 → Int32 → (O → Prop) → Prop} (h_post : ∀ v0, dt (G_post v0) (G2_post v0)) (h_e29 : ∀ v0 v1 v2, dt (G_e29 v0 v1 v2) (G2_e29 v0 v1 v2)) : ∀ (n m : Nat) (z1 : Int32) (z2 : Int32) (z3 : Int32), dt (fun P : O → Prop => wp_X0_logSize_L4 s0 (fun v0 => G_post v0 P) (fun v0 v1 v2 => G_e29 v0 v1 v2 P) n z1 z2 z3) (fun P : O → Prop => wp_X0_logSize_L4 s0 (fun v0 => G2_post v0 P) (fun v0 v1 v2 => G2_e29 v0 v1 v2 P) m z1 z2 z3) := by
  intro n
  induction n with
  | zero => exact fun _ _ _ _ => dt_F
  | succ n4 ih =>
    intro m z1 z2 z3
    have key : ∀ m9 : Nat, dt (fun P : O → Prop => wp_X0_logSize_L4 s0 (fun v0 => G_post v0 P) (fun v0 v1 v2 => G_e29 v0 v1 v2 P) (n4 + 1) z1 z2 z3) (fun P : O → Prop => wp_X0_logSize_L4 s0 (fun v0 => G2_post v0 P) (fun v0 v1 v2 => G2_e29 v0 v1 v2 P) (m9 + 1) z1 z2 z3) := by
      intro m9
      unfold wp_X0_logSize_L4
      exact (dt_b1 (F := fun k => wp_X0_flapsOn k s0 z1) (dt_X0_flapsOn s0 z1) (fun r_1 => (dt_p (h_e29 z1 z2 z3) (dt_b1 (F := fun k => wp_X0_entriesOf k s0 z1 z3 (1 : Int32)) (dt_X0_entriesOf s0 z1 z3 (1 : Int32)) (fun r_4 => (ih m9 z1 (z2 + r_4) (z3 + 1)))))))
    cases m with
    | zero => exact dt_0 (key 0)
    | succ m9 => exact key m9
set_option maxHeartbeats 4000000 in
theorem dt_X0_logSize (s0 : Bd) (x1 : Int32) : dt (fun P : Int32 → Prop => wp_X0_logSize (fun a0 => P a0) s0 x1) (fun P : Int32 → Prop => wp_X0_logSize (fun a0 => P a0) s0 x1) := by
  unfold wp_X0_logSize
  exact (dt_x (fun n4 m_n4 => (dl_X0_logSize_L4 s0 (fun v0 => (dt_r _)) (fun z1 z2 z3 => (dt_r _)) n4 m_n4 x1 0 0)))
set_option maxHeartbeats 4000000 in
theorem dl_X0_unlikeEntries_L27 (s0 : Bd) {O : Type} {G_post G2_post : Int32 → (O → Prop) → Prop} {G_e55 G2_e55 : Int32 → Int32 → Int32 → Int32 → Int32 → Int32 → (O → Prop) → Prop} (h_post : ∀ v0, dt (G_post v0) (G2_post v0)) (h_e55 : ∀ v0 v1 v2 v3 v4 v5, dt (G_e55 v0 v1 v2 v3 v4 v5) (G2_e55 v0 v1 v2 v3 v4 v5)) : ∀ (n m : Nat) (z1 : Int32) (z2 : Int32) (z3 : Int32) (z4 : Int32) (z5 : Int32) (z6 : Int32), dt (fun P : O → Prop => wp_X0_unlikeEntries_L27 s0 (fun v0 => G_post v0 P) (fun v0 v1 v2 v3 v4 v5 => G_e55 v0 v1 v2 v3 v4 v5 P) n z1 z2 z3 z4 z5 z6) (fun P : O → Prop => wp_X0_unlikeEntries_L27 s0 (fun v0 => G2_post v0 P) (fun v0 v1 v2 v3 v4 v5 => G2_e55 v0 v1 v2 v3 v4 v5 P) m z1 z2 z3 z4 z5 z6) := by
  intro n
  induction n with
  | zero => exact fun _ _ _ _ _ _ _ => dt_F
  | succ n27 ih =>
    intro m z1 z2 z3 z4 z5 z6
    have key : ∀ m9 : Nat, dt (fun P : O → Prop => wp_X0_unlikeEntries_L27 s0 (fun v0 => G_post v0 P) (fun v0 v1 v2 v3 v4 v5 => G_e55 v0 v1 v2 v3 v4 v5 P) (n27 + 1) z1 z2 z3 z4 z5 z6) (fun P : O → Prop => wp_X0_unlikeEntries_L27 s0 (fun v0 => G2_post v0 P) (fun v0 v1 v2 v3 v4 v5 => G2_e55 v0 v1 v2 v3 v4 v5 P) (m9 + 1) z1 z2 z3 z4 z5 z6) := by
      intro m9
      unfold wp_X0_unlikeEntries_L27
      exact (dt_p (h_e55 z1 z2 z3 z4 z5 z6) (dt_b1 (F := fun k => wp_X0_entryAt k s0 z2 z3 z5 z6) (dt_X0_entryAt s0 z2 z3 z5 z6) (fun r_7 => (dt_p (ih m9 z1 z2 z3 z4 z5 (z6 + 1)) (ih m9 z1 z2 z3 (z4 + 1) z5 (z6 + 1))))))
    cases m with
    | zero => exact dt_0 (key 0)
    | succ m9 => exact key m9
set_option maxHeartbeats 4000000 in
theorem dl_X0_unlikeEntries_L18 (s0 : Bd) {O : Type} {G_post G2_post : Int32 → (O → Prop) → Prop} {G_e61 G2_e61 : Int32 → Int32 → Int32 → Int32 → Int32 → (O → Prop) → Prop} (h_post : ∀ v0, dt (G_post v0) (G2_post v0)) (h_e61 : ∀ v0 v1 v2 v3 v4, dt (G_e61 v0 v1 v2 v3 v4) (G2_e61 v0 v1 v2 v3 v4)) : ∀ (n m : Nat) (z1 : Int32) (z2 : Int32) (z3 : Int32) (z4 : Int32) (z5 : Int32), dt (fun P : O → Prop => wp_X0_unlikeEntries_L18 s0 (fun v0 => G_post v0 P) (fun v0 v1 v2 v3 v4 => G_e61 v0 v1 v2 v3 v4 P) n z1 z2 z3 z4 z5) (fun P : O → Prop => wp_X0_unlikeEntries_L18 s0 (fun v0 => G2_post v0 P) (fun v0 v1 v2 v3 v4 => G2_e61 v0 v1 v2 v3 v4 P) m z1 z2 z3 z4 z5) := by
  intro n
  induction n with
  | zero => exact fun _ _ _ _ _ _ => dt_F
  | succ n18 ih =>
    intro m z1 z2 z3 z4 z5
    have key : ∀ m9 : Nat, dt (fun P : O → Prop => wp_X0_unlikeEntries_L18 s0 (fun v0 => G_post v0 P) (fun v0 v1 v2 v3 v4 => G_e61 v0 v1 v2 v3 v4 P) (n18 + 1) z1 z2 z3 z4 z5) (fun P : O → Prop => wp_X0_unlikeEntries_L18 s0 (fun v0 => G2_post v0 P) (fun v0 v1 v2 v3 v4 => G2_e61 v0 v1 v2 v3 v4 P) (m9 + 1) z1 z2 z3 z4 z5) := by
      intro m9
      unfold wp_X0_unlikeEntries_L18
      exact (dt_p (h_e61 z1 z2 z3 z4 z5) (dt_x (fun n27 m_n27 => (dl_X0_unlikeEntries_L27 s0 (fun v0 => (h_post v0)) (fun z1 z2 z3 z4 z5 z6 => (ih m9 z1 z2 z3 z4 (z5 + 1))) n27 m_n27 z1 z2 z3 z4 z5 0))))
    cases m with
    | zero => exact dt_0 (key 0)
    | succ m9 => exact key m9
set_option maxHeartbeats 4000000 in
theorem dt_X0_unlikeEntries (s0 : Bd) (x1 : Int32) : dt (fun P : Int32 → Prop => wp_X0_unlikeEntries (fun a0 => P a0) s0 x1) (fun P : Int32 → Prop => wp_X0_unlikeEntries (fun a0 => P a0) s0 x1) := by
  unfold wp_X0_unlikeEntries
  exact (dt_b1 (F := fun k => wp_X0_entryStart k s0 x1) (dt_X0_entryStart s0 x1) (fun r_1 => (dt_b1 (F := fun k => wp_X0_flapsOn k s0 x1) (dt_X0_flapsOn s0 x1) (fun r_3 => (dt_x (fun n18 m_n18 => (dl_X0_unlikeEntries_L18 s0 (fun v0 => (dt_r _)) (fun z1 z2 z3 z4 z5 => (dt_r _)) n18 m_n18 x1 r_1 r_3 0 0)))))))
set_option maxHeartbeats 4000000 in
theorem dl_X0_journeyChange_L60 (s0 : Bd) {O : Type} {G_post G2_post : Int32 → (O → Prop) → Prop} {G_e185 G2_e185 : Int32 → Int32 → Int32 → Int32 → Int32 → Int32 → Int32 → Int32 → (O → Prop) → Prop} (h_post : ∀ v0, dt (G_post v0) (G2_post v0)) (h_e185 : ∀ v0 v1 v2 v3 v4 v5 v6 v7, dt (G_e185 v0 v1 v2 v3 v4 v5 v6 v7) (G2_e185 v0 v1 v2 v3 v4 v5 v6 v7)) : ∀ (n m : Nat) (z1 : Int32) (z2 : Int32) (z3 : Int32) (z4 : Int32) (z5 : Int32) (z6 : Int32) (z7 : Int32) (z8 : Int32), dt (fun P : O → Prop => wp_X0_journeyChange_L60 s0 (fun v0 => G_post v0 P) (fun v0 v1 v2 v3 v4 v5 v6 v7 => G_e185 v0 v1 v2 v3 v4 v5 v6 v7 P) n z1 z2 z3 z4 z5 z6 z7 z8) (fun P : O → Prop => wp_X0_journeyChange_L60 s0 (fun v0 => G2_post v0 P) (fun v0 v1 v2 v3 v4 v5 v6 v7 => G2_e185 v0 v1 v2 v3 v4 v5 v6 v7 P) m z1 z2 z3 z4 z5 z6 z7 z8) := by
  intro n
  induction n with
  | zero => exact fun _ _ _ _ _ _ _ _ _ => dt_F
  | succ n60 ih =>
    intro m z1 z2 z3 z4 z5 z6 z7 z8
    have key : ∀ m9 : Nat, dt (fun P : O → Prop => wp_X0_journeyChange_L60 s0 (fun v0 => G_post v0 P) (fun v0 v1 v2 v3 v4 v5 v6 v7 => G_e185 v0 v1 v2 v3 v4 v5 v6 v7 P) (n60 + 1) z1 z2 z3 z4 z5 z6 z7 z8) (fun P : O → Prop => wp_X0_journeyChange_L60 s0 (fun v0 => G2_post v0 P) (fun v0 v1 v2 v3 v4 v5 v6 v7 => G2_e185 v0 v1 v2 v3 v4 v5 v6 v7 P) (m9 + 1) z1 z2 z3 z4 z5 z6 z7 z8) := by
      intro m9
      unfold wp_X0_journeyChange_L60
      exact (dt_p (h_e185 z1 z2 z3 z4 z5 z6 z7 z8) (dt_p (ih m9 z1 z2 z3 z4 z5 z6 z7 (z8 + 1)) (dt_p (ih m9 z1 z2 z3 z4 z5 z6 z7 (z8 + 1)) (dt_b1 (F := fun k => wp_X0_entryAt k s0 z4 z5 z2 z8) (dt_X0_entryAt s0 z4 z5 z2 z8) (fun r_16 => (dt_b1 (F := fun k => wp_X0_entryAt k s0 z4 z5 z3 z8) (dt_X0_entryAt s0 z4 z5 z3 z8) (fun r_18 => (dt_b1 (F := fun k => wp_X0_entryAt k s0 z4 z5 z8 z2) (dt_X0_entryAt s0 z4 z5 z8 z2) (fun r_20 => (dt_b1 (F := fun k => wp_X0_entryAt k s0 z4 z5 z8 z3) (dt_X0_entryAt s0 z4 z5 z8 z3) (fun r_22 => (dt_b1 (F := fun k => wp_X6_onFrom k z3 z8 z5) (dt_X6_onFrom z3 z8 z5) (fun r_24 => (dt_b1 (F := fun k => wp_X6_onFrom k z2 z8 z5) (dt_X6_onFrom z2 z8 z5) (fun r_26 => (dt_b1 (F := fun k => wp_X6_onFrom k z8 z3 z5) (dt_X6_onFrom z8 z3 z5) (fun r_28 => (dt_b1 (F := fun k => wp_X6_onFrom k z8 z2 z5) (dt_X6_onFrom z8 z2 z5) (fun r_30 => (ih m9 z1 z2 z3 z4 z5 z6 ((z7 + ((r_16 - r_18) * (r_24 - r_26))) + ((r_20 - r_22) * (r_28 - r_30))) (z8 + 1)))))))))))))))))))))
    cases m with
    | zero => exact dt_0 (key 0)
    | succ m9 => exact key m9
set_option maxHeartbeats 4000000 in
theorem dt_X0_journeyChange (s0 : Bd) (x1 : Int32) (x2 : Int32) (x3 : Int32) : dt (fun P : Int32 → Prop => wp_X0_journeyChange (fun a0 => P a0) s0 x1 x2 x3) (fun P : Int32 → Prop => wp_X0_journeyChange (fun a0 => P a0) s0 x1 x2 x3) := by
  unfold wp_X0_journeyChange
  exact (dt_b1 (F := fun k => wp_X0_entryStart k s0 x1) (dt_X0_entryStart s0 x1) (fun r_1 => (dt_b1 (F := fun k => wp_X0_flapsOn k s0 x1) (dt_X0_flapsOn s0 x1) (fun r_3 => (dt_b1 (F := fun k => wp_X0_entryAt k s0 r_1 r_3 x2 x3) (dt_X0_entryAt s0 r_1 r_3 x2 x3) (fun r_5 => (dt_b1 (F := fun k => wp_X0_entryAt k s0 r_1 r_3 x3 x2) (dt_X0_entryAt s0 r_1 r_3 x3 x2) (fun r_7 => (dt_b1 (F := fun k => wp_X6_onFrom k x3 x2 r_3) (dt_X6_onFrom x3 x2 r_3) (fun r_9 => (dt_b1 (F := fun k => wp_X6_onFrom k x2 x3 r_3) (dt_X6_onFrom x2 x3 r_3) (fun r_11 => (dt_x (fun n60 m_n60 => (dl_X0_journeyChange_L60 s0 (fun v0 => (dt_r _)) (fun z1 z2 z3 z4 z5 z6 z7 z8 => (dt_r _)) n60 m_n60 x1 x2 x3 r_1 r_3 (r_5 - r_7) ((r_5 - r_7) * (r_9 - r_11)) 0)))))))))))))))
set_option maxHeartbeats 4000000 in
theorem dt_X5_startReading (s0 : Tp) : dt (fun P : Tp → Prop => wp_X5_startReading (fun a0 => P a0) s0) (fun P : Tp → Prop => wp_X5_startReading (fun a0 => P a0) s0) := by
  unfold wp_X5_startReading
  exact (dt_r _)
set_option maxHeartbeats 4000000 in
theorem dl_X5_peek_L0  {O : Type} {G_post G2_post : Int32 → Tp → (O → Prop) → Prop} {G_e38 G2_e38 : Tp → (O → Prop) → Prop} (h_post : ∀ v0 v1, dt (G_post v0 v1) (G2_post v0 v1)) (h_e38 : ∀ v0, dt (G_e38 v0) (G2_e38 v0)) : ∀ (n m : Nat) (t0 : Tp), dt (fun P : O → Prop => wp_X5_peek_L0 (fun v0 v1 => G_post v0 v1 P) (fun v0 => G_e38 v0 P) n t0) (fun P : O → Prop => wp_X5_peek_L0 (fun v0 v1 => G2_post v0 v1 P) (fun v0 => G2_e38 v0 P) m t0) := by
  intro n
  induction n with
  | zero => exact fun _ _ => dt_F
  | succ n0 ih =>
    intro m t0
    have key : ∀ m9 : Nat, dt (fun P : O → Prop => wp_X5_peek_L0 (fun v0 v1 => G_post v0 v1 P) (fun v0 => G_e38 v0 P) (n0 + 1) t0) (fun P : O → Prop => wp_X5_peek_L0 (fun v0 v1 => G2_post v0 v1 P) (fun v0 => G2_e38 v0 P) (m9 + 1) t0) := by
      intro m9
      unfold wp_X5_peek_L0
      exact (dt_p (h_e38 t0) (dt_c (dt_n (h_e38 t0) (ih m9 ((va_up t0.1 1 ((t0.1 1) + 1)), t0.2)))))
    cases m with
    | zero => exact dt_0 (key 0)
    | succ m9 => exact key m9
set_option maxHeartbeats 4000000 in
theorem dt_X5_peek (s0 : Tp) : dt (fun P : (Int32 × Tp) → Prop => wp_X5_peek (fun a0 a1 => P (a0, a1)) s0) (fun P : (Int32 × Tp) → Prop => wp_X5_peek (fun a0 a1 => P (a0, a1)) s0) := by
  unfold wp_X5_peek
  exact (dt_x (fun n0 m_n0 => (dl_X5_peek_L0  (fun v0 v1 => (dt_r _)) (fun t0 => (dt_p (dt_r _) (dt_c (dt_r _)))) n0 m_n0 s0)))
set_option maxHeartbeats 4000000 in
theorem dl_X5_isRead_L20 (s0 : Tp) (i1 : Nat) {O : Type} {G_post G2_post : Int32 → (O → Prop) → Prop} {G_e55 G2_e55 : Int32 → (O → Prop) → Prop} (h_post : ∀ v0, dt (G_post v0) (G2_post v0)) (h_e55 : ∀ v0, dt (G_e55 v0) (G2_e55 v0)) : ∀ (n m : Nat) (z2 : Int32), dt (fun P : O → Prop => wp_X5_isRead_L20 s0 i1 (fun v0 => G_post v0 P) (fun v0 => G_e55 v0 P) n z2) (fun P : O → Prop => wp_X5_isRead_L20 s0 i1 (fun v0 => G2_post v0 P) (fun v0 => G2_e55 v0 P) m z2) := by
  intro n
  induction n with
  | zero => exact fun _ _ => dt_F
  | succ n20 ih =>
    intro m z2
    have key : ∀ m9 : Nat, dt (fun P : O → Prop => wp_X5_isRead_L20 s0 i1 (fun v0 => G_post v0 P) (fun v0 => G_e55 v0 P) (n20 + 1) z2) (fun P : O → Prop => wp_X5_isRead_L20 s0 i1 (fun v0 => G2_post v0 P) (fun v0 => G2_e55 v0 P) (m9 + 1) z2) := by
      intro m9
      unfold wp_X5_isRead_L20
      exact (dt_b1 (F := fun k => wp_J0_length_8abf5 k i1) (dt_J0_length_8abf5 i1) (fun r_4 => (dt_p (h_e55 z2) (dt_b1 (F := fun k => wp_J0_charAt_5068e k i1 z2) (dt_J0_charAt_5068e i1 z2) (fun r_7 => (dt_c (dt_p (ih m9 (z2 + 1)) (h_post 0))))))))
    cases m with
    | zero => exact dt_0 (key 0)
    | succ m9 => exact key m9
set_option maxHeartbeats 4000000 in
theorem dt_X5_isRead (s0 : Tp) (i1 : Nat) : dt (fun P : Int32 → Prop => wp_X5_isRead (fun a0 => P a0) s0 i1) (fun P : Int32 → Prop => wp_X5_isRead (fun a0 => P a0) s0 i1) := by
  unfold wp_X5_isRead
  exact (dt_b1 (F := fun k => wp_J0_length_8abf5 k i1) (dt_J0_length_8abf5 i1) (fun r_1 => (dt_p (dt_x (fun n20 m_n20 => (dl_X5_isRead_L20 s0 i1 (fun v0 => (dt_r _)) (fun z2 => (dt_r _)) n20 m_n20 0))) (dt_r _))))
set_option maxHeartbeats 4000000 in
theorem dt_X5_wordRead (s0 : Tp) : dt (fun P : Int32 → Prop => wp_X5_wordRead (fun a0 => P a0) s0) (fun P : Int32 → Prop => wp_X5_wordRead (fun a0 => P a0) s0) := by
  unfold wp_X5_wordRead
  exact (dt_b1 (F := fun k => wp_X5_isRead k s0 0) (dt_X5_isRead s0 0) (fun r_1 => (dt_p (dt_b1 (F := fun k => wp_X5_isRead k s0 1) (dt_X5_isRead s0 1) (fun r_4 => (dt_p (dt_b1 (F := fun k => wp_X5_isRead k s0 2) (dt_X5_isRead s0 2) (fun r_7 => (dt_p (dt_b1 (F := fun k => wp_X5_isRead k s0 3) (dt_X5_isRead s0 3) (fun r_10 => (dt_p (dt_b1 (F := fun k => wp_X5_isRead k s0 4) (dt_X5_isRead s0 4) (fun r_13 => (dt_p (dt_b1 (F := fun k => wp_X5_isRead k s0 5) (dt_X5_isRead s0 5) (fun r_16 => (dt_p (dt_b1 (F := fun k => wp_X5_isRead k s0 6) (dt_X5_isRead s0 6) (fun r_19 => (dt_p (dt_b1 (F := fun k => wp_X5_isRead k s0 7) (dt_X5_isRead s0 7) (fun r_22 => (dt_p (dt_b1 (F := fun k => wp_X5_isRead k s0 8) (dt_X5_isRead s0 8) (fun r_25 => (dt_p (dt_b1 (F := fun k => wp_X5_isRead k s0 9) (dt_X5_isRead s0 9) (fun r_28 => (dt_p (dt_b1 (F := fun k => wp_X5_isRead k s0 10) (dt_X5_isRead s0 10) (fun r_31 => (dt_p (dt_b1 (F := fun k => wp_X5_isRead k s0 11) (dt_X5_isRead s0 11) (fun r_34 => (dt_p (dt_r _) (dt_r _)))) (dt_r _)))) (dt_r _)))) (dt_r _)))) (dt_r _)))) (dt_r _)))) (dt_r _)))) (dt_r _)))) (dt_r _)))) (dt_r _)))) (dt_r _)))) (dt_r _))))
set_option maxHeartbeats 4000000 in
theorem dl_X5_takeWord_L13  {O : Type} {G_post G2_post : Int32 → Tp → (O → Prop) → Prop} {G_e63 G2_e63 : Tp → (O → Prop) → Prop} (h_post : ∀ v0 v1, dt (G_post v0 v1) (G2_post v0 v1)) (h_e63 : ∀ v0, dt (G_e63 v0) (G2_e63 v0)) : ∀ (n m : Nat) (t0 : Tp), dt (fun P : O → Prop => wp_X5_takeWord_L13 (fun v0 v1 => G_post v0 v1 P) (fun v0 => G_e63 v0 P) n t0) (fun P : O → Prop => wp_X5_takeWord_L13 (fun v0 v1 => G2_post v0 v1 P) (fun v0 => G2_e63 v0 P) m t0) := by
  intro n
  induction n with
  | zero => exact fun _ _ => dt_F
  | succ n13 ih =>
    intro m t0
    have key : ∀ m9 : Nat, dt (fun P : O → Prop => wp_X5_takeWord_L13 (fun v0 v1 => G_post v0 v1 P) (fun v0 => G_e63 v0 P) (n13 + 1) t0) (fun P : O → Prop => wp_X5_takeWord_L13 (fun v0 v1 => G2_post v0 v1 P) (fun v0 => G2_e63 v0 P) (m9 + 1) t0) := by
      intro m9
      unfold wp_X5_takeWord_L13
      exact (dt_p (h_e63 t0) (dt_b1 (F := fun k => wp_X5_byteAt k t0 (t0.1 1)) (dt_X5_byteAt t0 (t0.1 1)) (fun r_4 => (dt_p (h_e63 t0) (dt_b1 (F := fun k => wp_X5_byteAt k t0 (t0.1 1)) (dt_X5_byteAt t0 (t0.1 1)) (fun r_7 => (dt_p (h_e63 t0) (ih m9 ((va_up t0.1 1 ((t0.1 1) + 1)), t0.2)))))))))
    cases m with
    | zero => exact dt_0 (key 0)
    | succ m9 => exact key m9
set_option maxHeartbeats 4000000 in
theorem dt_X5_takeWord (s0 : Tp) : dt (fun P : (Int32 × Tp) → Prop => wp_X5_takeWord (fun a0 a1 => P (a0, a1)) s0) (fun P : (Int32 × Tp) → Prop => wp_X5_takeWord (fun a0 a1 => P (a0, a1)) s0) := by
  unfold wp_X5_takeWord
  exact (dt_b2 (F := fun k => wp_X5_peek k s0) (dt_X5_peek s0) (fun r_1 u_2 => (dt_x (fun n13 m_n13 => (dl_X5_takeWord_L13  (fun v0 v1 => (dt_r _)) (fun t0 => (dt_b1 (F := fun k => wp_X5_wordRead k t0) (dt_X5_wordRead t0) (fun r_10 => (dt_r _)))) n13 m_n13 ((va_up u_2.1 2 (u_2.1 1)), u_2.2))))))
set_option maxHeartbeats 4000000 in
theorem dt_X5_blame (s0 : Tp) (x1 : Int32) (x2 : Int32) : dt (fun P : Tp → Prop => wp_X5_blame (fun a0 => P a0) s0 x1 x2) (fun P : Tp → Prop => wp_X5_blame (fun a0 => P a0) s0 x1 x2) := by
  unfold wp_X5_blame
  exact (dt_n (dt_r _) (dt_r _))
set_option maxHeartbeats 4000000 in
theorem dt_X5_takeThisWord (s0 : Tp) (x1 : Int32) : dt (fun P : Tp → Prop => wp_X5_takeThisWord (fun a0 => P a0) s0 x1) (fun P : Tp → Prop => wp_X5_takeThisWord (fun a0 => P a0) s0 x1) := by
  unfold wp_X5_takeThisWord
  exact (dt_b2 (F := fun k => wp_X5_takeWord k s0) (dt_X5_takeWord s0) (fun r_1 u_2 => (dt_p (dt_r _) (dt_b1 (F := fun k => wp_X5_blame k u_2 (u_2.1 2) (1 : Int32)) (dt_X5_blame u_2 (u_2.1 2) (1 : Int32)) (fun u_5 => (dt_r _))))))
set_option maxHeartbeats 4000000 in
theorem dl_X5_takeNumber_L15  {O : Type} {G_post G2_post : Int32 → Tp → (O → Prop) → Prop} {G_e88 G2_e88 : Tp → Int32 → Int32 → Int32 → (O → Prop) → Prop} (h_post : ∀ v0 v1, dt (G_post v0 v1) (G2_post v0 v1)) (h_e88 : ∀ v0 v1 v2 v3, dt (G_e88 v0 v1 v2 v3) (G2_e88 v0 v1 v2 v3)) : ∀ (n m : Nat) (t0 : Tp) (z1 : Int32) (z2 : Int32) (z3 : Int32), dt (fun P : O → Prop => wp_X5_takeNumber_L15 (fun v0 v1 => G_post v0 v1 P) (fun v0 v1 v2 v3 => G_e88 v0 v1 v2 v3 P) n t0 z1 z2 z3) (fun P : O → Prop => wp_X5_takeNumber_L15 (fun v0 v1 => G2_post v0 v1 P) (fun v0 v1 v2 v3 => G2_e88 v0 v1 v2 v3 P) m t0 z1 z2 z3) := by
  intro n
  induction n with
  | zero => exact fun _ _ _ _ _ => dt_F
  | succ n15 ih =>
    intro m t0 z1 z2 z3
    have key : ∀ m9 : Nat, dt (fun P : O → Prop => wp_X5_takeNumber_L15 (fun v0 v1 => G_post v0 v1 P) (fun v0 v1 v2 v3 => G_e88 v0 v1 v2 v3 P) (n15 + 1) t0 z1 z2 z3) (fun P : O → Prop => wp_X5_takeNumber_L15 (fun v0 v1 => G2_post v0 v1 P) (fun v0 v1 v2 v3 => G2_e88 v0 v1 v2 v3 P) (m9 + 1) t0 z1 z2 z3) := by
      intro m9
      unfold wp_X5_takeNumber_L15
      exact (dt_p (h_e88 t0 z1 z2 z3) (dt_b1 (F := fun k => wp_X5_byteAt k t0 (t0.1 1)) (dt_X5_byteAt t0 (t0.1 1)) (fun r_4 => (dt_p (h_e88 t0 z1 z2 z3) (dt_b1 (F := fun k => wp_X5_byteAt k t0 (t0.1 1)) (dt_X5_byteAt t0 (t0.1 1)) (fun r_7 => (dt_p (h_e88 t0 z1 z2 z3) (dt_b1 (F := fun k => wp_X5_byteAt k t0 (t0.1 1)) (dt_X5_byteAt t0 (t0.1 1)) (fun r_10 => (ih m9 ((va_up t0.1 1 ((t0.1 1) + 1)), t0.2) z1 z2 (if ((((z3 * 10) + r_10) - 48) < (1000 : Int32)) then (((z3 * 10) + r_10) - 48) else (1000 : Int32))))))))))))
    cases m with
    | zero => exact dt_0 (key 0)
    | succ m9 => exact key m9
set_option maxHeartbeats 4000000 in
theorem dt_X5_takeNumber (s0 : Tp) (x1 : Int32) (x2 : Int32) : dt (fun P : (Int32 × Tp) → Prop => wp_X5_takeNumber (fun a0 a1 => P (a0, a1)) s0 x1 x2) (fun P : (Int32 × Tp) → Prop => wp_X5_takeNumber (fun a0 a1 => P (a0, a1)) s0 x1 x2) := by
  unfold wp_X5_takeNumber
  exact (dt_b2 (F := fun k => wp_X5_peek k s0) (dt_X5_peek s0) (fun r_1 u_2 => (dt_x (fun n15 m_n15 => (dl_X5_takeNumber_L15  (fun v0 v1 => (dt_r _)) (fun t0 z1 z2 z3 => (dt_n (dt_p (dt_b1 (F := fun k => wp_X5_blame k t0 (t0.1 2) (2 : Int32)) (dt_X5_blame t0 (t0.1 2) (2 : Int32)) (fun u_15 => (dt_r _))) (dt_p (dt_r _) (dt_b1 (F := fun k => wp_X5_blame k t0 (t0.1 2) (2 : Int32)) (dt_X5_blame t0 (t0.1 2) (2 : Int32)) (fun u_18 => (dt_r _))))) (dt_b1 (F := fun k => wp_X5_blame k t0 (t0.1 1) (1 : Int32)) (dt_X5_blame t0 (t0.1 1) (1 : Int32)) (fun u_20 => (dt_r _))))) n15 m_n15 ((va_up u_2.1 2 (u_2.1 1)), u_2.2) x1 x2 0)))))
set_option maxHeartbeats 4000000 in
theorem dt_X5_isSound (s0 : Tp) : dt (fun P : Int32 → Prop => wp_X5_isSound (fun a0 => P a0) s0) (fun P : Int32 → Prop => wp_X5_isSound (fun a0 => P a0) s0) := by
  unfold wp_X5_isSound
  exact (dt_n (dt_r _) (dt_r _))
set_option maxHeartbeats 4000000 in
theorem dt_X1_readHead (s0 : Bd) (s1 : Tp) : dt (fun P : (Bd × Tp) → Prop => wp_X1_readHead (fun a0 a1 => P (a0, a1)) s0 s1) (fun P : (Bd × Tp) → Prop => wp_X1_readHead (fun a0 a1 => P (a0, a1)) s0 s1) := by
  unfold wp_X1_readHead
  exact (dt_b1 (F := fun k => wp_X5_takeThisWord k s1 (1 : Int32)) (dt_X5_takeThisWord s1 (1 : Int32)) (fun u_2 => (dt_b2 (F := fun k => wp_X5_takeNumber k u_2 (1 : Int32) (6 : Int32)) (dt_X5_takeNumber u_2 (1 : Int32) (6 : Int32)) (fun r_3 u_4 => (dt_p (dt_b2 (F := fun k => wp_X5_takeNumber k u_4 (1 : Int32) (0 : Int32)) (dt_X5_takeNumber u_4 (1 : Int32) (0 : Int32)) (fun r_6 u_7 => (dt_b1 (F := fun k => wp_X5_takeThisWord k u_7 (2 : Int32)) (dt_X5_takeThisWord u_7 (2 : Int32)) (fun u_9 => (dt_b2 (F := fun k => wp_X5_takeNumber k u_9 (1 : Int32) (99 : Int32)) (dt_X5_takeNumber u_9 (1 : Int32) (99 : Int32)) (fun r_10 u_11 => (dt_b1 (F := fun k => wp_X5_isSound k u_11) (dt_X5_isSound u_11) (fun r_12 => (dt_p (dt_r _) (dt_r _)))))))))) (dt_c (dt_b2 (F := fun k => wp_X5_takeNumber k u_4 (1 : Int32) (if ((40 / r_3) < (10 : Int32)) then (40 / r_3) else (10 : Int32))) (dt_X5_takeNumber u_4 (1 : Int32) (if ((40 / r_3) < (10 : Int32)) then (40 / r_3) else (10 : Int32))) (fun r_16 u_17 => (dt_b1 (F := fun k => wp_X5_takeThisWord k u_17 (2 : Int32)) (dt_X5_takeThisWord u_17 (2 : Int32)) (fun u_19 => (dt_b2 (F := fun k => wp_X5_takeNumber k u_19 (1 : Int32) (99 : Int32)) (dt_X5_takeNumber u_19 (1 : Int32) (99 : Int32)) (fun r_20 u_21 => (dt_b1 (F := fun k => wp_X5_isSound k u_21) (dt_X5_isSound u_21) (fun r_22 => (dt_p (dt_r _) (dt_r _))))))))))))))))
set_option maxHeartbeats 4000000 in
theorem dt_X5_takeByte (s0 : Tp) (x1 : Int32) : dt (fun P : Tp → Prop => wp_X5_takeByte (fun a0 => P a0) s0 x1) (fun P : Tp → Prop => wp_X5_takeByte (fun a0 => P a0) s0 x1) := by
  unfold wp_X5_takeByte
  exact (dt_b2 (F := fun k => wp_X5_peek k s0) (dt_X5_peek s0) (fun r_1 u_2 => (dt_n (dt_b1 (F := fun k => wp_X5_blame k u_2 (u_2.1 1) (1 : Int32)) (dt_X5_blame u_2 (u_2.1 1) (1 : Int32)) (fun u_5 => (dt_r _))) (dt_r _))))
set_option maxHeartbeats 4000000 in
theorem dt_X6_isSign (x0 : Int32) : dt (fun P : Int32 → Prop => wp_X6_isSign (fun a0 => P a0) x0) (fun P : Int32 → Prop => wp_X6_isSign (fun a0 => P a0) x0) := by
  unfold wp_X6_isSign
  exact (dt_p (dt_r _) (dt_p (dt_r _) (dt_p (dt_r _) (dt_r _))))
set_option maxHeartbeats 4000000 in
theorem dl_X5_takeQuoted_L14  {O : Type} {G_post G2_post : Tp → (O → Prop) → Prop} {G_e106 G2_e106 : Tp → Int32 → Int32 → (O → Prop) → Prop} (h_post : ∀ v0, dt (G_post v0) (G2_post v0)) (h_e106 : ∀ v0 v1 v2, dt (G_e106 v0 v1 v2) (G2_e106 v0 v1 v2)) : ∀ (n m : Nat) (t0 : Tp) (z1 : Int32) (z2 : Int32), dt (fun P : O → Prop => wp_X5_takeQuoted_L14 (fun v0 => G_post v0 P) (fun v0 v1 v2 => G_e106 v0 v1 v2 P) n t0 z1 z2) (fun P : O → Prop => wp_X5_takeQuoted_L14 (fun v0 => G2_post v0 P) (fun v0 v1 v2 => G2_e106 v0 v1 v2 P) m t0 z1 z2) := by
  intro n
  induction n with
  | zero => exact fun _ _ _ _ => dt_F
  | succ n14 ih =>
    intro m t0 z1 z2
    have key : ∀ m9 : Nat, dt (fun P : O → Prop => wp_X5_takeQuoted_L14 (fun v0 => G_post v0 P) (fun v0 v1 v2 => G_e106 v0 v1 v2 P) (n14 + 1) t0 z1 z2) (fun P : O → Prop => wp_X5_takeQuoted_L14 (fun v0 => G2_post v0 P) (fun v0 v1 v2 => G2_e106 v0 v1 v2 P) (m9 + 1) t0 z1 z2) := by
      intro m9
      unfold wp_X5_takeQuoted_L14
      exact (dt_p (h_e106 t0 z1 z2) (dt_b1 (F := fun k => wp_X5_isSound k t0) (dt_X5_isSound t0) (fun r_4 => (dt_p (h_e106 t0 z1 z2) (dt_b1 (F := fun k => wp_X5_byteAt k t0 (t0.1 1)) (dt_X5_byteAt t0 (t0.1 1)) (fun r_7 => (dt_p (h_e106 t0 z1 z2) (dt_b1 (F := fun k => wp_X5_byteAt k t0 (t0.1 1)) (dt_X5_byteAt t0 (t0.1 1)) (fun r_10 => (dt_b1 (F := fun k => wp_X6_isSign k r_10) (dt_X6_isSign r_10) (fun r_12 => (dt_n (dt_p (ih m9 ((va_up t0.1 1 ((t0.1 1) + 1)), t0.2) z1 z2) (dt_b1 (F := fun k => wp_X5_blame k t0 (t0.1 1) (2 : Int32)) (dt_X5_blame t0 (t0.1 1) (2 : Int32)) (fun u_17 => (ih m9 ((va_up u_17.1 1 ((u_17.1 1) + 1)), u_17.2) z1 z2)))) (dt_b1 (F := fun k => wp_X5_blame k t0 (t0.1 1) (1 : Int32)) (dt_X5_blame t0 (t0.1 1) (1 : Int32)) (fun u_19 => (ih m9 ((va_up u_19.1 1 ((u_19.1 1) + 1)), u_19.2) z1 z2)))))))))))))))
    cases m with
    | zero => exact dt_0 (key 0)
    | succ m9 => exact key m9
set_option maxHeartbeats 4000000 in
theorem dt_X5_takeQuoted (s0 : Tp) (x1 : Int32) (x2 : Int32) : dt (fun P : Tp → Prop => wp_X5_takeQuoted (fun a0 => P a0) s0 x1 x2) (fun P : Tp → Prop => wp_X5_takeQuoted (fun a0 => P a0) s0 x1 x2) := by
  unfold wp_X5_takeQuoted
  exact (dt_b1 (F := fun k => wp_X5_takeByte k s0 (39 : Int32)) (dt_X5_takeByte s0 (39 : Int32)) (fun u_2 => (dt_x (fun n14 m_n14 => (dl_X5_takeQuoted_L14  (fun v0 => (dt_r _)) (fun t0 z1 z2 => (dt_p (dt_p (dt_r _) (dt_b1 (F := fun k => wp_X5_blame k ((va_up t0.1 4 ((t0.1 1) - (t0.1 3))), t0.2) (t0.1 1) (2 : Int32)) (dt_X5_blame ((va_up t0.1 4 ((t0.1 1) - (t0.1 3))), t0.2) (t0.1 1) (2 : Int32)) (fun u_23 => (dt_r _)))) (dt_b1 (F := fun k => wp_X5_blame k ((va_up t0.1 4 ((t0.1 1) - (t0.1 3))), t0.2) (t0.1 0) (1 : Int32)) (dt_X5_blame ((va_up t0.1 4 ((t0.1 1) - (t0.1 3))), t0.2) (t0.1 0) (1 : Int32)) (fun u_25 => (dt_r _))))) n14 m_n14 ((va_up u_2.1 3 (u_2.1 1)), u_2.2) x1 x2)))))
set_option maxHeartbeats 4000000 in
theorem dt_X1_readDrum (s0 : Bd) (s1 : Tp) : dt (fun P : (Bd × Tp) → Prop => wp_X1_readDrum (fun a0 a1 => P (a0, a1)) s0 s1) (fun P : (Bd × Tp) → Prop => wp_X1_readDrum (fun a0 a1 => P (a0, a1)) s0 s1) := by
  unfold wp_X1_readDrum
  exact (dt_b2 (F := fun k => wp_X5_takeNumber k s1 (1 : Int32) (9 : Int32)) (dt_X5_takeNumber s1 (1 : Int32) (9 : Int32)) (fun r_1 u_2 => (dt_b1 (F := fun k => wp_X5_takeQuoted k u_2 (2 : Int32) (40 : Int32)) (dt_X5_takeQuoted u_2 (2 : Int32) (40 : Int32)) (fun u_4 => (dt_b1 (F := fun k => wp_X5_isSound k u_4) (dt_X5_isSound u_4) (fun r_5 => (dt_p (dt_r _) (dt_b1 (F := fun k => wp_X0_addDrum k s0 u_4 r_1 (u_4.1 3) (u_4.1 4)) (dt_X0_addDrum s0 u_4 r_1 (u_4.1 3) (u_4.1 4)) (fun u_9 => (dt_r _))))))))))
set_option maxHeartbeats 4000000 in
theorem dl_X1_readCells_L38  {O : Type} {G_post G2_post : Bd → Tp → (O → Prop) → Prop} {G_e66 G2_e66 : Bd → Tp → Int32 → Int32 → Int32 → Int32 → Int32 → (O → Prop) → Prop} (h_post : ∀ v0 v1, dt (G_post v0 v1) (G2_post v0 v1)) (h_e66 : ∀ v0 v1 v2 v3 v4 v5 v6, dt (G_e66 v0 v1 v2 v3 v4 v5 v6) (G2_e66 v0 v1 v2 v3 v4 v5 v6)) : ∀ (n m : Nat) (t0 : Bd) (t1 : Tp) (z2 : Int32) (z3 : Int32) (z4 : Int32) (z5 : Int32) (z6 : Int32), dt (fun P : O → Prop => wp_X1_readCells_L38 (fun v0 v1 => G_post v0 v1 P) (fun v0 v1 v2 v3 v4 v5 v6 => G_e66 v0 v1 v2 v3 v4 v5 v6 P) n t0 t1 z2 z3 z4 z5 z6) (fun P : O → Prop => wp_X1_readCells_L38 (fun v0 v1 => G2_post v0 v1 P) (fun v0 v1 v2 v3 v4 v5 v6 => G2_e66 v0 v1 v2 v3 v4 v5 v6 P) m t0 t1 z2 z3 z4 z5 z6) := by
  intro n
  induction n with
  | zero => exact fun _ _ _ _ _ _ _ _ => dt_F
  | succ n38 ih =>
    intro m t0 t1 z2 z3 z4 z5 z6
    have key : ∀ m9 : Nat, dt (fun P : O → Prop => wp_X1_readCells_L38 (fun v0 v1 => G_post v0 v1 P) (fun v0 v1 v2 v3 v4 v5 v6 => G_e66 v0 v1 v2 v3 v4 v5 v6 P) (n38 + 1) t0 t1 z2 z3 z4 z5 z6) (fun P : O → Prop => wp_X1_readCells_L38 (fun v0 v1 => G2_post v0 v1 P) (fun v0 v1 v2 v3 v4 v5 v6 => G2_e66 v0 v1 v2 v3 v4 v5 v6 P) (m9 + 1) t0 t1 z2 z3 z4 z5 z6) := by
      intro m9
      unfold wp_X1_readCells_L38
      exact (dt_p (h_e66 t0 t1 z2 z3 z4 z5 z6) (dt_b1 (F := fun k => wp_X5_isSound k t1) (dt_X5_isSound t1) (fun r_10 => (dt_p (h_e66 t0 t1 z2 z3 z4 z5 z6) (dt_b1 (F := fun k => wp_X0_makeCell k t0 z6 z5) (dt_X0_makeCell t0 z6 z5) (fun u_14 => (ih m9 u_14 t1 z2 z3 z4 z5 (z6 + 1))))))))
    cases m with
    | zero => exact dt_0 (key 0)
    | succ m9 => exact key m9
