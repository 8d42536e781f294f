set_option maxHeartbeats 4000000 in
theorem dl_X7_scrolls_L5  {O : Type} {G_post G2_post : Int32 → Md → (O → Prop) → Prop} {G_e45 G2_e45 : Md → Int32 → Int32 → Int32 → Int32 → (O → Prop) → Prop} (h_post : ∀ v0 v1, dt (G_post v0 v1) (G2_post v0 v1)) (h_e45 : ∀ v0 v1 v2 v3 v4, dt (G_e45 v0 v1 v2 v3 v4) (G2_e45 v0 v1 v2 v3 v4)) : ∀ (n m : Nat) (t0 : Md) (z1 : Int32) (z2 : Int32) (z3 : Int32) (z4 : Int32), dt (fun P : O → Prop => wp_X7_scrolls_L5 (fun v0 v1 => G_post v0 v1 P) (fun v0 v1 v2 v3 v4 => G_e45 v0 v1 v2 v3 v4 P) n t0 z1 z2 z3 z4) (fun P : O → Prop => wp_X7_scrolls_L5 (fun v0 v1 => G2_post v0 v1 P) (fun v0 v1 v2 v3 v4 => G2_e45 v0 v1 v2 v3 v4 P) m t0 z1 z2 z3 z4) := by
  intro n
  induction n with
  | zero => exact fun _ _ _ _ _ _ => dt_F
  | succ n5 ih =>
    intro m t0 z1 z2 z3 z4
    have key : ∀ m9 : Nat, dt (fun P : O → Prop => wp_X7_scrolls_L5 (fun v0 v1 => G_post v0 v1 P) (fun v0 v1 v2 v3 v4 => G_e45 v0 v1 v2 v3 v4 P) (n5 + 1) t0 z1 z2 z3 z4) (fun P : O → Prop => wp_X7_scrolls_L5 (fun v0 v1 => G2_post v0 v1 P) (fun v0 v1 v2 v3 v4 => G2_e45 v0 v1 v2 v3 v4 P) (m9 + 1) t0 z1 z2 z3 z4) := by
      intro m9
      unfold wp_X7_scrolls_L5
      exact (dt_b1 (F := fun k => wp_X7_cells k t0) (dt_X7_cells t0) (fun r_1 => (dt_p (h_e45 t0 z1 z2 z3 z4) (dt_b1 (F := fun k => wp_X7_of k t0 z4 (0 : Int32)) (dt_X7_of t0 z4 (0 : Int32)) (fun r_4 => (dt_b1 (F := fun k => wp_X7_of k t0 z4 (3 : Int32)) (dt_X7_of t0 z4 (3 : Int32)) (fun r_6 => (dt_b1 (F := fun k => wp_X7_signOf k t0 r_4 r_6) (dt_X7_signOf t0 r_4 r_6) (fun r_8 => (dt_c (ih m9 (t0.1, t0.2.1, t0.2.2.1, (va_up t0.2.2.2 1 (upd (t0.2.2.2 1) (Int32.toNatClampNeg z4) r_8))) z1 z2 z3 (z4 + 1))))))))))))
    cases m with
    | zero => exact dt_0 (key 0)
    | succ m9 => exact key m9
set_option maxHeartbeats 4000000 in
theorem dl_X7_scrolls_L48  {O : Type} {G_post G2_post : Int32 → Md → (O → Prop) → Prop} {G_e109 G2_e109 : Md → Int32 → Int32 → Int32 → Int32 → (O → Prop) → Prop} (h_post : ∀ v0 v1, dt (G_post v0 v1) (G2_post v0 v1)) (h_e109 : ∀ v0 v1 v2 v3 v4, dt (G_e109 v0 v1 v2 v3 v4) (G2_e109 v0 v1 v2 v3 v4)) : ∀ (n m : Nat) (t0 : Md) (z1 : Int32) (z2 : Int32) (z3 : Int32) (z4 : Int32), dt (fun P : O → Prop => wp_X7_scrolls_L48 (fun v0 v1 => G_post v0 v1 P) (fun v0 v1 v2 v3 v4 => G_e109 v0 v1 v2 v3 v4 P) n t0 z1 z2 z3 z4) (fun P : O → Prop => wp_X7_scrolls_L48 (fun v0 v1 => G2_post v0 v1 P) (fun v0 v1 v2 v3 v4 => G2_e109 v0 v1 v2 v3 v4 P) m t0 z1 z2 z3 z4) := by
  intro n
  induction n with
  | zero => exact fun _ _ _ _ _ _ => dt_F
  | succ n48 ih =>
    intro m t0 z1 z2 z3 z4
    have key : ∀ m9 : Nat, dt (fun P : O → Prop => wp_X7_scrolls_L48 (fun v0 v1 => G_post v0 v1 P) (fun v0 v1 v2 v3 v4 => G_e109 v0 v1 v2 v3 v4 P) (n48 + 1) t0 z1 z2 z3 z4) (fun P : O → Prop => wp_X7_scrolls_L48 (fun v0 v1 => G2_post v0 v1 P) (fun v0 v1 v2 v3 v4 => G2_e109 v0 v1 v2 v3 v4 P) (m9 + 1) t0 z1 z2 z3 z4) := by
      intro m9
      unfold wp_X7_scrolls_L48
      exact (dt_b1 (F := fun k => wp_X7_wide k t0) (dt_X7_wide t0) (fun r_11 => (dt_b1 (F := fun k => wp_X7_cells k t0) (dt_X7_cells t0) (fun r_13 => (dt_p (h_e109 t0 z1 z2 z3 z4) (dt_b1 (F := fun k => wp_X7_wide k t0) (dt_X7_wide t0) (fun r_16 => (dt_c (dt_b1 (F := fun k => wp_X7_flapFor k t0 z4 ((t0.2.2.2 1) (Int32.toNatClampNeg (z4 + r_16)))) (dt_X7_flapFor t0 z4 ((t0.2.2.2 1) (Int32.toNatClampNeg (z4 + r_16)))) (fun r_19 => (dt_n (dt_b1 (F := fun k => wp_X7_wantsFlap k t0 z4 r_19 (1 : Int32)) (dt_X7_wantsFlap t0 z4 r_19 (1 : Int32)) (fun u_23 => (ih m9 u_23 z1 z2 z3 (z4 + 1)))) (ih m9 t0 z1 z2 (z3 + 1) (z4 + 1)))))))))))))
    cases m with
    | zero => exact dt_0 (key 0)
    | succ m9 => exact key m9
set_option maxHeartbeats 4000000 in
theorem dt_X7_scrolls (s0 : Md) (x1 : Int32) (x2 : Int32) : dt (fun P : (Int32 × Md) → Prop => wp_X7_scrolls (fun a0 a1 => P (a0, a1)) s0 x1 x2) (fun P : (Int32 × Md) → Prop => wp_X7_scrolls (fun a0 a1 => P (a0, a1)) s0 x1 x2) := by
  unfold wp_X7_scrolls
  exact (dt_x (fun n5 m_n5 => (dl_X7_scrolls_L5  (fun v0 v1 => (dt_r _)) (fun t0 z1 z2 z3 z4 => (dt_x (fun n48 m_n48 => (dl_X7_scrolls_L48  (fun v0 v1 => (dt_r _)) (fun t0 z1 z2 z3 z4 => (dt_b1 (F := fun k => wp_X7_rows k t0) (dt_X7_rows t0) (fun r_24 => (dt_b2 (F := fun k => wp_X7_wantsSigns k t0 (r_24 - 1) z1 z2 (1 : Int32)) (dt_X7_wantsSigns t0 (r_24 - 1) z1 z2 (1 : Int32)) (fun r_26 u_27 => (dt_r _)))))) n48 m_n48 t0 z1 z2 z3 0)))) n5 m_n5 s0 x1 x2 0 0)))
set_option maxHeartbeats 4000000 in
theorem dl_X7_keepsAct_L53  {O : Type} {G_post G2_post : Md → (O → Prop) → Prop} {G_e87 G2_e87 : Md → Int32 → (O → Prop) → Prop} (h_post : ∀ v0, dt (G_post v0) (G2_post v0)) (h_e87 : ∀ v0 v1, dt (G_e87 v0 v1) (G2_e87 v0 v1)) : ∀ (n m : Nat) (t0 : Md) (z1 : Int32), dt (fun P : O → Prop => wp_X7_keepsAct_L53 (fun v0 => G_post v0 P) (fun v0 v1 => G_e87 v0 v1 P) n t0 z1) (fun P : O → Prop => wp_X7_keepsAct_L53 (fun v0 => G2_post v0 P) (fun v0 v1 => G2_e87 v0 v1 P) m t0 z1) := by
  intro n
  induction n with
  | zero => exact fun _ _ _ => dt_F
  | succ n53 ih =>
    intro m t0 z1
    have key : ∀ m9 : Nat, dt (fun P : O → Prop => wp_X7_keepsAct_L53 (fun v0 => G_post v0 P) (fun v0 v1 => G_e87 v0 v1 P) (n53 + 1) t0 z1) (fun P : O → Prop => wp_X7_keepsAct_L53 (fun v0 => G2_post v0 P) (fun v0 v1 => G2_e87 v0 v1 P) (m9 + 1) t0 z1) := by
      intro m9
      unfold wp_X7_keepsAct_L53
      exact (dt_p (h_e87 t0 z1) (dt_c (dt_c (ih m9 (t0.1, t0.2.1, (va_up t0.2.2.1 1 (vp_updL (t0.2.2.1 1) (Int32.toNatClampNeg ((6896 * (t0.1 0)) + z1)) ((t0.2.2.1 0) (Int32.toNatClampNeg z1)))), t0.2.2.2) (z1 + 1)))))
    cases m with
    | zero => exact dt_0 (key 0)
    | succ m9 => exact key m9
set_option maxHeartbeats 4000000 in
theorem dl_X7_keepsAct_L13  {O : Type} {G_post G2_post : Md → (O → Prop) → Prop} {G_e41 G2_e41 : Md → Int32 → (O → Prop) → Prop} (h_post : ∀ v0, dt (G_post v0) (G2_post v0)) (h_e41 : ∀ v0 v1, dt (G_e41 v0 v1) (G2_e41 v0 v1)) : ∀ (n m : Nat) (t0 : Md) (z1 : Int32), dt (fun P : O → Prop => wp_X7_keepsAct_L13 (fun v0 => G_post v0 P) (fun v0 v1 => G_e41 v0 v1 P) n t0 z1) (fun P : O → Prop => wp_X7_keepsAct_L13 (fun v0 => G2_post v0 P) (fun v0 v1 => G2_e41 v0 v1 P) m t0 z1) := by
  intro n
  induction n with
  | zero => exact fun _ _ _ => dt_F
  | succ n13 ih =>
    intro m t0 z1
    have key : ∀ m9 : Nat, dt (fun P : O → Prop => wp_X7_keepsAct_L13 (fun v0 => G_post v0 P) (fun v0 v1 => G_e41 v0 v1 P) (n13 + 1) t0 z1) (fun P : O → Prop => wp_X7_keepsAct_L13 (fun v0 => G2_post v0 P) (fun v0 v1 => G2_e41 v0 v1 P) (m9 + 1) t0 z1) := by
      intro m9
      unfold wp_X7_keepsAct_L13
      exact (dt_p (h_e41 t0 z1) (dt_c (dt_c (ih m9 (t0.1, t0.2.1, (va_up t0.2.2.1 1 (vp_updL (t0.2.2.1 1) (Int32.toNatClampNeg (z1 - 6896)) ((t0.2.2.1 1) (Int32.toNatClampNeg z1)))), t0.2.2.2) (z1 + 1)))))
    cases m with
    | zero => exact dt_0 (key 0)
    | succ m9 => exact key m9
set_option maxHeartbeats 4000000 in
theorem dt_X7_keepsAct (s0 : Md) : dt (fun P : Md → Prop => wp_X7_keepsAct (fun a0 => P a0) s0) (fun P : Md → Prop => wp_X7_keepsAct (fun a0 => P a0) s0) := by
  unfold wp_X7_keepsAct
  exact (dt_n (dt_x (fun n53 m_n53 => (dl_X7_keepsAct_L53  (fun v0 => (dt_r _)) (fun t0 z1 => (dt_r _)) n53 m_n53 s0 0))) (dt_x (fun n13 m_n13 => (dl_X7_keepsAct_L13  (fun v0 => (dt_r _)) (fun t0 z1 => (dt_x (fun n53 m_n53 => (dl_X7_keepsAct_L53  (fun v0 => (dt_r _)) (fun t0 z1 => (dt_r _)) n53 m_n53 ((va_up t0.1 0 ((t0.1 0) - 1)), t0.2.1, t0.2.2.1, t0.2.2.2) 0)))) n13 m_n13 s0 6896))))
set_option maxHeartbeats 4000000 in
theorem dl_X7_areSigns_L2 (s0 : Md) {O : Type} {G_post G2_post : Int32 → (O → Prop) → Prop} {G_e29 G2_e29 : Int32 → Int32 → Int32 → (O → Prop) → Prop} (h_post : ∀ v0, dt (G_post v0) (G2_post v0)) (h_e29 : ∀ v0 v1 v2, dt (G_e29 v0 v1 v2) (G2_e29 v0 v1 v2)) : ∀ (n m : Nat) (z1 : Int32) (z2 : Int32) (z3 : Int32), dt (fun P : O → Prop => wp_X7_areSigns_L2 s0 (fun v0 => G_post v0 P) (fun v0 v1 v2 => G_e29 v0 v1 v2 P) n z1 z2 z3) (fun P : O → Prop => wp_X7_areSigns_L2 s0 (fun v0 => G2_post v0 P) (fun v0 v1 v2 => G2_e29 v0 v1 v2 P) m z1 z2 z3) := by
  intro n
  induction n with
  | zero => exact fun _ _ _ _ => dt_F
  | succ n2 ih =>
    intro m z1 z2 z3
    have key : ∀ m9 : Nat, dt (fun P : O → Prop => wp_X7_areSigns_L2 s0 (fun v0 => G_post v0 P) (fun v0 v1 v2 => G_e29 v0 v1 v2 P) (n2 + 1) z1 z2 z3) (fun P : O → Prop => wp_X7_areSigns_L2 s0 (fun v0 => G2_post v0 P) (fun v0 v1 v2 => G2_e29 v0 v1 v2 P) (m9 + 1) z1 z2 z3) := by
      intro m9
      unfold wp_X7_areSigns_L2
      exact (dt_p (h_e29 z1 z2 z3) (dt_c (dt_b1 (F := fun k => wp_X7_isSign k ((s0.2.2.2 2) (Int32.toNatClampNeg (z1 + z3)))) (dt_X7_isSign ((s0.2.2.2 2) (Int32.toNatClampNeg (z1 + z3)))) (fun r_3 => (dt_n (ih m9 z1 z2 (z3 + 1)) (h_post 0))))))
    cases m with
    | zero => exact dt_0 (key 0)
    | succ m9 => exact key m9
set_option maxHeartbeats 4000000 in
theorem dt_X7_areSigns (s0 : Md) (x1 : Int32) (x2 : Int32) : dt (fun P : Int32 → Prop => wp_X7_areSigns (fun a0 => P a0) s0 x1 x2) (fun P : Int32 → Prop => wp_X7_areSigns (fun a0 => P a0) s0 x1 x2) := by
  unfold wp_X7_areSigns
  exact (dt_x (fun n2 m_n2 => (dl_X7_areSigns_L2 s0 (fun v0 => (dt_r _)) (fun z1 z2 z3 => (dt_r _)) n2 m_n2 x1 x2 0)))
set_option maxHeartbeats 4000000 in
theorem dt_X7_isRowText (s0 : Md) (x1 : Int32) : dt (fun P : Int32 → Prop => wp_X7_isRowText (fun a0 => P a0) s0 x1) (fun P : Int32 → Prop => wp_X7_isRowText (fun a0 => P a0) s0 x1) := by
  unfold wp_X7_isRowText
  exact (dt_b1 (F := fun k => wp_X7_wide k s0) (dt_X7_wide s0) (fun r_1 => (dt_p (dt_r _) (dt_b1 (F := fun k => wp_X7_areSigns k s0 (0 : Int32) x1) (dt_X7_areSigns s0 (0 : Int32) x1) (fun r_4 => (dt_p (dt_r _) (dt_r _)))))))
set_option maxHeartbeats 4000000 in
theorem dt_X7_row (s0 : Md) (x1 : Int32) : dt (fun P : (Int32 × Md) → Prop => wp_X7_row (fun a0 a1 => P (a0, a1)) s0 x1) (fun P : (Int32 × Md) → Prop => wp_X7_row (fun a0 a1 => P (a0, a1)) s0 x1) := by
  unfold wp_X7_row
  exact (dt_b1 (F := fun k => wp_X7_isRow k ((va_up s0.1 5 0), s0.2.1, s0.2.2.1, s0.2.2.2) x1) (dt_X7_isRow ((va_up s0.1 5 0), s0.2.1, s0.2.2.1, s0.2.2.2) x1) (fun r_1 => (dt_n (dt_b1 (F := fun k => wp_X7_isRowText k ((va_up s0.1 5 0), s0.2.1, s0.2.2.1, s0.2.2.2) (s0.1 5)) (dt_X7_isRowText ((va_up s0.1 5 0), s0.2.1, s0.2.2.1, s0.2.2.2) (s0.1 5)) (fun r_4 => (dt_n (dt_b1 (F := fun k => wp_X7_keepsAct k ((va_up s0.1 5 0), s0.2.1, s0.2.2.1, s0.2.2.2)) (dt_X7_keepsAct ((va_up s0.1 5 0), s0.2.1, s0.2.2.1, s0.2.2.2)) (fun u_8 => (dt_b2 (F := fun k => wp_X7_wantsSigns k u_8 x1 (0 : Int32) (s0.1 5) (1 : Int32)) (dt_X7_wantsSigns u_8 x1 (0 : Int32) (s0.1 5) (1 : Int32)) (fun r_9 u_10 => (dt_r _))))) (dt_r _)))) (dt_r _))))
set_option maxHeartbeats 4000000 in
theorem dt_X7_scroll (s0 : Md) : dt (fun P : (Int32 × Md) → Prop => wp_X7_scroll (fun a0 a1 => P (a0, a1)) s0) (fun P : (Int32 × Md) → Prop => wp_X7_scroll (fun a0 a1 => P (a0, a1)) s0) := by
  unfold wp_X7_scroll
  exact (dt_b1 (F := fun k => wp_X7_isBoard k ((va_up s0.1 5 0), s0.2.1, s0.2.2.1, s0.2.2.2)) (dt_X7_isBoard ((va_up s0.1 5 0), s0.2.1, s0.2.2.1, s0.2.2.2)) (fun r_1 => (dt_n (dt_b1 (F := fun k => wp_X7_isRowText k ((va_up s0.1 5 0), s0.2.1, s0.2.2.1, s0.2.2.2) (s0.1 5)) (dt_X7_isRowText ((va_up s0.1 5 0), s0.2.1, s0.2.2.1, s0.2.2.2) (s0.1 5)) (fun r_4 => (dt_n (dt_b1 (F := fun k => wp_X7_keepsAct k ((va_up s0.1 5 0), s0.2.1, s0.2.2.1, s0.2.2.2)) (dt_X7_keepsAct ((va_up s0.1 5 0), s0.2.1, s0.2.2.1, s0.2.2.2)) (fun u_8 => (dt_b2 (F := fun k => wp_X7_scrolls k u_8 (0 : Int32) (s0.1 5)) (dt_X7_scrolls u_8 (0 : Int32) (s0.1 5)) (fun r_9 u_10 => (dt_r _))))) (dt_r _)))) (dt_r _))))
set_option maxHeartbeats 4000000 in
theorem dl_X7_tick_L29  {O : Type} {G_post G2_post : Int32 → Md → (O → Prop) → Prop} {G_e47 G2_e47 : Md → Int32 → Int32 → Int32 → (O → Prop) → Prop} (h_post : ∀ v0 v1, dt (G_post v0 v1) (G2_post v0 v1)) (h_e47 : ∀ v0 v1 v2 v3, dt (G_e47 v0 v1 v2 v3) (G2_e47 v0 v1 v2 v3)) : ∀ (n m : Nat) (t0 : Md) (z1 : Int32) (z2 : Int32) (z3 : Int32), dt (fun P : O → Prop => wp_X7_tick_L29 (fun v0 v1 => G_post v0 v1 P) (fun v0 v1 v2 v3 => G_e47 v0 v1 v2 v3 P) n t0 z1 z2 z3) (fun P : O → Prop => wp_X7_tick_L29 (fun v0 v1 => G2_post v0 v1 P) (fun v0 v1 v2 v3 => G2_e47 v0 v1 v2 v3 P) m t0 z1 z2 z3) := by
  intro n
  induction n with
  | zero => exact fun _ _ _ _ _ => dt_F
  | succ n29 ih =>
    intro m t0 z1 z2 z3
    have key : ∀ m9 : Nat, dt (fun P : O → Prop => wp_X7_tick_L29 (fun v0 v1 => G_post v0 v1 P) (fun v0 v1 v2 v3 => G_e47 v0 v1 v2 v3 P) (n29 + 1) t0 z1 z2 z3) (fun P : O → Prop => wp_X7_tick_L29 (fun v0 v1 => G2_post v0 v1 P) (fun v0 v1 v2 v3 => G2_e47 v0 v1 v2 v3 P) (m9 + 1) t0 z1 z2 z3) := by
      intro m9
      unfold wp_X7_tick_L29
      exact (dt_p (h_e47 t0 z1 z2 z3) (dt_b2 (F := fun k => wp_X7_ticks k t0) (dt_X7_ticks t0) (fun r_10 u_11 => (ih m9 u_11 z1 (z2 + r_10) (z3 + 1)))))
    cases m with
    | zero => exact dt_0 (key 0)
    | succ m9 => exact key m9
set_option maxHeartbeats 4000000 in
theorem dt_X7_tick (s0 : Md) (x1 : Int32) : dt (fun P : (Int32 × Md) → Prop => wp_X7_tick (fun a0 a1 => P (a0, a1)) s0 x1) (fun P : (Int32 × Md) → Prop => wp_X7_tick (fun a0 a1 => P (a0, a1)) s0 x1) := by
  unfold wp_X7_tick
  exact (dt_b1 (F := fun k => wp_X7_isBoard k s0) (dt_X7_isBoard s0) (fun r_1 => (dt_p (dt_r _) (dt_b1 (F := fun k => wp_X7_in k (Int32.toInt64 x1) (1 : Int64) (99 : Int64)) (dt_X7_in (Int32.toInt64 x1) (1 : Int64) (99 : Int64)) (fun r_4 => (dt_n (dt_b1 (F := fun k => wp_X7_keepsAct k s0) (dt_X7_keepsAct s0) (fun u_8 => (dt_x (fun n29 m_n29 => (dl_X7_tick_L29  (fun v0 v1 => (dt_r _)) (fun t0 z1 z2 z3 => (dt_r _)) n29 m_n29 u_8 x1 0 0))))) (dt_r _)))))))
set_option maxHeartbeats 4000000 in
theorem dl_X7_settles_L2  {O : Type} {G_post G2_post : Int32 → Md → (O → Prop) → Prop} {G_e15 G2_e15 : Md → Int32 → (O → Prop) → Prop} (h_post : ∀ v0 v1, dt (G_post v0 v1) (G2_post v0 v1)) (h_e15 : ∀ v0 v1, dt (G_e15 v0 v1) (G2_e15 v0 v1)) : ∀ (n m : Nat) (t0 : Md) (z1 : Int32), dt (fun P : O → Prop => wp_X7_settles_L2 (fun v0 v1 => G_post v0 v1 P) (fun v0 v1 => G_e15 v0 v1 P) n t0 z1) (fun P : O → Prop => wp_X7_settles_L2 (fun v0 v1 => G2_post v0 v1 P) (fun v0 v1 => G2_e15 v0 v1 P) m t0 z1) := by
  intro n
  induction n with
  | zero => exact fun _ _ _ => dt_F
  | succ n2 ih =>
    intro m t0 z1
    have key : ∀ m9 : Nat, dt (fun P : O → Prop => wp_X7_settles_L2 (fun v0 v1 => G_post v0 v1 P) (fun v0 v1 => G_e15 v0 v1 P) (n2 + 1) t0 z1) (fun P : O → Prop => wp_X7_settles_L2 (fun v0 v1 => G2_post v0 v1 P) (fun v0 v1 => G2_e15 v0 v1 P) (m9 + 1) t0 z1) := by
      intro m9
      unfold wp_X7_settles_L2
      exact (dt_b2 (F := fun k => wp_X7_ticks k t0) (dt_X7_ticks t0) (fun r_1 u_2 => (dt_p (h_e15 u_2 z1) (ih m9 u_2 (z1 + 1)))))
    cases m with
    | zero => exact dt_0 (key 0)
    | succ m9 => exact key m9
set_option maxHeartbeats 4000000 in
theorem dt_X7_settles (s0 : Md) : dt (fun P : (Int32 × Md) → Prop => wp_X7_settles (fun a0 a1 => P (a0, a1)) s0) (fun P : (Int32 × Md) → Prop => wp_X7_settles (fun a0 a1 => P (a0, a1)) s0) := by
  unfold wp_X7_settles
  exact (dt_x (fun n2 m_n2 => (dl_X7_settles_L2  (fun v0 v1 => (dt_r _)) (fun t0 z1 => (dt_r _)) n2 m_n2 s0 0)))
set_option maxHeartbeats 4000000 in
theorem dt_X7_settle (s0 : Md) : dt (fun P : (Int32 × Md) → Prop => wp_X7_settle (fun a0 a1 => P (a0, a1)) s0) (fun P : (Int32 × Md) → Prop => wp_X7_settle (fun a0 a1 => P (a0, a1)) s0) := by
  unfold wp_X7_settle
  exact (dt_b1 (F := fun k => wp_X7_isBoard k s0) (dt_X7_isBoard s0) (fun r_1 => (dt_n (dt_b1 (F := fun k => wp_X7_findsTurning k s0) (dt_X7_findsTurning s0) (fun u_5 => (dt_n (dt_b1 (F := fun k => wp_X7_keepsAct k u_5) (dt_X7_keepsAct u_5) (fun u_8 => (dt_b2 (F := fun k => wp_X7_settles k u_8) (dt_X7_settles u_8) (fun r_9 u_10 => (dt_r _))))) (dt_r _)))) (dt_r _))))
set_option maxHeartbeats 4000000 in
theorem dt_X7_lose (s0 : Md) (x1 : Int32) (x2 : Int32) : dt (fun P : (Int32 × Md) → Prop => wp_X7_lose (fun a0 a1 => P (a0, a1)) s0 x1 x2) (fun P : (Int32 × Md) → Prop => wp_X7_lose (fun a0 a1 => P (a0, a1)) s0 x1 x2) := by
  unfold wp_X7_lose
  exact (dt_b1 (F := fun k => wp_X7_isCell k s0 x1) (dt_X7_isCell s0 x1) (fun r_1 => (dt_p (dt_r _) (dt_b1 (F := fun k => wp_X7_in k (Int32.toInt64 x2) (0 : Int64) (9 : Int64)) (dt_X7_in (Int32.toInt64 x2) (0 : Int64) (9 : Int64)) (fun r_4 => (dt_n (dt_b1 (F := fun k => wp_X7_of k s0 x1 (4 : Int32)) (dt_X7_of s0 x1 (4 : Int32)) (fun r_7 => (dt_n (dt_b1 (F := fun k => wp_X7_keepsAct k s0) (dt_X7_keepsAct s0) (fun u_11 => (dt_b1 (F := fun k => wp_X7_sets k u_11 x1 (4 : Int32) (Int32.toInt64 x2)) (dt_X7_sets u_11 x1 (4 : Int32) (Int32.toInt64 x2)) (fun u_13 => (dt_r _))))) (dt_r _)))) (dt_r _)))))))
set_option maxHeartbeats 4000000 in
theorem dt_X7_isFlap (s0 : Md) (x1 : Int32) (x2 : Int32) : dt (fun P : Int32 → Prop => wp_X7_isFlap (fun a0 => P a0) s0 x1 x2) (fun P : Int32 → Prop => wp_X7_isFlap (fun a0 => P a0) s0 x1 x2) := by
  unfold wp_X7_isFlap
  exact (dt_b1 (F := fun k => wp_X7_isCell k s0 x1) (dt_X7_isCell s0 x1) (fun r_1 => (dt_p (dt_r _) (dt_b1 (F := fun k => wp_X7_flaps k s0 x1) (dt_X7_flaps s0 x1) (fun r_4 => (dt_b1 (F := fun k => wp_X7_in k (Int32.toInt64 x2) (1 : Int64) (Int32.toInt64 (r_4 - 1))) (dt_X7_in (Int32.toInt64 x2) (1 : Int64) (Int32.toInt64 (r_4 - 1))) (fun r_6 => (dt_p (dt_r _) (dt_r _)))))))))
set_option maxHeartbeats 4000000 in
theorem dt_X7_wears (s0 : Md) (x1 : Int32) (x2 : Int32) : dt (fun P : Md → Prop => wp_X7_wears (fun a0 => P a0) s0 x1 x2) (fun P : Md → Prop => wp_X7_wears (fun a0 => P a0) s0 x1 x2) := by
  unfold wp_X7_wears
  exact (dt_b1 (F := fun k => wp_X7_wornOf k s0 x1) (dt_X7_wornOf s0 x1) (fun r_1 => (dt_b1 (F := fun k => wp_X7_sets k s0 x1 (7 : Int32) (r_1 ||| ((1 : Int64) <<< ((Int32.toInt64 x2) &&& 63)))) (dt_X7_sets s0 x1 (7 : Int32) (r_1 ||| ((1 : Int64) <<< ((Int32.toInt64 x2) &&& 63)))) (fun u_4 => (dt_b1 (F := fun k => wp_X7_of k u_4 x1 (3 : Int32)) (dt_X7_of u_4 x1 (3 : Int32)) (fun r_5 => (dt_n (dt_r _) (dt_b1 (F := fun k => wp_X7_sets k u_4 x1 (3 : Int32) (0 : Int64)) (dt_X7_sets u_4 x1 (3 : Int32) (0 : Int64)) (fun u_9 => (dt_r _))))))))))
set_option maxHeartbeats 4000000 in
theorem dt_X7_wear (s0 : Md) (x1 : Int32) (x2 : Int32) : dt (fun P : (Int32 × Md) → Prop => wp_X7_wear (fun a0 a1 => P (a0, a1)) s0 x1 x2) (fun P : (Int32 × Md) → Prop => wp_X7_wear (fun a0 a1 => P (a0, a1)) s0 x1 x2) := by
  unfold wp_X7_wear
  exact (dt_b1 (F := fun k => wp_X7_isFlap k s0 x1 x2) (dt_X7_isFlap s0 x1 x2) (fun r_1 => (dt_n (dt_b1 (F := fun k => wp_X7_wornOf k s0 x1) (dt_X7_wornOf s0 x1) (fun r_4 => (dt_b1 (F := fun k => wp_X7_isIn k r_4 x2) (dt_X7_isIn r_4 x2) (fun r_6 => (dt_p (dt_b1 (F := fun k => wp_X7_keepsAct k s0) (dt_X7_keepsAct s0) (fun u_10 => (dt_b1 (F := fun k => wp_X7_wears k u_10 x1 x2) (dt_X7_wears u_10 x1 x2) (fun u_12 => (dt_b1 (F := fun k => wp_X7_wornOf k u_12 x1) (dt_X7_wornOf u_12 x1) (fun r_13 => (dt_b1 (F := fun k => wp_X7_bits k r_13) (dt_X7_bits r_13) (fun r_15 => (dt_r _))))))))) (dt_r _)))))) (dt_r _))))
set_option maxHeartbeats 4000000 in
theorem dt_X7_mend (s0 : Md) (x1 : Int32) (x2 : Int32) : dt (fun P : (Int32 × Md) → Prop => wp_X7_mend (fun a0 a1 => P (a0, a1)) s0 x1 x2) (fun P : (Int32 × Md) → Prop => wp_X7_mend (fun a0 a1 => P (a0, a1)) s0 x1 x2) := by
  unfold wp_X7_mend
  exact (dt_b1 (F := fun k => wp_X7_isFlap k s0 x1 x2) (dt_X7_isFlap s0 x1 x2) (fun r_1 => (dt_n (dt_b1 (F := fun k => wp_X7_wornOf k s0 x1) (dt_X7_wornOf s0 x1) (fun r_4 => (dt_b1 (F := fun k => wp_X7_isIn k r_4 x2) (dt_X7_isIn r_4 x2) (fun r_6 => (dt_n (dt_b1 (F := fun k => wp_X7_keepsAct k s0) (dt_X7_keepsAct s0) (fun u_10 => (dt_b1 (F := fun k => wp_X7_wornOf k u_10 x1) (dt_X7_wornOf u_10 x1) (fun r_11 => (dt_b1 (F := fun k => wp_X7_sets k u_10 x1 (7 : Int32) (r_11 &&& (((1 : Int64) <<< ((Int32.toInt64 x2) &&& 63)) ^^^ (-1)))) (dt_X7_sets u_10 x1 (7 : Int32) (r_11 &&& (((1 : Int64) <<< ((Int32.toInt64 x2) &&& 63)) ^^^ (-1)))) (fun u_14 => (dt_b1 (F := fun k => wp_X7_wornOf k u_14 x1) (dt_X7_wornOf u_14 x1) (fun r_15 => (dt_b1 (F := fun k => wp_X7_bits k r_15) (dt_X7_bits r_15) (fun r_17 => (dt_r _))))))))))) (dt_r _)))))) (dt_r _))))
set_option maxHeartbeats 4000000 in
theorem dt_X7_limit (s0 : Md) (x1 : Int32) : dt (fun P : (Int32 × Md) → Prop => wp_X7_limit (fun a0 a1 => P (a0, a1)) s0 x1) (fun P : (Int32 × Md) → Prop => wp_X7_limit (fun a0 a1 => P (a0, a1)) s0 x1) := by
  unfold wp_X7_limit
  exact (dt_b1 (F := fun k => wp_X7_isBoard k s0) (dt_X7_isBoard s0) (fun r_1 => (dt_p (dt_r _) (dt_b1 (F := fun k => wp_X7_in k (Int32.toInt64 x1) (1 : Int64) (99 : Int64)) (dt_X7_in (Int32.toInt64 x1) (1 : Int64) (99 : Int64)) (fun r_4 => (dt_n (dt_n (dt_b1 (F := fun k => wp_X7_keepsAct k s0) (dt_X7_keepsAct s0) (fun u_9 => (dt_r _))) (dt_r _)) (dt_r _)))))))
set_option maxHeartbeats 4000000 in
theorem dl_X7_exchange_L109  {O : Type} {G_post G2_post : Int32 → Md → (O → Prop) → Prop} {G_e131 G2_e131 : Md → Int32 → Int32 → Int32 → Int32 → Int64 → Int32 → (O → Prop) → Prop} (h_post : ∀ v0 v1, dt (G_post v0 v1) (G2_post v0 v1)) (h_e131 : ∀ v0 v1 v2 v3 v4 v5 v6, dt (G_e131 v0 v1 v2 v3 v4 v5 v6) (G2_e131 v0 v1 v2 v3 v4 v5 v6)) : ∀ (n m : Nat) (t0 : Md) (z1 : Int32) (z2 : Int32) (z3 : Int32) (z4 : Int32) (w5 : Int64) (z7 : Int32), dt (fun P : O → Prop => wp_X7_exchange_L109 (fun v0 v1 => G_post v0 v1 P) (fun v0 v1 v2 v3 v4 v5 v6 => G_e131 v0 v1 v2 v3 v4 v5 v6 P) n t0 z1 z2 z3 z4 w5 z7) (fun P : O → Prop => wp_X7_exchange_L109 (fun v0 v1 => G2_post v0 v1 P) (fun v0 v1 v2 v3 v4 v5 v6 => G2_e131 v0 v1 v2 v3 v4 v5 v6 P) m t0 z1 z2 z3 z4 w5 z7) := by
  intro n
  induction n with
  | zero => exact fun _ _ _ _ _ _ _ _ => dt_F
  | succ n109 ih =>
    intro m t0 z1 z2 z3 z4 w5 z7
    have key : ∀ m9 : Nat, dt (fun P : O → Prop => wp_X7_exchange_L109 (fun v0 v1 => G_post v0 v1 P) (fun v0 v1 v2 v3 v4 v5 v6 => G_e131 v0 v1 v2 v3 v4 v5 v6 P) (n109 + 1) t0 z1 z2 z3 z4 w5 z7) (fun P : O → Prop => wp_X7_exchange_L109 (fun v0 v1 => G2_post v0 v1 P) (fun v0 v1 v2 v3 v4 v5 v6 => G2_e131 v0 v1 v2 v3 v4 v5 v6 P) (m9 + 1) t0 z1 z2 z3 z4 w5 z7) := by
      intro m9
      unfold wp_X7_exchange_L109
      exact (dt_p (h_e131 t0 z1 z2 z3 z4 w5 z7) (dt_c (ih m9 (t0.1, t0.2.1, (va_up t0.2.2.1 0 (vp_updL (t0.2.2.1 0) (Int32.toNatClampNeg z7) 0)), t0.2.2.2) z1 z2 z3 z4 w5 (z7 + 1))))
    cases m with
    | zero => exact dt_0 (key 0)
    | succ m9 => exact key m9
set_option maxHeartbeats 4000000 in
theorem dt_X7_exchange (s0 : Md) (x1 : Int32) (x2 : Int32) (x3 : Int32) : dt (fun P : (Int32 × Md) → Prop => wp_X7_exchange (fun a0 a1 => P (a0, a1)) s0 x1 x2 x3) (fun P : (Int32 × Md) → Prop => wp_X7_exchange (fun a0 a1 => P (a0, a1)) s0 x1 x2 x3) := by
  unfold wp_X7_exchange
  exact (dt_b1 (F := fun k => wp_X7_isDrum k s0 x1) (dt_X7_isDrum s0 x1) (fun r_1 => (dt_p (dt_r _) (dt_b1 (F := fun k => wp_X7_flapsOf k s0 x1) (dt_X7_flapsOf s0 x1) (fun r_4 => (dt_b1 (F := fun k => wp_X7_in k (Int32.toInt64 x2) (1 : Int64) (Int32.toInt64 (r_4 - 1))) (dt_X7_in (Int32.toInt64 x2) (1 : Int64) (Int32.toInt64 (r_4 - 1))) (fun r_6 => (dt_p (dt_r _) (dt_b1 (F := fun k => wp_X7_flapsOf k s0 x1) (dt_X7_flapsOf s0 x1) (fun r_9 => (dt_b1 (F := fun k => wp_X7_in k (Int32.toInt64 x3) (1 : Int64) (Int32.toInt64 (r_9 - 1))) (dt_X7_in (Int32.toInt64 x3) (1 : Int64) (Int32.toInt64 (r_9 - 1))) (fun r_11 => (dt_p (dt_r _) (dt_n (dt_b1 (F := fun k => wp_X7_keepsAct k s0) (dt_X7_keepsAct s0) (fun u_16 => (dt_c (dt_c (dt_c (dt_c (dt_x (fun n109 m_n109 => (dl_X7_exchange_L109  (fun v0 v1 => (dt_r _)) (fun t0 z1 z2 z3 z4 w5 z7 => (dt_r _)) n109 m_n109 (u_16.1, u_16.2.1, (va_up u_16.2.2.1 0 (vp_updL (vp_updL (u_16.2.2.1 0) (Int32.toNatClampNeg (((8 + (42 * x1)) + 2) + x2)) ((u_16.2.2.1 0) (Int32.toNatClampNeg (((8 + (42 * x1)) + 2) + x3)))) (Int32.toNatClampNeg (((8 + (42 * x1)) + 2) + x3)) ((u_16.2.2.1 0) (Int32.toNatClampNeg (((8 + (42 * x1)) + 2) + x2))))), u_16.2.2.2) x1 x2 x3 ((8 + (42 * x1)) + 2) ((u_16.2.2.1 0) (Int32.toNatClampNeg (((8 + (42 * x1)) + 2) + x2))) 496))))))))) (dt_r _)))))))))))))))
set_option maxHeartbeats 4000000 in
theorem dl_X7_undo_L21  {O : Type} {G_post G2_post : Int32 → Md → (O → Prop) → Prop} {G_e55 G2_e55 : Md → Int32 → (O → Prop) → Prop} (h_post : ∀ v0 v1, dt (G_post v0 v1) (G2_post v0 v1)) (h_e55 : ∀ v0 v1, dt (G_e55 v0 v1) (G2_e55 v0 v1)) : ∀ (n m : Nat) (t0 : Md) (z1 : Int32), dt (fun P : O → Prop => wp_X7_undo_L21 (fun v0 v1 => G_post v0 v1 P) (fun v0 v1 => G_e55 v0 v1 P) n t0 z1) (fun P : O → Prop => wp_X7_undo_L21 (fun v0 v1 => G2_post v0 v1 P) (fun v0 v1 => G2_e55 v0 v1 P) m t0 z1) := by
  intro n
  induction n with
  | zero => exact fun _ _ _ => dt_F
  | succ n21 ih =>
    intro m t0 z1
    have key : ∀ m9 : Nat, dt (fun P : O → Prop => wp_X7_undo_L21 (fun v0 v1 => G_post v0 v1 P) (fun v0 v1 => G_e55 v0 v1 P) (n21 + 1) t0 z1) (fun P : O → Prop => wp_X7_undo_L21 (fun v0 v1 => G2_post v0 v1 P) (fun v0 v1 => G2_e55 v0 v1 P) (m9 + 1) t0 z1) := by
      intro m9
      unfold wp_X7_undo_L21
      exact (dt_p (h_e55 t0 z1) (dt_c (dt_c (ih m9 (t0.1, t0.2.1, (va_up t0.2.2.1 0 (vp_updL (t0.2.2.1 0) (Int32.toNatClampNeg z1) ((t0.2.2.1 1) (Int32.toNatClampNeg ((6896 * (t0.1 0)) + z1))))), t0.2.2.2) (z1 + 1)))))
    cases m with
    | zero => exact dt_0 (key 0)
    | succ m9 => exact key m9
set_option maxHeartbeats 4000000 in
theorem dt_X7_undo (s0 : Md) : dt (fun P : (Int32 × Md) → Prop => wp_X7_undo (fun a0 a1 => P (a0, a1)) s0) (fun P : (Int32 × Md) → Prop => wp_X7_undo (fun a0 a1 => P (a0, a1)) s0) := by
  unfold wp_X7_undo
  exact (dt_n (dt_x (fun n21 m_n21 => (dl_X7_undo_L21  (fun v0 v1 => (dt_r _)) (fun t0 z1 => (dt_r _)) n21 m_n21 ((va_up s0.1 0 ((s0.1 0) - 1)), s0.2.1, s0.2.2.1, s0.2.2.2) 0))) (dt_r _))
set_option maxHeartbeats 4000000 in
theorem dl_X7_keep_L14  {O : Type} {G_post G2_post : Int32 → Md → (O → Prop) → Prop} {G_e45 G2_e45 : Md → Int32 → Int32 → (O → Prop) → Prop} (h_post : ∀ v0 v1, dt (G_post v0 v1) (G2_post v0 v1)) (h_e45 : ∀ v0 v1 v2, dt (G_e45 v0 v1 v2) (G2_e45 v0 v1 v2)) : ∀ (n m : Nat) (t0 : Md) (z1 : Int32) (z2 : Int32), dt (fun P : O → Prop => wp_X7_keep_L14 (fun v0 v1 => G_post v0 v1 P) (fun v0 v1 v2 => G_e45 v0 v1 v2 P) n t0 z1 z2) (fun P : O → Prop => wp_X7_keep_L14 (fun v0 v1 => G2_post v0 v1 P) (fun v0 v1 v2 => G2_e45 v0 v1 v2 P) m t0 z1 z2) := by
  intro n
  induction n with
  | zero => exact fun _ _ _ _ => dt_F
  | succ n14 ih =>
    intro m t0 z1 z2
    have key : ∀ m9 : Nat, dt (fun P : O → Prop => wp_X7_keep_L14 (fun v0 v1 => G_post v0 v1 P) (fun v0 v1 v2 => G_e45 v0 v1 v2 P) (n14 + 1) t0 z1 z2) (fun P : O → Prop => wp_X7_keep_L14 (fun v0 v1 => G2_post v0 v1 P) (fun v0 v1 v2 => G2_e45 v0 v1 v2 P) (m9 + 1) t0 z1 z2) := by
      intro m9
      unfold wp_X7_keep_L14
      exact (dt_p (h_e45 t0 z1 z2) (dt_c (dt_c (ih m9 (t0.1, t0.2.1, (va_up t0.2.2.1 2 (vp_updL (t0.2.2.1 2) (Int32.toNatClampNeg ((6896 * z1) + z2)) ((t0.2.2.1 0) (Int32.toNatClampNeg z2)))), t0.2.2.2) z1 (z2 + 1)))))
    cases m with
    | zero => exact dt_0 (key 0)
    | succ m9 => exact key m9
set_option maxHeartbeats 4000000 in
theorem dt_X7_keep (s0 : Md) (x1 : Int32) : dt (fun P : (Int32 × Md) → Prop => wp_X7_keep (fun a0 a1 => P (a0, a1)) s0 x1) (fun P : (Int32 × Md) → Prop => wp_X7_keep (fun a0 a1 => P (a0, a1)) s0 x1) := by
  unfold wp_X7_keep
  exact (dt_b1 (F := fun k => wp_X7_in k (Int32.toInt64 x1) (0 : Int64) (1 : Int64)) (dt_X7_in (Int32.toInt64 x1) (0 : Int64) (1 : Int64)) (fun r_1 => (dt_n (dt_x (fun n14 m_n14 => (dl_X7_keep_L14  (fun v0 v1 => (dt_r _)) (fun t0 z1 z2 => (dt_c (dt_b1 (F := fun k => wp_X7_cells k (t0.1, t0.2.1, t0.2.2.1, (va_up t0.2.2.2 0 (upd (t0.2.2.2 0) (Int32.toNatClampNeg z1) (vp_nar .boolean 1))))) (dt_X7_cells (t0.1, t0.2.1, t0.2.2.1, (va_up t0.2.2.2 0 (upd (t0.2.2.2 0) (Int32.toNatClampNeg z1) (vp_nar .boolean 1))))) (fun r_8 => (dt_r _))))) n14 m_n14 s0 x1 0))) (dt_r _))))
set_option maxHeartbeats 4000000 in
theorem dl_X7_back_L26  {O : Type} {G_post G2_post : Int32 → Md → (O → Prop) → Prop} {G_e57 G2_e57 : Md → Int32 → Int32 → (O → Prop) → Prop} (h_post : ∀ v0 v1, dt (G_post v0 v1) (G2_post v0 v1)) (h_e57 : ∀ v0 v1 v2, dt (G_e57 v0 v1 v2) (G2_e57 v0 v1 v2)) : ∀ (n m : Nat) (t0 : Md) (z1 : Int32) (z2 : Int32), dt (fun P : O → Prop => wp_X7_back_L26 (fun v0 v1 => G_post v0 v1 P) (fun v0 v1 v2 => G_e57 v0 v1 v2 P) n t0 z1 z2) (fun P : O → Prop => wp_X7_back_L26 (fun v0 v1 => G2_post v0 v1 P) (fun v0 v1 v2 => G2_e57 v0 v1 v2 P) m t0 z1 z2) := by
  intro n
  induction n with
  | zero => exact fun _ _ _ _ => dt_F
  | succ n26 ih =>
    intro m t0 z1 z2
    have key : ∀ m9 : Nat, dt (fun P : O → Prop => wp_X7_back_L26 (fun v0 v1 => G_post v0 v1 P) (fun v0 v1 v2 => G_e57 v0 v1 v2 P) (n26 + 1) t0 z1 z2) (fun P : O → Prop => wp_X7_back_L26 (fun v0 v1 => G2_post v0 v1 P) (fun v0 v1 v2 => G2_e57 v0 v1 v2 P) (m9 + 1) t0 z1 z2) := by
      intro m9
      unfold wp_X7_back_L26
      exact (dt_p (h_e57 t0 z1 z2) (dt_c (dt_c (ih m9 (t0.1, t0.2.1, (va_up t0.2.2.1 0 (vp_updL (t0.2.2.1 0) (Int32.toNatClampNeg z2) ((t0.2.2.1 2) (Int32.toNatClampNeg ((6896 * z1) + z2))))), t0.2.2.2) z1 (z2 + 1)))))
    cases m with
    | zero => exact dt_0 (key 0)
    | succ m9 => exact key m9
set_option maxHeartbeats 4000000 in
theorem dt_X7_back (s0 : Md) (x1 : Int32) : dt (fun P : (Int32 × Md) → Prop => wp_X7_back (fun a0 a1 => P (a0, a1)) s0 x1) (fun P : (Int32 × Md) → Prop => wp_X7_back (fun a0 a1 => P (a0, a1)) s0 x1) := by
  unfold wp_X7_back
  exact (dt_b1 (F := fun k => wp_X7_in k (Int32.toInt64 x1) (0 : Int64) (1 : Int64)) (dt_X7_in (Int32.toInt64 x1) (0 : Int64) (1 : Int64)) (fun r_1 => (dt_n (dt_c (dt_n (dt_x (fun n26 m_n26 => (dl_X7_back_L26  (fun v0 v1 => (dt_r _)) (fun t0 z1 z2 => (dt_b1 (F := fun k => wp_X7_cells k ((va_up t0.1 0 0), t0.2.1, t0.2.2.1, t0.2.2.2)) (dt_X7_cells ((va_up t0.1 0 0), t0.2.1, t0.2.2.1, t0.2.2.2)) (fun r_9 => (dt_r _)))) n26 m_n26 s0 x1 0))) (dt_r _))) (dt_r _))))
set_option maxHeartbeats 4000000 in
theorem dt_X7_cell (s0 : Md) (x1 : Int32) (x2 : Int32) : dt (fun P : Int32 → Prop => wp_X7_cell (fun a0 => P a0) s0 x1 x2) (fun P : Int32 → Prop => wp_X7_cell (fun a0 => P a0) s0 x1 x2) := by
  unfold wp_X7_cell
  exact (dt_b1 (F := fun k => wp_X7_isCell k s0 x1) (dt_X7_isCell s0 x1) (fun r_1 => (dt_n (dt_p (dt_b1 (F := fun k => wp_X7_of k s0 x1 x2) (dt_X7_of s0 x1 x2) (fun r_5 => (dt_r _))) (dt_p (dt_b1 (F := fun k => wp_X7_of k s0 x1 x2) (dt_X7_of s0 x1 x2) (fun r_8 => (dt_r _))) (dt_p (dt_b1 (F := fun k => wp_X7_of k s0 x1 x2) (dt_X7_of s0 x1 x2) (fun r_11 => (dt_r _))) (dt_p (dt_b1 (F := fun k => wp_X7_of k s0 x1 x2) (dt_X7_of s0 x1 x2) (fun r_14 => (dt_r _))) (dt_p (dt_b1 (F := fun k => wp_X7_leftOf k s0 x1) (dt_X7_leftOf s0 x1) (fun r_17 => (dt_r _))) (dt_p (dt_b1 (F := fun k => wp_X7_of k s0 x1 (4 : Int32)) (dt_X7_of s0 x1 (4 : Int32)) (fun r_20 => (dt_r _))) (dt_p (dt_b1 (F := fun k => wp_X7_of k s0 x1 (5 : Int32)) (dt_X7_of s0 x1 (5 : Int32)) (fun r_23 => (dt_r _))) (dt_p (dt_b1 (F := fun k => wp_X7_of k s0 x1 (6 : Int32)) (dt_X7_of s0 x1 (6 : Int32)) (fun r_26 => (dt_r _))) (dt_p (dt_b1 (F := fun k => wp_X7_wornOf k s0 x1) (dt_X7_wornOf s0 x1) (fun r_29 => (dt_b1 (F := fun k => wp_X7_bits k r_29) (dt_X7_bits r_29) (fun r_31 => (dt_r _))))) (dt_r _)))))))))) (dt_r _))))
set_option maxHeartbeats 4000000 in
theorem dt_X7_worn (s0 : Md) (x1 : Int32) : dt (fun P : Int64 → Prop => wp_X7_worn (fun a0 => P a0) s0 x1) (fun P : Int64 → Prop => wp_X7_worn (fun a0 => P a0) s0 x1) := by
  unfold wp_X7_worn
  exact (dt_b1 (F := fun k => wp_X7_isCell k s0 x1) (dt_X7_isCell s0 x1) (fun r_1 => (dt_p (dt_r _) (dt_b1 (F := fun k => wp_X7_wornOf k s0 x1) (dt_X7_wornOf s0 x1) (fun r_4 => (dt_r _))))))
set_option maxHeartbeats 4000000 in
theorem dl_X7_cellsWith_L4 (s0 : Md) {O : Type} {G_post G2_post : Int32 → (O → Prop) → Prop} {G_e36 G2_e36 : Int32 → Int32 → Int32 → (O → Prop) → Prop} (h_post : ∀ v0, dt (G_post v0) (G2_post v0)) (h_e36 : ∀ v0 v1 v2, dt (G_e36 v0 v1 v2) (G2_e36 v0 v1 v2)) : ∀ (n m : Nat) (z1 : Int32) (z2 : Int32) (z3 : Int32), dt (fun P : O → Prop => wp_X7_cellsWith_L4 s0 (fun v0 => G_post v0 P) (fun v0 v1 v2 => G_e36 v0 v1 v2 P) n z1 z2 z3) (fun P : O → Prop => wp_X7_cellsWith_L4 s0 (fun v0 => G2_post v0 P) (fun v0 v1 v2 => G2_e36 v0 v1 v2 P) m z1 z2 z3) := by
  intro n
  induction n with
  | zero => exact fun _ _ _ _ => dt_F
  | succ n4 ih =>
    intro m z1 z2 z3
    have key : ∀ m9 : Nat, dt (fun P : O → Prop => wp_X7_cellsWith_L4 s0 (fun v0 => G_post v0 P) (fun v0 v1 v2 => G_e36 v0 v1 v2 P) (n4 + 1) z1 z2 z3) (fun P : O → Prop => wp_X7_cellsWith_L4 s0 (fun v0 => G2_post v0 P) (fun v0 v1 v2 => G2_e36 v0 v1 v2 P) (m9 + 1) z1 z2 z3) := by
      intro m9
      unfold wp_X7_cellsWith_L4
      exact (dt_b1 (F := fun k => wp_X7_cells k s0) (dt_X7_cells s0) (fun r_1 => (dt_p (h_e36 z1 z2 z3) (dt_b1 (F := fun k => wp_X7_of k s0 z3 (0 : Int32)) (dt_X7_of s0 z3 (0 : Int32)) (fun r_4 => (dt_n (ih m9 z1 (z2 + 0) (z3 + 1)) (ih m9 z1 (z2 + 1) (z3 + 1))))))))
    cases m with
    | zero => exact dt_0 (key 0)
    | succ m9 => exact key m9
set_option maxHeartbeats 4000000 in
theorem dt_X7_cellsWith (s0 : Md) (x1 : Int32) : dt (fun P : Int32 → Prop => wp_X7_cellsWith (fun a0 => P a0) s0 x1) (fun P : Int32 → Prop => wp_X7_cellsWith (fun a0 => P a0) s0 x1) := by
  unfold wp_X7_cellsWith
  exact (dt_x (fun n4 m_n4 => (dl_X7_cellsWith_L4 s0 (fun v0 => (dt_r _)) (fun z1 z2 z3 => (dt_r _)) n4 m_n4 x1 0 0)))
set_option maxHeartbeats 4000000 in
theorem dl_X7_manyWith_L5 (s0 : Md) {O : Type} {G_post G2_post : Int32 → (O → Prop) → Prop} {G_e40 G2_e40 : Int32 → Int32 → Int32 → Int32 → (O → Prop) → Prop} (h_post : ∀ v0, dt (G_post v0) (G2_post v0)) (h_e40 : ∀ v0 v1 v2 v3, dt (G_e40 v0 v1 v2 v3) (G2_e40 v0 v1 v2 v3)) : ∀ (n m : Nat) (z1 : Int32) (z2 : Int32) (z3 : Int32) (z4 : Int32), dt (fun P : O → Prop => wp_X7_manyWith_L5 s0 (fun v0 => G_post v0 P) (fun v0 v1 v2 v3 => G_e40 v0 v1 v2 v3 P) n z1 z2 z3 z4) (fun P : O → Prop => wp_X7_manyWith_L5 s0 (fun v0 => G2_post v0 P) (fun v0 v1 v2 v3 => G2_e40 v0 v1 v2 v3 P) m z1 z2 z3 z4) := by
  intro n
  induction n with
  | zero => exact fun _ _ _ _ _ => dt_F
  | succ n5 ih =>
    intro m z1 z2 z3 z4
    have key : ∀ m9 : Nat, dt (fun P : O → Prop => wp_X7_manyWith_L5 s0 (fun v0 => G_post v0 P) (fun v0 v1 v2 v3 => G_e40 v0 v1 v2 v3 P) (n5 + 1) z1 z2 z3 z4) (fun P : O → Prop => wp_X7_manyWith_L5 s0 (fun v0 => G2_post v0 P) (fun v0 v1 v2 v3 => G2_e40 v0 v1 v2 v3 P) (m9 + 1) z1 z2 z3 z4) := by
      intro m9
      unfold wp_X7_manyWith_L5
      exact (dt_b1 (F := fun k => wp_X7_flapsOf k s0 z1) (dt_X7_flapsOf s0 z1) (fun r_1 => (dt_p (h_e40 z1 z2 z3 z4) (dt_b1 (F := fun k => wp_X7_signOf k s0 z1 z4) (dt_X7_signOf s0 z1 z4) (fun r_4 => (dt_n (ih m9 z1 z2 (z3 + 0) (z4 + 1)) (ih m9 z1 z2 (z3 + 1) (z4 + 1))))))))
    cases m with
    | zero => exact dt_0 (key 0)
    | succ m9 => exact key m9
set_option maxHeartbeats 4000000 in
theorem dt_X7_manyWith (s0 : Md) (x1 : Int32) (x2 : Int32) : dt (fun P : Int32 → Prop => wp_X7_manyWith (fun a0 => P a0) s0 x1 x2) (fun P : Int32 → Prop => wp_X7_manyWith (fun a0 => P a0) s0 x1 x2) := by
  unfold wp_X7_manyWith
  exact (dt_x (fun n5 m_n5 => (dl_X7_manyWith_L5 s0 (fun v0 => (dt_r _)) (fun z1 z2 z3 z4 => (dt_r _)) n5 m_n5 x1 x2 0 0)))
set_option maxHeartbeats 4000000 in
theorem dl_X7_signsOf_L6 (s0 : Md) {O : Type} {G_post G2_post : Int32 → (O → Prop) → Prop} {G_e57 G2_e57 : Int32 → Int32 → Int32 → Int32 → (O → Prop) → Prop} (h_post : ∀ v0, dt (G_post v0) (G2_post v0)) (h_e57 : ∀ v0 v1 v2 v3, dt (G_e57 v0 v1 v2 v3) (G2_e57 v0 v1 v2 v3)) : ∀ (n m : Nat) (z1 : Int32) (z2 : Int32) (z3 : Int32) (z4 : Int32), dt (fun P : O → Prop => wp_X7_signsOf_L6 s0 (fun v0 => G_post v0 P) (fun v0 v1 v2 v3 => G_e57 v0 v1 v2 v3 P) n z1 z2 z3 z4) (fun P : O → Prop => wp_X7_signsOf_L6 s0 (fun v0 => G2_post v0 P) (fun v0 v1 v2 v3 => G2_e57 v0 v1 v2 v3 P) m z1 z2 z3 z4) := by
  intro n
  induction n with
  | zero => exact fun _ _ _ _ _ => dt_F
  | succ n6 ih =>
    intro m z1 z2 z3 z4
    have key : ∀ m9 : Nat, dt (fun P : O → Prop => wp_X7_signsOf_L6 s0 (fun v0 => G_post v0 P) (fun v0 v1 v2 v3 => G_e57 v0 v1 v2 v3 P) (n6 + 1) z1 z2 z3 z4) (fun P : O → Prop => wp_X7_signsOf_L6 s0 (fun v0 => G2_post v0 P) (fun v0 v1 v2 v3 => G2_e57 v0 v1 v2 v3 P) (m9 + 1) z1 z2 z3 z4) := by
      intro m9
      unfold wp_X7_signsOf_L6
      exact (dt_p (h_e57 z1 z2 z3 z4) (dt_b1 (F := fun k => wp_X7_manyWith k s0 z1 z4) (dt_X7_manyWith s0 z1 z4) (fun r_2 => (dt_n (dt_p (ih m9 z1 z2 z3 (z4 + 1)) (ih m9 z1 z2 r_2 (z4 + 1))) (dt_p (ih m9 z1 z2 (z3 + 0) (z4 + 1)) (ih m9 z1 z2 (z3 + 1) (z4 + 1)))))))
    cases m with
    | zero => exact dt_0 (key 0)
    | succ m9 => exact key m9
set_option maxHeartbeats 4000000 in
theorem dt_X7_signsOf (s0 : Md) (x1 : Int32) (x2 : Int32) : dt (fun P : Int32 → Prop => wp_X7_signsOf (fun a0 => P a0) s0 x1 x2) (fun P : Int32 → Prop => wp_X7_signsOf (fun a0 => P a0) s0 x1 x2) := by
  unfold wp_X7_signsOf
  exact (dt_x (fun n6 m_n6 => (dl_X7_signsOf_L6 s0 (fun v0 => (dt_r _)) (fun z1 z2 z3 z4 => (dt_r _)) n6 m_n6 x1 x2 0 32)))
set_option maxHeartbeats 4000000 in
theorem dt_X7_drum (s0 : Md) (x1 : Int32) (x2 : Int32) : dt (fun P : Int32 → Prop => wp_X7_drum (fun a0 => P a0) s0 x1 x2) (fun P : Int32 → Prop => wp_X7_drum (fun a0 => P a0) s0 x1 x2) := by
  unfold wp_X7_drum
  exact (dt_b1 (F := fun k => wp_X7_isDrum k s0 x1) (dt_X7_isDrum s0 x1) (fun r_1 => (dt_n (dt_p (dt_b1 (F := fun k => wp_X7_currentOf k s0 x1) (dt_X7_currentOf s0 x1) (fun r_5 => (dt_r _))) (dt_p (dt_b1 (F := fun k => wp_X7_flapsOf k s0 x1) (dt_X7_flapsOf s0 x1) (fun r_8 => (dt_r _))) (dt_p (dt_b1 (F := fun k => wp_X7_cellsWith k s0 x1) (dt_X7_cellsWith s0 x1) (fun r_11 => (dt_r _))) (dt_p (dt_b1 (F := fun k => wp_X7_signsOf k s0 x1 (0 : Int32)) (dt_X7_signsOf s0 x1 (0 : Int32)) (fun r_14 => (dt_r _))) (dt_p (dt_b1 (F := fun k => wp_X7_signsOf k s0 x1 (1 : Int32)) (dt_X7_signsOf s0 x1 (1 : Int32)) (fun r_17 => (dt_r _))) (dt_r _)))))) (dt_r _))))
set_option maxHeartbeats 4000000 in
theorem dt_X7_sign (s0 : Md) (x1 : Int32) (x2 : Int32) : dt (fun P : Int32 → Prop => wp_X7_sign (fun a0 => P a0) s0 x1 x2) (fun P : Int32 → Prop => wp_X7_sign (fun a0 => P a0) s0 x1 x2) := by
  unfold wp_X7_sign
  exact (dt_b1 (F := fun k => wp_X7_isDrum k s0 x1) (dt_X7_isDrum s0 x1) (fun r_1 => (dt_p (dt_r _) (dt_b1 (F := fun k => wp_X7_flapsOf k s0 x1) (dt_X7_flapsOf s0 x1) (fun r_4 => (dt_b1 (F := fun k => wp_X7_in k (Int32.toInt64 x2) (0 : Int64) (Int32.toInt64 (r_4 - 1))) (dt_X7_in (Int32.toInt64 x2) (0 : Int64) (Int32.toInt64 (r_4 - 1))) (fun r_6 => (dt_p (dt_r _) (dt_b1 (F := fun k => wp_X7_signOf k s0 x1 x2) (dt_X7_signOf s0 x1 x2) (fun r_9 => (dt_r _)))))))))))
set_option maxHeartbeats 4000000 in
theorem dt_X7_signAt (s0 : Md) (x1 : Int32) (x2 : Int32) : dt (fun P : Int32 → Prop => wp_X7_signAt (fun a0 => P a0) s0 x1 x2) (fun P : Int32 → Prop => wp_X7_signAt (fun a0 => P a0) s0 x1 x2) := by
  unfold wp_X7_signAt
  exact (dt_b1 (F := fun k => wp_X7_of k s0 x1 (0 : Int32)) (dt_X7_of s0 x1 (0 : Int32)) (fun r_1 => (dt_b1 (F := fun k => wp_X7_of k s0 x1 (1 + x2)) (dt_X7_of s0 x1 (1 + x2)) (fun r_3 => (dt_b1 (F := fun k => wp_X7_signOf k s0 r_1 r_3) (dt_X7_signOf s0 r_1 r_3) (fun r_5 => (dt_r _)))))))
set_option maxHeartbeats 4000000 in
theorem dt_X7_at (s0 : Md) (x1 : Int32) (x2 : Int32) (x3 : Int32) : dt (fun P : Int32 → Prop => wp_X7_at (fun a0 => P a0) s0 x1 x2 x3) (fun P : Int32 → Prop => wp_X7_at (fun a0 => P a0) s0 x1 x2 x3) := by
  unfold wp_X7_at
  exact (dt_b1 (F := fun k => wp_X7_isRow k s0 x1) (dt_X7_isRow s0 x1) (fun r_1 => (dt_p (dt_r _) (dt_b1 (F := fun k => wp_X7_wide k s0) (dt_X7_wide s0) (fun r_4 => (dt_b1 (F := fun k => wp_X7_in k (Int32.toInt64 x2) (0 : Int64) (Int32.toInt64 (r_4 - 1))) (dt_X7_in (Int32.toInt64 x2) (0 : Int64) (Int32.toInt64 (r_4 - 1))) (fun r_6 => (dt_p (dt_r _) (dt_b1 (F := fun k => wp_X7_in k (Int32.toInt64 x3) (0 : Int64) (2 : Int64)) (dt_X7_in (Int32.toInt64 x3) (0 : Int64) (2 : Int64)) (fun r_9 => (dt_p (dt_r _) (dt_b1 (F := fun k => wp_X7_wide k s0) (dt_X7_wide s0) (fun r_12 => (dt_b1 (F := fun k => wp_X7_signAt k s0 ((r_12 * x1) + x2) x3) (dt_X7_signAt s0 ((r_12 * x1) + x2) x3) (fun r_14 => (dt_r _))))))))))))))))
set_option maxHeartbeats 4000000 in
theorem dt_X7_isOther (s0 : Md) (x1 : Int32) : dt (fun P : Int32 → Prop => wp_X7_isOther (fun a0 => P a0) s0 x1) (fun P : Int32 → Prop => wp_X7_isOther (fun a0 => P a0) s0 x1) := by
  unfold wp_X7_isOther
  exact (dt_b1 (F := fun k => wp_X7_signAt k s0 x1 (0 : Int32)) (dt_X7_signAt s0 x1 (0 : Int32)) (fun r_1 => (dt_b1 (F := fun k => wp_X7_signAt k s0 x1 (2 : Int32)) (dt_X7_signAt s0 x1 (2 : Int32)) (fun r_3 => (dt_p (dt_r _) (dt_r _))))))
set_option maxHeartbeats 4000000 in
theorem dt_X7_isSuch (s0 : Md) (x1 : Int32) (x2 : Int32) : dt (fun P : Int32 → Prop => wp_X7_isSuch (fun a0 => P a0) s0 x1 x2) (fun P : Int32 → Prop => wp_X7_isSuch (fun a0 => P a0) s0 x1 x2) := by
  unfold wp_X7_isSuch
  exact (dt_p (dt_b1 (F := fun k => wp_X7_leftOf k s0 x1) (dt_X7_leftOf s0 x1) (fun r_2 => (dt_p (dt_r _) (dt_r _)))) (dt_p (dt_b1 (F := fun k => wp_X7_of k s0 x1 (1 : Int32)) (dt_X7_of s0 x1 (1 : Int32)) (fun r_6 => (dt_b1 (F := fun k => wp_X7_of k s0 x1 (2 : Int32)) (dt_X7_of s0 x1 (2 : Int32)) (fun r_8 => (dt_p (dt_r _) (dt_r _)))))) (dt_p (dt_b1 (F := fun k => wp_X7_isOther k s0 x1) (dt_X7_isOther s0 x1) (fun r_12 => (dt_c (dt_r _)))) (dt_p (dt_b1 (F := fun k => wp_X7_isIn k s0.2.1 x1) (dt_X7_isIn s0.2.1 x1) (fun r_16 => (dt_c (dt_r _)))) (dt_b1 (F := fun k => wp_X7_current k s0 x1) (dt_X7_current s0 x1) (fun r_19 => (dt_p (dt_r _) (dt_r _))))))))
set_option maxHeartbeats 4000000 in
theorem dl_X7_which_L32  {O : Type} {G_post G2_post : Int64 → Md → (O → Prop) → Prop} {G_e64 G2_e64 : Md → Int32 → Int64 → Int32 → (O → Prop) → Prop} (h_post : ∀ v0 v1, dt (G_post v0 v1) (G2_post v0 v1)) (h_e64 : ∀ v0 v1 v2 v3, dt (G_e64 v0 v1 v2 v3) (G2_e64 v0 v1 v2 v3)) : ∀ (n m : Nat) (t0 : Md) (z1 : Int32) (w2 : Int64) (z4 : Int32), dt (fun P : O → Prop => wp_X7_which_L32 (fun v0 v1 => G_post v0 v1 P) (fun v0 v1 v2 v3 => G_e64 v0 v1 v2 v3 P) n t0 z1 w2 z4) (fun P : O → Prop => wp_X7_which_L32 (fun v0 v1 => G2_post v0 v1 P) (fun v0 v1 v2 v3 => G2_e64 v0 v1 v2 v3 P) m t0 z1 w2 z4) := by
  intro n
  induction n with
  | zero => exact fun _ _ _ _ _ => dt_F
  | succ n32 ih =>
    intro m t0 z1 w2 z4
    have key : ∀ m9 : Nat, dt (fun P : O → Prop => wp_X7_which_L32 (fun v0 v1 => G_post v0 v1 P) (fun v0 v1 v2 v3 => G_e64 v0 v1 v2 v3 P) (n32 + 1) t0 z1 w2 z4) (fun P : O → Prop => wp_X7_which_L32 (fun v0 v1 => G2_post v0 v1 P) (fun v0 v1 v2 v3 => G2_e64 v0 v1 v2 v3 P) (m9 + 1) t0 z1 w2 z4) := by
      intro m9
      unfold wp_X7_which_L32
      exact (dt_b1 (F := fun k => wp_X7_cells k t0) (dt_X7_cells t0) (fun r_9 => (dt_p (h_e64 t0 z1 w2 z4) (dt_b1 (F := fun k => wp_X7_isSuch k t0 z4 z1) (dt_X7_isSuch t0 z4 z1) (fun r_12 => (dt_p (ih m9 t0 z1 w2 (z4 + 1)) (ih m9 t0 z1 (w2 ||| ((1 : Int64) <<< ((Int32.toInt64 z4) &&& 63))) (z4 + 1))))))))
    cases m with
    | zero => exact dt_0 (key 0)
    | succ m9 => exact key m9
set_option maxHeartbeats 4000000 in
theorem dt_X7_which (s0 : Md) (x1 : Int32) : dt (fun P : (Int64 × Md) → Prop => wp_X7_which (fun a0 a1 => P (a0, a1)) s0 x1) (fun P : (Int64 × Md) → Prop => wp_X7_which (fun a0 a1 => P (a0, a1)) s0 x1) := by
  unfold wp_X7_which
  exact (dt_b1 (F := fun k => wp_X7_isBoard k s0) (dt_X7_isBoard s0) (fun r_1 => (dt_p (dt_r _) (dt_b1 (F := fun k => wp_X7_in k (Int32.toInt64 x1) (0 : Int64) (4 : Int64)) (dt_X7_in (Int32.toInt64 x1) (0 : Int64) (4 : Int64)) (fun r_4 => (dt_n (dt_b1 (F := fun k => wp_X7_findsTurning k s0) (dt_X7_findsTurning s0) (fun u_8 => (dt_x (fun n32 m_n32 => (dl_X7_which_L32  (fun v0 v1 => (dt_r _)) (fun t0 z1 w2 z4 => (dt_r _)) n32 m_n32 u_8 x1 0 0))))) (dt_r _)))))))
set_option maxHeartbeats 4000000 in
theorem dl_X7_left_L31 (s0 : Md) {O : Type} {G_post G2_post : Int32 → (O → Prop) → Prop} {G_e90 G2_e90 : Int32 → Int32 → Int32 → Int32 → Int32 → (O → Prop) → Prop} (h_post : ∀ v0, dt (G_post v0) (G2_post v0)) (h_e90 : ∀ v0 v1 v2 v3 v4, dt (G_e90 v0 v1 v2 v3 v4) (G2_e90 v0 v1 v2 v3 v4)) : ∀ (n m : Nat) (z1 : Int32) (z2 : Int32) (z3 : Int32) (z4 : Int32) (z5 : Int32), dt (fun P : O → Prop => wp_X7_left_L31 s0 (fun v0 => G_post v0 P) (fun v0 v1 v2 v3 v4 => G_e90 v0 v1 v2 v3 v4 P) n z1 z2 z3 z4 z5) (fun P : O → Prop => wp_X7_left_L31 s0 (fun v0 => G2_post v0 P) (fun v0 v1 v2 v3 v4 => G2_e90 v0 v1 v2 v3 v4 P) m z1 z2 z3 z4 z5) := by
  intro n
  induction n with
  | zero => exact fun _ _ _ _ _ _ => dt_F
  | succ n31 ih =>
    intro m z1 z2 z3 z4 z5
    have key : ∀ m9 : Nat, dt (fun P : O → Prop => wp_X7_left_L31 s0 (fun v0 => G_post v0 P) (fun v0 v1 v2 v3 v4 => G_e90 v0 v1 v2 v3 v4 P) (n31 + 1) z1 z2 z3 z4 z5) (fun P : O → Prop => wp_X7_left_L31 s0 (fun v0 => G2_post v0 P) (fun v0 v1 v2 v3 v4 => G2_e90 v0 v1 v2 v3 v4 P) (m9 + 1) z1 z2 z3 z4 z5) := by
      intro m9
      unfold wp_X7_left_L31
      exact (dt_b1 (F := fun k => wp_X7_cells k s0) (dt_X7_cells s0) (fun r_7 => (dt_p (h_e90 z1 z2 z3 z4 z5) (dt_b1 (F := fun k => wp_X7_leftOf k s0 z5) (dt_X7_leftOf s0 z5) (fun r_10 => (dt_b1 (F := fun k => wp_X7_leftOf k s0 z5) (dt_X7_leftOf s0 z5) (fun r_12 => (dt_b1 (F := fun k => wp_X7_current k s0 z5) (dt_X7_current s0 z5) (fun r_14 => (dt_b1 (F := fun k => wp_X7_leftOf k s0 z5) (dt_X7_leftOf s0 z5) (fun r_16 => (dt_p (ih m9 z1 (z2 + r_10) z3 (z4 + (r_12 * r_14)) (z5 + 1)) (dt_b1 (F := fun k => wp_X7_leftOf k s0 z5) (dt_X7_leftOf s0 z5) (fun r_19 => (ih m9 z1 (z2 + r_10) r_19 (z4 + (r_12 * r_14)) (z5 + 1))))))))))))))))
    cases m with
    | zero => exact dt_0 (key 0)
    | succ m9 => exact key m9
set_option maxHeartbeats 4000000 in
theorem dt_X7_left (s0 : Md) (x1 : Int32) : dt (fun P : Int32 → Prop => wp_X7_left (fun a0 => P a0) s0 x1) (fun P : Int32 → Prop => wp_X7_left (fun a0 => P a0) s0 x1) := by
  unfold wp_X7_left
  exact (dt_b1 (F := fun k => wp_X7_isBoard k s0) (dt_X7_isBoard s0) (fun r_1 => (dt_p (dt_r _) (dt_b1 (F := fun k => wp_X7_in k (Int32.toInt64 x1) (0 : Int64) (3 : Int64)) (dt_X7_in (Int32.toInt64 x1) (0 : Int64) (3 : Int64)) (fun r_4 => (dt_n (dt_x (fun n31 m_n31 => (dl_X7_left_L31 s0 (fun v0 => (dt_r _)) (fun z1 z2 z3 z4 z5 => (dt_c (dt_n (dt_n (dt_n (dt_p (dt_r _) (dt_r _)) (dt_r _)) (dt_r _)) (dt_r _)))) n31 m_n31 x1 0 0 0 0))) (dt_r _)))))))
set_option maxHeartbeats 4000000 in
theorem dl_X7_putsAside_L2  {O : Type} {G_post G2_post : Md → (O → Prop) → Prop} {G_e27 G2_e27 : Md → Int32 → (O → Prop) → Prop} (h_post : ∀ v0, dt (G_post v0) (G2_post v0)) (h_e27 : ∀ v0 v1, dt (G_e27 v0 v1) (G2_e27 v0 v1)) : ∀ (n m : Nat) (t0 : Md) (z1 : Int32), dt (fun P : O → Prop => wp_X7_putsAside_L2 (fun v0 => G_post v0 P) (fun v0 v1 => G_e27 v0 v1 P) n t0 z1) (fun P : O → Prop => wp_X7_putsAside_L2 (fun v0 => G2_post v0 P) (fun v0 v1 => G2_e27 v0 v1 P) m t0 z1) := by
  intro n
  induction n with
  | zero => exact fun _ _ _ => dt_F
  | succ n2 ih =>
    intro m t0 z1
    have key : ∀ m9 : Nat, dt (fun P : O → Prop => wp_X7_putsAside_L2 (fun v0 => G_post v0 P) (fun v0 v1 => G_e27 v0 v1 P) (n2 + 1) t0 z1) (fun P : O → Prop => wp_X7_putsAside_L2 (fun v0 => G2_post v0 P) (fun v0 v1 => G2_e27 v0 v1 P) (m9 + 1) t0 z1) := by
      intro m9
      unfold wp_X7_putsAside_L2
      exact (dt_p (h_e27 t0 z1) (dt_c (dt_c (ih m9 (t0.1, t0.2.1, (va_up t0.2.2.1 3 (vp_updL (t0.2.2.1 3) (Int32.toNatClampNeg z1) ((t0.2.2.1 0) (Int32.toNatClampNeg z1)))), t0.2.2.2) (z1 + 1)))))
    cases m with
    | zero => exact dt_0 (key 0)
    | succ m9 => exact key m9
set_option maxHeartbeats 4000000 in
theorem dt_X7_putsAside (s0 : Md) : dt (fun P : Md → Prop => wp_X7_putsAside (fun a0 => P a0) s0) (fun P : Md → Prop => wp_X7_putsAside (fun a0 => P a0) s0) := by
  unfold wp_X7_putsAside
  exact (dt_x (fun n2 m_n2 => (dl_X7_putsAside_L2  (fun v0 => (dt_r _)) (fun t0 z1 => (dt_r _)) n2 m_n2 s0 0)))
set_option maxHeartbeats 4000000 in
theorem dl_X7_takesBack_L2  {O : Type} {G_post G2_post : Md → (O → Prop) → Prop} {G_e27 G2_e27 : Md → Int32 → (O → Prop) → Prop} (h_post : ∀ v0, dt (G_post v0) (G2_post v0)) (h_e27 : ∀ v0 v1, dt (G_e27 v0 v1) (G2_e27 v0 v1)) : ∀ (n m : Nat) (t0 : Md) (z1 : Int32), dt (fun P : O → Prop => wp_X7_takesBack_L2 (fun v0 => G_post v0 P) (fun v0 v1 => G_e27 v0 v1 P) n t0 z1) (fun P : O → Prop => wp_X7_takesBack_L2 (fun v0 => G2_post v0 P) (fun v0 v1 => G2_e27 v0 v1 P) m t0 z1) := by
  intro n
  induction n with
  | zero => exact fun _ _ _ => dt_F
  | succ n2 ih =>
    intro m t0 z1
    have key : ∀ m9 : Nat, dt (fun P : O → Prop => wp_X7_takesBack_L2 (fun v0 => G_post v0 P) (fun v0 v1 => G_e27 v0 v1 P) (n2 + 1) t0 z1) (fun P : O → Prop => wp_X7_takesBack_L2 (fun v0 => G2_post v0 P) (fun v0 v1 => G2_e27 v0 v1 P) (m9 + 1) t0 z1) := by
      intro m9
      unfold wp_X7_takesBack_L2
      exact (dt_p (h_e27 t0 z1) (dt_c (dt_c (ih m9 (t0.1, t0.2.1, (va_up t0.2.2.1 0 (vp_updL (t0.2.2.1 0) (Int32.toNatClampNeg z1) ((t0.2.2.1 3) (Int32.toNatClampNeg z1)))), t0.2.2.2) (z1 + 1)))))
    cases m with
    | zero => exact dt_0 (key 0)
    | succ m9 => exact key m9
set_option maxHeartbeats 4000000 in
theorem dt_X7_takesBack (s0 : Md) : dt (fun P : Md → Prop => wp_X7_takesBack (fun a0 => P a0) s0) (fun P : Md → Prop => wp_X7_takesBack (fun a0 => P a0) s0) := by
  unfold wp_X7_takesBack
  exact (dt_x (fun n2 m_n2 => (dl_X7_takesBack_L2  (fun v0 => (dt_r _)) (fun t0 z1 => (dt_r _)) n2 m_n2 s0 0)))
set_option maxHeartbeats 4000000 in
theorem dl_X7_others_L4 (s0 : Md) {O : Type} {G_post G2_post : Int32 → (O → Prop) → Prop} {G_e34 G2_e34 : Int32 → Int32 → (O → Prop) → Prop} (h_post : ∀ v0, dt (G_post v0) (G2_post v0)) (h_e34 : ∀ v0 v1, dt (G_e34 v0 v1) (G2_e34 v0 v1)) : ∀ (n m : Nat) (z1 : Int32) (z2 : Int32), dt (fun P : O → Prop => wp_X7_others_L4 s0 (fun v0 => G_post v0 P) (fun v0 v1 => G_e34 v0 v1 P) n z1 z2) (fun P : O → Prop => wp_X7_others_L4 s0 (fun v0 => G2_post v0 P) (fun v0 v1 => G2_e34 v0 v1 P) m z1 z2) := by
  intro n
  induction n with
  | zero => exact fun _ _ _ => dt_F
  | succ n4 ih =>
    intro m z1 z2
    have key : ∀ m9 : Nat, dt (fun P : O → Prop => wp_X7_others_L4 s0 (fun v0 => G_post v0 P) (fun v0 v1 => G_e34 v0 v1 P) (n4 + 1) z1 z2) (fun P : O → Prop => wp_X7_others_L4 s0 (fun v0 => G2_post v0 P) (fun v0 v1 => G2_e34 v0 v1 P) (m9 + 1) z1 z2) := by
      intro m9
      unfold wp_X7_others_L4
      exact (dt_b1 (F := fun k => wp_X7_cells k s0) (dt_X7_cells s0) (fun r_1 => (dt_p (h_e34 z1 z2) (dt_b1 (F := fun k => wp_X7_isOther k s0 z2) (dt_X7_isOther s0 z2) (fun r_4 => (dt_p (ih m9 (z1 + 0) (z2 + 1)) (ih m9 (z1 + 1) (z2 + 1))))))))
    cases m with
    | zero => exact dt_0 (key 0)
    | succ m9 => exact key m9
set_option maxHeartbeats 4000000 in
theorem dt_X7_others (s0 : Md) : dt (fun P : Int32 → Prop => wp_X7_others (fun a0 => P a0) s0) (fun P : Int32 → Prop => wp_X7_others (fun a0 => P a0) s0) := by
  unfold wp_X7_others
  exact (dt_x (fun n4 m_n4 => (dl_X7_others_L4 s0 (fun v0 => (dt_r _)) (fun z1 z2 => (dt_r _)) n4 m_n4 0 0)))
set_option maxHeartbeats 4000000 in
theorem dl_X7_when_L32  {O : Type} {G_post G2_post : Int32 → Md → (O → Prop) → Prop} {G_e72 G2_e72 : Md → Int32 → Int32 → Int32 → Int32 → (O → Prop) → Prop} (h_post : ∀ v0 v1, dt (G_post v0 v1) (G2_post v0 v1)) (h_e72 : ∀ v0 v1 v2 v3 v4, dt (G_e72 v0 v1 v2 v3 v4) (G2_e72 v0 v1 v2 v3 v4)) : ∀ (n m : Nat) (t0 : Md) (z1 : Int32) (z2 : Int32) (z3 : Int32) (z4 : Int32), dt (fun P : O → Prop => wp_X7_when_L32 (fun v0 v1 => G_post v0 v1 P) (fun v0 v1 v2 v3 v4 => G_e72 v0 v1 v2 v3 v4 P) n t0 z1 z2 z3 z4) (fun P : O → Prop => wp_X7_when_L32 (fun v0 v1 => G2_post v0 v1 P) (fun v0 v1 v2 v3 v4 => G2_e72 v0 v1 v2 v3 v4 P) m t0 z1 z2 z3 z4) := by
  intro n
  induction n with
  | zero => exact fun _ _ _ _ _ _ => dt_F
  | succ n32 ih =>
    intro m t0 z1 z2 z3 z4
    have key : ∀ m9 : Nat, dt (fun P : O → Prop => wp_X7_when_L32 (fun v0 v1 => G_post v0 v1 P) (fun v0 v1 v2 v3 v4 => G_e72 v0 v1 v2 v3 v4 P) (n32 + 1) t0 z1 z2 z3 z4) (fun P : O → Prop => wp_X7_when_L32 (fun v0 v1 => G2_post v0 v1 P) (fun v0 v1 v2 v3 v4 => G2_e72 v0 v1 v2 v3 v4 P) (m9 + 1) t0 z1 z2 z3 z4) := by
      intro m9
      unfold wp_X7_when_L32
      exact (dt_b2 (F := fun k => wp_X7_ticks k t0) (dt_X7_ticks t0) (fun r_9 u_10 => (dt_p (h_e72 u_10 z1 z2 z3 z4) (dt_p (ih m9 u_10 z1 (z2 + 1) (z3 + ((u_10.1 1) * (u_10.1 1))) z4) (ih m9 u_10 z1 (z2 + 1) (z3 + ((u_10.1 1) * (u_10.1 1))) (u_10.1 2))))))
    cases m with
    | zero => exact dt_0 (key 0)
    | succ m9 => exact key m9
set_option maxHeartbeats 4000000 in
theorem dt_X7_when (s0 : Md) (x1 : Int32) : dt (fun P : (Int32 × Md) → Prop => wp_X7_when (fun a0 a1 => P (a0, a1)) s0 x1) (fun P : (Int32 × Md) → Prop => wp_X7_when (fun a0 a1 => P (a0, a1)) s0 x1) := by
  unfold wp_X7_when
  exact (dt_b1 (F := fun k => wp_X7_isBoard k s0) (dt_X7_isBoard s0) (fun r_1 => (dt_p (dt_r _) (dt_b1 (F := fun k => wp_X7_in k (Int32.toInt64 x1) (0 : Int64) (5 : Int64)) (dt_X7_in (Int32.toInt64 x1) (0 : Int64) (5 : Int64)) (fun r_4 => (dt_n (dt_b1 (F := fun k => wp_X7_putsAside k s0) (dt_X7_putsAside s0) (fun u_8 => (dt_x (fun n32 m_n32 => (dl_X7_when_L32  (fun v0 v1 => (dt_r _)) (fun t0 z1 z2 z3 z4 => (dt_b1 (F := fun k => wp_X7_others k t0) (dt_X7_others t0) (fun r_13 => (dt_b1 (F := fun k => wp_X7_takesBack k t0) (dt_X7_takesBack t0) (fun u_16 => (dt_p (dt_r _) (dt_p (dt_r _) (dt_p (dt_r _) (dt_p (dt_r _) (dt_p (dt_r _) (dt_r _))))))))))) n32 m_n32 u_8 x1 0 0 0))))) (dt_r _)))))))
set_option maxHeartbeats 4000000 in
theorem dt_X7_total (s0 : Md) (x1 : Int32) : dt (fun P : Int32 → Prop => wp_X7_total (fun a0 => P a0) s0 x1) (fun P : Int32 → Prop => wp_X7_total (fun a0 => P a0) s0 x1) := by
  unfold wp_X7_total
  exact (dt_b1 (F := fun k => wp_X7_isBoard k s0) (dt_X7_isBoard s0) (fun r_1 => (dt_p (dt_r _) (dt_b1 (F := fun k => wp_X7_in k (Int32.toInt64 x1) (0 : Int64) (3 : Int64)) (dt_X7_in (Int32.toInt64 x1) (0 : Int64) (3 : Int64)) (fun r_4 => (dt_p (dt_r _) (dt_c (dt_r _))))))))
set_option maxHeartbeats 4000000 in
theorem dl_X7_rests_L16  {O : Type} {G_post G2_post : Int32 → Md → (O → Prop) → Prop} {G_e44 G2_e44 : Md → Int32 → Int32 → (O → Prop) → Prop} (h_post : ∀ v0 v1, dt (G_post v0 v1) (G2_post v0 v1)) (h_e44 : ∀ v0 v1 v2, dt (G_e44 v0 v1 v2) (G2_e44 v0 v1 v2)) : ∀ (n m : Nat) (t0 : Md) (z1 : Int32) (z2 : Int32), dt (fun P : O → Prop => wp_X7_rests_L16 (fun v0 v1 => G_post v0 v1 P) (fun v0 v1 v2 => G_e44 v0 v1 v2 P) n t0 z1 z2) (fun P : O → Prop => wp_X7_rests_L16 (fun v0 v1 => G2_post v0 v1 P) (fun v0 v1 v2 => G2_e44 v0 v1 v2 P) m t0 z1 z2) := by
  intro n
  induction n with
  | zero => exact fun _ _ _ _ => dt_F
  | succ n16 ih =>
    intro m t0 z1 z2
    have key : ∀ m9 : Nat, dt (fun P : O → Prop => wp_X7_rests_L16 (fun v0 v1 => G_post v0 v1 P) (fun v0 v1 v2 => G_e44 v0 v1 v2 P) (n16 + 1) t0 z1 z2) (fun P : O → Prop => wp_X7_rests_L16 (fun v0 v1 => G2_post v0 v1 P) (fun v0 v1 v2 => G2_e44 v0 v1 v2 P) (m9 + 1) t0 z1 z2) := by
      intro m9
      unfold wp_X7_rests_L16
      exact (dt_b1 (F := fun k => wp_X7_leftOf k t0 z1) (dt_X7_leftOf t0 z1) (fun r_6 => (dt_p (h_e44 t0 z1 z2) (dt_p (h_e44 t0 z1 z2) (dt_b2 (F := fun k => wp_X7_ticks k t0) (dt_X7_ticks t0) (fun r_10 u_11 => (dt_p (h_e44 u_11 z1 z2) (ih m9 u_11 z1 (z2 + 1)))))))))
    cases m with
    | zero => exact dt_0 (key 0)
    | succ m9 => exact key m9
set_option maxHeartbeats 4000000 in
theorem dt_X7_rests (s0 : Md) (x1 : Int32) : dt (fun P : (Int32 × Md) → Prop => wp_X7_rests (fun a0 a1 => P (a0, a1)) s0 x1) (fun P : (Int32 × Md) → Prop => wp_X7_rests (fun a0 a1 => P (a0, a1)) s0 x1) := by
  unfold wp_X7_rests
  exact (dt_b1 (F := fun k => wp_X7_isCell k s0 x1) (dt_X7_isCell s0 x1) (fun r_1 => (dt_n (dt_b1 (F := fun k => wp_X7_putsAside k s0) (dt_X7_putsAside s0) (fun u_5 => (dt_x (fun n16 m_n16 => (dl_X7_rests_L16  (fun v0 v1 => (dt_r _)) (fun t0 z1 z2 => (dt_b1 (F := fun k => wp_X7_leftOf k t0 z1) (dt_X7_leftOf t0 z1) (fun r_13 => (dt_p (dt_b1 (F := fun k => wp_X7_takesBack k t0) (dt_X7_takesBack t0) (fun u_17 => (dt_r _))) (dt_p (dt_b1 (F := fun k => wp_X7_takesBack k t0) (dt_X7_takesBack t0) (fun u_20 => (dt_r _))) (dt_b1 (F := fun k => wp_X7_takesBack k t0) (dt_X7_takesBack t0) (fun u_22 => (dt_r _)))))))) n16 m_n16 u_5 x1 0))))) (dt_r _))))
set_option maxHeartbeats 4000000 in
theorem dl_X7_unlike_L28 (s0 : Md) {O : Type} {G_post G2_post : Int32 → (O → Prop) → Prop} {G_e82 G2_e82 : Int32 → Int32 → Int32 → Int32 → (O → Prop) → Prop} (h_post : ∀ v0, dt (G_post v0) (G2_post v0)) (h_e82 : ∀ v0 v1 v2 v3, dt (G_e82 v0 v1 v2 v3) (G2_e82 v0 v1 v2 v3)) : ∀ (n m : Nat) (z1 : Int32) (z2 : Int32) (z3 : Int32) (z4 : Int32), dt (fun P : O → Prop => wp_X7_unlike_L28 s0 (fun v0 => G_post v0 P) (fun v0 v1 v2 v3 => G_e82 v0 v1 v2 v3 P) n z1 z2 z3 z4) (fun P : O → Prop => wp_X7_unlike_L28 s0 (fun v0 => G2_post v0 P) (fun v0 v1 v2 v3 => G2_e82 v0 v1 v2 v3 P) m z1 z2 z3 z4) := by
  intro n
  induction n with
  | zero => exact fun _ _ _ _ _ => dt_F
  | succ n28 ih =>
    intro m z1 z2 z3 z4
    have key : ∀ m9 : Nat, dt (fun P : O → Prop => wp_X7_unlike_L28 s0 (fun v0 => G_post v0 P) (fun v0 v1 v2 v3 => G_e82 v0 v1 v2 v3 P) (n28 + 1) z1 z2 z3 z4) (fun P : O → Prop => wp_X7_unlike_L28 s0 (fun v0 => G2_post v0 P) (fun v0 v1 v2 v3 => G2_e82 v0 v1 v2 v3 P) (m9 + 1) z1 z2 z3 z4) := by
      intro m9
      unfold wp_X7_unlike_L28
      exact (dt_b1 (F := fun k => wp_X7_wide k s0) (dt_X7_wide s0) (fun r_8 => (dt_p (h_e82 z1 z2 z3 z4) (dt_b1 (F := fun k => wp_X7_wide k s0) (dt_X7_wide s0) (fun r_11 => (dt_b1 (F := fun k => wp_X7_signAt k s0 ((r_11 * z1) + z4) (2 : Int32)) (dt_X7_signAt s0 ((r_11 * z1) + z4) (2 : Int32)) (fun r_13 => (dt_b1 (F := fun k => wp_X7_wide k s0) (dt_X7_wide s0) (fun r_15 => (dt_b1 (F := fun k => wp_X7_signAt k s0 ((r_15 * z2) + z4) (2 : Int32)) (dt_X7_signAt s0 ((r_15 * z2) + z4) (2 : Int32)) (fun r_17 => (dt_p (ih m9 z1 z2 (z3 + 0) (z4 + 1)) (ih m9 z1 z2 (z3 + 1) (z4 + 1))))))))))))))
    cases m with
    | zero => exact dt_0 (key 0)
    | succ m9 => exact key m9
