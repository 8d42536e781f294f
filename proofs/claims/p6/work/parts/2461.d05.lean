set_option maxHeartbeats 4000000 in
theorem dt_X7_unlike (s0 : Md) (x1 : Int32) (x2 : Int32) : dt (fun P : Int32 → Prop => wp_X7_unlike (fun a0 => P a0) s0 x1 x2) (fun P : Int32 → Prop => wp_X7_unlike (fun a0 => P a0) s0 x1 x2) := by
  unfold wp_X7_unlike
  exact (dt_b1 (F := fun k => wp_X7_isRow k s0 x1) (dt_X7_isRow s0 x1) (fun r_1 => (dt_p (dt_r _) (dt_b1 (F := fun k => wp_X7_isRow k s0 x2) (dt_X7_isRow s0 x2) (fun r_4 => (dt_p (dt_r _) (dt_n (dt_x (fun n28 m_n28 => (dl_X7_unlike_L28 s0 (fun v0 => (dt_r _)) (fun z1 z2 z3 z4 => (dt_r _)) n28 m_n28 x1 x2 0 0))) (dt_r _))))))))
set_option maxHeartbeats 4000000 in
theorem dl_X7_digest_L17 (s0 : Md) {O : Type} {G_post G2_post : Int64 → (O → Prop) → Prop} {G_e44 G2_e44 : Int64 → Int32 → Int32 → (O → Prop) → Prop} (h_post : ∀ v0, dt (G_post v0) (G2_post v0)) (h_e44 : ∀ v0 v1 v2, dt (G_e44 v0 v1 v2) (G2_e44 v0 v1 v2)) : ∀ (n m : Nat) (w1 : Int64) (z3 : Int32) (z4 : Int32), dt (fun P : O → Prop => wp_X7_digest_L17 s0 (fun v0 => G_post v0 P) (fun v0 v1 v2 => G_e44 v0 v1 v2 P) n w1 z3 z4) (fun P : O → Prop => wp_X7_digest_L17 s0 (fun v0 => G2_post v0 P) (fun v0 v1 v2 => G2_e44 v0 v1 v2 P) m w1 z3 z4) := by
  intro n
  induction n with
  | zero => exact fun _ _ _ _ => dt_F
  | succ n17 ih =>
    intro m w1 z3 z4
    have key : ∀ m9 : Nat, dt (fun P : O → Prop => wp_X7_digest_L17 s0 (fun v0 => G_post v0 P) (fun v0 v1 v2 => G_e44 v0 v1 v2 P) (n17 + 1) w1 z3 z4) (fun P : O → Prop => wp_X7_digest_L17 s0 (fun v0 => G2_post v0 P) (fun v0 v1 v2 => G2_e44 v0 v1 v2 P) (m9 + 1) w1 z3 z4) := by
      intro m9
      unfold wp_X7_digest_L17
      exact (dt_p (h_e44 w1 z3 z4) (dt_b1 (F := fun k => wp_X7_of k s0 z3 z4) (dt_X7_of s0 z3 z4) (fun r_5 => (ih m9 ((31 * w1) + (Int32.toInt64 r_5)) z3 (z4 + 1)))))
    cases m with
    | zero => exact dt_0 (key 0)
    | succ m9 => exact key m9
set_option maxHeartbeats 4000000 in
theorem dl_X7_digest_L6 (s0 : Md) {O : Type} {G_post G2_post : Int64 → (O → Prop) → Prop} {G_e62 G2_e62 : Int64 → Int32 → (O → Prop) → Prop} (h_post : ∀ v0, dt (G_post v0) (G2_post v0)) (h_e62 : ∀ v0 v1, dt (G_e62 v0 v1) (G2_e62 v0 v1)) : ∀ (n m : Nat) (w1 : Int64) (z3 : Int32), dt (fun P : O → Prop => wp_X7_digest_L6 s0 (fun v0 => G_post v0 P) (fun v0 v1 => G_e62 v0 v1 P) n w1 z3) (fun P : O → Prop => wp_X7_digest_L6 s0 (fun v0 => G2_post v0 P) (fun v0 v1 => G2_e62 v0 v1 P) m w1 z3) := by
  intro n
  induction n with
  | zero => exact fun _ _ _ => dt_F
  | succ n6 ih =>
    intro m w1 z3
    have key : ∀ m9 : Nat, dt (fun P : O → Prop => wp_X7_digest_L6 s0 (fun v0 => G_post v0 P) (fun v0 v1 => G_e62 v0 v1 P) (n6 + 1) w1 z3) (fun P : O → Prop => wp_X7_digest_L6 s0 (fun v0 => G2_post v0 P) (fun v0 v1 => G2_e62 v0 v1 P) (m9 + 1) w1 z3) := by
      intro m9
      unfold wp_X7_digest_L6
      exact (dt_b1 (F := fun k => wp_X7_cells k s0) (dt_X7_cells s0) (fun r_1 => (dt_p (h_e62 w1 z3) (dt_x (fun n17 m_n17 => (dl_X7_digest_L17 s0 (fun v0 => (h_post v0)) (fun w1 z3 z4 => (dt_b1 (F := fun k => wp_X7_wornOf k s0 z3) (dt_X7_wornOf s0 z3) (fun r_7 => (ih m9 ((31 * w1) + r_7) (z3 + 1))))) n17 m_n17 w1 z3 0))))))
    cases m with
    | zero => exact dt_0 (key 0)
    | succ m9 => exact key m9
set_option maxHeartbeats 4000000 in
theorem dt_X7_digest (s0 : Md) : dt (fun P : Int64 → Prop => wp_X7_digest (fun a0 => P a0) s0) (fun P : Int64 → Prop => wp_X7_digest (fun a0 => P a0) s0) := by
  unfold wp_X7_digest
  exact (dt_x (fun n6 m_n6 => (dl_X7_digest_L6 s0 (fun v0 => (dt_r _)) (fun w1 z3 => (dt_r _)) n6 m_n6 17 0)))
set_option maxHeartbeats 4000000 in
theorem dt_X7_letter (s0 : Md) (x1 : Int32) (x2 : Int32) : dt (fun P : Int32 → Prop => wp_X7_letter (fun a0 => P a0) s0 x1 x2) (fun P : Int32 → Prop => wp_X7_letter (fun a0 => P a0) s0 x1 x2) := by
  unfold wp_X7_letter
  exact (dt_b1 (F := fun k => wp_X7_in k (Int32.toInt64 x1) (0 : Int64) (1 : Int64)) (dt_X7_in (Int32.toInt64 x1) (0 : Int64) (1 : Int64)) (fun r_1 => (dt_p (dt_r _) (dt_p (dt_b1 (F := fun k => wp_X7_cells k s0) (dt_X7_cells s0) (fun r_5 => (dt_n (dt_b1 (F := fun k => wp_X7_wide k s0) (dt_X7_wide s0) (fun r_8 => (dt_b1 (F := fun k => wp_X7_rows k s0) (dt_X7_rows s0) (fun r_10 => (dt_n (dt_p (dt_b1 (F := fun k => wp_X7_wide k s0) (dt_X7_wide s0) (fun r_14 => (dt_c (dt_b1 (F := fun k => wp_X7_wide k s0) (dt_X7_wide s0) (fun r_17 => (dt_n (dt_b1 (F := fun k => wp_X7_wide k s0) (dt_X7_wide s0) (fun r_20 => (dt_c (dt_b1 (F := fun k => wp_X7_wide k s0) (dt_X7_wide s0) (fun r_23 => (dt_b1 (F := fun k => wp_X7_signAt k s0 (((x2 / (r_20 + 1)) * r_23) + (x2 - ((x2 / (r_14 + 1)) * (r_14 + 1)))) (2 * x1)) (dt_X7_signAt s0 (((x2 / (r_20 + 1)) * r_23) + (x2 - ((x2 / (r_14 + 1)) * (r_14 + 1)))) (2 * x1)) (fun r_25 => (dt_r _)))))))) (dt_r _))))))) (dt_r _)) (dt_r _)))))) (dt_n (dt_p (dt_b1 (F := fun k => wp_X7_wide k s0) (dt_X7_wide s0) (fun r_29 => (dt_c (dt_b1 (F := fun k => wp_X7_wide k s0) (dt_X7_wide s0) (fun r_32 => (dt_n (dt_b1 (F := fun k => wp_X7_wide k s0) (dt_X7_wide s0) (fun r_35 => (dt_c (dt_b1 (F := fun k => wp_X7_wide k s0) (dt_X7_wide s0) (fun r_38 => (dt_b1 (F := fun k => wp_X7_signAt k s0 (((x2 / (r_35 + 1)) * r_38) + (x2 - ((x2 / (r_29 + 1)) * (r_29 + 1)))) (2 * x1)) (dt_X7_signAt s0 (((x2 / (r_35 + 1)) * r_38) + (x2 - ((x2 / (r_29 + 1)) * (r_29 + 1)))) (2 * x1)) (fun r_40 => (dt_r _)))))))) (dt_r _))))))) (dt_r _)) (dt_r _))))) (dt_r _)))))
set_option maxHeartbeats 4000000 in
theorem dt_X7_count (s0 : Md) (x1 : Int32) : dt (fun P : (Int32 × Md) → Prop => wp_X7_count (fun a0 a1 => P (a0, a1)) s0 x1) (fun P : (Int32 × Md) → Prop => wp_X7_count (fun a0 a1 => P (a0, a1)) s0 x1) := by
  unfold wp_X7_count
  exact (dt_p (dt_b1 (F := fun k => wp_X7_rows k s0) (dt_X7_rows s0) (fun r_2 => (dt_r _))) (dt_p (dt_b1 (F := fun k => wp_X7_wide k s0) (dt_X7_wide s0) (fun r_5 => (dt_r _))) (dt_p (dt_b1 (F := fun k => wp_X7_cells k s0) (dt_X7_cells s0) (fun r_8 => (dt_r _))) (dt_p (dt_r _) (dt_p (dt_b1 (F := fun k => wp_X7_drums k s0) (dt_X7_drums s0) (fun r_12 => (dt_r _))) (dt_p (dt_r _) (dt_p (dt_r _) (dt_p (dt_p (dt_p (dt_r _) (dt_r _)) (dt_p (dt_r _) (dt_r _))) (dt_p (dt_b1 (F := fun k => wp_X7_findsTurning k s0) (dt_X7_findsTurning s0) (fun u_22 => (dt_r _))) (dt_r _))))))))))
set_option maxHeartbeats 4000000 in
theorem dl_X7_asks_L13  {O : Type} {G_post G2_post : Md → (O → Prop) → Prop} {G_e135 G2_e135 : Md → Int32 → Int32 → Int32 → Int32 → Int32 → (O → Prop) → Prop} (h_post : ∀ v0, dt (G_post v0) (G2_post v0)) (h_e135 : ∀ v0 v1 v2 v3 v4 v5, dt (G_e135 v0 v1 v2 v3 v4 v5) (G2_e135 v0 v1 v2 v3 v4 v5)) : ∀ (n m : Nat) (t0 : Md) (z1 : Int32) (z2 : Int32) (z3 : Int32) (z4 : Int32) (z5 : Int32), dt (fun P : O → Prop => wp_X7_asks_L13 (fun v0 => G_post v0 P) (fun v0 v1 v2 v3 v4 v5 => G_e135 v0 v1 v2 v3 v4 v5 P) n t0 z1 z2 z3 z4 z5) (fun P : O → Prop => wp_X7_asks_L13 (fun v0 => G2_post v0 P) (fun v0 v1 v2 v3 v4 v5 => G2_e135 v0 v1 v2 v3 v4 v5 P) m t0 z1 z2 z3 z4 z5) := by
  intro n
  induction n with
  | zero => exact fun _ _ _ _ _ _ _ => dt_F
  | succ n13 ih =>
    intro m t0 z1 z2 z3 z4 z5
    have key : ∀ m9 : Nat, dt (fun P : O → Prop => wp_X7_asks_L13 (fun v0 => G_post v0 P) (fun v0 v1 v2 v3 v4 v5 => G_e135 v0 v1 v2 v3 v4 v5 P) (n13 + 1) t0 z1 z2 z3 z4 z5) (fun P : O → Prop => wp_X7_asks_L13 (fun v0 => G2_post v0 P) (fun v0 v1 v2 v3 v4 v5 => G2_e135 v0 v1 v2 v3 v4 v5 P) (m9 + 1) t0 z1 z2 z3 z4 z5) := by
      intro m9
      unfold wp_X7_asks_L13
      exact (dt_b1 (F := fun k => wp_X7_wide k t0) (dt_X7_wide t0) (fun r_1 => (dt_p (h_e135 t0 z1 z2 z3 z4 z5) (dt_b1 (F := fun k => wp_X7_wide k t0) (dt_X7_wide t0) (fun r_4 => (dt_p (dt_b1 (F := fun k => wp_X7_of k t0 ((r_4 * z1) + z5) (2 : Int32)) (dt_X7_of t0 ((r_4 * z1) + z5) (2 : Int32)) (fun r_7 => (dt_b1 (F := fun k => wp_X7_flaps k t0 ((r_4 * z1) + z5)) (dt_X7_flaps t0 ((r_4 * z1) + z5)) (fun r_9 => (dt_b1 (F := fun k => wp_X7_on k r_7 (0 : Int32) r_9) (dt_X7_on r_7 (0 : Int32) r_9) (fun r_11 => (ih m9 ((va_up t0.1 3 ((t0.1 3) + r_11)), t0.2.1, t0.2.2.1, t0.2.2.2) z1 z2 z3 z4 (z5 + 1)))))))) (dt_p (dt_b1 (F := fun k => wp_X7_of k t0 ((r_4 * z1) + z5) (2 : Int32)) (dt_X7_of t0 ((r_4 * z1) + z5) (2 : Int32)) (fun r_14 => (dt_b1 (F := fun k => wp_X7_flaps k t0 ((r_4 * z1) + z5)) (dt_X7_flaps t0 ((r_4 * z1) + z5)) (fun r_16 => (dt_b1 (F := fun k => wp_X7_on k r_14 (0 : Int32) r_16) (dt_X7_on r_14 (0 : Int32) r_16) (fun r_18 => (ih m9 ((va_up t0.1 3 ((t0.1 3) + r_18)), t0.2.1, t0.2.2.1, t0.2.2.2) z1 z2 z3 z4 (z5 + 1)))))))) (dt_c (dt_b1 (F := fun k => wp_X7_flapFor k t0 ((r_4 * z1) + z5) ((t0.2.2.2 2) (Int32.toNatClampNeg ((z3 + z5) - z2)))) (dt_X7_flapFor t0 ((r_4 * z1) + z5) ((t0.2.2.2 2) (Int32.toNatClampNeg ((z3 + z5) - z2)))) (fun r_21 => (dt_n (dt_b1 (F := fun k => wp_X7_of k t0 ((r_4 * z1) + z5) (2 : Int32)) (dt_X7_of t0 ((r_4 * z1) + z5) (2 : Int32)) (fun r_24 => (dt_b1 (F := fun k => wp_X7_flaps k t0 ((r_4 * z1) + z5)) (dt_X7_flaps t0 ((r_4 * z1) + z5)) (fun r_26 => (dt_b1 (F := fun k => wp_X7_on k r_24 r_21 r_26) (dt_X7_on r_24 r_21 r_26) (fun r_28 => (ih m9 ((va_up t0.1 3 ((t0.1 3) + r_28)), t0.2.1, t0.2.2.1, t0.2.2.2) z1 z2 z3 z4 (z5 + 1)))))))) (ih m9 ((va_up t0.1 4 ((t0.1 4) + 1)), t0.2.1, t0.2.2.1, t0.2.2.2) z1 z2 z3 z4 (z5 + 1)))))))))))))
    cases m with
    | zero => exact dt_0 (key 0)
    | succ m9 => exact key m9
set_option maxHeartbeats 4000000 in
theorem dt_X7_asks (s0 : Md) (x1 : Int32) (x2 : Int32) (x3 : Int32) (x4 : Int32) : dt (fun P : Md → Prop => wp_X7_asks (fun a0 => P a0) s0 x1 x2 x3 x4) (fun P : Md → Prop => wp_X7_asks (fun a0 => P a0) s0 x1 x2 x3 x4) := by
  unfold wp_X7_asks
  exact (dt_x (fun n13 m_n13 => (dl_X7_asks_L13  (fun v0 => (dt_r _)) (fun t0 z1 z2 z3 z4 z5 => (dt_r _)) n13 m_n13 ((va_up (va_up s0.1 3 0) 4 0), s0.2.1, s0.2.2.1, s0.2.2.2) x1 x2 x3 x4 0)))
set_option maxHeartbeats 4000000 in
theorem dt_X7_cost (s0 : Md) (x1 : Int32) : dt (fun P : (Int32 × Md) → Prop => wp_X7_cost (fun a0 a1 => P (a0, a1)) s0 x1) (fun P : (Int32 × Md) → Prop => wp_X7_cost (fun a0 a1 => P (a0, a1)) s0 x1) := by
  unfold wp_X7_cost
  exact (dt_b1 (F := fun k => wp_X7_isRow k s0 x1) (dt_X7_isRow s0 x1) (fun r_1 => (dt_n (dt_b1 (F := fun k => wp_X7_isRowText k s0 (s0.1 5)) (dt_X7_isRowText s0 (s0.1 5)) (fun r_4 => (dt_n (dt_b1 (F := fun k => wp_X7_asks k s0 x1 (0 : Int32) (0 : Int32) (s0.1 5)) (dt_X7_asks s0 x1 (0 : Int32) (0 : Int32) (s0.1 5)) (fun u_8 => (dt_r _))) (dt_r _)))) (dt_r _))))
set_option maxHeartbeats 4000000 in
theorem dl_X7_endOf_L2 (s0 : Md) {O : Type} {G_post G2_post : Int32 → (O → Prop) → Prop} {G_e27 G2_e27 : Int32 → Int32 → (O → Prop) → Prop} (h_post : ∀ v0, dt (G_post v0) (G2_post v0)) (h_e27 : ∀ v0 v1, dt (G_e27 v0 v1) (G2_e27 v0 v1)) : ∀ (n m : Nat) (z1 : Int32) (z2 : Int32), dt (fun P : O → Prop => wp_X7_endOf_L2 s0 (fun v0 => G_post v0 P) (fun v0 v1 => G_e27 v0 v1 P) n z1 z2) (fun P : O → Prop => wp_X7_endOf_L2 s0 (fun v0 => G2_post v0 P) (fun v0 v1 => G2_e27 v0 v1 P) m z1 z2) := by
  intro n
  induction n with
  | zero => exact fun _ _ _ => dt_F
  | succ n2 ih =>
    intro m z1 z2
    have key : ∀ m9 : Nat, dt (fun P : O → Prop => wp_X7_endOf_L2 s0 (fun v0 => G_post v0 P) (fun v0 v1 => G_e27 v0 v1 P) (n2 + 1) z1 z2) (fun P : O → Prop => wp_X7_endOf_L2 s0 (fun v0 => G2_post v0 P) (fun v0 v1 => G2_e27 v0 v1 P) (m9 + 1) z1 z2) := by
      intro m9
      unfold wp_X7_endOf_L2
      exact (dt_p (h_e27 z1 z2) (dt_c (dt_p (h_e27 z1 z2) (ih m9 z1 (z2 + 1)))))
    cases m with
    | zero => exact dt_0 (key 0)
    | succ m9 => exact key m9
set_option maxHeartbeats 4000000 in
theorem dt_X7_endOf (s0 : Md) (x1 : Int32) : dt (fun P : Int32 → Prop => wp_X7_endOf (fun a0 => P a0) s0 x1) (fun P : Int32 → Prop => wp_X7_endOf (fun a0 => P a0) s0 x1) := by
  unfold wp_X7_endOf
  exact (dt_x (fun n2 m_n2 => (dl_X7_endOf_L2 s0 (fun v0 => (dt_r _)) (fun z1 z2 => (dt_r _)) n2 m_n2 x1 x1)))
set_option maxHeartbeats 4000000 in
theorem dl_X7_best_L36  {O : Type} {G_post G2_post : Int32 → Md → (O → Prop) → Prop} {G_e152 G2_e152 : Md → Int32 → Int32 → Int32 → Int32 → Int32 → Int32 → Int32 → (O → Prop) → Prop} (h_post : ∀ v0 v1, dt (G_post v0 v1) (G2_post v0 v1)) (h_e152 : ∀ v0 v1 v2 v3 v4 v5 v6 v7, dt (G_e152 v0 v1 v2 v3 v4 v5 v6 v7) (G2_e152 v0 v1 v2 v3 v4 v5 v6 v7)) : ∀ (n m : Nat) (t0 : Md) (z1 : Int32) (z2 : Int32) (z3 : Int32) (z4 : Int32) (z5 : Int32) (z6 : Int32) (z7 : Int32), dt (fun P : O → Prop => wp_X7_best_L36 (fun v0 v1 => G_post v0 v1 P) (fun v0 v1 v2 v3 v4 v5 v6 v7 => G_e152 v0 v1 v2 v3 v4 v5 v6 v7 P) n t0 z1 z2 z3 z4 z5 z6 z7) (fun P : O → Prop => wp_X7_best_L36 (fun v0 v1 => G2_post v0 v1 P) (fun v0 v1 v2 v3 v4 v5 v6 v7 => G2_e152 v0 v1 v2 v3 v4 v5 v6 v7 P) m t0 z1 z2 z3 z4 z5 z6 z7) := by
  intro n
  induction n with
  | zero => exact fun _ _ _ _ _ _ _ _ _ => dt_F
  | succ n36 ih =>
    intro m t0 z1 z2 z3 z4 z5 z6 z7
    have key : ∀ m9 : Nat, dt (fun P : O → Prop => wp_X7_best_L36 (fun v0 v1 => G_post v0 v1 P) (fun v0 v1 v2 v3 v4 v5 v6 v7 => G_e152 v0 v1 v2 v3 v4 v5 v6 v7 P) (n36 + 1) t0 z1 z2 z3 z4 z5 z6 z7) (fun P : O → Prop => wp_X7_best_L36 (fun v0 v1 => G2_post v0 v1 P) (fun v0 v1 v2 v3 v4 v5 v6 v7 => G2_e152 v0 v1 v2 v3 v4 v5 v6 v7 P) (m9 + 1) t0 z1 z2 z3 z4 z5 z6 z7) := by
      intro m9
      unfold wp_X7_best_L36
      exact (dt_p (h_e152 t0 z1 z2 z3 z4 z5 z6 z7) (dt_b1 (F := fun k => wp_X7_endOf k t0 z7) (dt_X7_endOf t0 z7) (fun r_8 => (dt_b1 (F := fun k => wp_X7_wide k t0) (dt_X7_wide t0) (fun r_10 => (dt_p (h_post (-2) t0) (dt_b1 (F := fun k => wp_X7_areSigns k t0 z7 (r_8 - z7)) (dt_X7_areSigns t0 z7 (r_8 - z7)) (fun r_13 => (dt_n (dt_b1 (F := fun k => wp_X7_asks k t0 z1 (0 : Int32) z7 (r_8 - z7)) (dt_X7_asks t0 z1 (0 : Int32) z7 (r_8 - z7)) (fun u_17 => (dt_p (dt_b1 (F := fun k => wp_X7_endOf k u_17 z7) (dt_X7_endOf u_17 z7) (fun r_19 => (ih m9 u_17 z1 z2 z6 (u_17.1 3) (u_17.1 4) (z6 + 1) (r_19 + 1)))) (dt_p (dt_b1 (F := fun k => wp_X7_endOf k u_17 z7) (dt_X7_endOf u_17 z7) (fun r_22 => (ih m9 u_17 z1 z2 z6 (u_17.1 3) (u_17.1 4) (z6 + 1) (r_22 + 1)))) (dt_n (dt_b1 (F := fun k => wp_X7_endOf k u_17 z7) (dt_X7_endOf u_17 z7) (fun r_25 => (ih m9 u_17 z1 z2 z3 z4 z5 (z6 + 1) (r_25 + 1)))) (dt_p (dt_b1 (F := fun k => wp_X7_endOf k u_17 z7) (dt_X7_endOf u_17 z7) (fun r_28 => (ih m9 u_17 z1 z2 z3 z4 z5 (z6 + 1) (r_28 + 1)))) (dt_b1 (F := fun k => wp_X7_endOf k u_17 z7) (dt_X7_endOf u_17 z7) (fun r_30 => (ih m9 u_17 z1 z2 z6 (u_17.1 3) (u_17.1 4) (z6 + 1) (r_30 + 1)))))))))) (h_post (-2) t0))))))))))
    cases m with
    | zero => exact dt_0 (key 0)
    | succ m9 => exact key m9
set_option maxHeartbeats 4000000 in
theorem dt_X7_best (s0 : Md) (x1 : Int32) (x2 : Int32) : dt (fun P : (Int32 × Md) → Prop => wp_X7_best (fun a0 a1 => P (a0, a1)) s0 x1 x2) (fun P : (Int32 × Md) → Prop => wp_X7_best (fun a0 a1 => P (a0, a1)) s0 x1 x2) := by
  unfold wp_X7_best
  exact (dt_b1 (F := fun k => wp_X7_isRow k s0 x1) (dt_X7_isRow s0 x1) (fun r_1 => (dt_p (dt_r _) (dt_b1 (F := fun k => wp_X7_in k (Int32.toInt64 x2) (0 : Int64) (2 : Int64)) (dt_X7_in (Int32.toInt64 x2) (0 : Int64) (2 : Int64)) (fun r_4 => (dt_n (dt_x (fun n36 m_n36 => (dl_X7_best_L36  (fun v0 v1 => (dt_r _)) (fun t0 z1 z2 z3 z4 z5 z6 z7 => (dt_n (dt_n (dt_r _) (dt_r _)) (dt_r _))) n36 m_n36 s0 x1 x2 (-1) 0 0 0 0))) (dt_r _)))))))
set_option maxHeartbeats 4000000 in
theorem dl_X7_place_L52  {O : Type} {G_post G2_post : Int32 → Md → (O → Prop) → Prop} {G_e134 G2_e134 : Md → Int32 → Int32 → Int32 → Int32 → Int32 → Int32 → (O → Prop) → Prop} (h_post : ∀ v0 v1, dt (G_post v0 v1) (G2_post v0 v1)) (h_e134 : ∀ v0 v1 v2 v3 v4 v5 v6, dt (G_e134 v0 v1 v2 v3 v4 v5 v6) (G2_e134 v0 v1 v2 v3 v4 v5 v6)) : ∀ (n m : Nat) (t0 : Md) (z1 : Int32) (z2 : Int32) (z3 : Int32) (z4 : Int32) (z5 : Int32) (z6 : Int32), dt (fun P : O → Prop => wp_X7_place_L52 (fun v0 v1 => G_post v0 v1 P) (fun v0 v1 v2 v3 v4 v5 v6 => G_e134 v0 v1 v2 v3 v4 v5 v6 P) n t0 z1 z2 z3 z4 z5 z6) (fun P : O → Prop => wp_X7_place_L52 (fun v0 v1 => G2_post v0 v1 P) (fun v0 v1 v2 v3 v4 v5 v6 => G2_e134 v0 v1 v2 v3 v4 v5 v6 P) m t0 z1 z2 z3 z4 z5 z6) := by
  intro n
  induction n with
  | zero => exact fun _ _ _ _ _ _ _ _ => dt_F
  | succ n52 ih =>
    intro m t0 z1 z2 z3 z4 z5 z6
    have key : ∀ m9 : Nat, dt (fun P : O → Prop => wp_X7_place_L52 (fun v0 v1 => G_post v0 v1 P) (fun v0 v1 v2 v3 v4 v5 v6 => G_e134 v0 v1 v2 v3 v4 v5 v6 P) (n52 + 1) t0 z1 z2 z3 z4 z5 z6) (fun P : O → Prop => wp_X7_place_L52 (fun v0 v1 => G2_post v0 v1 P) (fun v0 v1 v2 v3 v4 v5 v6 => G2_e134 v0 v1 v2 v3 v4 v5 v6 P) (m9 + 1) t0 z1 z2 z3 z4 z5 z6) := by
      intro m9
      unfold wp_X7_place_L52
      exact (dt_b1 (F := fun k => wp_X7_wide k t0) (dt_X7_wide t0) (fun r_11 => (dt_p (h_e134 t0 z1 z2 z3 z4 z5 z6) (dt_b1 (F := fun k => wp_X7_asks k t0 z1 z6 (0 : Int32) (t0.1 5)) (dt_X7_asks t0 z1 z6 (0 : Int32) (t0.1 5)) (fun u_15 => (dt_p (ih m9 u_15 z1 z2 z6 (u_15.1 3) (u_15.1 4) (z6 + 1)) (dt_p (ih m9 u_15 z1 z2 z3 z4 z5 (z6 + 1)) (dt_n (ih m9 u_15 z1 z2 z6 (u_15.1 3) (u_15.1 4) (z6 + 1)) (dt_p (ih m9 u_15 z1 z2 z6 (u_15.1 3) (u_15.1 4) (z6 + 1)) (ih m9 u_15 z1 z2 z3 z4 z5 (z6 + 1)))))))))))
    cases m with
    | zero => exact dt_0 (key 0)
    | succ m9 => exact key m9
set_option maxHeartbeats 4000000 in
theorem dt_X7_place (s0 : Md) (x1 : Int32) (x2 : Int32) : dt (fun P : (Int32 × Md) → Prop => wp_X7_place (fun a0 a1 => P (a0, a1)) s0 x1 x2) (fun P : (Int32 × Md) → Prop => wp_X7_place (fun a0 a1 => P (a0, a1)) s0 x1 x2) := by
  unfold wp_X7_place
  exact (dt_b1 (F := fun k => wp_X7_isRow k s0 x1) (dt_X7_isRow s0 x1) (fun r_1 => (dt_p (dt_r _) (dt_b1 (F := fun k => wp_X7_in k (Int32.toInt64 x2) (0 : Int64) (1 : Int64)) (dt_X7_in (Int32.toInt64 x2) (0 : Int64) (1 : Int64)) (fun r_4 => (dt_n (dt_p (dt_r _) (dt_b1 (F := fun k => wp_X7_isRowText k s0 (s0.1 5)) (dt_X7_isRowText s0 (s0.1 5)) (fun r_8 => (dt_n (dt_x (fun n52 m_n52 => (dl_X7_place_L52  (fun v0 v1 => (dt_r _)) (fun t0 z1 z2 z3 z4 z5 z6 => (dt_n (dt_r _) (dt_r _))) n52 m_n52 s0 x1 x2 (-1) 0 0 0))) (dt_r _))))) (dt_r _)))))))
set_option maxHeartbeats 4000000 in
theorem dt_X7_logged (s0 : Md) (x1 : Int32) (x2 : Int32) (x3 : Int32) : dt (fun P : Int32 → Prop => wp_X7_logged (fun a0 => P a0) s0 x1 x2 x3) (fun P : Int32 → Prop => wp_X7_logged (fun a0 => P a0) s0 x1 x2 x3) := by
  unfold wp_X7_logged
  exact (dt_c (dt_r _))
set_option maxHeartbeats 4000000 in
theorem dt_X7_moved (x0 : Int32) (x1 : Int32) (x2 : Int32) : dt (fun P : Int32 → Prop => wp_X7_moved (fun a0 => P a0) x0 x1 x2) (fun P : Int32 → Prop => wp_X7_moved (fun a0 => P a0) x0 x1 x2) := by
  unfold wp_X7_moved
  exact (dt_n (dt_n (dt_r _) (dt_r _)) (dt_r _))
set_option maxHeartbeats 4000000 in
theorem dl_X7_journey_L23 (s0 : Md) {O : Type} {G_post G2_post : Int32 → (O → Prop) → Prop} {G_e82 G2_e82 : Int32 → Int32 → Int32 → Int32 → Int32 → Int32 → Int32 → (O → Prop) → Prop} (h_post : ∀ v0, dt (G_post v0) (G2_post v0)) (h_e82 : ∀ v0 v1 v2 v3 v4 v5 v6, dt (G_e82 v0 v1 v2 v3 v4 v5 v6) (G2_e82 v0 v1 v2 v3 v4 v5 v6)) : ∀ (n m : Nat) (z1 : Int32) (z2 : Int32) (z3 : Int32) (z4 : Int32) (z5 : Int32) (z6 : Int32) (z7 : Int32), dt (fun P : O → Prop => wp_X7_journey_L23 s0 (fun v0 => G_post v0 P) (fun v0 v1 v2 v3 v4 v5 v6 => G_e82 v0 v1 v2 v3 v4 v5 v6 P) n z1 z2 z3 z4 z5 z6 z7) (fun P : O → Prop => wp_X7_journey_L23 s0 (fun v0 => G2_post v0 P) (fun v0 v1 v2 v3 v4 v5 v6 => G2_e82 v0 v1 v2 v3 v4 v5 v6 P) m z1 z2 z3 z4 z5 z6 z7) := by
  intro n
  induction n with
  | zero => exact fun _ _ _ _ _ _ _ _ => dt_F
  | succ n23 ih =>
    intro m z1 z2 z3 z4 z5 z6 z7
    have key : ∀ m9 : Nat, dt (fun P : O → Prop => wp_X7_journey_L23 s0 (fun v0 => G_post v0 P) (fun v0 v1 v2 v3 v4 v5 v6 => G_e82 v0 v1 v2 v3 v4 v5 v6 P) (n23 + 1) z1 z2 z3 z4 z5 z6 z7) (fun P : O → Prop => wp_X7_journey_L23 s0 (fun v0 => G2_post v0 P) (fun v0 v1 v2 v3 v4 v5 v6 => G2_e82 v0 v1 v2 v3 v4 v5 v6 P) (m9 + 1) z1 z2 z3 z4 z5 z6 z7) := by
      intro m9
      unfold wp_X7_journey_L23
      exact (dt_p (h_e82 z1 z2 z3 z4 z5 z6 z7) (dt_b1 (F := fun k => wp_X7_logged k s0 z1 z6 z7) (dt_X7_logged s0 z1 z6 z7) (fun r_5 => (dt_p (ih m9 z1 z2 z3 z4 z5 z6 (z7 + 1)) (dt_b1 (F := fun k => wp_X7_logged k s0 z1 z6 z7) (dt_X7_logged s0 z1 z6 z7) (fun r_8 => (dt_b1 (F := fun k => wp_X7_moved k z6 z2 z3) (dt_X7_moved z6 z2 z3) (fun r_10 => (dt_b1 (F := fun k => wp_X7_moved k z7 z2 z3) (dt_X7_moved z7 z2 z3) (fun r_12 => (dt_b1 (F := fun k => wp_X7_on k r_10 r_12 z4) (dt_X7_on r_10 r_12 z4) (fun r_14 => (ih m9 z1 z2 z3 z4 (z5 + (r_8 * r_14)) z6 (z7 + 1))))))))))))))
    cases m with
    | zero => exact dt_0 (key 0)
    | succ m9 => exact key m9
set_option maxHeartbeats 4000000 in
theorem dl_X7_journey_L13 (s0 : Md) {O : Type} {G_post G2_post : Int32 → (O → Prop) → Prop} {G_e88 G2_e88 : Int32 → Int32 → Int32 → Int32 → Int32 → Int32 → (O → Prop) → Prop} (h_post : ∀ v0, dt (G_post v0) (G2_post v0)) (h_e88 : ∀ v0 v1 v2 v3 v4 v5, dt (G_e88 v0 v1 v2 v3 v4 v5) (G2_e88 v0 v1 v2 v3 v4 v5)) : ∀ (n m : Nat) (z1 : Int32) (z2 : Int32) (z3 : Int32) (z4 : Int32) (z5 : Int32) (z6 : Int32), dt (fun P : O → Prop => wp_X7_journey_L13 s0 (fun v0 => G_post v0 P) (fun v0 v1 v2 v3 v4 v5 => G_e88 v0 v1 v2 v3 v4 v5 P) n z1 z2 z3 z4 z5 z6) (fun P : O → Prop => wp_X7_journey_L13 s0 (fun v0 => G2_post v0 P) (fun v0 v1 v2 v3 v4 v5 => G2_e88 v0 v1 v2 v3 v4 v5 P) m z1 z2 z3 z4 z5 z6) := by
  intro n
  induction n with
  | zero => exact fun _ _ _ _ _ _ _ => dt_F
  | succ n13 ih =>
    intro m z1 z2 z3 z4 z5 z6
    have key : ∀ m9 : Nat, dt (fun P : O → Prop => wp_X7_journey_L13 s0 (fun v0 => G_post v0 P) (fun v0 v1 v2 v3 v4 v5 => G_e88 v0 v1 v2 v3 v4 v5 P) (n13 + 1) z1 z2 z3 z4 z5 z6) (fun P : O → Prop => wp_X7_journey_L13 s0 (fun v0 => G2_post v0 P) (fun v0 v1 v2 v3 v4 v5 => G2_e88 v0 v1 v2 v3 v4 v5 P) (m9 + 1) z1 z2 z3 z4 z5 z6) := by
      intro m9
      unfold wp_X7_journey_L13
      exact (dt_p (h_e88 z1 z2 z3 z4 z5 z6) (dt_x (fun n23 m_n23 => (dl_X7_journey_L23 s0 (fun v0 => (h_post v0)) (fun z1 z2 z3 z4 z5 z6 z7 => (ih m9 z1 z2 z3 z4 z5 (z6 + 1))) n23 m_n23 z1 z2 z3 z4 z5 z6 0))))
    cases m with
    | zero => exact dt_0 (key 0)
    | succ m9 => exact key m9
set_option maxHeartbeats 4000000 in
theorem dt_X7_journey (s0 : Md) (x1 : Int32) (x2 : Int32) (x3 : Int32) : dt (fun P : Int32 → Prop => wp_X7_journey (fun a0 => P a0) s0 x1 x2 x3) (fun P : Int32 → Prop => wp_X7_journey (fun a0 => P a0) s0 x1 x2 x3) := by
  unfold wp_X7_journey
  exact (dt_b1 (F := fun k => wp_X7_flapsOf k s0 x1) (dt_X7_flapsOf s0 x1) (fun r_1 => (dt_x (fun n13 m_n13 => (dl_X7_journey_L13 s0 (fun v0 => (dt_r _)) (fun z1 z2 z3 z4 z5 z6 => (dt_r _)) n13 m_n13 x1 x2 x3 r_1 0 0)))))
set_option maxHeartbeats 4000000 in
theorem dl_X7_entries_L15 (s0 : Md) {O : Type} {G_post G2_post : Int32 → (O → Prop) → Prop} {G_e64 G2_e64 : Int32 → Int32 → Int32 → Int32 → Int32 → (O → Prop) → Prop} (h_post : ∀ v0, dt (G_post v0) (G2_post v0)) (h_e64 : ∀ v0 v1 v2 v3 v4, dt (G_e64 v0 v1 v2 v3 v4) (G2_e64 v0 v1 v2 v3 v4)) : ∀ (n m : Nat) (z1 : Int32) (z2 : Int32) (z3 : Int32) (z4 : Int32) (z5 : Int32), dt (fun P : O → Prop => wp_X7_entries_L15 s0 (fun v0 => G_post v0 P) (fun v0 v1 v2 v3 v4 => G_e64 v0 v1 v2 v3 v4 P) n z1 z2 z3 z4 z5) (fun P : O → Prop => wp_X7_entries_L15 s0 (fun v0 => G2_post v0 P) (fun v0 v1 v2 v3 v4 => G2_e64 v0 v1 v2 v3 v4 P) m z1 z2 z3 z4 z5) := by
  intro n
  induction n with
  | zero => exact fun _ _ _ _ _ _ => dt_F
  | succ n15 ih =>
    intro m z1 z2 z3 z4 z5
    have key : ∀ m9 : Nat, dt (fun P : O → Prop => wp_X7_entries_L15 s0 (fun v0 => G_post v0 P) (fun v0 v1 v2 v3 v4 => G_e64 v0 v1 v2 v3 v4 P) (n15 + 1) z1 z2 z3 z4 z5) (fun P : O → Prop => wp_X7_entries_L15 s0 (fun v0 => G2_post v0 P) (fun v0 v1 v2 v3 v4 => G2_e64 v0 v1 v2 v3 v4 P) (m9 + 1) z1 z2 z3 z4 z5) := by
      intro m9
      unfold wp_X7_entries_L15
      exact (dt_p (h_e64 z1 z2 z3 z4 z5) (dt_p (dt_b1 (F := fun k => wp_X7_logged k s0 z1 z4 z5) (dt_X7_logged s0 z1 z4 z5) (fun r_4 => (ih m9 z1 z2 (z3 + r_4) z4 (z5 + 1)))) (dt_b1 (F := fun k => wp_X7_logged k s0 z1 z4 z5) (dt_X7_logged s0 z1 z4 z5) (fun r_6 => (dt_p (ih m9 z1 z2 (z3 + 0) z4 (z5 + 1)) (ih m9 z1 z2 (z3 + 1) z4 (z5 + 1)))))))
    cases m with
    | zero => exact dt_0 (key 0)
    | succ m9 => exact key m9
set_option maxHeartbeats 4000000 in
theorem dl_X7_entries_L5 (s0 : Md) {O : Type} {G_post G2_post : Int32 → (O → Prop) → Prop} {G_e70 G2_e70 : Int32 → Int32 → Int32 → Int32 → (O → Prop) → Prop} (h_post : ∀ v0, dt (G_post v0) (G2_post v0)) (h_e70 : ∀ v0 v1 v2 v3, dt (G_e70 v0 v1 v2 v3) (G2_e70 v0 v1 v2 v3)) : ∀ (n m : Nat) (z1 : Int32) (z2 : Int32) (z3 : Int32) (z4 : Int32), dt (fun P : O → Prop => wp_X7_entries_L5 s0 (fun v0 => G_post v0 P) (fun v0 v1 v2 v3 => G_e70 v0 v1 v2 v3 P) n z1 z2 z3 z4) (fun P : O → Prop => wp_X7_entries_L5 s0 (fun v0 => G2_post v0 P) (fun v0 v1 v2 v3 => G2_e70 v0 v1 v2 v3 P) m z1 z2 z3 z4) := by
  intro n
  induction n with
  | zero => exact fun _ _ _ _ _ => dt_F
  | succ n5 ih =>
    intro m z1 z2 z3 z4
    have key : ∀ m9 : Nat, dt (fun P : O → Prop => wp_X7_entries_L5 s0 (fun v0 => G_post v0 P) (fun v0 v1 v2 v3 => G_e70 v0 v1 v2 v3 P) (n5 + 1) z1 z2 z3 z4) (fun P : O → Prop => wp_X7_entries_L5 s0 (fun v0 => G2_post v0 P) (fun v0 v1 v2 v3 => G2_e70 v0 v1 v2 v3 P) (m9 + 1) z1 z2 z3 z4) := by
      intro m9
      unfold wp_X7_entries_L5
      exact (dt_p (h_e70 z1 z2 z3 z4) (dt_x (fun n15 m_n15 => (dl_X7_entries_L15 s0 (fun v0 => (h_post v0)) (fun z1 z2 z3 z4 z5 => (ih m9 z1 z2 z3 (z4 + 1))) n15 m_n15 z1 z2 z3 z4 0))))
    cases m with
    | zero => exact dt_0 (key 0)
    | succ m9 => exact key m9
set_option maxHeartbeats 4000000 in
theorem dt_X7_entries (s0 : Md) (x1 : Int32) (x2 : Int32) : dt (fun P : Int32 → Prop => wp_X7_entries (fun a0 => P a0) s0 x1 x2) (fun P : Int32 → Prop => wp_X7_entries (fun a0 => P a0) s0 x1 x2) := by
  unfold wp_X7_entries
  exact (dt_x (fun n5 m_n5 => (dl_X7_entries_L5 s0 (fun v0 => (dt_r _)) (fun z1 z2 z3 z4 => (dt_r _)) n5 m_n5 x1 x2 0 0)))
set_option maxHeartbeats 4000000 in
theorem dt_X7_log (s0 : Md) (x1 : Int32) (x2 : Int32) : dt (fun P : Int32 → Prop => wp_X7_log (fun a0 => P a0) s0 x1 x2) (fun P : Int32 → Prop => wp_X7_log (fun a0 => P a0) s0 x1 x2) := by
  unfold wp_X7_log
  exact (dt_b1 (F := fun k => wp_X7_isDrum k s0 x1) (dt_X7_isDrum s0 x1) (fun r_1 => (dt_p (dt_r _) (dt_b1 (F := fun k => wp_X7_in k (Int32.toInt64 x2) (0 : Int64) (2 : Int64)) (dt_X7_in (Int32.toInt64 x2) (0 : Int64) (2 : Int64)) (fun r_4 => (dt_n (dt_n (dt_n (dt_b1 (F := fun k => wp_X7_entries k s0 x1 (0 : Int32)) (dt_X7_entries s0 x1 (0 : Int32)) (fun r_9 => (dt_r _))) (dt_b1 (F := fun k => wp_X7_entries k s0 x1 (1 : Int32)) (dt_X7_entries s0 x1 (1 : Int32)) (fun r_11 => (dt_r _)))) (dt_b1 (F := fun k => wp_X7_journey k s0 x1 (0 : Int32) (0 : Int32)) (dt_X7_journey s0 x1 (0 : Int32) (0 : Int32)) (fun r_13 => (dt_r _)))) (dt_r _)))))))
set_option maxHeartbeats 4000000 in
theorem dl_X7_often_L33 (s0 : Md) {O : Type} {G_post G2_post : Int32 → (O → Prop) → Prop} {G_e74 G2_e74 : Int32 → Int32 → Int32 → Int32 → Int32 → (O → Prop) → Prop} (h_post : ∀ v0, dt (G_post v0) (G2_post v0)) (h_e74 : ∀ v0 v1 v2 v3 v4, dt (G_e74 v0 v1 v2 v3 v4) (G2_e74 v0 v1 v2 v3 v4)) : ∀ (n m : Nat) (z1 : Int32) (z2 : Int32) (z3 : Int32) (z4 : Int32) (z5 : Int32), dt (fun P : O → Prop => wp_X7_often_L33 s0 (fun v0 => G_post v0 P) (fun v0 v1 v2 v3 v4 => G_e74 v0 v1 v2 v3 v4 P) n z1 z2 z3 z4 z5) (fun P : O → Prop => wp_X7_often_L33 s0 (fun v0 => G2_post v0 P) (fun v0 v1 v2 v3 v4 => G2_e74 v0 v1 v2 v3 v4 P) m z1 z2 z3 z4 z5) := by
  intro n
  induction n with
  | zero => exact fun _ _ _ _ _ _ => dt_F
  | succ n33 ih =>
    intro m z1 z2 z3 z4 z5
    have key : ∀ m9 : Nat, dt (fun P : O → Prop => wp_X7_often_L33 s0 (fun v0 => G_post v0 P) (fun v0 v1 v2 v3 v4 => G_e74 v0 v1 v2 v3 v4 P) (n33 + 1) z1 z2 z3 z4 z5) (fun P : O → Prop => wp_X7_often_L33 s0 (fun v0 => G2_post v0 P) (fun v0 v1 v2 v3 v4 => G2_e74 v0 v1 v2 v3 v4 P) (m9 + 1) z1 z2 z3 z4 z5) := by
      intro m9
      unfold wp_X7_often_L33
      exact (dt_p (h_e74 z1 z2 z3 z4 z5) (dt_p (dt_b1 (F := fun k => wp_X7_logged k s0 z1 z2 z5) (dt_X7_logged s0 z1 z2 z5) (fun r_11 => (ih m9 z1 z2 z3 (z4 + r_11) (z5 + 1)))) (dt_b1 (F := fun k => wp_X7_logged k s0 z1 z5 z2) (dt_X7_logged s0 z1 z5 z2) (fun r_13 => (ih m9 z1 z2 z3 (z4 + r_13) (z5 + 1))))))
    cases m with
    | zero => exact dt_0 (key 0)
    | succ m9 => exact key m9
set_option maxHeartbeats 4000000 in
theorem dt_X7_often (s0 : Md) (x1 : Int32) (x2 : Int32) (x3 : Int32) : dt (fun P : Int32 → Prop => wp_X7_often (fun a0 => P a0) s0 x1 x2 x3) (fun P : Int32 → Prop => wp_X7_often (fun a0 => P a0) s0 x1 x2 x3) := by
  unfold wp_X7_often
  exact (dt_b1 (F := fun k => wp_X7_isDrum k s0 x1) (dt_X7_isDrum s0 x1) (fun r_1 => (dt_p (dt_r _) (dt_b1 (F := fun k => wp_X7_flapsOf k s0 x1) (dt_X7_flapsOf s0 x1) (fun r_4 => (dt_b1 (F := fun k => wp_X7_in k (Int32.toInt64 x2) (0 : Int64) (Int32.toInt64 (r_4 - 1))) (dt_X7_in (Int32.toInt64 x2) (0 : Int64) (Int32.toInt64 (r_4 - 1))) (fun r_6 => (dt_n (dt_x (fun n33 m_n33 => (dl_X7_often_L33 s0 (fun v0 => (dt_r _)) (fun z1 z2 z3 z4 z5 => (dt_r _)) n33 m_n33 x1 x2 x3 0 0))) (dt_r _)))))))))
set_option maxHeartbeats 4000000 in
theorem dl_X7_better_L57 (s0 : Md) {O : Type} {G_post G2_post : Int32 → (O → Prop) → Prop} {G_e104 G2_e104 : Int32 → Int32 → Int32 → Int32 → Int32 → Int32 → Int32 → (O → Prop) → Prop} (h_post : ∀ v0, dt (G_post v0) (G2_post v0)) (h_e104 : ∀ v0 v1 v2 v3 v4 v5 v6, dt (G_e104 v0 v1 v2 v3 v4 v5 v6) (G2_e104 v0 v1 v2 v3 v4 v5 v6)) : ∀ (n m : Nat) (z1 : Int32) (z2 : Int32) (z3 : Int32) (z4 : Int32) (z5 : Int32) (z6 : Int32) (z7 : Int32), dt (fun P : O → Prop => wp_X7_better_L57 s0 (fun v0 => G_post v0 P) (fun v0 v1 v2 v3 v4 v5 v6 => G_e104 v0 v1 v2 v3 v4 v5 v6 P) n z1 z2 z3 z4 z5 z6 z7) (fun P : O → Prop => wp_X7_better_L57 s0 (fun v0 => G2_post v0 P) (fun v0 v1 v2 v3 v4 v5 v6 => G2_e104 v0 v1 v2 v3 v4 v5 v6 P) m z1 z2 z3 z4 z5 z6 z7) := by
  intro n
  induction n with
  | zero => exact fun _ _ _ _ _ _ _ _ => dt_F
  | succ n57 ih =>
    intro m z1 z2 z3 z4 z5 z6 z7
    have key : ∀ m9 : Nat, dt (fun P : O → Prop => wp_X7_better_L57 s0 (fun v0 => G_post v0 P) (fun v0 v1 v2 v3 v4 v5 v6 => G_e104 v0 v1 v2 v3 v4 v5 v6 P) (n57 + 1) z1 z2 z3 z4 z5 z6 z7) (fun P : O → Prop => wp_X7_better_L57 s0 (fun v0 => G2_post v0 P) (fun v0 v1 v2 v3 v4 v5 v6 => G2_e104 v0 v1 v2 v3 v4 v5 v6 P) (m9 + 1) z1 z2 z3 z4 z5 z6 z7) := by
      intro m9
      unfold wp_X7_better_L57
      exact (dt_b1 (F := fun k => wp_X7_flapsOf k s0 z1) (dt_X7_flapsOf s0 z1) (fun r_12 => (dt_p (h_e104 z1 z2 z3 z4 z5 z6 z7) (dt_b1 (F := fun k => wp_X7_journey k s0 z1 z6 z7) (dt_X7_journey s0 z1 z6 z7) (fun r_15 => (dt_p (ih m9 z1 z2 r_15 z6 z7 z6 (z7 + 1)) (ih m9 z1 z2 z3 z4 z5 z6 (z7 + 1))))))))
    cases m with
    | zero => exact dt_0 (key 0)
    | succ m9 => exact key m9
set_option maxHeartbeats 4000000 in
theorem dl_X7_better_L41 (s0 : Md) {O : Type} {G_post G2_post : Int32 → (O → Prop) → Prop} {G_e110 G2_e110 : Int32 → Int32 → Int32 → Int32 → Int32 → Int32 → (O → Prop) → Prop} (h_post : ∀ v0, dt (G_post v0) (G2_post v0)) (h_e110 : ∀ v0 v1 v2 v3 v4 v5, dt (G_e110 v0 v1 v2 v3 v4 v5) (G2_e110 v0 v1 v2 v3 v4 v5)) : ∀ (n m : Nat) (z1 : Int32) (z2 : Int32) (z3 : Int32) (z4 : Int32) (z5 : Int32) (z6 : Int32), dt (fun P : O → Prop => wp_X7_better_L41 s0 (fun v0 => G_post v0 P) (fun v0 v1 v2 v3 v4 v5 => G_e110 v0 v1 v2 v3 v4 v5 P) n z1 z2 z3 z4 z5 z6) (fun P : O → Prop => wp_X7_better_L41 s0 (fun v0 => G2_post v0 P) (fun v0 v1 v2 v3 v4 v5 => G2_e110 v0 v1 v2 v3 v4 v5 P) m z1 z2 z3 z4 z5 z6) := by
  intro n
  induction n with
  | zero => exact fun _ _ _ _ _ _ _ => dt_F
  | succ n41 ih =>
    intro m z1 z2 z3 z4 z5 z6
    have key : ∀ m9 : Nat, dt (fun P : O → Prop => wp_X7_better_L41 s0 (fun v0 => G_post v0 P) (fun v0 v1 v2 v3 v4 v5 => G_e110 v0 v1 v2 v3 v4 v5 P) (n41 + 1) z1 z2 z3 z4 z5 z6) (fun P : O → Prop => wp_X7_better_L41 s0 (fun v0 => G2_post v0 P) (fun v0 v1 v2 v3 v4 v5 => G2_e110 v0 v1 v2 v3 v4 v5 P) (m9 + 1) z1 z2 z3 z4 z5 z6) := by
      intro m9
      unfold wp_X7_better_L41
      exact (dt_b1 (F := fun k => wp_X7_flapsOf k s0 z1) (dt_X7_flapsOf s0 z1) (fun r_9 => (dt_p (h_e110 z1 z2 z3 z4 z5 z6) (dt_x (fun n57 m_n57 => (dl_X7_better_L57 s0 (fun v0 => (h_post v0)) (fun z1 z2 z3 z4 z5 z6 z7 => (ih m9 z1 z2 z3 z4 z5 (z6 + 1))) n57 m_n57 z1 z2 z3 z4 z5 z6 (z6 + 1)))))))
    cases m with
    | zero => exact dt_0 (key 0)
    | succ m9 => exact key m9
set_option maxHeartbeats 4000000 in
theorem dt_X7_better (s0 : Md) (x1 : Int32) (x2 : Int32) : dt (fun P : Int32 → Prop => wp_X7_better (fun a0 => P a0) s0 x1 x2) (fun P : Int32 → Prop => wp_X7_better (fun a0 => P a0) s0 x1 x2) := by
  unfold wp_X7_better
  exact (dt_b1 (F := fun k => wp_X7_isDrum k s0 x1) (dt_X7_isDrum s0 x1) (fun r_1 => (dt_p (dt_r _) (dt_b1 (F := fun k => wp_X7_in k (Int32.toInt64 x2) (0 : Int64) (2 : Int64)) (dt_X7_in (Int32.toInt64 x2) (0 : Int64) (2 : Int64)) (fun r_4 => (dt_n (dt_b1 (F := fun k => wp_X7_journey k s0 x1 (0 : Int32) (0 : Int32)) (dt_X7_journey s0 x1 (0 : Int32) (0 : Int32)) (fun r_7 => (dt_x (fun n41 m_n41 => (dl_X7_better_L41 s0 (fun v0 => (dt_r _)) (fun z1 z2 z3 z4 z5 z6 => (dt_n (dt_n (dt_n (dt_r _) (dt_r _)) (dt_r _)) (dt_r _))) n41 m_n41 x1 x2 r_7 (-2) (-2) 1))))) (dt_r _)))))))
set_option maxHeartbeats 4000000 in
theorem dl_X7_farthest_L29 (s0 : Md) {O : Type} {G_post G2_post : Int32 → (O → Prop) → Prop} {G_e101 G2_e101 : Int32 → Int32 → Int32 → Int32 → Int32 → (O → Prop) → Prop} (h_post : ∀ v0, dt (G_post v0) (G2_post v0)) (h_e101 : ∀ v0 v1 v2 v3 v4, dt (G_e101 v0 v1 v2 v3 v4) (G2_e101 v0 v1 v2 v3 v4)) : ∀ (n m : Nat) (z1 : Int32) (z2 : Int32) (z3 : Int32) (z4 : Int32) (z5 : Int32), dt (fun P : O → Prop => wp_X7_farthest_L29 s0 (fun v0 => G_post v0 P) (fun v0 v1 v2 v3 v4 => G_e101 v0 v1 v2 v3 v4 P) n z1 z2 z3 z4 z5) (fun P : O → Prop => wp_X7_farthest_L29 s0 (fun v0 => G2_post v0 P) (fun v0 v1 v2 v3 v4 => G2_e101 v0 v1 v2 v3 v4 P) m z1 z2 z3 z4 z5) := by
  intro n
  induction n with
  | zero => exact fun _ _ _ _ _ _ => dt_F
  | succ n29 ih =>
    intro m z1 z2 z3 z4 z5
    have key : ∀ m9 : Nat, dt (fun P : O → Prop => wp_X7_farthest_L29 s0 (fun v0 => G_post v0 P) (fun v0 v1 v2 v3 v4 => G_e101 v0 v1 v2 v3 v4 P) (n29 + 1) z1 z2 z3 z4 z5) (fun P : O → Prop => wp_X7_farthest_L29 s0 (fun v0 => G2_post v0 P) (fun v0 v1 v2 v3 v4 => G2_e101 v0 v1 v2 v3 v4 P) (m9 + 1) z1 z2 z3 z4 z5) := by
      intro m9
      unfold wp_X7_farthest_L29
      exact (dt_p (h_e101 z1 z2 z3 z4 z5) (dt_b1 (F := fun k => wp_X7_flapFor k s0 z1 z5) (dt_X7_flapFor s0 z1 z5) (fun r_8 => (dt_p (ih m9 z1 z2 z3 z4 (z5 + 1)) (dt_b1 (F := fun k => wp_X7_of k s0 z1 (2 : Int32)) (dt_X7_of s0 z1 (2 : Int32)) (fun r_11 => (dt_b1 (F := fun k => wp_X7_flaps k s0 z1) (dt_X7_flaps s0 z1) (fun r_13 => (dt_b1 (F := fun k => wp_X7_on k r_11 r_8 r_13) (dt_X7_on r_11 r_8 r_13) (fun r_15 => (dt_p (dt_b1 (F := fun k => wp_X7_of k s0 z1 (2 : Int32)) (dt_X7_of s0 z1 (2 : Int32)) (fun r_18 => (dt_b1 (F := fun k => wp_X7_flaps k s0 z1) (dt_X7_flaps s0 z1) (fun r_20 => (dt_b1 (F := fun k => wp_X7_on k r_18 r_8 r_20) (dt_X7_on r_18 r_8 r_20) (fun r_22 => (ih m9 z1 z2 r_22 z5 (z5 + 1)))))))) (ih m9 z1 z2 z3 z4 (z5 + 1)))))))))))))
    cases m with
    | zero => exact dt_0 (key 0)
    | succ m9 => exact key m9
set_option maxHeartbeats 4000000 in
theorem dt_X7_farthest (s0 : Md) (x1 : Int32) (x2 : Int32) : dt (fun P : Int32 → Prop => wp_X7_farthest (fun a0 => P a0) s0 x1 x2) (fun P : Int32 → Prop => wp_X7_farthest (fun a0 => P a0) s0 x1 x2) := by
  unfold wp_X7_farthest
  exact (dt_b1 (F := fun k => wp_X7_isCell k s0 x1) (dt_X7_isCell s0 x1) (fun r_1 => (dt_p (dt_r _) (dt_b1 (F := fun k => wp_X7_in k (Int32.toInt64 x2) (0 : Int64) (1 : Int64)) (dt_X7_in (Int32.toInt64 x2) (0 : Int64) (1 : Int64)) (fun r_4 => (dt_n (dt_x (fun n29 m_n29 => (dl_X7_farthest_L29 s0 (fun v0 => (dt_r _)) (fun z1 z2 z3 z4 z5 => (dt_n (dt_r _) (dt_r _))) n29 m_n29 x1 x2 (-1) (-1) 32))) (dt_r _)))))))
set_option maxHeartbeats 4000000 in
theorem dl_X7_hasElsewhere_L2 (s0 : Md) {O : Type} {G_post G2_post : Int32 → (O → Prop) → Prop} {G_e32 G2_e32 : Int32 → Int32 → Int32 → (O → Prop) → Prop} (h_post : ∀ v0, dt (G_post v0) (G2_post v0)) (h_e32 : ∀ v0 v1 v2, dt (G_e32 v0 v1 v2) (G2_e32 v0 v1 v2)) : ∀ (n m : Nat) (z1 : Int32) (z2 : Int32) (z3 : Int32), dt (fun P : O → Prop => wp_X7_hasElsewhere_L2 s0 (fun v0 => G_post v0 P) (fun v0 v1 v2 => G_e32 v0 v1 v2 P) n z1 z2 z3) (fun P : O → Prop => wp_X7_hasElsewhere_L2 s0 (fun v0 => G2_post v0 P) (fun v0 v1 v2 => G2_e32 v0 v1 v2 P) m z1 z2 z3) := by
  intro n
  induction n with
  | zero => exact fun _ _ _ _ => dt_F
  | succ n2 ih =>
    intro m z1 z2 z3
    have key : ∀ m9 : Nat, dt (fun P : O → Prop => wp_X7_hasElsewhere_L2 s0 (fun v0 => G_post v0 P) (fun v0 v1 v2 => G_e32 v0 v1 v2 P) (n2 + 1) z1 z2 z3) (fun P : O → Prop => wp_X7_hasElsewhere_L2 s0 (fun v0 => G2_post v0 P) (fun v0 v1 v2 => G2_e32 v0 v1 v2 P) (m9 + 1) z1 z2 z3) := by
      intro m9
      unfold wp_X7_hasElsewhere_L2
      exact (dt_b1 (F := fun k => wp_X7_drums k s0) (dt_X7_drums s0) (fun r_1 => (dt_p (h_e32 z1 z2 z3) (dt_p (ih m9 z1 z2 (z3 + 1)) (dt_b1 (F := fun k => wp_X7_manyWith k s0 z3 z2) (dt_X7_manyWith s0 z3 z2) (fun r_5 => (dt_p (ih m9 z1 z2 (z3 + 1)) (h_post 1))))))))
    cases m with
    | zero => exact dt_0 (key 0)
    | succ m9 => exact key m9
set_option maxHeartbeats 4000000 in
theorem dt_X7_hasElsewhere (s0 : Md) (x1 : Int32) (x2 : Int32) : dt (fun P : Int32 → Prop => wp_X7_hasElsewhere (fun a0 => P a0) s0 x1 x2) (fun P : Int32 → Prop => wp_X7_hasElsewhere (fun a0 => P a0) s0 x1 x2) := by
  unfold wp_X7_hasElsewhere
  exact (dt_x (fun n2 m_n2 => (dl_X7_hasElsewhere_L2 s0 (fun v0 => (dt_r _)) (fun z1 z2 z3 => (dt_r _)) n2 m_n2 x1 x2 0)))
set_option maxHeartbeats 4000000 in
theorem dl_X7_lacks_L26 (s0 : Md) {O : Type} {G_post G2_post : Int32 → (O → Prop) → Prop} {G_e117 G2_e117 : Int32 → Int32 → Int32 → Int32 → (O → Prop) → Prop} (h_post : ∀ v0, dt (G_post v0) (G2_post v0)) (h_e117 : ∀ v0 v1 v2 v3, dt (G_e117 v0 v1 v2 v3) (G2_e117 v0 v1 v2 v3)) : ∀ (n m : Nat) (z1 : Int32) (z2 : Int32) (z3 : Int32) (z4 : Int32), dt (fun P : O → Prop => wp_X7_lacks_L26 s0 (fun v0 => G_post v0 P) (fun v0 v1 v2 v3 => G_e117 v0 v1 v2 v3 P) n z1 z2 z3 z4) (fun P : O → Prop => wp_X7_lacks_L26 s0 (fun v0 => G2_post v0 P) (fun v0 v1 v2 v3 => G2_e117 v0 v1 v2 v3 P) m z1 z2 z3 z4) := by
  intro n
  induction n with
  | zero => exact fun _ _ _ _ _ => dt_F
  | succ n26 ih =>
    intro m z1 z2 z3 z4
    have key : ∀ m9 : Nat, dt (fun P : O → Prop => wp_X7_lacks_L26 s0 (fun v0 => G_post v0 P) (fun v0 v1 v2 v3 => G_e117 v0 v1 v2 v3 P) (n26 + 1) z1 z2 z3 z4) (fun P : O → Prop => wp_X7_lacks_L26 s0 (fun v0 => G2_post v0 P) (fun v0 v1 v2 v3 => G2_e117 v0 v1 v2 v3 P) (m9 + 1) z1 z2 z3 z4) := by
      intro m9
      unfold wp_X7_lacks_L26
      exact (dt_p (h_e117 z1 z2 z3 z4) (dt_b1 (F := fun k => wp_X7_of k s0 z1 (0 : Int32)) (dt_X7_of s0 z1 (0 : Int32)) (fun r_8 => (dt_b1 (F := fun k => wp_X7_manyWith k s0 r_8 z4) (dt_X7_manyWith s0 r_8 z4) (fun r_10 => (dt_p (dt_n (dt_b1 (F := fun k => wp_X7_of k s0 z1 (0 : Int32)) (dt_X7_of s0 z1 (0 : Int32)) (fun r_14 => (dt_b1 (F := fun k => wp_X7_hasElsewhere k s0 r_14 z4) (dt_X7_hasElsewhere s0 r_14 z4) (fun r_16 => (dt_p (ih m9 z1 z2 (z3 + 0) (z4 + 1)) (ih m9 z1 z2 (z3 + 1) (z4 + 1))))))) (ih m9 z1 z2 (z3 + 0) (z4 + 1))) (dt_n (ih m9 z1 z2 (z3 + 0) (z4 + 1)) (dt_b1 (F := fun k => wp_X7_flapFor k s0 z1 z4) (dt_X7_flapFor s0 z1 z4) (fun r_20 => (dt_n (ih m9 z1 z2 (z3 + 0) (z4 + 1)) (ih m9 z1 z2 (z3 + 1) (z4 + 1))))))))))))
    cases m with
    | zero => exact dt_0 (key 0)
    | succ m9 => exact key m9
set_option maxHeartbeats 4000000 in
theorem dt_X7_lacks (s0 : Md) (x1 : Int32) (x2 : Int32) : dt (fun P : Int32 → Prop => wp_X7_lacks (fun a0 => P a0) s0 x1 x2) (fun P : Int32 → Prop => wp_X7_lacks (fun a0 => P a0) s0 x1 x2) := by
  unfold wp_X7_lacks
  exact (dt_b1 (F := fun k => wp_X7_isCell k s0 x1) (dt_X7_isCell s0 x1) (fun r_1 => (dt_p (dt_r _) (dt_b1 (F := fun k => wp_X7_in k (Int32.toInt64 x2) (0 : Int64) (1 : Int64)) (dt_X7_in (Int32.toInt64 x2) (0 : Int64) (1 : Int64)) (fun r_4 => (dt_n (dt_x (fun n26 m_n26 => (dl_X7_lacks_L26 s0 (fun v0 => (dt_r _)) (fun z1 z2 z3 z4 => (dt_r _)) n26 m_n26 x1 x2 0 32))) (dt_r _)))))))
set_option maxHeartbeats 4000000 in
theorem dl_X7_lays_L3  {O : Type} {G_post G2_post : Md → (O → Prop) → Prop} {G_e36 G2_e36 : Md → Int32 → Int32 → (O → Prop) → Prop} (h_post : ∀ v0, dt (G_post v0) (G2_post v0)) (h_e36 : ∀ v0 v1 v2, dt (G_e36 v0 v1 v2) (G2_e36 v0 v1 v2)) : ∀ (n m : Nat) (t0 : Md) (z1 : Int32) (z2 : Int32), dt (fun P : O → Prop => wp_X7_lays_L3 (fun v0 => G_post v0 P) (fun v0 v1 v2 => G_e36 v0 v1 v2 P) n t0 z1 z2) (fun P : O → Prop => wp_X7_lays_L3 (fun v0 => G2_post v0 P) (fun v0 v1 v2 => G2_e36 v0 v1 v2 P) m t0 z1 z2) := by
  intro n
  induction n with
  | zero => exact fun _ _ _ _ => dt_F
  | succ n3 ih =>
    intro m t0 z1 z2
    have key : ∀ m9 : Nat, dt (fun P : O → Prop => wp_X7_lays_L3 (fun v0 => G_post v0 P) (fun v0 v1 v2 => G_e36 v0 v1 v2 P) (n3 + 1) t0 z1 z2) (fun P : O → Prop => wp_X7_lays_L3 (fun v0 => G2_post v0 P) (fun v0 v1 v2 => G2_e36 v0 v1 v2 P) (m9 + 1) t0 z1 z2) := by
      intro m9
      unfold wp_X7_lays_L3
      exact (dt_p (h_e36 t0 z1 z2) (dt_c (ih m9 ((va_up t0.1 5 ((t0.1 5) + 1)), t0.2.1, t0.2.2.1, (va_up t0.2.2.2 2 (upd (t0.2.2.2 2) (Int32.toNatClampNeg (t0.1 5)) (vp_nar .byte (Int8.toInt32 (Int32.toInt8 (z1 >>> (z2 &&& 31)))))))) z1 (z2 + (-8)))))
    cases m with
    | zero => exact dt_0 (key 0)
    | succ m9 => exact key m9
set_option maxHeartbeats 4000000 in
theorem dt_X7_lays (s0 : Md) (x1 : Int32) : dt (fun P : Md → Prop => wp_X7_lays (fun a0 => P a0) s0 x1) (fun P : Md → Prop => wp_X7_lays (fun a0 => P a0) s0 x1) := by
  unfold wp_X7_lays
  exact (dt_x (fun n3 m_n3 => (dl_X7_lays_L3  (fun v0 => (dt_r _)) (fun t0 z1 z2 => (dt_r _)) n3 m_n3 s0 x1 24)))
set_option maxHeartbeats 4000000 in
theorem dt_X7_feed (s0 : Md) (x1 : Int32) (x2 : Int32) (x3 : Int32) (x4 : Int32) (x5 : Int32) : dt (fun P : (Int32 × Md) → Prop => wp_X7_feed (fun a0 a1 => P (a0, a1)) s0 x1 x2 x3 x4 x5) (fun P : (Int32 × Md) → Prop => wp_X7_feed (fun a0 a1 => P (a0, a1)) s0 x1 x2 x3 x4 x5) := by
  unfold wp_X7_feed
  exact (dt_p (dt_b1 (F := fun k => wp_X7_lays k s0 x1) (dt_X7_lays s0 x1) (fun u_3 => (dt_b1 (F := fun k => wp_X7_lays k u_3 x2) (dt_X7_lays u_3 x2) (fun u_5 => (dt_b1 (F := fun k => wp_X7_lays k u_5 x3) (dt_X7_lays u_5 x3) (fun u_7 => (dt_b1 (F := fun k => wp_X7_lays k u_7 x4) (dt_X7_lays u_7 x4) (fun u_9 => (dt_b1 (F := fun k => wp_X7_lays k u_9 x5) (dt_X7_lays u_9 x5) (fun u_11 => (dt_r _))))))))))) (dt_r _))
set_option maxHeartbeats 4000000 in
theorem dt_X7_end (s0 : Md) (x1 : Int32) : dt (fun P : (Int32 × Md) → Prop => wp_X7_end (fun a0 a1 => P (a0, a1)) s0 x1) (fun P : (Int32 × Md) → Prop => wp_X7_end (fun a0 a1 => P (a0, a1)) s0 x1) := by
  unfold wp_X7_end
  exact (dt_b1 (F := fun k => wp_X7_in k (Int32.toInt64 x1) (0 : Int64) (Int32.toInt64 (s0.1 5))) (dt_X7_in (Int32.toInt64 x1) (0 : Int64) (Int32.toInt64 (s0.1 5))) (fun r_1 => (dt_n (dt_r _) (dt_r _))))
set_option maxHeartbeats 4000000 in
theorem dt_X7_byteAt (s0 : Md) (x1 : Int32) : dt (fun P : Int32 → Prop => wp_X7_byteAt (fun a0 => P a0) s0 x1) (fun P : Int32 → Prop => wp_X7_byteAt (fun a0 => P a0) s0 x1) := by
  unfold wp_X7_byteAt
  exact (dt_p (dt_r _) (dt_c (dt_r _)))
set_option maxHeartbeats 4000000 in
theorem dl_X7_nextByte_L0  {O : Type} {G_post G2_post : Int32 → Md → (O → Prop) → Prop} {G_e26 G2_e26 : Md → (O → Prop) → Prop} (h_post : ∀ v0 v1, dt (G_post v0 v1) (G2_post v0 v1)) (h_e26 : ∀ v0, dt (G_e26 v0) (G2_e26 v0)) : ∀ (n m : Nat) (t0 : Md), dt (fun P : O → Prop => wp_X7_nextByte_L0 (fun v0 v1 => G_post v0 v1 P) (fun v0 => G_e26 v0 P) n t0) (fun P : O → Prop => wp_X7_nextByte_L0 (fun v0 v1 => G2_post v0 v1 P) (fun v0 => G2_e26 v0 P) m t0) := by
  intro n
  induction n with
  | zero => exact fun _ _ => dt_F
  | succ n0 ih =>
    intro m t0
    have key : ∀ m9 : Nat, dt (fun P : O → Prop => wp_X7_nextByte_L0 (fun v0 v1 => G_post v0 v1 P) (fun v0 => G_e26 v0 P) (n0 + 1) t0) (fun P : O → Prop => wp_X7_nextByte_L0 (fun v0 v1 => G2_post v0 v1 P) (fun v0 => G2_e26 v0 P) (m9 + 1) t0) := by
      intro m9
      unfold wp_X7_nextByte_L0
      exact (dt_b1 (F := fun k => wp_X7_byteAt k t0 (t0.1 6)) (dt_X7_byteAt t0 (t0.1 6)) (fun r_1 => (dt_n (h_e26 t0) (ih m9 ((va_up t0.1 6 ((t0.1 6) + 1)), t0.2.1, t0.2.2.1, t0.2.2.2)))))
    cases m with
    | zero => exact dt_0 (key 0)
    | succ m9 => exact key m9
set_option maxHeartbeats 4000000 in
theorem dt_X7_nextByte (s0 : Md) : dt (fun P : (Int32 × Md) → Prop => wp_X7_nextByte (fun a0 a1 => P (a0, a1)) s0) (fun P : (Int32 × Md) → Prop => wp_X7_nextByte (fun a0 a1 => P (a0, a1)) s0) := by
  unfold wp_X7_nextByte
  exact (dt_x (fun n0 m_n0 => (dl_X7_nextByte_L0  (fun v0 v1 => (dt_r _)) (fun t0 => (dt_b1 (F := fun k => wp_X7_byteAt k t0 (t0.1 6)) (dt_X7_byteAt t0 (t0.1 6)) (fun r_4 => (dt_r _)))) n0 m_n0 s0)))
set_option maxHeartbeats 4000000 in
theorem dt_X7_fails (s0 : Md) (x1 : Int32) (x2 : Int32) : dt (fun P : (Int32 × Md) → Prop => wp_X7_fails (fun a0 a1 => P (a0, a1)) s0 x1 x2) (fun P : (Int32 × Md) → Prop => wp_X7_fails (fun a0 a1 => P (a0, a1)) s0 x1 x2) := by
  unfold wp_X7_fails
  exact (dt_r _)
set_option maxHeartbeats 4000000 in
theorem dl_X7_isWord_L22 (i1 : Nat) {O : Type} {G_post G2_post : Int32 → Md → (O → Prop) → Prop} {G_e51 G2_e51 : Md → Int32 → Int32 → (O → Prop) → Prop} (h_post : ∀ v0 v1, dt (G_post v0 v1) (G2_post v0 v1)) (h_e51 : ∀ v0 v1 v2, dt (G_e51 v0 v1 v2) (G2_e51 v0 v1 v2)) : ∀ (n m : Nat) (t0 : Md) (z2 : Int32) (z3 : Int32), dt (fun P : O → Prop => wp_X7_isWord_L22 i1 (fun v0 v1 => G_post v0 v1 P) (fun v0 v1 v2 => G_e51 v0 v1 v2 P) n t0 z2 z3) (fun P : O → Prop => wp_X7_isWord_L22 i1 (fun v0 v1 => G2_post v0 v1 P) (fun v0 v1 v2 => G2_e51 v0 v1 v2 P) m t0 z2 z3) := by
  intro n
  induction n with
  | zero => exact fun _ _ _ _ => dt_F
  | succ n22 ih =>
    intro m t0 z2 z3
    have key : ∀ m9 : Nat, dt (fun P : O → Prop => wp_X7_isWord_L22 i1 (fun v0 v1 => G_post v0 v1 P) (fun v0 v1 v2 => G_e51 v0 v1 v2 P) (n22 + 1) t0 z2 z3) (fun P : O → Prop => wp_X7_isWord_L22 i1 (fun v0 v1 => G2_post v0 v1 P) (fun v0 v1 v2 => G2_e51 v0 v1 v2 P) (m9 + 1) t0 z2 z3) := by
      intro m9
      unfold wp_X7_isWord_L22
      exact (dt_b1 (F := fun k => wp_J0_length_8abf5 k i1) (dt_J0_length_8abf5 i1) (fun r_4 => (dt_p (h_e51 t0 z2 z3) (dt_b1 (F := fun k => wp_X7_byteAt k t0 (z2 + z3)) (dt_X7_byteAt t0 (z2 + z3)) (fun r_7 => (dt_b1 (F := fun k => wp_J0_charAt_5068e k i1 z3) (dt_J0_charAt_5068e i1 z3) (fun r_9 => (dt_n (h_e51 t0 z2 z3) (ih m9 t0 z2 (z3 + 1))))))))))
    cases m with
    | zero => exact dt_0 (key 0)
    | succ m9 => exact key m9
set_option maxHeartbeats 4000000 in
theorem dl_X7_isWord_L22b (i1 : Nat) {O : Type} {G_post G2_post : Int32 → Md → (O → Prop) → Prop} {G_e51 G2_e51 : Md → Int32 → Int32 → (O → Prop) → Prop} (h_post : ∀ v0 v1, dt (G_post v0 v1) (G2_post v0 v1)) (h_e51 : ∀ v0 v1 v2, dt (G_e51 v0 v1 v2) (G2_e51 v0 v1 v2)) : ∀ (n m : Nat) (t0 : Md) (z2 : Int32) (z3 : Int32), dt (fun P : O → Prop => wp_X7_isWord_L22b i1 (fun v0 v1 => G_post v0 v1 P) (fun v0 v1 v2 => G_e51 v0 v1 v2 P) n t0 z2 z3) (fun P : O → Prop => wp_X7_isWord_L22b i1 (fun v0 v1 => G2_post v0 v1 P) (fun v0 v1 v2 => G2_e51 v0 v1 v2 P) m t0 z2 z3) := by
  intro n
  induction n with
  | zero => exact fun _ _ _ _ => dt_F
  | succ n22 ih =>
    intro m t0 z2 z3
    have key : ∀ m9 : Nat, dt (fun P : O → Prop => wp_X7_isWord_L22b i1 (fun v0 v1 => G_post v0 v1 P) (fun v0 v1 v2 => G_e51 v0 v1 v2 P) (n22 + 1) t0 z2 z3) (fun P : O → Prop => wp_X7_isWord_L22b i1 (fun v0 v1 => G2_post v0 v1 P) (fun v0 v1 v2 => G2_e51 v0 v1 v2 P) (m9 + 1) t0 z2 z3) := by
      intro m9
      unfold wp_X7_isWord_L22b
      exact (dt_b1 (F := fun k => wp_J0_length_8abf5 k i1) (dt_J0_length_8abf5 i1) (fun r_20 => (dt_p (h_e51 t0 z2 z3) (dt_b1 (F := fun k => wp_X7_byteAt k t0 (z2 + z3)) (dt_X7_byteAt t0 (z2 + z3)) (fun r_23 => (dt_b1 (F := fun k => wp_J0_charAt_5068e k i1 z3) (dt_J0_charAt_5068e i1 z3) (fun r_25 => (dt_n (h_e51 t0 z2 z3) (ih m9 t0 z2 (z3 + 1))))))))))
    cases m with
    | zero => exact dt_0 (key 0)
    | succ m9 => exact key m9
set_option maxHeartbeats 4000000 in
theorem dt_X7_isWord (s0 : Md) (i1 : Nat) : dt (fun P : (Int32 × Md) → Prop => wp_X7_isWord (fun a0 a1 => P (a0, a1)) s0 i1) (fun P : (Int32 × Md) → Prop => wp_X7_isWord (fun a0 a1 => P (a0, a1)) s0 i1) := by
  unfold wp_X7_isWord
  exact (dt_b2 (F := fun k => wp_X7_nextByte k s0) (dt_X7_nextByte s0) (fun r_1 u_2 => (dt_n (dt_x (fun n22 m_n22 => (dl_X7_isWord_L22 i1 (fun v0 v1 => (dt_r _)) (fun t0 z2 z3 => (dt_b1 (F := fun k => wp_J0_length_8abf5 k i1) (dt_J0_length_8abf5 i1) (fun r_12 => (dt_n (dt_r _) (dt_b1 (F := fun k => wp_X7_byteAt k t0 (z2 + z3)) (dt_X7_byteAt t0 (z2 + z3)) (fun r_15 => (dt_b1 (F := fun k => wp_X7_in k (Int32.toInt64 r_15) (97 : Int64) (122 : Int64)) (dt_X7_in (Int32.toInt64 r_15) (97 : Int64) (122 : Int64)) (fun r_17 => (dt_n (dt_r _) (dt_r _)))))))))) n22 m_n22 u_2 (u_2.1 6) 0))) (dt_x (fun n22 m_n22 => (dl_X7_isWord_L22b i1 (fun v0 v1 => (dt_r _)) (fun t0 z2 z3 => (dt_b1 (F := fun k => wp_J0_length_8abf5 k i1) (dt_J0_length_8abf5 i1) (fun r_28 => (dt_n (dt_r _) (dt_b1 (F := fun k => wp_X7_byteAt k t0 (z2 + z3)) (dt_X7_byteAt t0 (z2 + z3)) (fun r_31 => (dt_b1 (F := fun k => wp_X7_in k (Int32.toInt64 r_31) (97 : Int64) (122 : Int64)) (dt_X7_in (Int32.toInt64 r_31) (97 : Int64) (122 : Int64)) (fun r_33 => (dt_n (dt_r _) (dt_r _)))))))))) n22 m_n22 u_2 (u_2.1 5) 0))))))
set_option maxHeartbeats 4000000 in
theorem dt_X7_takesWord (s0 : Md) (i1 : Nat) : dt (fun P : (Int32 × Md) → Prop => wp_X7_takesWord (fun a0 a1 => P (a0, a1)) s0 i1) (fun P : (Int32 × Md) → Prop => wp_X7_takesWord (fun a0 a1 => P (a0, a1)) s0 i1) := by
  unfold wp_X7_takesWord
  exact (dt_b2 (F := fun k => wp_X7_isWord k s0 i1) (dt_X7_isWord s0 i1) (fun r_1 u_2 => (dt_p (dt_c (dt_r _)) (dt_b1 (F := fun k => wp_J0_length_8abf5 k i1) (dt_J0_length_8abf5 i1) (fun r_5 => (dt_c (dt_r _)))))))
set_option maxHeartbeats 4000000 in
theorem dt_X7_mustWord (s0 : Md) (i1 : Nat) : dt (fun P : (Int32 × Md) → Prop => wp_X7_mustWord (fun a0 a1 => P (a0, a1)) s0 i1) (fun P : (Int32 × Md) → Prop => wp_X7_mustWord (fun a0 a1 => P (a0, a1)) s0 i1) := by
  unfold wp_X7_mustWord
  exact (dt_b2 (F := fun k => wp_X7_takesWord k s0 i1) (dt_X7_takesWord s0 i1) (fun r_1 u_2 => (dt_n (dt_r _) (dt_b2 (F := fun k => wp_X7_fails k u_2 (1 : Int32) (u_2.1 6)) (dt_X7_fails u_2 (1 : Int32) (u_2.1 6)) (fun r_4 u_5 => (dt_p (dt_r _) (dt_r _)))))))
set_option maxHeartbeats 4000000 in
theorem dt_X7_takesByte (s0 : Md) (x1 : Int32) : dt (fun P : (Int32 × Md) → Prop => wp_X7_takesByte (fun a0 a1 => P (a0, a1)) s0 x1) (fun P : (Int32 × Md) → Prop => wp_X7_takesByte (fun a0 a1 => P (a0, a1)) s0 x1) := by
  unfold wp_X7_takesByte
  exact (dt_b2 (F := fun k => wp_X7_nextByte k s0) (dt_X7_nextByte s0) (fun r_1 u_2 => (dt_n (dt_r _) (dt_r _))))
set_option maxHeartbeats 4000000 in
theorem dt_X7_mustByte (s0 : Md) (x1 : Int32) : dt (fun P : (Int32 × Md) → Prop => wp_X7_mustByte (fun a0 a1 => P (a0, a1)) s0 x1) (fun P : (Int32 × Md) → Prop => wp_X7_mustByte (fun a0 a1 => P (a0, a1)) s0 x1) := by
  unfold wp_X7_mustByte
  exact (dt_b2 (F := fun k => wp_X7_takesByte k s0 x1) (dt_X7_takesByte s0 x1) (fun r_1 u_2 => (dt_n (dt_r _) (dt_b2 (F := fun k => wp_X7_fails k u_2 (1 : Int32) (u_2.1 6)) (dt_X7_fails u_2 (1 : Int32) (u_2.1 6)) (fun r_4 u_5 => (dt_p (dt_r _) (dt_r _)))))))
set_option maxHeartbeats 4000000 in
theorem dl_X7_readsNumber_L40  {O : Type} {G_post G2_post : Int32 → Md → (O → Prop) → Prop} {G_e107 G2_e107 : Md → Int32 → Int32 → (O → Prop) → Prop} (h_post : ∀ v0 v1, dt (G_post v0 v1) (G2_post v0 v1)) (h_e107 : ∀ v0 v1 v2, dt (G_e107 v0 v1 v2) (G2_e107 v0 v1 v2)) : ∀ (n m : Nat) (t0 : Md) (z1 : Int32) (z2 : Int32), dt (fun P : O → Prop => wp_X7_readsNumber_L40 (fun v0 v1 => G_post v0 v1 P) (fun v0 v1 v2 => G_e107 v0 v1 v2 P) n t0 z1 z2) (fun P : O → Prop => wp_X7_readsNumber_L40 (fun v0 v1 => G2_post v0 v1 P) (fun v0 v1 v2 => G2_e107 v0 v1 v2 P) m t0 z1 z2) := by
  intro n
  induction n with
  | zero => exact fun _ _ _ _ => dt_F
  | succ n40 ih =>
    intro m t0 z1 z2
    have key : ∀ m9 : Nat, dt (fun P : O → Prop => wp_X7_readsNumber_L40 (fun v0 v1 => G_post v0 v1 P) (fun v0 v1 v2 => G_e107 v0 v1 v2 P) (n40 + 1) t0 z1 z2) (fun P : O → Prop => wp_X7_readsNumber_L40 (fun v0 v1 => G2_post v0 v1 P) (fun v0 v1 v2 => G2_e107 v0 v1 v2 P) (m9 + 1) t0 z1 z2) := by
      intro m9
      unfold wp_X7_readsNumber_L40
      exact (dt_b1 (F := fun k => wp_X7_byteAt k t0 (t0.1 6)) (dt_X7_byteAt t0 (t0.1 6)) (fun r_6 => (dt_b1 (F := fun k => wp_X7_in k (Int32.toInt64 r_6) (48 : Int64) (57 : Int64)) (dt_X7_in (Int32.toInt64 r_6) (48 : Int64) (57 : Int64)) (fun r_8 => (dt_p (h_e107 t0 z1 z2) (dt_p (ih m9 ((va_up t0.1 6 ((t0.1 6) + 1)), t0.2.1, t0.2.2.1, t0.2.2.2) z1 z2) (dt_b1 (F := fun k => wp_X7_byteAt k t0 (t0.1 6)) (dt_X7_byteAt t0 (t0.1 6)) (fun r_12 => (ih m9 ((va_up (va_up t0.1 6 ((t0.1 6) + 1)) 8 (((10 * (t0.1 8)) + r_12) - 48)), t0.2.1, t0.2.2.1, t0.2.2.2) z1 z2)))))))))
    cases m with
    | zero => exact dt_0 (key 0)
    | succ m9 => exact key m9
set_option maxHeartbeats 4000000 in
theorem dt_X7_readsNumber (s0 : Md) (x1 : Int32) (x2 : Int32) : dt (fun P : (Int32 × Md) → Prop => wp_X7_readsNumber (fun a0 a1 => P (a0, a1)) s0 x1 x2) (fun P : (Int32 × Md) → Prop => wp_X7_readsNumber (fun a0 a1 => P (a0, a1)) s0 x1 x2) := by
  unfold wp_X7_readsNumber
  exact (dt_b2 (F := fun k => wp_X7_nextByte k s0) (dt_X7_nextByte s0) (fun r_1 u_2 => (dt_b1 (F := fun k => wp_X7_in k (Int32.toInt64 r_1) (48 : Int64) (57 : Int64)) (dt_X7_in (Int32.toInt64 r_1) (48 : Int64) (57 : Int64)) (fun r_3 => (dt_n (dt_x (fun n40 m_n40 => (dl_X7_readsNumber_L40  (fun v0 v1 => (dt_r _)) (fun t0 z1 z2 => (dt_b1 (F := fun k => wp_X7_in k (Int32.toInt64 (t0.1 8)) (Int32.toInt64 z1) (Int32.toInt64 z2)) (dt_X7_in (Int32.toInt64 (t0.1 8)) (Int32.toInt64 z1) (Int32.toInt64 z2)) (fun r_14 => (dt_n (dt_r _) (dt_b2 (F := fun k => wp_X7_fails k t0 (2 : Int32) (t0.1 9)) (dt_X7_fails t0 (2 : Int32) (t0.1 9)) (fun r_17 u_18 => (dt_p (dt_r _) (dt_r _)))))))) n40 m_n40 ((va_up (va_up u_2.1 8 0) 9 (u_2.1 6)), u_2.2.1, u_2.2.2.1, u_2.2.2.2) x1 x2))) (dt_b2 (F := fun k => wp_X7_fails k u_2 (1 : Int32) (u_2.1 6)) (dt_X7_fails u_2 (1 : Int32) (u_2.1 6)) (fun r_20 u_21 => (dt_c (dt_r _)))))))))
set_option maxHeartbeats 4000000 in
theorem dl_X7_readsQuoted_L24  {O : Type} {G_post G2_post : Int32 → Md → (O → Prop) → Prop} {G_e102 G2_e102 : Md → Int32 → Int32 → (O → Prop) → Prop} (h_post : ∀ v0 v1, dt (G_post v0 v1) (G2_post v0 v1)) (h_e102 : ∀ v0 v1 v2, dt (G_e102 v0 v1 v2) (G2_e102 v0 v1 v2)) : ∀ (n m : Nat) (t0 : Md) (z1 : Int32) (z2 : Int32), dt (fun P : O → Prop => wp_X7_readsQuoted_L24 (fun v0 v1 => G_post v0 v1 P) (fun v0 v1 v2 => G_e102 v0 v1 v2 P) n t0 z1 z2) (fun P : O → Prop => wp_X7_readsQuoted_L24 (fun v0 v1 => G2_post v0 v1 P) (fun v0 v1 v2 => G2_e102 v0 v1 v2 P) m t0 z1 z2) := by
  intro n
  induction n with
  | zero => exact fun _ _ _ _ => dt_F
  | succ n24 ih =>
    intro m t0 z1 z2
    have key : ∀ m9 : Nat, dt (fun P : O → Prop => wp_X7_readsQuoted_L24 (fun v0 v1 => G_post v0 v1 P) (fun v0 v1 v2 => G_e102 v0 v1 v2 P) (n24 + 1) t0 z1 z2) (fun P : O → Prop => wp_X7_readsQuoted_L24 (fun v0 v1 => G2_post v0 v1 P) (fun v0 v1 v2 => G2_e102 v0 v1 v2 P) (m9 + 1) t0 z1 z2) := by
      intro m9
      unfold wp_X7_readsQuoted_L24
      exact (dt_b1 (F := fun k => wp_X7_byteAt k t0 (t0.1 6)) (dt_X7_byteAt t0 (t0.1 6)) (fun r_4 => (dt_p (h_e102 t0 z1 z2) (dt_b1 (F := fun k => wp_X7_byteAt k t0 (t0.1 6)) (dt_X7_byteAt t0 (t0.1 6)) (fun r_7 => (dt_b1 (F := fun k => wp_X7_isSign k r_7) (dt_X7_isSign r_7) (fun r_9 => (dt_n (dt_n (ih m9 ((va_up (va_up t0.1 6 ((t0.1 6) + 1)) 11 ((t0.1 11) + 1)), t0.2.1, t0.2.2.1, t0.2.2.2) z1 z2) (dt_b2 (F := fun k => wp_X7_fails k t0 (2 : Int32) (t0.1 6)) (dt_X7_fails t0 (2 : Int32) (t0.1 6)) (fun r_13 u_14 => (dt_c (h_post r_13 u_14))))) (dt_b2 (F := fun k => wp_X7_fails k t0 (1 : Int32) (t0.1 6)) (dt_X7_fails t0 (1 : Int32) (t0.1 6)) (fun r_16 u_17 => (dt_c (h_post r_16 u_17))))))))))))
    cases m with
    | zero => exact dt_0 (key 0)
    | succ m9 => exact key m9
set_option maxHeartbeats 4000000 in
theorem dt_X7_readsQuoted (s0 : Md) (x1 : Int32) (x2 : Int32) : dt (fun P : (Int32 × Md) → Prop => wp_X7_readsQuoted (fun a0 a1 => P (a0, a1)) s0 x1 x2) (fun P : (Int32 × Md) → Prop => wp_X7_readsQuoted (fun a0 a1 => P (a0, a1)) s0 x1 x2) := by
  unfold wp_X7_readsQuoted
  exact (dt_b2 (F := fun k => wp_X7_mustByte k s0 (39 : Int32)) (dt_X7_mustByte s0 (39 : Int32)) (fun r_1 u_2 => (dt_n (dt_x (fun n24 m_n24 => (dl_X7_readsQuoted_L24  (fun v0 v1 => (dt_r _)) (fun t0 z1 z2 => (dt_p (dt_r _) (dt_b2 (F := fun k => wp_X7_fails k t0 (2 : Int32) (t0.1 6)) (dt_X7_fails t0 (2 : Int32) (t0.1 6)) (fun r_20 u_21 => (dt_c (dt_r _)))))) n24 m_n24 ((va_up (va_up u_2.1 10 (u_2.1 6)) 11 0), u_2.2.1, u_2.2.2.1, u_2.2.2.2) x1 x2))) (dt_r _))))
set_option maxHeartbeats 4000000 in
theorem dl_X7_readsDrum_L91  {O : Type} {G_post G2_post : Int32 → Md → (O → Prop) → Prop} {G_e127 G2_e127 : Md → Int32 → Int32 → Int32 → (O → Prop) → Prop} (h_post : ∀ v0 v1, dt (G_post v0 v1) (G2_post v0 v1)) (h_e127 : ∀ v0 v1 v2 v3, dt (G_e127 v0 v1 v2 v3) (G2_e127 v0 v1 v2 v3)) : ∀ (n m : Nat) (t0 : Md) (z1 : Int32) (z2 : Int32) (z3 : Int32), dt (fun P : O → Prop => wp_X7_readsDrum_L91 (fun v0 v1 => G_post v0 v1 P) (fun v0 v1 v2 v3 => G_e127 v0 v1 v2 v3 P) n t0 z1 z2 z3) (fun P : O → Prop => wp_X7_readsDrum_L91 (fun v0 v1 => G2_post v0 v1 P) (fun v0 v1 v2 v3 => G2_e127 v0 v1 v2 v3 P) m t0 z1 z2 z3) := by
  intro n
  induction n with
  | zero => exact fun _ _ _ _ _ => dt_F
  | succ n91 ih =>
    intro m t0 z1 z2 z3
    have key : ∀ m9 : Nat, dt (fun P : O → Prop => wp_X7_readsDrum_L91 (fun v0 v1 => G_post v0 v1 P) (fun v0 v1 v2 v3 => G_e127 v0 v1 v2 v3 P) (n91 + 1) t0 z1 z2 z3) (fun P : O → Prop => wp_X7_readsDrum_L91 (fun v0 v1 => G2_post v0 v1 P) (fun v0 v1 v2 v3 => G2_e127 v0 v1 v2 v3 P) (m9 + 1) t0 z1 z2 z3) := by
      intro m9
      unfold wp_X7_readsDrum_L91
      exact (dt_p (h_e127 t0 z1 z2 z3) (dt_c (dt_c (ih m9 (t0.1, t0.2.1, (va_up t0.2.2.1 0 (vp_updL (t0.2.2.1 0) (Int32.toNatClampNeg ((z2 + 2) + z3)) (Int32.toInt64 ((t0.2.2.2 2) (Int32.toNatClampNeg ((t0.1 10) + z3)))))), t0.2.2.2) z1 z2 (z3 + 1)))))
    cases m with
    | zero => exact dt_0 (key 0)
    | succ m9 => exact key m9
set_option maxHeartbeats 4000000 in
theorem dt_X7_readsDrum (s0 : Md) : dt (fun P : (Int32 × Md) → Prop => wp_X7_readsDrum (fun a0 a1 => P (a0, a1)) s0) (fun P : (Int32 × Md) → Prop => wp_X7_readsDrum (fun a0 a1 => P (a0, a1)) s0) := by
  unfold wp_X7_readsDrum
  exact (dt_b1 (F := fun k => wp_X7_drums k s0) (dt_X7_drums s0) (fun r_1 => (dt_n (dt_b2 (F := fun k => wp_X7_readsNumber k ((va_up s0.1 6 ((s0.1 6) + 4)), s0.2.1, s0.2.2.1, s0.2.2.2) (1 : Int32) (9 : Int32)) (dt_X7_readsNumber ((va_up s0.1 6 ((s0.1 6) + 4)), s0.2.1, s0.2.2.1, s0.2.2.2) (1 : Int32) (9 : Int32)) (fun r_4 u_5 => (dt_n (dt_b2 (F := fun k => wp_X7_readsQuoted k u_5 (2 : Int32) (40 : Int32)) (dt_X7_readsQuoted u_5 (2 : Int32) (40 : Int32)) (fun r_7 u_8 => (dt_n (dt_b1 (F := fun k => wp_X7_drums k u_8) (dt_X7_drums u_8) (fun r_10 => (dt_c (dt_c (dt_x (fun n91 m_n91 => (dl_X7_readsDrum_L91  (fun v0 v1 => (dt_r _)) (fun t0 z1 z2 z3 => (dt_r _)) n91 m_n91 (u_8.1, u_8.2.1, (va_up u_8.2.2.1 0 (vp_updL (vp_updL (u_8.2.2.1 0) (Int32.toNatClampNeg (8 + (42 * r_10))) (Int32.toInt64 (u_5.1 8))) (Int32.toNatClampNeg ((8 + (42 * r_10)) + 1)) (Int32.toInt64 (u_8.1 11)))), u_8.2.2.2) (u_5.1 8) (8 + (42 * r_10)) 0))))))) (dt_r _)))) (dt_r _)))) (dt_b2 (F := fun k => wp_X7_fails k s0 (3 : Int32) (s0.1 6)) (dt_X7_fails s0 (3 : Int32) (s0.1 6)) (fun r_17 u_18 => (dt_c (dt_r _)))))))
set_option maxHeartbeats 4000000 in
theorem dl_X7_readsCells_L78  {O : Type} {G_post G2_post : Int32 → Md → (O → Prop) → Prop} {G_e99 G2_e99 : Md → Int32 → Int32 → Int32 → Int32 → (O → Prop) → Prop} (h_post : ∀ v0 v1, dt (G_post v0 v1) (G2_post v0 v1)) (h_e99 : ∀ v0 v1 v2 v3 v4, dt (G_e99 v0 v1 v2 v3 v4) (G2_e99 v0 v1 v2 v3 v4)) : ∀ (n m : Nat) (t0 : Md) (z1 : Int32) (z2 : Int32) (z3 : Int32) (z4 : Int32), dt (fun P : O → Prop => wp_X7_readsCells_L78 (fun v0 v1 => G_post v0 v1 P) (fun v0 v1 v2 v3 v4 => G_e99 v0 v1 v2 v3 v4 P) n t0 z1 z2 z3 z4) (fun P : O → Prop => wp_X7_readsCells_L78 (fun v0 v1 => G2_post v0 v1 P) (fun v0 v1 v2 v3 v4 => G2_e99 v0 v1 v2 v3 v4 P) m t0 z1 z2 z3 z4) := by
  intro n
  induction n with
  | zero => exact fun _ _ _ _ _ _ => dt_F
  | succ n78 ih =>
    intro m t0 z1 z2 z3 z4
    have key : ∀ m9 : Nat, dt (fun P : O → Prop => wp_X7_readsCells_L78 (fun v0 v1 => G_post v0 v1 P) (fun v0 v1 v2 v3 v4 => G_e99 v0 v1 v2 v3 v4 P) (n78 + 1) t0 z1 z2 z3 z4) (fun P : O → Prop => wp_X7_readsCells_L78 (fun v0 v1 => G2_post v0 v1 P) (fun v0 v1 v2 v3 v4 => G2_e99 v0 v1 v2 v3 v4 P) (m9 + 1) t0 z1 z2 z3 z4) := by
      intro m9
      unfold wp_X7_readsCells_L78
      exact (dt_p (h_e99 t0 z1 z2 z3 z4) (dt_b1 (F := fun k => wp_X7_sets k t0 z3 z4 (0 : Int64)) (dt_X7_sets t0 z3 z4 (0 : Int64)) (fun u_19 => (ih m9 u_19 z1 z2 z3 (z4 + 1)))))
    cases m with
    | zero => exact dt_0 (key 0)
    | succ m9 => exact key m9
set_option maxHeartbeats 4000000 in
theorem dl_X7_readsCells_L70  {O : Type} {G_post G2_post : Int32 → Md → (O → Prop) → Prop} {G_e116 G2_e116 : Md → Int32 → Int32 → Int32 → (O → Prop) → Prop} (h_post : ∀ v0 v1, dt (G_post v0 v1) (G2_post v0 v1)) (h_e116 : ∀ v0 v1 v2 v3, dt (G_e116 v0 v1 v2 v3) (G2_e116 v0 v1 v2 v3)) : ∀ (n m : Nat) (t0 : Md) (z1 : Int32) (z2 : Int32) (z3 : Int32), dt (fun P : O → Prop => wp_X7_readsCells_L70 (fun v0 v1 => G_post v0 v1 P) (fun v0 v1 v2 v3 => G_e116 v0 v1 v2 v3 P) n t0 z1 z2 z3) (fun P : O → Prop => wp_X7_readsCells_L70 (fun v0 v1 => G2_post v0 v1 P) (fun v0 v1 v2 v3 => G2_e116 v0 v1 v2 v3 P) m t0 z1 z2 z3) := by
  intro n
  induction n with
  | zero => exact fun _ _ _ _ _ => dt_F
  | succ n70 ih =>
    intro m t0 z1 z2 z3
    have key : ∀ m9 : Nat, dt (fun P : O → Prop => wp_X7_readsCells_L70 (fun v0 v1 => G_post v0 v1 P) (fun v0 v1 v2 v3 => G_e116 v0 v1 v2 v3 P) (n70 + 1) t0 z1 z2 z3) (fun P : O → Prop => wp_X7_readsCells_L70 (fun v0 v1 => G2_post v0 v1 P) (fun v0 v1 v2 v3 => G2_e116 v0 v1 v2 v3 P) (m9 + 1) t0 z1 z2 z3) := by
      intro m9
      unfold wp_X7_readsCells_L70
      exact (dt_p (h_e116 t0 z1 z2 z3) (dt_x (fun n78 m_n78 => (dl_X7_readsCells_L78  (fun v0 v1 => (h_post v0 v1)) (fun t0 z1 z2 z3 z4 => (dt_b1 (F := fun k => wp_X7_sets k t0 z3 (0 : Int32) (Int32.toInt64 (t0.1 8))) (dt_X7_sets t0 z3 (0 : Int32) (Int32.toInt64 (t0.1 8))) (fun u_21 => (ih m9 u_21 z1 z2 (z3 + 1))))) n78 m_n78 t0 z1 z2 z3 0))))
    cases m with
    | zero => exact dt_0 (key 0)
    | succ m9 => exact key m9
set_option maxHeartbeats 4000000 in
theorem dt_X7_readsCells (s0 : Md) : dt (fun P : (Int32 × Md) → Prop => wp_X7_readsCells (fun a0 a1 => P (a0, a1)) s0) (fun P : (Int32 × Md) → Prop => wp_X7_readsCells (fun a0 a1 => P (a0, a1)) s0) := by
  unfold wp_X7_readsCells
  exact (dt_b1 (F := fun k => wp_X7_cells k ((va_up s0.1 6 ((s0.1 6) + 5)), s0.2.1, s0.2.2.1, s0.2.2.2)) (dt_X7_cells ((va_up s0.1 6 ((s0.1 6) + 5)), s0.2.1, s0.2.2.1, s0.2.2.2)) (fun r_1 => (dt_b2 (F := fun k => wp_X7_readsNumber k ((va_up s0.1 6 ((s0.1 6) + 5)), s0.2.1, s0.2.2.1, s0.2.2.2) (0 : Int32) (r_1 - 1)) (dt_X7_readsNumber ((va_up s0.1 6 ((s0.1 6) + 5)), s0.2.1, s0.2.2.1, s0.2.2.2) (0 : Int32) (r_1 - 1)) (fun r_3 u_4 => (dt_n (dt_b1 (F := fun k => wp_X7_cells k u_4) (dt_X7_cells u_4) (fun r_6 => (dt_b2 (F := fun k => wp_X7_readsNumber k u_4 (u_4.1 8) (r_6 - 1)) (dt_X7_readsNumber u_4 (u_4.1 8) (r_6 - 1)) (fun r_8 u_9 => (dt_n (dt_b1 (F := fun k => wp_X7_drums k u_9) (dt_X7_drums u_9) (fun r_11 => (dt_b2 (F := fun k => wp_X7_readsNumber k u_9 (0 : Int32) (r_11 - 1)) (dt_X7_readsNumber u_9 (0 : Int32) (r_11 - 1)) (fun r_13 u_14 => (dt_n (dt_x (fun n70 m_n70 => (dl_X7_readsCells_L70  (fun v0 v1 => (dt_r _)) (fun t0 z1 z2 z3 => (dt_r _)) n70 m_n70 u_14 (u_4.1 8) (u_9.1 8) (u_4.1 8)))) (dt_r _)))))) (dt_r _)))))) (dt_r _))))))
set_option maxHeartbeats 4000000 in
theorem dt_X7_readsWorn (s0 : Md) : dt (fun P : (Int32 × Md) → Prop => wp_X7_readsWorn (fun a0 a1 => P (a0, a1)) s0) (fun P : (Int32 × Md) → Prop => wp_X7_readsWorn (fun a0 a1 => P (a0, a1)) s0) := by
  unfold wp_X7_readsWorn
  exact (dt_b1 (F := fun k => wp_X7_cells k ((va_up s0.1 6 ((s0.1 6) + 4)), s0.2.1, s0.2.2.1, s0.2.2.2)) (dt_X7_cells ((va_up s0.1 6 ((s0.1 6) + 4)), s0.2.1, s0.2.2.1, s0.2.2.2)) (fun r_1 => (dt_b2 (F := fun k => wp_X7_readsNumber k ((va_up s0.1 6 ((s0.1 6) + 4)), s0.2.1, s0.2.2.1, s0.2.2.2) (0 : Int32) (r_1 - 1)) (dt_X7_readsNumber ((va_up s0.1 6 ((s0.1 6) + 4)), s0.2.1, s0.2.2.1, s0.2.2.2) (0 : Int32) (r_1 - 1)) (fun r_3 u_4 => (dt_n (dt_b1 (F := fun k => wp_X7_flaps k u_4 (u_4.1 8)) (dt_X7_flaps u_4 (u_4.1 8)) (fun r_6 => (dt_b2 (F := fun k => wp_X7_readsNumber k u_4 (1 : Int32) (r_6 - 1)) (dt_X7_readsNumber u_4 (1 : Int32) (r_6 - 1)) (fun r_8 u_9 => (dt_n (dt_b1 (F := fun k => wp_X7_wornOf k u_9 (u_4.1 8)) (dt_X7_wornOf u_9 (u_4.1 8)) (fun r_11 => (dt_b1 (F := fun k => wp_X7_isIn k r_11 (u_9.1 8)) (dt_X7_isIn r_11 (u_9.1 8)) (fun r_13 => (dt_p (dt_b1 (F := fun k => wp_X7_wears k u_9 (u_4.1 8) (u_9.1 8)) (dt_X7_wears u_9 (u_4.1 8) (u_9.1 8)) (fun u_17 => (dt_r _))) (dt_b2 (F := fun k => wp_X7_fails k u_9 (2 : Int32) (u_9.1 9)) (dt_X7_fails u_9 (2 : Int32) (u_9.1 9)) (fun r_18 u_19 => (dt_c (dt_r _))))))))) (dt_r _)))))) (dt_r _))))))
