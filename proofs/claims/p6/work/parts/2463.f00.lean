set_option maxHeartbeats 4000000 in
theorem fx_X7_sets (s0 : Md) (x1 : Int32) (x2 : Int32) (y3 : Int64) : xf (fun P : Md → Prop => wp_X7_sets (fun a0 => P a0) s0 x1 x2 y3) (fun o => o.2.2.2 2 = s0.2.2.2 2) := by
  unfold wp_X7_sets
  exact (xf_c (xf_r rfl))
set_option maxHeartbeats 4000000 in
theorem fx_X7_steps (s0 : Md) (x1 : Int32) : xf (fun P : Md → Prop => wp_X7_steps (fun a0 => P a0) s0 x1) (fun o => o.2.2.2 2 = s0.2.2.2 2) := by
  unfold wp_X7_steps
  exact (xf_b1 (F := fun k => wp_X7_of k s0 x1 (2 : Int32)) (xf_dt (dt_X7_of s0 x1 (2 : Int32))) (fun r_1 _ => (xf_b1 (F := fun k => wp_X7_flaps k s0 x1) (xf_dt (dt_X7_flaps s0 x1)) (fun r_3 _ => (xf_c (xf_b1 (F := fun k => wp_X7_sets k s0 x1 (2 : Int32) (Int32.toInt64 ((r_1 + 1) - (((r_1 + 1) / r_3) * r_3)))) (fx_X7_sets s0 x1 (2 : Int32) (Int32.toInt64 ((r_1 + 1) - (((r_1 + 1) / r_3) * r_3)))) (fun u_7 j_u_7 => have i_u_7 := j_u_7.trans rfl; (xf_b1 (F := fun k => wp_X7_of k u_7 x1 (5 : Int32)) (xf_dt (dt_X7_of u_7 x1 (5 : Int32))) (fun r_8 _ => (xf_b1 (F := fun k => wp_X7_sets k u_7 x1 (5 : Int32) (Int32.toInt64 (r_8 + 1))) (fx_X7_sets u_7 x1 (5 : Int32) (Int32.toInt64 (r_8 + 1))) (fun u_11 j_u_11 => have i_u_11 := j_u_11.trans i_u_7; (xf_b1 (F := fun k => wp_X7_of k (u_11.1, u_11.2.1, (va_up u_11.2.2.1 0 (vp_updL (u_11.2.2.1 0) (Int32.toNatClampNeg 6) (((u_11.2.2.1 0) (Int32.toNatClampNeg 6)) + 1))), u_11.2.2.2) x1 (4 : Int32)) (xf_dt (dt_X7_of (u_11.1, u_11.2.1, (va_up u_11.2.2.1 0 (vp_updL (u_11.2.2.1 0) (Int32.toNatClampNeg 6) (((u_11.2.2.1 0) (Int32.toNatClampNeg 6)) + 1))), u_11.2.2.2) x1 (4 : Int32))) (fun r_12 _ => (xf_p (xf_b1 (F := fun k => wp_X7_of k (u_11.1, u_11.2.1, (va_up u_11.2.2.1 0 (vp_updL (u_11.2.2.1 0) (Int32.toNatClampNeg 6) (((u_11.2.2.1 0) (Int32.toNatClampNeg 6)) + 1))), u_11.2.2.2) x1 (1 : Int32)) (xf_dt (dt_X7_of (u_11.1, u_11.2.1, (va_up u_11.2.2.1 0 (vp_updL (u_11.2.2.1 0) (Int32.toNatClampNeg 6) (((u_11.2.2.1 0) (Int32.toNatClampNeg 6)) + 1))), u_11.2.2.2) x1 (1 : Int32))) (fun r_15 _ => (xf_b1 (F := fun k => wp_X7_flaps k (u_11.1, u_11.2.1, (va_up u_11.2.2.1 0 (vp_updL (u_11.2.2.1 0) (Int32.toNatClampNeg 6) (((u_11.2.2.1 0) (Int32.toNatClampNeg 6)) + 1))), u_11.2.2.2) x1) (xf_dt (dt_X7_flaps (u_11.1, u_11.2.1, (va_up u_11.2.2.1 0 (vp_updL (u_11.2.2.1 0) (Int32.toNatClampNeg 6) (((u_11.2.2.1 0) (Int32.toNatClampNeg 6)) + 1))), u_11.2.2.2) x1)) (fun r_17 _ => (xf_c (xf_b1 (F := fun k => wp_X7_sets k (u_11.1, u_11.2.1, (va_up u_11.2.2.1 0 (vp_updL (u_11.2.2.1 0) (Int32.toNatClampNeg 6) (((u_11.2.2.1 0) (Int32.toNatClampNeg 6)) + 1))), u_11.2.2.2) x1 (1 : Int32) (Int32.toInt64 ((r_15 + 1) - (((r_15 + 1) / r_17) * r_17)))) (fx_X7_sets (u_11.1, u_11.2.1, (va_up u_11.2.2.1 0 (vp_updL (u_11.2.2.1 0) (Int32.toNatClampNeg 6) (((u_11.2.2.1 0) (Int32.toNatClampNeg 6)) + 1))), u_11.2.2.2) x1 (1 : Int32) (Int32.toInt64 ((r_15 + 1) - (((r_15 + 1) / r_17) * r_17)))) (fun u_21 j_u_21 => have i_u_21 := j_u_21.trans i_u_11; (xf_b1 (F := fun k => wp_X7_of k u_21 x1 (1 : Int32)) (xf_dt (dt_X7_of u_21 x1 (1 : Int32))) (fun r_22 _ => (xf_p (xf_b1 (F := fun k => wp_X7_of k u_21 x1 (6 : Int32)) (xf_dt (dt_X7_of u_21 x1 (6 : Int32))) (fun r_25 _ => (xf_b1 (F := fun k => wp_X7_sets k u_21 x1 (6 : Int32) (Int32.toInt64 (r_25 + ((r_1 + 1) - (((r_1 + 1) / r_3) * r_3))))) (fx_X7_sets u_21 x1 (6 : Int32) (Int32.toInt64 (r_25 + ((r_1 + 1) - (((r_1 + 1) / r_3) * r_3))))) (fun u_28 j_u_28 => have i_u_28 := j_u_28.trans i_u_21; (xf_b1 (F := fun k => wp_X7_sets k (u_28.1, u_28.2.1, (va_up u_28.2.2.1 0 (vp_updL (u_28.2.2.1 0) (Int32.toNatClampNeg 7) (((u_28.2.2.1 0) (Int32.toNatClampNeg 7)) + (Int32.toInt64 ((r_1 + 1) - (((r_1 + 1) / r_3) * r_3)))))), u_28.2.2.2) x1 (2 : Int32) (0 : Int64)) (fx_X7_sets (u_28.1, u_28.2.1, (va_up u_28.2.2.1 0 (vp_updL (u_28.2.2.1 0) (Int32.toNatClampNeg 7) (((u_28.2.2.1 0) (Int32.toNatClampNeg 7)) + (Int32.toInt64 ((r_1 + 1) - (((r_1 + 1) / r_3) * r_3)))))), u_28.2.2.2) x1 (2 : Int32) (0 : Int64)) (fun u_30 j_u_30 => have i_u_30 := j_u_30.trans i_u_28; (xf_r i_u_30))))))) (xf_r i_u_21))))))))))) (xf_b1 (F := fun k => wp_X7_of k (u_11.1, u_11.2.1, (va_up u_11.2.2.1 0 (vp_updL (u_11.2.2.1 0) (Int32.toNatClampNeg 6) (((u_11.2.2.1 0) (Int32.toNatClampNeg 6)) + 1))), u_11.2.2.2) x1 (4 : Int32)) (xf_dt (dt_X7_of (u_11.1, u_11.2.1, (va_up u_11.2.2.1 0 (vp_updL (u_11.2.2.1 0) (Int32.toNatClampNeg 6) (((u_11.2.2.1 0) (Int32.toNatClampNeg 6)) + 1))), u_11.2.2.2) x1 (4 : Int32))) (fun r_31 _ => (xf_b1 (F := fun k => wp_X7_sets k (u_11.1, u_11.2.1, (va_up u_11.2.2.1 0 (vp_updL (u_11.2.2.1 0) (Int32.toNatClampNeg 6) (((u_11.2.2.1 0) (Int32.toNatClampNeg 6)) + 1))), u_11.2.2.2) x1 (4 : Int32) (Int32.toInt64 (r_31 - 1))) (fx_X7_sets (u_11.1, u_11.2.1, (va_up u_11.2.2.1 0 (vp_updL (u_11.2.2.1 0) (Int32.toNatClampNeg 6) (((u_11.2.2.1 0) (Int32.toNatClampNeg 6)) + 1))), u_11.2.2.2) x1 (4 : Int32) (Int32.toInt64 (r_31 - 1))) (fun u_34 j_u_34 => have i_u_34 := j_u_34.trans i_u_11; (xf_r i_u_34)))))))))))))))))))
set_option maxHeartbeats 4000000 in
theorem fl_X7_findsTurning_L33  {O : Type} {I : O → Prop} {c0 : Nat → Int32}  {G_post : Md → (O → Prop) → Prop} {G_e91 : Md → Int64 → Int32 → Int32 → Int32 → (O → Prop) → Prop} (h_post : ∀ (v0 : Md), v0.2.2.2 2 = c0 → xf (G_post v0) I) (h_e91 : ∀ (v0 : Md) (v1 : Int64) (v2 : Int32) (v3 : Int32) (v4 : Int32), v0.2.2.2 2 = c0 → xf (G_e91 v0 v1 v2 v3 v4) I) : ∀ (n : Nat) (t0 : Md) (w1 : Int64) (z3 : Int32) (z4 : Int32) (z5 : Int32), t0.2.2.2 2 = c0 → xf (fun P : O → Prop => wp_X7_findsTurning_L33 (fun v0 => G_post v0 P) (fun v0 v1 v2 v3 v4 => G_e91 v0 v1 v2 v3 v4 P) n t0 w1 z3 z4 z5) I := by
  intro n
  induction n with
  | zero => exact fun _ _ _ _ _ _ => xf_F
  | succ n33 ih =>
    intro t0 w1 z3 z4 z5 i_t0
    unfold wp_X7_findsTurning_L33
    exact (xf_b1 (F := fun k => wp_X7_cells k t0) (xf_dt (dt_X7_cells t0)) (fun r_4 _ => (xf_p (h_e91 t0 w1 z3 z4 z5 i_t0) (xf_b1 (F := fun k => wp_X7_isIn k w1 z5) (xf_dt (dt_X7_isIn w1 z5)) (fun r_7 _ => (xf_n (ih t0 w1 z3 z4 (z5 + 1) i_t0) (xf_b1 (F := fun k => wp_X7_leftOf k t0 z5) (xf_dt (dt_X7_leftOf t0 z5)) (fun r_10 _ => (xf_p (ih t0 w1 z3 z4 (z5 + 1) i_t0) (xf_p (ih t0 w1 z3 z5 (z5 + 1) i_t0) (xf_b1 (F := fun k => wp_X7_leftOf k t0 z5) (xf_dt (dt_X7_leftOf t0 z5)) (fun r_14 _ => (xf_b1 (F := fun k => wp_X7_leftOf k t0 z4) (xf_dt (dt_X7_leftOf t0 z4)) (fun r_16 _ => (xf_p (ih t0 w1 z3 z4 (z5 + 1) i_t0) (ih t0 w1 z3 z5 (z5 + 1) i_t0))))))))))))))))
set_option maxHeartbeats 4000000 in
theorem fl_X7_findsTurning_L19  {O : Type} {I : O → Prop} {c0 : Nat → Int32}  {G_post : Md → (O → Prop) → Prop} {G_e174 : Md → Int64 → Int32 → (O → Prop) → Prop} (h_post : ∀ (v0 : Md), v0.2.2.2 2 = c0 → xf (G_post v0) I) (h_e174 : ∀ (v0 : Md) (v1 : Int64) (v2 : Int32), v0.2.2.2 2 = c0 → xf (G_e174 v0 v1 v2) I) : ∀ (n : Nat) (t0 : Md) (w1 : Int64) (z3 : Int32), t0.2.2.2 2 = c0 → xf (fun P : O → Prop => wp_X7_findsTurning_L19 (fun v0 => G_post v0 P) (fun v0 v1 v2 => G_e174 v0 v1 v2 P) n t0 w1 z3) I := by
  intro n
  induction n with
  | zero => exact fun _ _ _ _ => xf_F
  | succ n19 ih =>
    intro t0 w1 z3 i_t0
    unfold wp_X7_findsTurning_L19
    exact (xf_b1 (F := fun k => wp_X7_cells k t0) (xf_dt (dt_X7_cells t0)) (fun r_1 _ => (xf_p (h_e174 t0 w1 z3 i_t0) (xf_x (fun n33 => (fl_X7_findsTurning_L33  (fun v0 i_v0 => (h_post v0 i_v0)) (fun t0 w1 z3 z4 z5 i_t0 => (xf_n (xf_b1 (F := fun k => wp_X7_current k t0 z4) (xf_dt (dt_X7_current t0 z4)) (fun r_20 _ => (xf_p (xf_b1 (F := fun k => wp_X7_current k ((va_up t0.1 1 ((t0.1 1) + 1)), (t0.2.1 ||| ((1 : Int64) <<< ((Int32.toInt64 z4) &&& 63))), t0.2.2.1, t0.2.2.2) z4) (xf_dt (dt_X7_current ((va_up t0.1 1 ((t0.1 1) + 1)), (t0.2.1 ||| ((1 : Int64) <<< ((Int32.toInt64 z4) &&& 63))), t0.2.2.1, t0.2.2.2) z4)) (fun r_23 _ => (ih ((va_up (va_up t0.1 1 ((t0.1 1) + 1)) 2 ((t0.1 2) + r_23)), (t0.2.1 ||| ((1 : Int64) <<< ((Int32.toInt64 z4) &&& 63))), t0.2.2.1, t0.2.2.2) (w1 ||| ((1 : Int64) <<< ((Int32.toInt64 z4) &&& 63))) (z3 + 1) i_t0))) (ih t0 (w1 ||| ((1 : Int64) <<< ((Int32.toInt64 z4) &&& 63))) (z3 + 1) i_t0)))) (h_post t0 i_t0))) n33 t0 w1 z3 (-1) 0 i_t0))))))
set_option maxHeartbeats 4000000 in
theorem fx_X7_findsTurning (s0 : Md) : xf (fun P : Md → Prop => wp_X7_findsTurning (fun a0 => P a0) s0) (fun o => o.2.2.2 2 = s0.2.2.2 2) := by
  unfold wp_X7_findsTurning
  exact (xf_x (fun n19 => (fl_X7_findsTurning_L19  (fun v0 i_v0 => (xf_r i_v0)) (fun t0 w1 z3 i_t0 => (xf_r i_t0)) n19 ((va_up (va_up s0.1 1 0) 2 0), 0, s0.2.2.1, s0.2.2.2) 0 0 rfl)))
set_option maxHeartbeats 4000000 in
theorem fl_X7_ticks_L6  {O : Type} {I : O → Prop} {c0 : Nat → Int32}  {G_post : Int32 → Md → (O → Prop) → Prop} {G_e36 : Md → Int32 → (O → Prop) → Prop} (h_post : ∀ (v0 : Int32) (v1 : Md), v1.2.2.2 2 = c0 → xf (G_post v0 v1) I) (h_e36 : ∀ (v0 : Md) (v1 : Int32), v0.2.2.2 2 = c0 → xf (G_e36 v0 v1) I) : ∀ (n : Nat) (t0 : Md) (z1 : Int32), t0.2.2.2 2 = c0 → xf (fun P : O → Prop => wp_X7_ticks_L6 (fun v0 v1 => G_post v0 v1 P) (fun v0 v1 => G_e36 v0 v1 P) n t0 z1) I := by
  intro n
  induction n with
  | zero => exact fun _ _ _ => xf_F
  | succ n6 ih =>
    intro t0 z1 i_t0
    unfold wp_X7_ticks_L6
    exact (xf_b1 (F := fun k => wp_X7_cells k t0) (xf_dt (dt_X7_cells t0)) (fun r_3 _ => (xf_p (h_e36 t0 z1 i_t0) (xf_b1 (F := fun k => wp_X7_isIn k t0.2.1 z1) (xf_dt (dt_X7_isIn t0.2.1 z1)) (fun r_6 _ => (xf_p (ih t0 (z1 + 1) i_t0) (xf_b1 (F := fun k => wp_X7_steps k t0 z1) (fx_X7_steps t0 z1) (fun u_10 j_u_10 => have i_u_10 := j_u_10.trans i_t0; (ih u_10 (z1 + 1) i_u_10)))))))))
set_option maxHeartbeats 4000000 in
theorem fx_X7_ticks (s0 : Md) : xf (fun P : (Int32 × Md) → Prop => wp_X7_ticks (fun a0 a1 => P (a0, a1)) s0) (fun o => o.2.2.2.2 2 = s0.2.2.2 2) := by
  unfold wp_X7_ticks
  exact (xf_b1 (F := fun k => wp_X7_findsTurning k s0) (fx_X7_findsTurning s0) (fun u_2 j_u_2 => have i_u_2 := j_u_2.trans rfl; (xf_x (fun n6 => (fl_X7_ticks_L6  (fun v0 v1 i_v1 => (xf_r i_v1)) (fun t0 z1 i_t0 => (xf_n (xf_r i_t0) (xf_r i_t0))) n6 u_2 0 i_u_2)))))
set_option maxHeartbeats 4000000 in
theorem fx_X7_wantsFlap (s0 : Md) (x1 : Int32) (x2 : Int32) (x3 : Int32) : xf (fun P : Md → Prop => wp_X7_wantsFlap (fun a0 => P a0) s0 x1 x2 x3) (fun o => o.2.2.2 2 = s0.2.2.2 2) := by
  unfold wp_X7_wantsFlap
  exact (xf_b1 (F := fun k => wp_X7_sets k s0 x1 (3 : Int32) (Int32.toInt64 x2)) (fx_X7_sets s0 x1 (3 : Int32) (Int32.toInt64 x2)) (fun u_2 j_u_2 => have i_u_2 := j_u_2.trans rfl; (xf_p (xf_r i_u_2) (xf_b1 (F := fun k => wp_X7_of k u_2 x1 (2 : Int32)) (xf_dt (dt_X7_of u_2 x1 (2 : Int32))) (fun r_4 _ => (xf_p (xf_r i_u_2) (xf_b1 (F := fun k => wp_X7_of k u_2 x1 (0 : Int32)) (xf_dt (dt_X7_of u_2 x1 (0 : Int32))) (fun r_7 _ => (xf_b1 (F := fun k => wp_X7_of k u_2 x1 (2 : Int32)) (xf_dt (dt_X7_of u_2 x1 (2 : Int32))) (fun r_9 _ => (xf_c (xf_c (xf_r i_u_2)))))))))))))
set_option maxHeartbeats 4000000 in
theorem fl_X7_wantsSigns_L6  {O : Type} {I : O → Prop} {c0 : Nat → Int32}  {G_post : Int32 → Md → (O → Prop) → Prop} {G_e81 : Md → Int32 → Int32 → Int32 → Int32 → Int32 → Int32 → (O → Prop) → Prop} (h_post : ∀ (v0 : Int32) (v1 : Md), v1.2.2.2 2 = c0 → xf (G_post v0 v1) I) (h_e81 : ∀ (v0 : Md) (v1 : Int32) (v2 : Int32) (v3 : Int32) (v4 : Int32) (v5 : Int32) (v6 : Int32), v0.2.2.2 2 = c0 → xf (G_e81 v0 v1 v2 v3 v4 v5 v6) I) : ∀ (n : Nat) (t0 : Md) (z1 : Int32) (z2 : Int32) (z3 : Int32) (z4 : Int32) (z5 : Int32) (z6 : Int32), t0.2.2.2 2 = c0 → xf (fun P : O → Prop => wp_X7_wantsSigns_L6 (fun v0 v1 => G_post v0 v1 P) (fun v0 v1 v2 v3 v4 v5 v6 => G_e81 v0 v1 v2 v3 v4 v5 v6 P) n t0 z1 z2 z3 z4 z5 z6) I := by
  intro n
  induction n with
  | zero => exact fun _ _ _ _ _ _ _ _ => xf_F
  | succ n6 ih =>
    intro t0 z1 z2 z3 z4 z5 z6 i_t0
    unfold wp_X7_wantsSigns_L6
    exact (xf_b1 (F := fun k => wp_X7_wide k t0) (xf_dt (dt_X7_wide t0)) (fun r_1 _ => (xf_p (h_e81 t0 z1 z2 z3 z4 z5 z6 i_t0) (xf_b1 (F := fun k => wp_X7_wide k t0) (xf_dt (dt_X7_wide t0)) (fun r_4 _ => (xf_p (xf_b1 (F := fun k => wp_X7_wantsFlap k t0 ((r_4 * z1) + z6) (0 : Int32) z4) (fx_X7_wantsFlap t0 ((r_4 * z1) + z6) (0 : Int32) z4) (fun u_8 j_u_8 => have i_u_8 := j_u_8.trans i_t0; (ih u_8 z1 z2 z3 z4 z5 (z6 + 1) i_u_8))) (xf_c (xf_b1 (F := fun k => wp_X7_flapFor k t0 ((r_4 * z1) + z6) ((t0.2.2.2 2) (Int32.toNatClampNeg (z2 + z6)))) (xf_dt (dt_X7_flapFor t0 ((r_4 * z1) + z6) ((t0.2.2.2 2) (Int32.toNatClampNeg (z2 + z6))))) (fun r_10 _ => (xf_n (xf_b1 (F := fun k => wp_X7_wantsFlap k t0 ((r_4 * z1) + z6) r_10 z4) (fx_X7_wantsFlap t0 ((r_4 * z1) + z6) r_10 z4) (fun u_14 j_u_14 => have i_u_14 := j_u_14.trans i_t0; (ih u_14 z1 z2 z3 z4 z5 (z6 + 1) i_u_14))) (ih t0 z1 z2 z3 z4 (z5 + 1) (z6 + 1) i_t0)))))))))))
set_option maxHeartbeats 4000000 in
theorem fx_X7_wantsSigns (s0 : Md) (x1 : Int32) (x2 : Int32) (x3 : Int32) (x4 : Int32) : xf (fun P : (Int32 × Md) → Prop => wp_X7_wantsSigns (fun a0 a1 => P (a0, a1)) s0 x1 x2 x3 x4) (fun o => o.2.2.2.2 2 = s0.2.2.2 2) := by
  unfold wp_X7_wantsSigns
  exact (xf_x (fun n6 => (fl_X7_wantsSigns_L6  (fun v0 v1 i_v1 => (xf_r i_v1)) (fun t0 z1 z2 z3 z4 z5 z6 i_t0 => (xf_r i_t0)) n6 s0 x1 x2 x3 x4 0 0 rfl)))
set_option maxHeartbeats 4000000 in
theorem fl_X7_scrolls_L5  {O : Type} {I : O → Prop} {c0 : Nat → Int32}  {G_post : Int32 → Md → (O → Prop) → Prop} {G_e45 : Md → Int32 → Int32 → Int32 → Int32 → (O → Prop) → Prop} (h_post : ∀ (v0 : Int32) (v1 : Md), v1.2.2.2 2 = c0 → xf (G_post v0 v1) I) (h_e45 : ∀ (v0 : Md) (v1 : Int32) (v2 : Int32) (v3 : Int32) (v4 : Int32), v0.2.2.2 2 = c0 → xf (G_e45 v0 v1 v2 v3 v4) I) : ∀ (n : Nat) (t0 : Md) (z1 : Int32) (z2 : Int32) (z3 : Int32) (z4 : Int32), t0.2.2.2 2 = c0 → xf (fun P : O → Prop => wp_X7_scrolls_L5 (fun v0 v1 => G_post v0 v1 P) (fun v0 v1 v2 v3 v4 => G_e45 v0 v1 v2 v3 v4 P) n t0 z1 z2 z3 z4) I := by
  intro n
  induction n with
  | zero => exact fun _ _ _ _ _ _ => xf_F
  | succ n5 ih =>
    intro t0 z1 z2 z3 z4 i_t0
    unfold wp_X7_scrolls_L5
    exact (xf_b1 (F := fun k => wp_X7_cells k t0) (xf_dt (dt_X7_cells t0)) (fun r_1 _ => (xf_p (h_e45 t0 z1 z2 z3 z4 i_t0) (xf_b1 (F := fun k => wp_X7_of k t0 z4 (0 : Int32)) (xf_dt (dt_X7_of t0 z4 (0 : Int32))) (fun r_4 _ => (xf_b1 (F := fun k => wp_X7_of k t0 z4 (3 : Int32)) (xf_dt (dt_X7_of t0 z4 (3 : Int32))) (fun r_6 _ => (xf_b1 (F := fun k => wp_X7_signOf k t0 r_4 r_6) (xf_dt (dt_X7_signOf t0 r_4 r_6)) (fun r_8 _ => (xf_c (ih (t0.1, t0.2.1, t0.2.2.1, (va_up t0.2.2.2 1 (upd (t0.2.2.2 1) (Int32.toNatClampNeg z4) r_8))) z1 z2 z3 (z4 + 1) i_t0)))))))))))
set_option maxHeartbeats 4000000 in
theorem fl_X7_scrolls_L48  {O : Type} {I : O → Prop} {c0 : Nat → Int32}  {G_post : Int32 → Md → (O → Prop) → Prop} {G_e109 : Md → Int32 → Int32 → Int32 → Int32 → (O → Prop) → Prop} (h_post : ∀ (v0 : Int32) (v1 : Md), v1.2.2.2 2 = c0 → xf (G_post v0 v1) I) (h_e109 : ∀ (v0 : Md) (v1 : Int32) (v2 : Int32) (v3 : Int32) (v4 : Int32), v0.2.2.2 2 = c0 → xf (G_e109 v0 v1 v2 v3 v4) I) : ∀ (n : Nat) (t0 : Md) (z1 : Int32) (z2 : Int32) (z3 : Int32) (z4 : Int32), t0.2.2.2 2 = c0 → xf (fun P : O → Prop => wp_X7_scrolls_L48 (fun v0 v1 => G_post v0 v1 P) (fun v0 v1 v2 v3 v4 => G_e109 v0 v1 v2 v3 v4 P) n t0 z1 z2 z3 z4) I := by
  intro n
  induction n with
  | zero => exact fun _ _ _ _ _ _ => xf_F
  | succ n48 ih =>
    intro t0 z1 z2 z3 z4 i_t0
    unfold wp_X7_scrolls_L48
    exact (xf_b1 (F := fun k => wp_X7_wide k t0) (xf_dt (dt_X7_wide t0)) (fun r_11 _ => (xf_b1 (F := fun k => wp_X7_cells k t0) (xf_dt (dt_X7_cells t0)) (fun r_13 _ => (xf_p (h_e109 t0 z1 z2 z3 z4 i_t0) (xf_b1 (F := fun k => wp_X7_wide k t0) (xf_dt (dt_X7_wide t0)) (fun r_16 _ => (xf_c (xf_b1 (F := fun k => wp_X7_flapFor k t0 z4 ((t0.2.2.2 1) (Int32.toNatClampNeg (z4 + r_16)))) (xf_dt (dt_X7_flapFor t0 z4 ((t0.2.2.2 1) (Int32.toNatClampNeg (z4 + r_16))))) (fun r_19 _ => (xf_n (xf_b1 (F := fun k => wp_X7_wantsFlap k t0 z4 r_19 (1 : Int32)) (fx_X7_wantsFlap t0 z4 r_19 (1 : Int32)) (fun u_23 j_u_23 => have i_u_23 := j_u_23.trans i_t0; (ih u_23 z1 z2 z3 (z4 + 1) i_u_23))) (ih t0 z1 z2 (z3 + 1) (z4 + 1) i_t0))))))))))))
set_option maxHeartbeats 4000000 in
theorem fx_X7_scrolls (s0 : Md) (x1 : Int32) (x2 : Int32) : xf (fun P : (Int32 × Md) → Prop => wp_X7_scrolls (fun a0 a1 => P (a0, a1)) s0 x1 x2) (fun o => o.2.2.2.2 2 = s0.2.2.2 2) := by
  unfold wp_X7_scrolls
  exact (xf_x (fun n5 => (fl_X7_scrolls_L5  (fun v0 v1 i_v1 => (xf_r i_v1)) (fun t0 z1 z2 z3 z4 i_t0 => (xf_x (fun n48 => (fl_X7_scrolls_L48  (fun v0 v1 i_v1 => (xf_r i_v1)) (fun t0 z1 z2 z3 z4 i_t0 => (xf_b1 (F := fun k => wp_X7_rows k t0) (xf_dt (dt_X7_rows t0)) (fun r_24 _ => (xf_b2 (F := fun k => wp_X7_wantsSigns k t0 (r_24 - 1) z1 z2 (1 : Int32)) (fx_X7_wantsSigns t0 (r_24 - 1) z1 z2 (1 : Int32)) (fun r_26 u_27 j_u_27 => have i_u_27 := j_u_27.trans i_t0; (xf_r i_u_27)))))) n48 t0 z1 z2 z3 0 i_t0)))) n5 s0 x1 x2 0 0 rfl)))
set_option maxHeartbeats 4000000 in
theorem fl_X7_keepsAct_L53  {O : Type} {I : O → Prop} {c0 : Nat → Int32}  {G_post : Md → (O → Prop) → Prop} {G_e87 : Md → Int32 → (O → Prop) → Prop} (h_post : ∀ (v0 : Md), v0.2.2.2 2 = c0 → xf (G_post v0) I) (h_e87 : ∀ (v0 : Md) (v1 : Int32), v0.2.2.2 2 = c0 → xf (G_e87 v0 v1) I) : ∀ (n : Nat) (t0 : Md) (z1 : Int32), t0.2.2.2 2 = c0 → xf (fun P : O → Prop => wp_X7_keepsAct_L53 (fun v0 => G_post v0 P) (fun v0 v1 => G_e87 v0 v1 P) n t0 z1) I := by
  intro n
  induction n with
  | zero => exact fun _ _ _ => xf_F
  | succ n53 ih =>
    intro t0 z1 i_t0
    unfold wp_X7_keepsAct_L53
    exact (xf_p (h_e87 t0 z1 i_t0) (xf_c (xf_c (ih (t0.1, t0.2.1, (va_up t0.2.2.1 1 (vp_updL (t0.2.2.1 1) (Int32.toNatClampNeg ((6896 * (t0.1 0)) + z1)) ((t0.2.2.1 0) (Int32.toNatClampNeg z1)))), t0.2.2.2) (z1 + 1) i_t0))))
set_option maxHeartbeats 4000000 in
theorem fl_X7_keepsAct_L13  {O : Type} {I : O → Prop} {c0 : Nat → Int32}  {G_post : Md → (O → Prop) → Prop} {G_e41 : Md → Int32 → (O → Prop) → Prop} (h_post : ∀ (v0 : Md), v0.2.2.2 2 = c0 → xf (G_post v0) I) (h_e41 : ∀ (v0 : Md) (v1 : Int32), v0.2.2.2 2 = c0 → xf (G_e41 v0 v1) I) : ∀ (n : Nat) (t0 : Md) (z1 : Int32), t0.2.2.2 2 = c0 → xf (fun P : O → Prop => wp_X7_keepsAct_L13 (fun v0 => G_post v0 P) (fun v0 v1 => G_e41 v0 v1 P) n t0 z1) I := by
  intro n
  induction n with
  | zero => exact fun _ _ _ => xf_F
  | succ n13 ih =>
    intro t0 z1 i_t0
    unfold wp_X7_keepsAct_L13
    exact (xf_p (h_e41 t0 z1 i_t0) (xf_c (xf_c (ih (t0.1, t0.2.1, (va_up t0.2.2.1 1 (vp_updL (t0.2.2.1 1) (Int32.toNatClampNeg (z1 - 6896)) ((t0.2.2.1 1) (Int32.toNatClampNeg z1)))), t0.2.2.2) (z1 + 1) i_t0))))
set_option maxHeartbeats 4000000 in
theorem fx_X7_keepsAct (s0 : Md) : xf (fun P : Md → Prop => wp_X7_keepsAct (fun a0 => P a0) s0) (fun o => o.2.2.2 2 = s0.2.2.2 2) := by
  unfold wp_X7_keepsAct
  exact (xf_n (xf_x (fun n53 => (fl_X7_keepsAct_L53  (fun v0 i_v0 => (xf_r i_v0)) (fun t0 z1 i_t0 => (xf_r i_t0)) n53 s0 0 rfl))) (xf_x (fun n13 => (fl_X7_keepsAct_L13  (fun v0 i_v0 => (xf_r i_v0)) (fun t0 z1 i_t0 => (xf_x (fun n53 => (fl_X7_keepsAct_L53  (fun v0 i_v0 => (xf_r i_v0)) (fun t0 z1 i_t0 => (xf_r i_t0)) n53 ((va_up t0.1 0 ((t0.1 0) - 1)), t0.2.1, t0.2.2.1, t0.2.2.2) 0 i_t0)))) n13 s0 6896 rfl))))
set_option maxHeartbeats 4000000 in
theorem fx_X7_row (s0 : Md) (x1 : Int32) : xf (fun P : (Int32 × Md) → Prop => wp_X7_row (fun a0 a1 => P (a0, a1)) s0 x1) (fun o => o.2.2.2.2 2 = s0.2.2.2 2) := by
  unfold wp_X7_row
  exact (xf_b1 (F := fun k => wp_X7_isRow k ((va_up s0.1 5 0), s0.2.1, s0.2.2.1, s0.2.2.2) x1) (xf_dt (dt_X7_isRow ((va_up s0.1 5 0), s0.2.1, s0.2.2.1, s0.2.2.2) x1)) (fun r_1 _ => (xf_n (xf_b1 (F := fun k => wp_X7_isRowText k ((va_up s0.1 5 0), s0.2.1, s0.2.2.1, s0.2.2.2) (s0.1 5)) (xf_dt (dt_X7_isRowText ((va_up s0.1 5 0), s0.2.1, s0.2.2.1, s0.2.2.2) (s0.1 5))) (fun r_4 _ => (xf_n (xf_b1 (F := fun k => wp_X7_keepsAct k ((va_up s0.1 5 0), s0.2.1, s0.2.2.1, s0.2.2.2)) (fx_X7_keepsAct ((va_up s0.1 5 0), s0.2.1, s0.2.2.1, s0.2.2.2)) (fun u_8 j_u_8 => have i_u_8 := j_u_8.trans rfl; (xf_b2 (F := fun k => wp_X7_wantsSigns k u_8 x1 (0 : Int32) (s0.1 5) (1 : Int32)) (fx_X7_wantsSigns u_8 x1 (0 : Int32) (s0.1 5) (1 : Int32)) (fun r_9 u_10 j_u_10 => have i_u_10 := j_u_10.trans i_u_8; (xf_r i_u_10))))) (xf_r rfl)))) (xf_r rfl))))
set_option maxHeartbeats 4000000 in
theorem fx_X7_scroll (s0 : Md) : xf (fun P : (Int32 × Md) → Prop => wp_X7_scroll (fun a0 a1 => P (a0, a1)) s0) (fun o => o.2.2.2.2 2 = s0.2.2.2 2) := by
  unfold wp_X7_scroll
  exact (xf_b1 (F := fun k => wp_X7_isBoard k ((va_up s0.1 5 0), s0.2.1, s0.2.2.1, s0.2.2.2)) (xf_dt (dt_X7_isBoard ((va_up s0.1 5 0), s0.2.1, s0.2.2.1, s0.2.2.2))) (fun r_1 _ => (xf_n (xf_b1 (F := fun k => wp_X7_isRowText k ((va_up s0.1 5 0), s0.2.1, s0.2.2.1, s0.2.2.2) (s0.1 5)) (xf_dt (dt_X7_isRowText ((va_up s0.1 5 0), s0.2.1, s0.2.2.1, s0.2.2.2) (s0.1 5))) (fun r_4 _ => (xf_n (xf_b1 (F := fun k => wp_X7_keepsAct k ((va_up s0.1 5 0), s0.2.1, s0.2.2.1, s0.2.2.2)) (fx_X7_keepsAct ((va_up s0.1 5 0), s0.2.1, s0.2.2.1, s0.2.2.2)) (fun u_8 j_u_8 => have i_u_8 := j_u_8.trans rfl; (xf_b2 (F := fun k => wp_X7_scrolls k u_8 (0 : Int32) (s0.1 5)) (fx_X7_scrolls u_8 (0 : Int32) (s0.1 5)) (fun r_9 u_10 j_u_10 => have i_u_10 := j_u_10.trans i_u_8; (xf_r i_u_10))))) (xf_r rfl)))) (xf_r rfl))))
set_option maxHeartbeats 4000000 in
theorem fl_X7_tick_L29  {O : Type} {I : O → Prop} {c0 : Nat → Int32}  {G_post : Int32 → Md → (O → Prop) → Prop} {G_e47 : Md → Int32 → Int32 → Int32 → (O → Prop) → Prop} (h_post : ∀ (v0 : Int32) (v1 : Md), v1.2.2.2 2 = c0 → xf (G_post v0 v1) I) (h_e47 : ∀ (v0 : Md) (v1 : Int32) (v2 : Int32) (v3 : Int32), v0.2.2.2 2 = c0 → xf (G_e47 v0 v1 v2 v3) I) : ∀ (n : Nat) (t0 : Md) (z1 : Int32) (z2 : Int32) (z3 : Int32), t0.2.2.2 2 = c0 → xf (fun P : O → Prop => wp_X7_tick_L29 (fun v0 v1 => G_post v0 v1 P) (fun v0 v1 v2 v3 => G_e47 v0 v1 v2 v3 P) n t0 z1 z2 z3) I := by
  intro n
  induction n with
  | zero => exact fun _ _ _ _ _ => xf_F
  | succ n29 ih =>
    intro t0 z1 z2 z3 i_t0
    unfold wp_X7_tick_L29
    exact (xf_p (h_e47 t0 z1 z2 z3 i_t0) (xf_b2 (F := fun k => wp_X7_ticks k t0) (fx_X7_ticks t0) (fun r_10 u_11 j_u_11 => have i_u_11 := j_u_11.trans i_t0; (ih u_11 z1 (z2 + r_10) (z3 + 1) i_u_11))))
set_option maxHeartbeats 4000000 in
theorem fx_X7_tick (s0 : Md) (x1 : Int32) : xf (fun P : (Int32 × Md) → Prop => wp_X7_tick (fun a0 a1 => P (a0, a1)) s0 x1) (fun o => o.2.2.2.2 2 = s0.2.2.2 2) := by
  unfold wp_X7_tick
  exact (xf_b1 (F := fun k => wp_X7_isBoard k s0) (xf_dt (dt_X7_isBoard s0)) (fun r_1 _ => (xf_p (xf_r rfl) (xf_b1 (F := fun k => wp_X7_in k (Int32.toInt64 x1) (1 : Int64) (99 : Int64)) (xf_dt (dt_X7_in (Int32.toInt64 x1) (1 : Int64) (99 : Int64))) (fun r_4 _ => (xf_n (xf_b1 (F := fun k => wp_X7_keepsAct k s0) (fx_X7_keepsAct s0) (fun u_8 j_u_8 => have i_u_8 := j_u_8.trans rfl; (xf_x (fun n29 => (fl_X7_tick_L29  (fun v0 v1 i_v1 => (xf_r i_v1)) (fun t0 z1 z2 z3 i_t0 => (xf_r i_t0)) n29 u_8 x1 0 0 i_u_8))))) (xf_r rfl)))))))
set_option maxHeartbeats 4000000 in
theorem fl_X7_settles_L2  {O : Type} {I : O → Prop} {c0 : Nat → Int32}  {G_post : Int32 → Md → (O → Prop) → Prop} {G_e15 : Md → Int32 → (O → Prop) → Prop} (h_post : ∀ (v0 : Int32) (v1 : Md), v1.2.2.2 2 = c0 → xf (G_post v0 v1) I) (h_e15 : ∀ (v0 : Md) (v1 : Int32), v0.2.2.2 2 = c0 → xf (G_e15 v0 v1) I) : ∀ (n : Nat) (t0 : Md) (z1 : Int32), t0.2.2.2 2 = c0 → xf (fun P : O → Prop => wp_X7_settles_L2 (fun v0 v1 => G_post v0 v1 P) (fun v0 v1 => G_e15 v0 v1 P) n t0 z1) I := by
  intro n
  induction n with
  | zero => exact fun _ _ _ => xf_F
  | succ n2 ih =>
    intro t0 z1 i_t0
    unfold wp_X7_settles_L2
    exact (xf_b2 (F := fun k => wp_X7_ticks k t0) (fx_X7_ticks t0) (fun r_1 u_2 j_u_2 => have i_u_2 := j_u_2.trans i_t0; (xf_p (h_e15 u_2 z1 i_u_2) (ih u_2 (z1 + 1) i_u_2))))
set_option maxHeartbeats 4000000 in
theorem fx_X7_settles (s0 : Md) : xf (fun P : (Int32 × Md) → Prop => wp_X7_settles (fun a0 a1 => P (a0, a1)) s0) (fun o => o.2.2.2.2 2 = s0.2.2.2 2) := by
  unfold wp_X7_settles
  exact (xf_x (fun n2 => (fl_X7_settles_L2  (fun v0 v1 i_v1 => (xf_r i_v1)) (fun t0 z1 i_t0 => (xf_r i_t0)) n2 s0 0 rfl)))
set_option maxHeartbeats 4000000 in
theorem fx_X7_settle (s0 : Md) : xf (fun P : (Int32 × Md) → Prop => wp_X7_settle (fun a0 a1 => P (a0, a1)) s0) (fun o => o.2.2.2.2 2 = s0.2.2.2 2) := by
  unfold wp_X7_settle
  exact (xf_b1 (F := fun k => wp_X7_isBoard k s0) (xf_dt (dt_X7_isBoard s0)) (fun r_1 _ => (xf_n (xf_b1 (F := fun k => wp_X7_findsTurning k s0) (fx_X7_findsTurning s0) (fun u_5 j_u_5 => have i_u_5 := j_u_5.trans rfl; (xf_n (xf_b1 (F := fun k => wp_X7_keepsAct k u_5) (fx_X7_keepsAct u_5) (fun u_8 j_u_8 => have i_u_8 := j_u_8.trans i_u_5; (xf_b2 (F := fun k => wp_X7_settles k u_8) (fx_X7_settles u_8) (fun r_9 u_10 j_u_10 => have i_u_10 := j_u_10.trans i_u_8; (xf_r i_u_10))))) (xf_r i_u_5)))) (xf_r rfl))))
set_option maxHeartbeats 4000000 in
theorem fx_X7_lose (s0 : Md) (x1 : Int32) (x2 : Int32) : xf (fun P : (Int32 × Md) → Prop => wp_X7_lose (fun a0 a1 => P (a0, a1)) s0 x1 x2) (fun o => o.2.2.2.2 2 = s0.2.2.2 2) := by
  unfold wp_X7_lose
  exact (xf_b1 (F := fun k => wp_X7_isCell k s0 x1) (xf_dt (dt_X7_isCell s0 x1)) (fun r_1 _ => (xf_p (xf_r rfl) (xf_b1 (F := fun k => wp_X7_in k (Int32.toInt64 x2) (0 : Int64) (9 : Int64)) (xf_dt (dt_X7_in (Int32.toInt64 x2) (0 : Int64) (9 : Int64))) (fun r_4 _ => (xf_n (xf_b1 (F := fun k => wp_X7_of k s0 x1 (4 : Int32)) (xf_dt (dt_X7_of s0 x1 (4 : Int32))) (fun r_7 _ => (xf_n (xf_b1 (F := fun k => wp_X7_keepsAct k s0) (fx_X7_keepsAct s0) (fun u_11 j_u_11 => have i_u_11 := j_u_11.trans rfl; (xf_b1 (F := fun k => wp_X7_sets k u_11 x1 (4 : Int32) (Int32.toInt64 x2)) (fx_X7_sets u_11 x1 (4 : Int32) (Int32.toInt64 x2)) (fun u_13 j_u_13 => have i_u_13 := j_u_13.trans i_u_11; (xf_r i_u_13))))) (xf_r rfl)))) (xf_r rfl)))))))
set_option maxHeartbeats 4000000 in
theorem fx_X7_wears (s0 : Md) (x1 : Int32) (x2 : Int32) : xf (fun P : Md → Prop => wp_X7_wears (fun a0 => P a0) s0 x1 x2) (fun o => o.2.2.2 2 = s0.2.2.2 2) := by
  unfold wp_X7_wears
  exact (xf_b1 (F := fun k => wp_X7_wornOf k s0 x1) (xf_dt (dt_X7_wornOf s0 x1)) (fun r_1 _ => (xf_b1 (F := fun k => wp_X7_sets k s0 x1 (7 : Int32) (r_1 ||| ((1 : Int64) <<< ((Int32.toInt64 x2) &&& 63)))) (fx_X7_sets s0 x1 (7 : Int32) (r_1 ||| ((1 : Int64) <<< ((Int32.toInt64 x2) &&& 63)))) (fun u_4 j_u_4 => have i_u_4 := j_u_4.trans rfl; (xf_b1 (F := fun k => wp_X7_of k u_4 x1 (3 : Int32)) (xf_dt (dt_X7_of u_4 x1 (3 : Int32))) (fun r_5 _ => (xf_n (xf_r i_u_4) (xf_b1 (F := fun k => wp_X7_sets k u_4 x1 (3 : Int32) (0 : Int64)) (fx_X7_sets u_4 x1 (3 : Int32) (0 : Int64)) (fun u_9 j_u_9 => have i_u_9 := j_u_9.trans i_u_4; (xf_r i_u_9))))))))))
set_option maxHeartbeats 4000000 in
theorem fx_X7_wear (s0 : Md) (x1 : Int32) (x2 : Int32) : xf (fun P : (Int32 × Md) → Prop => wp_X7_wear (fun a0 a1 => P (a0, a1)) s0 x1 x2) (fun o => o.2.2.2.2 2 = s0.2.2.2 2) := by
  unfold wp_X7_wear
  exact (xf_b1 (F := fun k => wp_X7_isFlap k s0 x1 x2) (xf_dt (dt_X7_isFlap s0 x1 x2)) (fun r_1 _ => (xf_n (xf_b1 (F := fun k => wp_X7_wornOf k s0 x1) (xf_dt (dt_X7_wornOf s0 x1)) (fun r_4 _ => (xf_b1 (F := fun k => wp_X7_isIn k r_4 x2) (xf_dt (dt_X7_isIn r_4 x2)) (fun r_6 _ => (xf_p (xf_b1 (F := fun k => wp_X7_keepsAct k s0) (fx_X7_keepsAct s0) (fun u_10 j_u_10 => have i_u_10 := j_u_10.trans rfl; (xf_b1 (F := fun k => wp_X7_wears k u_10 x1 x2) (fx_X7_wears u_10 x1 x2) (fun u_12 j_u_12 => have i_u_12 := j_u_12.trans i_u_10; (xf_b1 (F := fun k => wp_X7_wornOf k u_12 x1) (xf_dt (dt_X7_wornOf u_12 x1)) (fun r_13 _ => (xf_b1 (F := fun k => wp_X7_bits k r_13) (xf_dt (dt_X7_bits r_13)) (fun r_15 _ => (xf_r i_u_12))))))))) (xf_r rfl)))))) (xf_r rfl))))
set_option maxHeartbeats 4000000 in
theorem fx_X7_mend (s0 : Md) (x1 : Int32) (x2 : Int32) : xf (fun P : (Int32 × Md) → Prop => wp_X7_mend (fun a0 a1 => P (a0, a1)) s0 x1 x2) (fun o => o.2.2.2.2 2 = s0.2.2.2 2) := by
  unfold wp_X7_mend
  exact (xf_b1 (F := fun k => wp_X7_isFlap k s0 x1 x2) (xf_dt (dt_X7_isFlap s0 x1 x2)) (fun r_1 _ => (xf_n (xf_b1 (F := fun k => wp_X7_wornOf k s0 x1) (xf_dt (dt_X7_wornOf s0 x1)) (fun r_4 _ => (xf_b1 (F := fun k => wp_X7_isIn k r_4 x2) (xf_dt (dt_X7_isIn r_4 x2)) (fun r_6 _ => (xf_n (xf_b1 (F := fun k => wp_X7_keepsAct k s0) (fx_X7_keepsAct s0) (fun u_10 j_u_10 => have i_u_10 := j_u_10.trans rfl; (xf_b1 (F := fun k => wp_X7_wornOf k u_10 x1) (xf_dt (dt_X7_wornOf u_10 x1)) (fun r_11 _ => (xf_b1 (F := fun k => wp_X7_sets k u_10 x1 (7 : Int32) (r_11 &&& (((1 : Int64) <<< ((Int32.toInt64 x2) &&& 63)) ^^^ (-1)))) (fx_X7_sets u_10 x1 (7 : Int32) (r_11 &&& (((1 : Int64) <<< ((Int32.toInt64 x2) &&& 63)) ^^^ (-1)))) (fun u_14 j_u_14 => have i_u_14 := j_u_14.trans i_u_10; (xf_b1 (F := fun k => wp_X7_wornOf k u_14 x1) (xf_dt (dt_X7_wornOf u_14 x1)) (fun r_15 _ => (xf_b1 (F := fun k => wp_X7_bits k r_15) (xf_dt (dt_X7_bits r_15)) (fun r_17 _ => (xf_r i_u_14))))))))))) (xf_r rfl)))))) (xf_r rfl))))
set_option maxHeartbeats 4000000 in
theorem fx_X7_limit (s0 : Md) (x1 : Int32) : xf (fun P : (Int32 × Md) → Prop => wp_X7_limit (fun a0 a1 => P (a0, a1)) s0 x1) (fun o => o.2.2.2.2 2 = s0.2.2.2 2) := by
  unfold wp_X7_limit
  exact (xf_b1 (F := fun k => wp_X7_isBoard k s0) (xf_dt (dt_X7_isBoard s0)) (fun r_1 _ => (xf_p (xf_r rfl) (xf_b1 (F := fun k => wp_X7_in k (Int32.toInt64 x1) (1 : Int64) (99 : Int64)) (xf_dt (dt_X7_in (Int32.toInt64 x1) (1 : Int64) (99 : Int64))) (fun r_4 _ => (xf_n (xf_n (xf_b1 (F := fun k => wp_X7_keepsAct k s0) (fx_X7_keepsAct s0) (fun u_9 j_u_9 => have i_u_9 := j_u_9.trans rfl; (xf_r i_u_9))) (xf_r rfl)) (xf_r rfl)))))))
set_option maxHeartbeats 4000000 in
theorem fl_X7_exchange_L109  {O : Type} {I : O → Prop} {c0 : Nat → Int32}  {G_post : Int32 → Md → (O → Prop) → Prop} {G_e131 : Md → Int32 → Int32 → Int32 → Int32 → Int64 → Int32 → (O → Prop) → Prop} (h_post : ∀ (v0 : Int32) (v1 : Md), v1.2.2.2 2 = c0 → xf (G_post v0 v1) I) (h_e131 : ∀ (v0 : Md) (v1 : Int32) (v2 : Int32) (v3 : Int32) (v4 : Int32) (v5 : Int64) (v6 : Int32), v0.2.2.2 2 = c0 → xf (G_e131 v0 v1 v2 v3 v4 v5 v6) I) : ∀ (n : Nat) (t0 : Md) (z1 : Int32) (z2 : Int32) (z3 : Int32) (z4 : Int32) (w5 : Int64) (z7 : Int32), t0.2.2.2 2 = c0 → xf (fun P : O → Prop => wp_X7_exchange_L109 (fun v0 v1 => G_post v0 v1 P) (fun v0 v1 v2 v3 v4 v5 v6 => G_e131 v0 v1 v2 v3 v4 v5 v6 P) n t0 z1 z2 z3 z4 w5 z7) I := by
  intro n
  induction n with
  | zero => exact fun _ _ _ _ _ _ _ _ => xf_F
  | succ n109 ih =>
    intro t0 z1 z2 z3 z4 w5 z7 i_t0
    unfold wp_X7_exchange_L109
    exact (xf_p (h_e131 t0 z1 z2 z3 z4 w5 z7 i_t0) (xf_c (ih (t0.1, t0.2.1, (va_up t0.2.2.1 0 (vp_updL (t0.2.2.1 0) (Int32.toNatClampNeg z7) 0)), t0.2.2.2) z1 z2 z3 z4 w5 (z7 + 1) i_t0)))
set_option maxHeartbeats 4000000 in
theorem fx_X7_exchange (s0 : Md) (x1 : Int32) (x2 : Int32) (x3 : Int32) : xf (fun P : (Int32 × Md) → Prop => wp_X7_exchange (fun a0 a1 => P (a0, a1)) s0 x1 x2 x3) (fun o => o.2.2.2.2 2 = s0.2.2.2 2) := by
  unfold wp_X7_exchange
  exact (xf_b1 (F := fun k => wp_X7_isDrum k s0 x1) (xf_dt (dt_X7_isDrum s0 x1)) (fun r_1 _ => (xf_p (xf_r rfl) (xf_b1 (F := fun k => wp_X7_flapsOf k s0 x1) (xf_dt (dt_X7_flapsOf s0 x1)) (fun r_4 _ => (xf_b1 (F := fun k => wp_X7_in k (Int32.toInt64 x2) (1 : Int64) (Int32.toInt64 (r_4 - 1))) (xf_dt (dt_X7_in (Int32.toInt64 x2) (1 : Int64) (Int32.toInt64 (r_4 - 1)))) (fun r_6 _ => (xf_p (xf_r rfl) (xf_b1 (F := fun k => wp_X7_flapsOf k s0 x1) (xf_dt (dt_X7_flapsOf s0 x1)) (fun r_9 _ => (xf_b1 (F := fun k => wp_X7_in k (Int32.toInt64 x3) (1 : Int64) (Int32.toInt64 (r_9 - 1))) (xf_dt (dt_X7_in (Int32.toInt64 x3) (1 : Int64) (Int32.toInt64 (r_9 - 1)))) (fun r_11 _ => (xf_p (xf_r rfl) (xf_n (xf_b1 (F := fun k => wp_X7_keepsAct k s0) (fx_X7_keepsAct s0) (fun u_16 j_u_16 => have i_u_16 := j_u_16.trans rfl; (xf_c (xf_c (xf_c (xf_c (xf_x (fun n109 => (fl_X7_exchange_L109  (fun v0 v1 i_v1 => (xf_r i_v1)) (fun t0 z1 z2 z3 z4 w5 z7 i_t0 => (xf_r i_t0)) n109 (u_16.1, u_16.2.1, (va_up u_16.2.2.1 0 (vp_updL (vp_updL (u_16.2.2.1 0) (Int32.toNatClampNeg (((8 + (42 * x1)) + 2) + x2)) ((u_16.2.2.1 0) (Int32.toNatClampNeg (((8 + (42 * x1)) + 2) + x3)))) (Int32.toNatClampNeg (((8 + (42 * x1)) + 2) + x3)) ((u_16.2.2.1 0) (Int32.toNatClampNeg (((8 + (42 * x1)) + 2) + x2))))), u_16.2.2.2) x1 x2 x3 ((8 + (42 * x1)) + 2) ((u_16.2.2.1 0) (Int32.toNatClampNeg (((8 + (42 * x1)) + 2) + x2))) 496 i_u_16))))))))) (xf_r rfl)))))))))))))))
set_option maxHeartbeats 4000000 in
theorem fl_X7_undo_L21  {O : Type} {I : O → Prop} {c0 : Nat → Int32}  {G_post : Int32 → Md → (O → Prop) → Prop} {G_e55 : Md → Int32 → (O → Prop) → Prop} (h_post : ∀ (v0 : Int32) (v1 : Md), v1.2.2.2 2 = c0 → xf (G_post v0 v1) I) (h_e55 : ∀ (v0 : Md) (v1 : Int32), v0.2.2.2 2 = c0 → xf (G_e55 v0 v1) I) : ∀ (n : Nat) (t0 : Md) (z1 : Int32), t0.2.2.2 2 = c0 → xf (fun P : O → Prop => wp_X7_undo_L21 (fun v0 v1 => G_post v0 v1 P) (fun v0 v1 => G_e55 v0 v1 P) n t0 z1) I := by
  intro n
  induction n with
  | zero => exact fun _ _ _ => xf_F
  | succ n21 ih =>
    intro t0 z1 i_t0
    unfold wp_X7_undo_L21
    exact (xf_p (h_e55 t0 z1 i_t0) (xf_c (xf_c (ih (t0.1, t0.2.1, (va_up t0.2.2.1 0 (vp_updL (t0.2.2.1 0) (Int32.toNatClampNeg z1) ((t0.2.2.1 1) (Int32.toNatClampNeg ((6896 * (t0.1 0)) + z1))))), t0.2.2.2) (z1 + 1) i_t0))))
set_option maxHeartbeats 4000000 in
theorem fx_X7_undo (s0 : Md) : xf (fun P : (Int32 × Md) → Prop => wp_X7_undo (fun a0 a1 => P (a0, a1)) s0) (fun o => o.2.2.2.2 2 = s0.2.2.2 2) := by
  unfold wp_X7_undo
  exact (xf_n (xf_x (fun n21 => (fl_X7_undo_L21  (fun v0 v1 i_v1 => (xf_r i_v1)) (fun t0 z1 i_t0 => (xf_r i_t0)) n21 ((va_up s0.1 0 ((s0.1 0) - 1)), s0.2.1, s0.2.2.1, s0.2.2.2) 0 rfl))) (xf_r rfl))
set_option maxHeartbeats 4000000 in
theorem fl_X7_keep_L14  {O : Type} {I : O → Prop} {c0 : Nat → Int32}  {G_post : Int32 → Md → (O → Prop) → Prop} {G_e45 : Md → Int32 → Int32 → (O → Prop) → Prop} (h_post : ∀ (v0 : Int32) (v1 : Md), v1.2.2.2 2 = c0 → xf (G_post v0 v1) I) (h_e45 : ∀ (v0 : Md) (v1 : Int32) (v2 : Int32), v0.2.2.2 2 = c0 → xf (G_e45 v0 v1 v2) I) : ∀ (n : Nat) (t0 : Md) (z1 : Int32) (z2 : Int32), t0.2.2.2 2 = c0 → xf (fun P : O → Prop => wp_X7_keep_L14 (fun v0 v1 => G_post v0 v1 P) (fun v0 v1 v2 => G_e45 v0 v1 v2 P) n t0 z1 z2) I := by
  intro n
  induction n with
  | zero => exact fun _ _ _ _ => xf_F
  | succ n14 ih =>
    intro t0 z1 z2 i_t0
    unfold wp_X7_keep_L14
    exact (xf_p (h_e45 t0 z1 z2 i_t0) (xf_c (xf_c (ih (t0.1, t0.2.1, (va_up t0.2.2.1 2 (vp_updL (t0.2.2.1 2) (Int32.toNatClampNeg ((6896 * z1) + z2)) ((t0.2.2.1 0) (Int32.toNatClampNeg z2)))), t0.2.2.2) z1 (z2 + 1) i_t0))))
set_option maxHeartbeats 4000000 in
theorem fx_X7_keep (s0 : Md) (x1 : Int32) : xf (fun P : (Int32 × Md) → Prop => wp_X7_keep (fun a0 a1 => P (a0, a1)) s0 x1) (fun o => o.2.2.2.2 2 = s0.2.2.2 2) := by
  unfold wp_X7_keep
  exact (xf_b1 (F := fun k => wp_X7_in k (Int32.toInt64 x1) (0 : Int64) (1 : Int64)) (xf_dt (dt_X7_in (Int32.toInt64 x1) (0 : Int64) (1 : Int64))) (fun r_1 _ => (xf_n (xf_x (fun n14 => (fl_X7_keep_L14  (fun v0 v1 i_v1 => (xf_r i_v1)) (fun t0 z1 z2 i_t0 => (xf_c (xf_b1 (F := fun k => wp_X7_cells k (t0.1, t0.2.1, t0.2.2.1, (va_up t0.2.2.2 0 (upd (t0.2.2.2 0) (Int32.toNatClampNeg z1) (vp_nar .boolean 1))))) (xf_dt (dt_X7_cells (t0.1, t0.2.1, t0.2.2.1, (va_up t0.2.2.2 0 (upd (t0.2.2.2 0) (Int32.toNatClampNeg z1) (vp_nar .boolean 1)))))) (fun r_8 _ => (xf_r i_t0))))) n14 s0 x1 0 rfl))) (xf_r rfl))))
set_option maxHeartbeats 4000000 in
theorem fl_X7_back_L26  {O : Type} {I : O → Prop} {c0 : Nat → Int32}  {G_post : Int32 → Md → (O → Prop) → Prop} {G_e57 : Md → Int32 → Int32 → (O → Prop) → Prop} (h_post : ∀ (v0 : Int32) (v1 : Md), v1.2.2.2 2 = c0 → xf (G_post v0 v1) I) (h_e57 : ∀ (v0 : Md) (v1 : Int32) (v2 : Int32), v0.2.2.2 2 = c0 → xf (G_e57 v0 v1 v2) I) : ∀ (n : Nat) (t0 : Md) (z1 : Int32) (z2 : Int32), t0.2.2.2 2 = c0 → xf (fun P : O → Prop => wp_X7_back_L26 (fun v0 v1 => G_post v0 v1 P) (fun v0 v1 v2 => G_e57 v0 v1 v2 P) n t0 z1 z2) I := by
  intro n
  induction n with
  | zero => exact fun _ _ _ _ => xf_F
  | succ n26 ih =>
    intro t0 z1 z2 i_t0
    unfold wp_X7_back_L26
    exact (xf_p (h_e57 t0 z1 z2 i_t0) (xf_c (xf_c (ih (t0.1, t0.2.1, (va_up t0.2.2.1 0 (vp_updL (t0.2.2.1 0) (Int32.toNatClampNeg z2) ((t0.2.2.1 2) (Int32.toNatClampNeg ((6896 * z1) + z2))))), t0.2.2.2) z1 (z2 + 1) i_t0))))
set_option maxHeartbeats 4000000 in
theorem fx_X7_back (s0 : Md) (x1 : Int32) : xf (fun P : (Int32 × Md) → Prop => wp_X7_back (fun a0 a1 => P (a0, a1)) s0 x1) (fun o => o.2.2.2.2 2 = s0.2.2.2 2) := by
  unfold wp_X7_back
  exact (xf_b1 (F := fun k => wp_X7_in k (Int32.toInt64 x1) (0 : Int64) (1 : Int64)) (xf_dt (dt_X7_in (Int32.toInt64 x1) (0 : Int64) (1 : Int64))) (fun r_1 _ => (xf_n (xf_c (xf_n (xf_x (fun n26 => (fl_X7_back_L26  (fun v0 v1 i_v1 => (xf_r i_v1)) (fun t0 z1 z2 i_t0 => (xf_b1 (F := fun k => wp_X7_cells k ((va_up t0.1 0 0), t0.2.1, t0.2.2.1, t0.2.2.2)) (xf_dt (dt_X7_cells ((va_up t0.1 0 0), t0.2.1, t0.2.2.1, t0.2.2.2))) (fun r_9 _ => (xf_r i_t0)))) n26 s0 x1 0 rfl))) (xf_r rfl))) (xf_r rfl))))
set_option maxHeartbeats 4000000 in
theorem fl_X7_which_L32  {O : Type} {I : O → Prop} {c0 : Nat → Int32}  {G_post : Int64 → Md → (O → Prop) → Prop} {G_e64 : Md → Int32 → Int64 → Int32 → (O → Prop) → Prop} (h_post : ∀ (v0 : Int64) (v1 : Md), v1.2.2.2 2 = c0 → xf (G_post v0 v1) I) (h_e64 : ∀ (v0 : Md) (v1 : Int32) (v2 : Int64) (v3 : Int32), v0.2.2.2 2 = c0 → xf (G_e64 v0 v1 v2 v3) I) : ∀ (n : Nat) (t0 : Md) (z1 : Int32) (w2 : Int64) (z4 : Int32), t0.2.2.2 2 = c0 → xf (fun P : O → Prop => wp_X7_which_L32 (fun v0 v1 => G_post v0 v1 P) (fun v0 v1 v2 v3 => G_e64 v0 v1 v2 v3 P) n t0 z1 w2 z4) I := by
  intro n
  induction n with
  | zero => exact fun _ _ _ _ _ => xf_F
  | succ n32 ih =>
    intro t0 z1 w2 z4 i_t0
    unfold wp_X7_which_L32
    exact (xf_b1 (F := fun k => wp_X7_cells k t0) (xf_dt (dt_X7_cells t0)) (fun r_9 _ => (xf_p (h_e64 t0 z1 w2 z4 i_t0) (xf_b1 (F := fun k => wp_X7_isSuch k t0 z4 z1) (xf_dt (dt_X7_isSuch t0 z4 z1)) (fun r_12 _ => (xf_p (ih t0 z1 w2 (z4 + 1) i_t0) (ih t0 z1 (w2 ||| ((1 : Int64) <<< ((Int32.toInt64 z4) &&& 63))) (z4 + 1) i_t0)))))))
set_option maxHeartbeats 4000000 in
theorem fx_X7_which (s0 : Md) (x1 : Int32) : xf (fun P : (Int64 × Md) → Prop => wp_X7_which (fun a0 a1 => P (a0, a1)) s0 x1) (fun o => o.2.2.2.2 2 = s0.2.2.2 2) := by
  unfold wp_X7_which
  exact (xf_b1 (F := fun k => wp_X7_isBoard k s0) (xf_dt (dt_X7_isBoard s0)) (fun r_1 _ => (xf_p (xf_r rfl) (xf_b1 (F := fun k => wp_X7_in k (Int32.toInt64 x1) (0 : Int64) (4 : Int64)) (xf_dt (dt_X7_in (Int32.toInt64 x1) (0 : Int64) (4 : Int64))) (fun r_4 _ => (xf_n (xf_b1 (F := fun k => wp_X7_findsTurning k s0) (fx_X7_findsTurning s0) (fun u_8 j_u_8 => have i_u_8 := j_u_8.trans rfl; (xf_x (fun n32 => (fl_X7_which_L32  (fun v0 v1 i_v1 => (xf_r i_v1)) (fun t0 z1 w2 z4 i_t0 => (xf_r i_t0)) n32 u_8 x1 0 0 i_u_8))))) (xf_r rfl)))))))
set_option maxHeartbeats 4000000 in
theorem fl_X7_putsAside_L2  {O : Type} {I : O → Prop} {c0 : Nat → Int32}  {G_post : Md → (O → Prop) → Prop} {G_e27 : Md → Int32 → (O → Prop) → Prop} (h_post : ∀ (v0 : Md), v0.2.2.2 2 = c0 → xf (G_post v0) I) (h_e27 : ∀ (v0 : Md) (v1 : Int32), v0.2.2.2 2 = c0 → xf (G_e27 v0 v1) I) : ∀ (n : Nat) (t0 : Md) (z1 : Int32), t0.2.2.2 2 = c0 → xf (fun P : O → Prop => wp_X7_putsAside_L2 (fun v0 => G_post v0 P) (fun v0 v1 => G_e27 v0 v1 P) n t0 z1) I := by
  intro n
  induction n with
  | zero => exact fun _ _ _ => xf_F
  | succ n2 ih =>
    intro t0 z1 i_t0
    unfold wp_X7_putsAside_L2
    exact (xf_p (h_e27 t0 z1 i_t0) (xf_c (xf_c (ih (t0.1, t0.2.1, (va_up t0.2.2.1 3 (vp_updL (t0.2.2.1 3) (Int32.toNatClampNeg z1) ((t0.2.2.1 0) (Int32.toNatClampNeg z1)))), t0.2.2.2) (z1 + 1) i_t0))))
set_option maxHeartbeats 4000000 in
theorem fx_X7_putsAside (s0 : Md) : xf (fun P : Md → Prop => wp_X7_putsAside (fun a0 => P a0) s0) (fun o => o.2.2.2 2 = s0.2.2.2 2) := by
  unfold wp_X7_putsAside
  exact (xf_x (fun n2 => (fl_X7_putsAside_L2  (fun v0 i_v0 => (xf_r i_v0)) (fun t0 z1 i_t0 => (xf_r i_t0)) n2 s0 0 rfl)))
set_option maxHeartbeats 4000000 in
theorem fl_X7_takesBack_L2  {O : Type} {I : O → Prop} {c0 : Nat → Int32}  {G_post : Md → (O → Prop) → Prop} {G_e27 : Md → Int32 → (O → Prop) → Prop} (h_post : ∀ (v0 : Md), v0.2.2.2 2 = c0 → xf (G_post v0) I) (h_e27 : ∀ (v0 : Md) (v1 : Int32), v0.2.2.2 2 = c0 → xf (G_e27 v0 v1) I) : ∀ (n : Nat) (t0 : Md) (z1 : Int32), t0.2.2.2 2 = c0 → xf (fun P : O → Prop => wp_X7_takesBack_L2 (fun v0 => G_post v0 P) (fun v0 v1 => G_e27 v0 v1 P) n t0 z1) I := by
  intro n
  induction n with
  | zero => exact fun _ _ _ => xf_F
  | succ n2 ih =>
    intro t0 z1 i_t0
    unfold wp_X7_takesBack_L2
    exact (xf_p (h_e27 t0 z1 i_t0) (xf_c (xf_c (ih (t0.1, t0.2.1, (va_up t0.2.2.1 0 (vp_updL (t0.2.2.1 0) (Int32.toNatClampNeg z1) ((t0.2.2.1 3) (Int32.toNatClampNeg z1)))), t0.2.2.2) (z1 + 1) i_t0))))
set_option maxHeartbeats 4000000 in
theorem fx_X7_takesBack (s0 : Md) : xf (fun P : Md → Prop => wp_X7_takesBack (fun a0 => P a0) s0) (fun o => o.2.2.2 2 = s0.2.2.2 2) := by
  unfold wp_X7_takesBack
  exact (xf_x (fun n2 => (fl_X7_takesBack_L2  (fun v0 i_v0 => (xf_r i_v0)) (fun t0 z1 i_t0 => (xf_r i_t0)) n2 s0 0 rfl)))
set_option maxHeartbeats 4000000 in
theorem fl_X7_when_L32  {O : Type} {I : O → Prop} {c0 : Nat → Int32}  {G_post : Int32 → Md → (O → Prop) → Prop} {G_e72 : Md → Int32 → Int32 → Int32 → Int32 → (O → Prop) → Prop} (h_post : ∀ (v0 : Int32) (v1 : Md), v1.2.2.2 2 = c0 → xf (G_post v0 v1) I) (h_e72 : ∀ (v0 : Md) (v1 : Int32) (v2 : Int32) (v3 : Int32) (v4 : Int32), v0.2.2.2 2 = c0 → xf (G_e72 v0 v1 v2 v3 v4) I) : ∀ (n : Nat) (t0 : Md) (z1 : Int32) (z2 : Int32) (z3 : Int32) (z4 : Int32), t0.2.2.2 2 = c0 → xf (fun P : O → Prop => wp_X7_when_L32 (fun v0 v1 => G_post v0 v1 P) (fun v0 v1 v2 v3 v4 => G_e72 v0 v1 v2 v3 v4 P) n t0 z1 z2 z3 z4) I := by
  intro n
  induction n with
  | zero => exact fun _ _ _ _ _ _ => xf_F
  | succ n32 ih =>
    intro t0 z1 z2 z3 z4 i_t0
    unfold wp_X7_when_L32
    exact (xf_b2 (F := fun k => wp_X7_ticks k t0) (fx_X7_ticks t0) (fun r_9 u_10 j_u_10 => have i_u_10 := j_u_10.trans i_t0; (xf_p (h_e72 u_10 z1 z2 z3 z4 i_u_10) (xf_p (ih u_10 z1 (z2 + 1) (z3 + ((u_10.1 1) * (u_10.1 1))) z4 i_u_10) (ih u_10 z1 (z2 + 1) (z3 + ((u_10.1 1) * (u_10.1 1))) (u_10.1 2) i_u_10)))))
set_option maxHeartbeats 4000000 in
theorem fx_X7_when (s0 : Md) (x1 : Int32) : xf (fun P : (Int32 × Md) → Prop => wp_X7_when (fun a0 a1 => P (a0, a1)) s0 x1) (fun o => o.2.2.2.2 2 = s0.2.2.2 2) := by
  unfold wp_X7_when
  exact (xf_b1 (F := fun k => wp_X7_isBoard k s0) (xf_dt (dt_X7_isBoard s0)) (fun r_1 _ => (xf_p (xf_r rfl) (xf_b1 (F := fun k => wp_X7_in k (Int32.toInt64 x1) (0 : Int64) (5 : Int64)) (xf_dt (dt_X7_in (Int32.toInt64 x1) (0 : Int64) (5 : Int64))) (fun r_4 _ => (xf_n (xf_b1 (F := fun k => wp_X7_putsAside k s0) (fx_X7_putsAside s0) (fun u_8 j_u_8 => have i_u_8 := j_u_8.trans rfl; (xf_x (fun n32 => (fl_X7_when_L32  (fun v0 v1 i_v1 => (xf_r i_v1)) (fun t0 z1 z2 z3 z4 i_t0 => (xf_b1 (F := fun k => wp_X7_others k t0) (xf_dt (dt_X7_others t0)) (fun r_13 _ => (xf_b1 (F := fun k => wp_X7_takesBack k t0) (fx_X7_takesBack t0) (fun u_16 j_u_16 => have i_u_16 := j_u_16.trans i_t0; (xf_p (xf_r i_u_16) (xf_p (xf_r i_u_16) (xf_p (xf_r i_u_16) (xf_p (xf_r i_u_16) (xf_p (xf_r i_u_16) (xf_r i_u_16))))))))))) n32 u_8 x1 0 0 0 i_u_8))))) (xf_r rfl)))))))
set_option maxHeartbeats 4000000 in
theorem fl_X7_rests_L16  {O : Type} {I : O → Prop} {c0 : Nat → Int32}  {G_post : Int32 → Md → (O → Prop) → Prop} {G_e44 : Md → Int32 → Int32 → (O → Prop) → Prop} (h_post : ∀ (v0 : Int32) (v1 : Md), v1.2.2.2 2 = c0 → xf (G_post v0 v1) I) (h_e44 : ∀ (v0 : Md) (v1 : Int32) (v2 : Int32), v0.2.2.2 2 = c0 → xf (G_e44 v0 v1 v2) I) : ∀ (n : Nat) (t0 : Md) (z1 : Int32) (z2 : Int32), t0.2.2.2 2 = c0 → xf (fun P : O → Prop => wp_X7_rests_L16 (fun v0 v1 => G_post v0 v1 P) (fun v0 v1 v2 => G_e44 v0 v1 v2 P) n t0 z1 z2) I := by
  intro n
  induction n with
  | zero => exact fun _ _ _ _ => xf_F
  | succ n16 ih =>
    intro t0 z1 z2 i_t0
    unfold wp_X7_rests_L16
    exact (xf_b1 (F := fun k => wp_X7_leftOf k t0 z1) (xf_dt (dt_X7_leftOf t0 z1)) (fun r_6 _ => (xf_p (h_e44 t0 z1 z2 i_t0) (xf_p (h_e44 t0 z1 z2 i_t0) (xf_b2 (F := fun k => wp_X7_ticks k t0) (fx_X7_ticks t0) (fun r_10 u_11 j_u_11 => have i_u_11 := j_u_11.trans i_t0; (xf_p (h_e44 u_11 z1 z2 i_u_11) (ih u_11 z1 (z2 + 1) i_u_11))))))))
set_option maxHeartbeats 4000000 in
theorem fx_X7_rests (s0 : Md) (x1 : Int32) : xf (fun P : (Int32 × Md) → Prop => wp_X7_rests (fun a0 a1 => P (a0, a1)) s0 x1) (fun o => o.2.2.2.2 2 = s0.2.2.2 2) := by
  unfold wp_X7_rests
  exact (xf_b1 (F := fun k => wp_X7_isCell k s0 x1) (xf_dt (dt_X7_isCell s0 x1)) (fun r_1 _ => (xf_n (xf_b1 (F := fun k => wp_X7_putsAside k s0) (fx_X7_putsAside s0) (fun u_5 j_u_5 => have i_u_5 := j_u_5.trans rfl; (xf_x (fun n16 => (fl_X7_rests_L16  (fun v0 v1 i_v1 => (xf_r i_v1)) (fun t0 z1 z2 i_t0 => (xf_b1 (F := fun k => wp_X7_leftOf k t0 z1) (xf_dt (dt_X7_leftOf t0 z1)) (fun r_13 _ => (xf_p (xf_b1 (F := fun k => wp_X7_takesBack k t0) (fx_X7_takesBack t0) (fun u_17 j_u_17 => have i_u_17 := j_u_17.trans i_t0; (xf_r i_u_17))) (xf_p (xf_b1 (F := fun k => wp_X7_takesBack k t0) (fx_X7_takesBack t0) (fun u_20 j_u_20 => have i_u_20 := j_u_20.trans i_t0; (xf_r i_u_20))) (xf_b1 (F := fun k => wp_X7_takesBack k t0) (fx_X7_takesBack t0) (fun u_22 j_u_22 => have i_u_22 := j_u_22.trans i_t0; (xf_r i_u_22)))))))) n16 u_5 x1 0 i_u_5))))) (xf_r rfl))))
set_option maxHeartbeats 4000000 in
theorem fx_X7_count (s0 : Md) (x1 : Int32) : xf (fun P : (Int32 × Md) → Prop => wp_X7_count (fun a0 a1 => P (a0, a1)) s0 x1) (fun o => o.2.2.2.2 2 = s0.2.2.2 2) := by
  unfold wp_X7_count
  exact (xf_p (xf_b1 (F := fun k => wp_X7_rows k s0) (xf_dt (dt_X7_rows s0)) (fun r_2 _ => (xf_r rfl))) (xf_p (xf_b1 (F := fun k => wp_X7_wide k s0) (xf_dt (dt_X7_wide s0)) (fun r_5 _ => (xf_r rfl))) (xf_p (xf_b1 (F := fun k => wp_X7_cells k s0) (xf_dt (dt_X7_cells s0)) (fun r_8 _ => (xf_r rfl))) (xf_p (xf_r rfl) (xf_p (xf_b1 (F := fun k => wp_X7_drums k s0) (xf_dt (dt_X7_drums s0)) (fun r_12 _ => (xf_r rfl))) (xf_p (xf_r rfl) (xf_p (xf_r rfl) (xf_p (xf_p (xf_p (xf_r rfl) (xf_r rfl)) (xf_p (xf_r rfl) (xf_r rfl))) (xf_p (xf_b1 (F := fun k => wp_X7_findsTurning k s0) (fx_X7_findsTurning s0) (fun u_22 j_u_22 => have i_u_22 := j_u_22.trans rfl; (xf_r i_u_22))) (xf_r rfl))))))))))
set_option maxHeartbeats 4000000 in
theorem fl_X7_asks_L13  {O : Type} {I : O → Prop} {c0 : Nat → Int32}  {G_post : Md → (O → Prop) → Prop} {G_e135 : Md → Int32 → Int32 → Int32 → Int32 → Int32 → (O → Prop) → Prop} (h_post : ∀ (v0 : Md), v0.2.2.2 2 = c0 → xf (G_post v0) I) (h_e135 : ∀ (v0 : Md) (v1 : Int32) (v2 : Int32) (v3 : Int32) (v4 : Int32) (v5 : Int32), v0.2.2.2 2 = c0 → xf (G_e135 v0 v1 v2 v3 v4 v5) I) : ∀ (n : Nat) (t0 : Md) (z1 : Int32) (z2 : Int32) (z3 : Int32) (z4 : Int32) (z5 : Int32), t0.2.2.2 2 = c0 → xf (fun P : O → Prop => wp_X7_asks_L13 (fun v0 => G_post v0 P) (fun v0 v1 v2 v3 v4 v5 => G_e135 v0 v1 v2 v3 v4 v5 P) n t0 z1 z2 z3 z4 z5) I := by
  intro n
  induction n with
  | zero => exact fun _ _ _ _ _ _ _ => xf_F
  | succ n13 ih =>
    intro t0 z1 z2 z3 z4 z5 i_t0
    unfold wp_X7_asks_L13
    exact (xf_b1 (F := fun k => wp_X7_wide k t0) (xf_dt (dt_X7_wide t0)) (fun r_1 _ => (xf_p (h_e135 t0 z1 z2 z3 z4 z5 i_t0) (xf_b1 (F := fun k => wp_X7_wide k t0) (xf_dt (dt_X7_wide t0)) (fun r_4 _ => (xf_p (xf_b1 (F := fun k => wp_X7_of k t0 ((r_4 * z1) + z5) (2 : Int32)) (xf_dt (dt_X7_of t0 ((r_4 * z1) + z5) (2 : Int32))) (fun r_7 _ => (xf_b1 (F := fun k => wp_X7_flaps k t0 ((r_4 * z1) + z5)) (xf_dt (dt_X7_flaps t0 ((r_4 * z1) + z5))) (fun r_9 _ => (xf_b1 (F := fun k => wp_X7_on k r_7 (0 : Int32) r_9) (xf_dt (dt_X7_on r_7 (0 : Int32) r_9)) (fun r_11 _ => (ih ((va_up t0.1 3 ((t0.1 3) + r_11)), t0.2.1, t0.2.2.1, t0.2.2.2) z1 z2 z3 z4 (z5 + 1) i_t0))))))) (xf_p (xf_b1 (F := fun k => wp_X7_of k t0 ((r_4 * z1) + z5) (2 : Int32)) (xf_dt (dt_X7_of t0 ((r_4 * z1) + z5) (2 : Int32))) (fun r_14 _ => (xf_b1 (F := fun k => wp_X7_flaps k t0 ((r_4 * z1) + z5)) (xf_dt (dt_X7_flaps t0 ((r_4 * z1) + z5))) (fun r_16 _ => (xf_b1 (F := fun k => wp_X7_on k r_14 (0 : Int32) r_16) (xf_dt (dt_X7_on r_14 (0 : Int32) r_16)) (fun r_18 _ => (ih ((va_up t0.1 3 ((t0.1 3) + r_18)), t0.2.1, t0.2.2.1, t0.2.2.2) z1 z2 z3 z4 (z5 + 1) i_t0))))))) (xf_c (xf_b1 (F := fun k => wp_X7_flapFor k t0 ((r_4 * z1) + z5) ((t0.2.2.2 2) (Int32.toNatClampNeg ((z3 + z5) - z2)))) (xf_dt (dt_X7_flapFor t0 ((r_4 * z1) + z5) ((t0.2.2.2 2) (Int32.toNatClampNeg ((z3 + z5) - z2))))) (fun r_21 _ => (xf_n (xf_b1 (F := fun k => wp_X7_of k t0 ((r_4 * z1) + z5) (2 : Int32)) (xf_dt (dt_X7_of t0 ((r_4 * z1) + z5) (2 : Int32))) (fun r_24 _ => (xf_b1 (F := fun k => wp_X7_flaps k t0 ((r_4 * z1) + z5)) (xf_dt (dt_X7_flaps t0 ((r_4 * z1) + z5))) (fun r_26 _ => (xf_b1 (F := fun k => wp_X7_on k r_24 r_21 r_26) (xf_dt (dt_X7_on r_24 r_21 r_26)) (fun r_28 _ => (ih ((va_up t0.1 3 ((t0.1 3) + r_28)), t0.2.1, t0.2.2.1, t0.2.2.2) z1 z2 z3 z4 (z5 + 1) i_t0))))))) (ih ((va_up t0.1 4 ((t0.1 4) + 1)), t0.2.1, t0.2.2.1, t0.2.2.2) z1 z2 z3 z4 (z5 + 1) i_t0))))))))))))
set_option maxHeartbeats 4000000 in
theorem fx_X7_asks (s0 : Md) (x1 : Int32) (x2 : Int32) (x3 : Int32) (x4 : Int32) : xf (fun P : Md → Prop => wp_X7_asks (fun a0 => P a0) s0 x1 x2 x3 x4) (fun o => o.2.2.2 2 = s0.2.2.2 2) := by
  unfold wp_X7_asks
  exact (xf_x (fun n13 => (fl_X7_asks_L13  (fun v0 i_v0 => (xf_r i_v0)) (fun t0 z1 z2 z3 z4 z5 i_t0 => (xf_r i_t0)) n13 ((va_up (va_up s0.1 3 0) 4 0), s0.2.1, s0.2.2.1, s0.2.2.2) x1 x2 x3 x4 0 rfl)))
set_option maxHeartbeats 4000000 in
theorem fx_X7_cost (s0 : Md) (x1 : Int32) : xf (fun P : (Int32 × Md) → Prop => wp_X7_cost (fun a0 a1 => P (a0, a1)) s0 x1) (fun o => o.2.2.2.2 2 = s0.2.2.2 2) := by
  unfold wp_X7_cost
  exact (xf_b1 (F := fun k => wp_X7_isRow k s0 x1) (xf_dt (dt_X7_isRow s0 x1)) (fun r_1 _ => (xf_n (xf_b1 (F := fun k => wp_X7_isRowText k s0 (s0.1 5)) (xf_dt (dt_X7_isRowText s0 (s0.1 5))) (fun r_4 _ => (xf_n (xf_b1 (F := fun k => wp_X7_asks k s0 x1 (0 : Int32) (0 : Int32) (s0.1 5)) (fx_X7_asks s0 x1 (0 : Int32) (0 : Int32) (s0.1 5)) (fun u_8 j_u_8 => have i_u_8 := j_u_8.trans rfl; (xf_r i_u_8))) (xf_r rfl)))) (xf_r rfl))))
set_option maxHeartbeats 4000000 in
theorem fl_X7_best_L36  {O : Type} {I : O → Prop} {c0 : Nat → Int32}  {G_post : Int32 → Md → (O → Prop) → Prop} {G_e152 : Md → Int32 → Int32 → Int32 → Int32 → Int32 → Int32 → Int32 → (O → Prop) → Prop} (h_post : ∀ (v0 : Int32) (v1 : Md), v1.2.2.2 2 = c0 → xf (G_post v0 v1) I) (h_e152 : ∀ (v0 : Md) (v1 : Int32) (v2 : Int32) (v3 : Int32) (v4 : Int32) (v5 : Int32) (v6 : Int32) (v7 : Int32), v0.2.2.2 2 = c0 → xf (G_e152 v0 v1 v2 v3 v4 v5 v6 v7) I) : ∀ (n : Nat) (t0 : Md) (z1 : Int32) (z2 : Int32) (z3 : Int32) (z4 : Int32) (z5 : Int32) (z6 : Int32) (z7 : Int32), t0.2.2.2 2 = c0 → xf (fun P : O → Prop => wp_X7_best_L36 (fun v0 v1 => G_post v0 v1 P) (fun v0 v1 v2 v3 v4 v5 v6 v7 => G_e152 v0 v1 v2 v3 v4 v5 v6 v7 P) n t0 z1 z2 z3 z4 z5 z6 z7) I := by
  intro n
  induction n with
  | zero => exact fun _ _ _ _ _ _ _ _ _ => xf_F
  | succ n36 ih =>
    intro t0 z1 z2 z3 z4 z5 z6 z7 i_t0
    unfold wp_X7_best_L36
    exact (xf_p (h_e152 t0 z1 z2 z3 z4 z5 z6 z7 i_t0) (xf_b1 (F := fun k => wp_X7_endOf k t0 z7) (xf_dt (dt_X7_endOf t0 z7)) (fun r_8 _ => (xf_b1 (F := fun k => wp_X7_wide k t0) (xf_dt (dt_X7_wide t0)) (fun r_10 _ => (xf_p (h_post (-2) t0 i_t0) (xf_b1 (F := fun k => wp_X7_areSigns k t0 z7 (r_8 - z7)) (xf_dt (dt_X7_areSigns t0 z7 (r_8 - z7))) (fun r_13 _ => (xf_n (xf_b1 (F := fun k => wp_X7_asks k t0 z1 (0 : Int32) z7 (r_8 - z7)) (fx_X7_asks t0 z1 (0 : Int32) z7 (r_8 - z7)) (fun u_17 j_u_17 => have i_u_17 := j_u_17.trans i_t0; (xf_p (xf_b1 (F := fun k => wp_X7_endOf k u_17 z7) (xf_dt (dt_X7_endOf u_17 z7)) (fun r_19 _ => (ih u_17 z1 z2 z6 (u_17.1 3) (u_17.1 4) (z6 + 1) (r_19 + 1) i_u_17))) (xf_p (xf_b1 (F := fun k => wp_X7_endOf k u_17 z7) (xf_dt (dt_X7_endOf u_17 z7)) (fun r_22 _ => (ih u_17 z1 z2 z6 (u_17.1 3) (u_17.1 4) (z6 + 1) (r_22 + 1) i_u_17))) (xf_n (xf_b1 (F := fun k => wp_X7_endOf k u_17 z7) (xf_dt (dt_X7_endOf u_17 z7)) (fun r_25 _ => (ih u_17 z1 z2 z3 z4 z5 (z6 + 1) (r_25 + 1) i_u_17))) (xf_p (xf_b1 (F := fun k => wp_X7_endOf k u_17 z7) (xf_dt (dt_X7_endOf u_17 z7)) (fun r_28 _ => (ih u_17 z1 z2 z3 z4 z5 (z6 + 1) (r_28 + 1) i_u_17))) (xf_b1 (F := fun k => wp_X7_endOf k u_17 z7) (xf_dt (dt_X7_endOf u_17 z7)) (fun r_30 _ => (ih u_17 z1 z2 z6 (u_17.1 3) (u_17.1 4) (z6 + 1) (r_30 + 1) i_u_17))))))))) (h_post (-2) t0 i_t0))))))))))
set_option maxHeartbeats 4000000 in
theorem fx_X7_best (s0 : Md) (x1 : Int32) (x2 : Int32) : xf (fun P : (Int32 × Md) → Prop => wp_X7_best (fun a0 a1 => P (a0, a1)) s0 x1 x2) (fun o => o.2.2.2.2 2 = s0.2.2.2 2) := by
  unfold wp_X7_best
  exact (xf_b1 (F := fun k => wp_X7_isRow k s0 x1) (xf_dt (dt_X7_isRow s0 x1)) (fun r_1 _ => (xf_p (xf_r rfl) (xf_b1 (F := fun k => wp_X7_in k (Int32.toInt64 x2) (0 : Int64) (2 : Int64)) (xf_dt (dt_X7_in (Int32.toInt64 x2) (0 : Int64) (2 : Int64))) (fun r_4 _ => (xf_n (xf_x (fun n36 => (fl_X7_best_L36  (fun v0 v1 i_v1 => (xf_r i_v1)) (fun t0 z1 z2 z3 z4 z5 z6 z7 i_t0 => (xf_n (xf_n (xf_r i_t0) (xf_r i_t0)) (xf_r i_t0))) n36 s0 x1 x2 (-1) 0 0 0 0 rfl))) (xf_r rfl)))))))
set_option maxHeartbeats 4000000 in
theorem fl_X7_place_L52  {O : Type} {I : O → Prop} {c0 : Nat → Int32}  {G_post : Int32 → Md → (O → Prop) → Prop} {G_e134 : Md → Int32 → Int32 → Int32 → Int32 → Int32 → Int32 → (O → Prop) → Prop} (h_post : ∀ (v0 : Int32) (v1 : Md), v1.2.2.2 2 = c0 → xf (G_post v0 v1) I) (h_e134 : ∀ (v0 : Md) (v1 : Int32) (v2 : Int32) (v3 : Int32) (v4 : Int32) (v5 : Int32) (v6 : Int32), v0.2.2.2 2 = c0 → xf (G_e134 v0 v1 v2 v3 v4 v5 v6) I) : ∀ (n : Nat) (t0 : Md) (z1 : Int32) (z2 : Int32) (z3 : Int32) (z4 : Int32) (z5 : Int32) (z6 : Int32), t0.2.2.2 2 = c0 → xf (fun P : O → Prop => wp_X7_place_L52 (fun v0 v1 => G_post v0 v1 P) (fun v0 v1 v2 v3 v4 v5 v6 => G_e134 v0 v1 v2 v3 v4 v5 v6 P) n t0 z1 z2 z3 z4 z5 z6) I := by
  intro n
  induction n with
  | zero => exact fun _ _ _ _ _ _ _ _ => xf_F
  | succ n52 ih =>
    intro t0 z1 z2 z3 z4 z5 z6 i_t0
    unfold wp_X7_place_L52
    exact (xf_b1 (F := fun k => wp_X7_wide k t0) (xf_dt (dt_X7_wide t0)) (fun r_11 _ => (xf_p (h_e134 t0 z1 z2 z3 z4 z5 z6 i_t0) (xf_b1 (F := fun k => wp_X7_asks k t0 z1 z6 (0 : Int32) (t0.1 5)) (fx_X7_asks t0 z1 z6 (0 : Int32) (t0.1 5)) (fun u_15 j_u_15 => have i_u_15 := j_u_15.trans i_t0; (xf_p (ih u_15 z1 z2 z6 (u_15.1 3) (u_15.1 4) (z6 + 1) i_u_15) (xf_p (ih u_15 z1 z2 z3 z4 z5 (z6 + 1) i_u_15) (xf_n (ih u_15 z1 z2 z6 (u_15.1 3) (u_15.1 4) (z6 + 1) i_u_15) (xf_p (ih u_15 z1 z2 z6 (u_15.1 3) (u_15.1 4) (z6 + 1) i_u_15) (ih u_15 z1 z2 z3 z4 z5 (z6 + 1) i_u_15))))))))))
set_option maxHeartbeats 4000000 in
theorem fx_X7_place (s0 : Md) (x1 : Int32) (x2 : Int32) : xf (fun P : (Int32 × Md) → Prop => wp_X7_place (fun a0 a1 => P (a0, a1)) s0 x1 x2) (fun o => o.2.2.2.2 2 = s0.2.2.2 2) := by
  unfold wp_X7_place
  exact (xf_b1 (F := fun k => wp_X7_isRow k s0 x1) (xf_dt (dt_X7_isRow s0 x1)) (fun r_1 _ => (xf_p (xf_r rfl) (xf_b1 (F := fun k => wp_X7_in k (Int32.toInt64 x2) (0 : Int64) (1 : Int64)) (xf_dt (dt_X7_in (Int32.toInt64 x2) (0 : Int64) (1 : Int64))) (fun r_4 _ => (xf_n (xf_p (xf_r rfl) (xf_b1 (F := fun k => wp_X7_isRowText k s0 (s0.1 5)) (xf_dt (dt_X7_isRowText s0 (s0.1 5))) (fun r_8 _ => (xf_n (xf_x (fun n52 => (fl_X7_place_L52  (fun v0 v1 i_v1 => (xf_r i_v1)) (fun t0 z1 z2 z3 z4 z5 z6 i_t0 => (xf_n (xf_r i_t0) (xf_r i_t0))) n52 s0 x1 x2 (-1) 0 0 0 rfl))) (xf_r rfl))))) (xf_r rfl)))))))
set_option maxHeartbeats 4000000 in
theorem fx_X7_end (s0 : Md) (x1 : Int32) : xf (fun P : (Int32 × Md) → Prop => wp_X7_end (fun a0 a1 => P (a0, a1)) s0 x1) (fun o => o.2.2.2.2 2 = s0.2.2.2 2) := by
  unfold wp_X7_end
  exact (xf_b1 (F := fun k => wp_X7_in k (Int32.toInt64 x1) (0 : Int64) (Int32.toInt64 (s0.1 5))) (xf_dt (dt_X7_in (Int32.toInt64 x1) (0 : Int64) (Int32.toInt64 (s0.1 5)))) (fun r_1 _ => (xf_n (xf_r rfl) (xf_r rfl))))
set_option maxHeartbeats 4000000 in
theorem fl_X7_nextByte_L0  {O : Type} {I : O → Prop} {c0 : Nat → Int32}  {G_post : Int32 → Md → (O → Prop) → Prop} {G_e26 : Md → (O → Prop) → Prop} (h_post : ∀ (v0 : Int32) (v1 : Md), v1.2.2.2 2 = c0 → xf (G_post v0 v1) I) (h_e26 : ∀ (v0 : Md), v0.2.2.2 2 = c0 → xf (G_e26 v0) I) : ∀ (n : Nat) (t0 : Md), t0.2.2.2 2 = c0 → xf (fun P : O → Prop => wp_X7_nextByte_L0 (fun v0 v1 => G_post v0 v1 P) (fun v0 => G_e26 v0 P) n t0) I := by
  intro n
  induction n with
  | zero => exact fun _ _ => xf_F
  | succ n0 ih =>
    intro t0 i_t0
    unfold wp_X7_nextByte_L0
    exact (xf_b1 (F := fun k => wp_X7_byteAt k t0 (t0.1 6)) (xf_dt (dt_X7_byteAt t0 (t0.1 6))) (fun r_1 _ => (xf_n (h_e26 t0 i_t0) (ih ((va_up t0.1 6 ((t0.1 6) + 1)), t0.2.1, t0.2.2.1, t0.2.2.2) i_t0))))
set_option maxHeartbeats 4000000 in
theorem fx_X7_nextByte (s0 : Md) : xf (fun P : (Int32 × Md) → Prop => wp_X7_nextByte (fun a0 a1 => P (a0, a1)) s0) (fun o => o.2.2.2.2 2 = s0.2.2.2 2) := by
  unfold wp_X7_nextByte
  exact (xf_x (fun n0 => (fl_X7_nextByte_L0  (fun v0 v1 i_v1 => (xf_r i_v1)) (fun t0 i_t0 => (xf_b1 (F := fun k => wp_X7_byteAt k t0 (t0.1 6)) (xf_dt (dt_X7_byteAt t0 (t0.1 6))) (fun r_4 _ => (xf_r i_t0)))) n0 s0 rfl)))
set_option maxHeartbeats 4000000 in
theorem fx_X7_fails (s0 : Md) (x1 : Int32) (x2 : Int32) : xf (fun P : (Int32 × Md) → Prop => wp_X7_fails (fun a0 a1 => P (a0, a1)) s0 x1 x2) (fun o => o.2.2.2.2 2 = s0.2.2.2 2) := by
  unfold wp_X7_fails
  exact (xf_r rfl)
set_option maxHeartbeats 4000000 in
theorem fl_X7_isWord_L22 (i1 : Nat) {O : Type} {I : O → Prop} {c0 : Nat → Int32}  {G_post : Int32 → Md → (O → Prop) → Prop} {G_e51 : Md → Int32 → Int32 → (O → Prop) → Prop} (h_post : ∀ (v0 : Int32) (v1 : Md), v1.2.2.2 2 = c0 → xf (G_post v0 v1) I) (h_e51 : ∀ (v0 : Md) (v1 : Int32) (v2 : Int32), v0.2.2.2 2 = c0 → xf (G_e51 v0 v1 v2) I) : ∀ (n : Nat) (t0 : Md) (z2 : Int32) (z3 : Int32), t0.2.2.2 2 = c0 → xf (fun P : O → Prop => wp_X7_isWord_L22 i1 (fun v0 v1 => G_post v0 v1 P) (fun v0 v1 v2 => G_e51 v0 v1 v2 P) n t0 z2 z3) I := by
  intro n
  induction n with
  | zero => exact fun _ _ _ _ => xf_F
  | succ n22 ih =>
    intro t0 z2 z3 i_t0
    unfold wp_X7_isWord_L22
    exact (xf_b1 (F := fun k => wp_J0_length_8abf5 k i1) (xf_dt (dt_J0_length_8abf5 i1)) (fun r_4 _ => (xf_p (h_e51 t0 z2 z3 i_t0) (xf_b1 (F := fun k => wp_X7_byteAt k t0 (z2 + z3)) (xf_dt (dt_X7_byteAt t0 (z2 + z3))) (fun r_7 _ => (xf_b1 (F := fun k => wp_J0_charAt_5068e k i1 z3) (xf_dt (dt_J0_charAt_5068e i1 z3)) (fun r_9 _ => (xf_n (h_e51 t0 z2 z3 i_t0) (ih t0 z2 (z3 + 1) i_t0)))))))))
set_option maxHeartbeats 4000000 in
theorem fl_X7_isWord_L22b (i1 : Nat) {O : Type} {I : O → Prop} {c0 : Nat → Int32}  {G_post : Int32 → Md → (O → Prop) → Prop} {G_e51 : Md → Int32 → Int32 → (O → Prop) → Prop} (h_post : ∀ (v0 : Int32) (v1 : Md), v1.2.2.2 2 = c0 → xf (G_post v0 v1) I) (h_e51 : ∀ (v0 : Md) (v1 : Int32) (v2 : Int32), v0.2.2.2 2 = c0 → xf (G_e51 v0 v1 v2) I) : ∀ (n : Nat) (t0 : Md) (z2 : Int32) (z3 : Int32), t0.2.2.2 2 = c0 → xf (fun P : O → Prop => wp_X7_isWord_L22b i1 (fun v0 v1 => G_post v0 v1 P) (fun v0 v1 v2 => G_e51 v0 v1 v2 P) n t0 z2 z3) I := by
  intro n
  induction n with
  | zero => exact fun _ _ _ _ => xf_F
  | succ n22 ih =>
    intro t0 z2 z3 i_t0
    unfold wp_X7_isWord_L22b
    exact (xf_b1 (F := fun k => wp_J0_length_8abf5 k i1) (xf_dt (dt_J0_length_8abf5 i1)) (fun r_20 _ => (xf_p (h_e51 t0 z2 z3 i_t0) (xf_b1 (F := fun k => wp_X7_byteAt k t0 (z2 + z3)) (xf_dt (dt_X7_byteAt t0 (z2 + z3))) (fun r_23 _ => (xf_b1 (F := fun k => wp_J0_charAt_5068e k i1 z3) (xf_dt (dt_J0_charAt_5068e i1 z3)) (fun r_25 _ => (xf_n (h_e51 t0 z2 z3 i_t0) (ih t0 z2 (z3 + 1) i_t0)))))))))
