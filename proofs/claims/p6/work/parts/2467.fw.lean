set_option maxHeartbeats 4000000 in
theorem fv_X7_findsTurning_L33  {O : Type} {I : O → Prop} {c0 : (Nat → Int64)}  {G_post : Md → (O → Prop) → Prop} {G_e91 : Md → Int64 → Int32 → Int32 → Int32 → (O → Prop) → Prop} (h_post : ∀ (v0 : Md), v0.2.2.1 0 = c0 → xf (G_post v0) I) (h_e91 : ∀ (v0 : Md) (v1 : Int64) (v2 : Int32) (v3 : Int32) (v4 : Int32), v0.2.2.1 0 = c0 → xf (G_e91 v0 v1 v2 v3 v4) I) : ∀ (n : Nat) (t0 : Md) (w1 : Int64) (z3 : Int32) (z4 : Int32) (z5 : Int32), t0.2.2.1 0 = c0 → xf (fun P : O → Prop => wp_X7_findsTurning_L33 (fun v0 => G_post v0 P) (fun v0 v1 v2 v3 v4 => G_e91 v0 v1 v2 v3 v4 P) n t0 w1 z3 z4 z5) I := by
  intro n
  induction n with
  | zero => exact fun _ _ _ _ _ _ => xf_F
  | succ n33 ih =>
    intro t0 w1 z3 z4 z5 i_t0
    unfold wp_X7_findsTurning_L33
    exact (xf_b1 (F := fun k => wp_X7_cells k t0) (xf_dt (dt_X7_cells t0)) (fun r_4 _ => (xf_p (h_e91 t0 w1 z3 z4 z5 i_t0) (xf_b1 (F := fun k => wp_X7_isIn k w1 z5) (xf_dt (dt_X7_isIn w1 z5)) (fun r_7 _ => (xf_n (ih t0 w1 z3 z4 (z5 + 1) i_t0) (xf_b1 (F := fun k => wp_X7_leftOf k t0 z5) (xf_dt (dt_X7_leftOf t0 z5)) (fun r_10 _ => (xf_p (ih t0 w1 z3 z4 (z5 + 1) i_t0) (xf_p (ih t0 w1 z3 z5 (z5 + 1) i_t0) (xf_b1 (F := fun k => wp_X7_leftOf k t0 z5) (xf_dt (dt_X7_leftOf t0 z5)) (fun r_14 _ => (xf_b1 (F := fun k => wp_X7_leftOf k t0 z4) (xf_dt (dt_X7_leftOf t0 z4)) (fun r_16 _ => (xf_p (ih t0 w1 z3 z4 (z5 + 1) i_t0) (ih t0 w1 z3 z5 (z5 + 1) i_t0))))))))))))))))
set_option maxHeartbeats 4000000 in
theorem fv_X7_findsTurning_L19  {O : Type} {I : O → Prop} {c0 : (Nat → Int64)}  {G_post : Md → (O → Prop) → Prop} {G_e174 : Md → Int64 → Int32 → (O → Prop) → Prop} (h_post : ∀ (v0 : Md), v0.2.2.1 0 = c0 → xf (G_post v0) I) (h_e174 : ∀ (v0 : Md) (v1 : Int64) (v2 : Int32), v0.2.2.1 0 = c0 → xf (G_e174 v0 v1 v2) I) : ∀ (n : Nat) (t0 : Md) (w1 : Int64) (z3 : Int32), t0.2.2.1 0 = c0 → xf (fun P : O → Prop => wp_X7_findsTurning_L19 (fun v0 => G_post v0 P) (fun v0 v1 v2 => G_e174 v0 v1 v2 P) n t0 w1 z3) I := by
  intro n
  induction n with
  | zero => exact fun _ _ _ _ => xf_F
  | succ n19 ih =>
    intro t0 w1 z3 i_t0
    unfold wp_X7_findsTurning_L19
    exact (xf_b1 (F := fun k => wp_X7_cells k t0) (xf_dt (dt_X7_cells t0)) (fun r_1 _ => (xf_p (h_e174 t0 w1 z3 i_t0) (xf_x (fun n33 => (fv_X7_findsTurning_L33  (fun v0 i_v0 => (h_post v0 i_v0)) (fun t0 w1 z3 z4 z5 i_t0 => (xf_n (xf_b1 (F := fun k => wp_X7_current k t0 z4) (xf_dt (dt_X7_current t0 z4)) (fun r_20 _ => (xf_p (xf_b1 (F := fun k => wp_X7_current k ((va_up t0.1 1 ((t0.1 1) + 1)), (t0.2.1 ||| ((1 : Int64) <<< ((Int32.toInt64 z4) &&& 63))), t0.2.2.1, t0.2.2.2) z4) (xf_dt (dt_X7_current ((va_up t0.1 1 ((t0.1 1) + 1)), (t0.2.1 ||| ((1 : Int64) <<< ((Int32.toInt64 z4) &&& 63))), t0.2.2.1, t0.2.2.2) z4)) (fun r_23 _ => (ih ((va_up (va_up t0.1 1 ((t0.1 1) + 1)) 2 ((t0.1 2) + r_23)), (t0.2.1 ||| ((1 : Int64) <<< ((Int32.toInt64 z4) &&& 63))), t0.2.2.1, t0.2.2.2) (w1 ||| ((1 : Int64) <<< ((Int32.toInt64 z4) &&& 63))) (z3 + 1) i_t0))) (ih t0 (w1 ||| ((1 : Int64) <<< ((Int32.toInt64 z4) &&& 63))) (z3 + 1) i_t0)))) (h_post t0 i_t0))) n33 t0 w1 z3 (-1) 0 i_t0))))))
set_option maxHeartbeats 4000000 in
theorem fw_X7_findsTurning (s0 : Md) : xf (fun P : Md → Prop => wp_X7_findsTurning (fun a0 => P a0) s0) (fun o => o.2.2.1 0 = s0.2.2.1 0) := by
  unfold wp_X7_findsTurning
  exact (xf_x (fun n19 => (fv_X7_findsTurning_L19  (fun v0 i_v0 => (xf_r i_v0)) (fun t0 w1 z3 i_t0 => (xf_r i_t0)) n19 ((va_up (va_up s0.1 1 0) 2 0), 0, s0.2.2.1, s0.2.2.2) 0 0 rfl)))
set_option maxHeartbeats 4000000 in
theorem fv_X7_scrolls_L5  {O : Type} {I : O → Prop} {c0 : (Nat → Int64)}  {G_post : Int32 → Md → (O → Prop) → Prop} {G_e45 : Md → Int32 → Int32 → Int32 → Int32 → (O → Prop) → Prop} (h_post : ∀ (v0 : Int32) (v1 : Md), v1.2.2.1 0 = c0 → xf (G_post v0 v1) I) (h_e45 : ∀ (v0 : Md) (v1 : Int32) (v2 : Int32) (v3 : Int32) (v4 : Int32), v0.2.2.1 0 = c0 → xf (G_e45 v0 v1 v2 v3 v4) I) : ∀ (n : Nat) (t0 : Md) (z1 : Int32) (z2 : Int32) (z3 : Int32) (z4 : Int32), t0.2.2.1 0 = c0 → xf (fun P : O → Prop => wp_X7_scrolls_L5 (fun v0 v1 => G_post v0 v1 P) (fun v0 v1 v2 v3 v4 => G_e45 v0 v1 v2 v3 v4 P) n t0 z1 z2 z3 z4) I := by
  intro n
  induction n with
  | zero => exact fun _ _ _ _ _ _ => xf_F
  | succ n5 ih =>
    intro t0 z1 z2 z3 z4 i_t0
    unfold wp_X7_scrolls_L5
    exact (xf_b1 (F := fun k => wp_X7_cells k t0) (xf_dt (dt_X7_cells t0)) (fun r_1 _ => (xf_p (h_e45 t0 z1 z2 z3 z4 i_t0) (xf_b1 (F := fun k => wp_X7_of k t0 z4 (0 : Int32)) (xf_dt (dt_X7_of t0 z4 (0 : Int32))) (fun r_4 _ => (xf_b1 (F := fun k => wp_X7_of k t0 z4 (3 : Int32)) (xf_dt (dt_X7_of t0 z4 (3 : Int32))) (fun r_6 _ => (xf_b1 (F := fun k => wp_X7_signOf k t0 r_4 r_6) (xf_dt (dt_X7_signOf t0 r_4 r_6)) (fun r_8 _ => (xf_c (ih (t0.1, t0.2.1, t0.2.2.1, (va_up t0.2.2.2 1 (upd (t0.2.2.2 1) (Int32.toNatClampNeg z4) r_8))) z1 z2 z3 (z4 + 1) i_t0)))))))))))
set_option maxHeartbeats 4000000 in
theorem fv_X7_keepsAct_L53  {O : Type} {I : O → Prop} {c0 : (Nat → Int64)}  {G_post : Md → (O → Prop) → Prop} {G_e87 : Md → Int32 → (O → Prop) → Prop} (h_post : ∀ (v0 : Md), v0.2.2.1 0 = c0 → xf (G_post v0) I) (h_e87 : ∀ (v0 : Md) (v1 : Int32), v0.2.2.1 0 = c0 → xf (G_e87 v0 v1) I) : ∀ (n : Nat) (t0 : Md) (z1 : Int32), t0.2.2.1 0 = c0 → xf (fun P : O → Prop => wp_X7_keepsAct_L53 (fun v0 => G_post v0 P) (fun v0 v1 => G_e87 v0 v1 P) n t0 z1) I := by
  intro n
  induction n with
  | zero => exact fun _ _ _ => xf_F
  | succ n53 ih =>
    intro t0 z1 i_t0
    unfold wp_X7_keepsAct_L53
    exact (xf_p (h_e87 t0 z1 i_t0) (xf_c (xf_c (ih (t0.1, t0.2.1, (va_up t0.2.2.1 1 (vp_updL (t0.2.2.1 1) (Int32.toNatClampNeg ((6896 * (t0.1 0)) + z1)) ((t0.2.2.1 0) (Int32.toNatClampNeg z1)))), t0.2.2.2) (z1 + 1) i_t0))))
set_option maxHeartbeats 4000000 in
theorem fv_X7_keepsAct_L13  {O : Type} {I : O → Prop} {c0 : (Nat → Int64)}  {G_post : Md → (O → Prop) → Prop} {G_e41 : Md → Int32 → (O → Prop) → Prop} (h_post : ∀ (v0 : Md), v0.2.2.1 0 = c0 → xf (G_post v0) I) (h_e41 : ∀ (v0 : Md) (v1 : Int32), v0.2.2.1 0 = c0 → xf (G_e41 v0 v1) I) : ∀ (n : Nat) (t0 : Md) (z1 : Int32), t0.2.2.1 0 = c0 → xf (fun P : O → Prop => wp_X7_keepsAct_L13 (fun v0 => G_post v0 P) (fun v0 v1 => G_e41 v0 v1 P) n t0 z1) I := by
  intro n
  induction n with
  | zero => exact fun _ _ _ => xf_F
  | succ n13 ih =>
    intro t0 z1 i_t0
    unfold wp_X7_keepsAct_L13
    exact (xf_p (h_e41 t0 z1 i_t0) (xf_c (xf_c (ih (t0.1, t0.2.1, (va_up t0.2.2.1 1 (vp_updL (t0.2.2.1 1) (Int32.toNatClampNeg (z1 - 6896)) ((t0.2.2.1 1) (Int32.toNatClampNeg z1)))), t0.2.2.2) (z1 + 1) i_t0))))
set_option maxHeartbeats 4000000 in
theorem fw_X7_keepsAct (s0 : Md) : xf (fun P : Md → Prop => wp_X7_keepsAct (fun a0 => P a0) s0) (fun o => o.2.2.1 0 = s0.2.2.1 0) := by
  unfold wp_X7_keepsAct
  exact (xf_n (xf_x (fun n53 => (fv_X7_keepsAct_L53  (fun v0 i_v0 => (xf_r i_v0)) (fun t0 z1 i_t0 => (xf_r i_t0)) n53 s0 0 rfl))) (xf_x (fun n13 => (fv_X7_keepsAct_L13  (fun v0 i_v0 => (xf_r i_v0)) (fun t0 z1 i_t0 => (xf_x (fun n53 => (fv_X7_keepsAct_L53  (fun v0 i_v0 => (xf_r i_v0)) (fun t0 z1 i_t0 => (xf_r i_t0)) n53 ((va_up t0.1 0 ((t0.1 0) - 1)), t0.2.1, t0.2.2.1, t0.2.2.2) 0 i_t0)))) n13 s0 6896 rfl))))
set_option maxHeartbeats 4000000 in
theorem fv_X7_keep_L14  {O : Type} {I : O → Prop} {c0 : (Nat → Int64)}  {G_post : Int32 → Md → (O → Prop) → Prop} {G_e45 : Md → Int32 → Int32 → (O → Prop) → Prop} (h_post : ∀ (v0 : Int32) (v1 : Md), v1.2.2.1 0 = c0 → xf (G_post v0 v1) I) (h_e45 : ∀ (v0 : Md) (v1 : Int32) (v2 : Int32), v0.2.2.1 0 = c0 → xf (G_e45 v0 v1 v2) I) : ∀ (n : Nat) (t0 : Md) (z1 : Int32) (z2 : Int32), t0.2.2.1 0 = c0 → xf (fun P : O → Prop => wp_X7_keep_L14 (fun v0 v1 => G_post v0 v1 P) (fun v0 v1 v2 => G_e45 v0 v1 v2 P) n t0 z1 z2) I := by
  intro n
  induction n with
  | zero => exact fun _ _ _ _ => xf_F
  | succ n14 ih =>
    intro t0 z1 z2 i_t0
    unfold wp_X7_keep_L14
    exact (xf_p (h_e45 t0 z1 z2 i_t0) (xf_c (xf_c (ih (t0.1, t0.2.1, (va_up t0.2.2.1 2 (vp_updL (t0.2.2.1 2) (Int32.toNatClampNeg ((6896 * z1) + z2)) ((t0.2.2.1 0) (Int32.toNatClampNeg z2)))), t0.2.2.2) z1 (z2 + 1) i_t0))))
set_option maxHeartbeats 4000000 in
theorem fw_X7_keep (s0 : Md) (x1 : Int32) : xf (fun P : (Int32 × Md) → Prop => wp_X7_keep (fun a0 a1 => P (a0, a1)) s0 x1) (fun o => o.2.2.2.1 0 = s0.2.2.1 0) := by
  unfold wp_X7_keep
  exact (xf_b1 (F := fun k => wp_X7_in k (Int32.toInt64 x1) (0 : Int64) (1 : Int64)) (xf_dt (dt_X7_in (Int32.toInt64 x1) (0 : Int64) (1 : Int64))) (fun r_1 _ => (xf_n (xf_x (fun n14 => (fv_X7_keep_L14  (fun v0 v1 i_v1 => (xf_r i_v1)) (fun t0 z1 z2 i_t0 => (xf_c (xf_b1 (F := fun k => wp_X7_cells k (t0.1, t0.2.1, t0.2.2.1, (va_up t0.2.2.2 0 (upd (t0.2.2.2 0) (Int32.toNatClampNeg z1) (vp_nar .boolean 1))))) (xf_dt (dt_X7_cells (t0.1, t0.2.1, t0.2.2.1, (va_up t0.2.2.2 0 (upd (t0.2.2.2 0) (Int32.toNatClampNeg z1) (vp_nar .boolean 1)))))) (fun r_8 _ => (xf_r i_t0))))) n14 s0 x1 0 rfl))) (xf_r rfl))))
set_option maxHeartbeats 4000000 in
theorem fv_X7_which_L32  {O : Type} {I : O → Prop} {c0 : (Nat → Int64)}  {G_post : Int64 → Md → (O → Prop) → Prop} {G_e64 : Md → Int32 → Int64 → Int32 → (O → Prop) → Prop} (h_post : ∀ (v0 : Int64) (v1 : Md), v1.2.2.1 0 = c0 → xf (G_post v0 v1) I) (h_e64 : ∀ (v0 : Md) (v1 : Int32) (v2 : Int64) (v3 : Int32), v0.2.2.1 0 = c0 → xf (G_e64 v0 v1 v2 v3) I) : ∀ (n : Nat) (t0 : Md) (z1 : Int32) (w2 : Int64) (z4 : Int32), t0.2.2.1 0 = c0 → xf (fun P : O → Prop => wp_X7_which_L32 (fun v0 v1 => G_post v0 v1 P) (fun v0 v1 v2 v3 => G_e64 v0 v1 v2 v3 P) n t0 z1 w2 z4) I := by
  intro n
  induction n with
  | zero => exact fun _ _ _ _ _ => xf_F
  | succ n32 ih =>
    intro t0 z1 w2 z4 i_t0
    unfold wp_X7_which_L32
    exact (xf_b1 (F := fun k => wp_X7_cells k t0) (xf_dt (dt_X7_cells t0)) (fun r_9 _ => (xf_p (h_e64 t0 z1 w2 z4 i_t0) (xf_b1 (F := fun k => wp_X7_isSuch k t0 z4 z1) (xf_dt (dt_X7_isSuch t0 z4 z1)) (fun r_12 _ => (xf_p (ih t0 z1 w2 (z4 + 1) i_t0) (ih t0 z1 (w2 ||| ((1 : Int64) <<< ((Int32.toInt64 z4) &&& 63))) (z4 + 1) i_t0)))))))
set_option maxHeartbeats 4000000 in
theorem fw_X7_which (s0 : Md) (x1 : Int32) : xf (fun P : (Int64 × Md) → Prop => wp_X7_which (fun a0 a1 => P (a0, a1)) s0 x1) (fun o => o.2.2.2.1 0 = s0.2.2.1 0) := by
  unfold wp_X7_which
  exact (xf_b1 (F := fun k => wp_X7_isBoard k s0) (xf_dt (dt_X7_isBoard s0)) (fun r_1 _ => (xf_p (xf_r rfl) (xf_b1 (F := fun k => wp_X7_in k (Int32.toInt64 x1) (0 : Int64) (4 : Int64)) (xf_dt (dt_X7_in (Int32.toInt64 x1) (0 : Int64) (4 : Int64))) (fun r_4 _ => (xf_n (xf_b1 (F := fun k => wp_X7_findsTurning k s0) (fw_X7_findsTurning s0) (fun u_8 j_u_8 => have i_u_8 := j_u_8.trans rfl; (xf_x (fun n32 => (fv_X7_which_L32  (fun v0 v1 i_v1 => (xf_r i_v1)) (fun t0 z1 w2 z4 i_t0 => (xf_r i_t0)) n32 u_8 x1 0 0 i_u_8))))) (xf_r rfl)))))))
set_option maxHeartbeats 4000000 in
theorem fv_X7_putsAside_L2  {O : Type} {I : O → Prop} {c0 : (Nat → Int64)}  {G_post : Md → (O → Prop) → Prop} {G_e27 : Md → Int32 → (O → Prop) → Prop} (h_post : ∀ (v0 : Md), v0.2.2.1 0 = c0 → xf (G_post v0) I) (h_e27 : ∀ (v0 : Md) (v1 : Int32), v0.2.2.1 0 = c0 → xf (G_e27 v0 v1) I) : ∀ (n : Nat) (t0 : Md) (z1 : Int32), t0.2.2.1 0 = c0 → xf (fun P : O → Prop => wp_X7_putsAside_L2 (fun v0 => G_post v0 P) (fun v0 v1 => G_e27 v0 v1 P) n t0 z1) I := by
  intro n
  induction n with
  | zero => exact fun _ _ _ => xf_F
  | succ n2 ih =>
    intro t0 z1 i_t0
    unfold wp_X7_putsAside_L2
    exact (xf_p (h_e27 t0 z1 i_t0) (xf_c (xf_c (ih (t0.1, t0.2.1, (va_up t0.2.2.1 3 (vp_updL (t0.2.2.1 3) (Int32.toNatClampNeg z1) ((t0.2.2.1 0) (Int32.toNatClampNeg z1)))), t0.2.2.2) (z1 + 1) i_t0))))
set_option maxHeartbeats 4000000 in
theorem fw_X7_putsAside (s0 : Md) : xf (fun P : Md → Prop => wp_X7_putsAside (fun a0 => P a0) s0) (fun o => o.2.2.1 0 = s0.2.2.1 0) := by
  unfold wp_X7_putsAside
  exact (xf_x (fun n2 => (fv_X7_putsAside_L2  (fun v0 i_v0 => (xf_r i_v0)) (fun t0 z1 i_t0 => (xf_r i_t0)) n2 s0 0 rfl)))
set_option maxHeartbeats 4000000 in
theorem fw_X7_count (s0 : Md) (x1 : Int32) : xf (fun P : (Int32 × Md) → Prop => wp_X7_count (fun a0 a1 => P (a0, a1)) s0 x1) (fun o => o.2.2.2.1 0 = s0.2.2.1 0) := by
  unfold wp_X7_count
  exact (xf_p (xf_b1 (F := fun k => wp_X7_rows k s0) (xf_dt (dt_X7_rows s0)) (fun r_2 _ => (xf_r rfl))) (xf_p (xf_b1 (F := fun k => wp_X7_wide k s0) (xf_dt (dt_X7_wide s0)) (fun r_5 _ => (xf_r rfl))) (xf_p (xf_b1 (F := fun k => wp_X7_cells k s0) (xf_dt (dt_X7_cells s0)) (fun r_8 _ => (xf_r rfl))) (xf_p (xf_r rfl) (xf_p (xf_b1 (F := fun k => wp_X7_drums k s0) (xf_dt (dt_X7_drums s0)) (fun r_12 _ => (xf_r rfl))) (xf_p (xf_r rfl) (xf_p (xf_r rfl) (xf_p (xf_p (xf_p (xf_r rfl) (xf_r rfl)) (xf_p (xf_r rfl) (xf_r rfl))) (xf_p (xf_b1 (F := fun k => wp_X7_findsTurning k s0) (fw_X7_findsTurning s0) (fun u_22 j_u_22 => have i_u_22 := j_u_22.trans rfl; (xf_r i_u_22))) (xf_r rfl))))))))))
set_option maxHeartbeats 4000000 in
theorem fv_X7_asks_L13  {O : Type} {I : O → Prop} {c0 : (Nat → Int64)}  {G_post : Md → (O → Prop) → Prop} {G_e135 : Md → Int32 → Int32 → Int32 → Int32 → Int32 → (O → Prop) → Prop} (h_post : ∀ (v0 : Md), v0.2.2.1 0 = c0 → xf (G_post v0) I) (h_e135 : ∀ (v0 : Md) (v1 : Int32) (v2 : Int32) (v3 : Int32) (v4 : Int32) (v5 : Int32), v0.2.2.1 0 = c0 → xf (G_e135 v0 v1 v2 v3 v4 v5) I) : ∀ (n : Nat) (t0 : Md) (z1 : Int32) (z2 : Int32) (z3 : Int32) (z4 : Int32) (z5 : Int32), t0.2.2.1 0 = c0 → xf (fun P : O → Prop => wp_X7_asks_L13 (fun v0 => G_post v0 P) (fun v0 v1 v2 v3 v4 v5 => G_e135 v0 v1 v2 v3 v4 v5 P) n t0 z1 z2 z3 z4 z5) I := by
  intro n
  induction n with
  | zero => exact fun _ _ _ _ _ _ _ => xf_F
  | succ n13 ih =>
    intro t0 z1 z2 z3 z4 z5 i_t0
    unfold wp_X7_asks_L13
    exact (xf_b1 (F := fun k => wp_X7_wide k t0) (xf_dt (dt_X7_wide t0)) (fun r_1 _ => (xf_p (h_e135 t0 z1 z2 z3 z4 z5 i_t0) (xf_b1 (F := fun k => wp_X7_wide k t0) (xf_dt (dt_X7_wide t0)) (fun r_4 _ => (xf_p (xf_b1 (F := fun k => wp_X7_of k t0 ((r_4 * z1) + z5) (2 : Int32)) (xf_dt (dt_X7_of t0 ((r_4 * z1) + z5) (2 : Int32))) (fun r_7 _ => (xf_b1 (F := fun k => wp_X7_flaps k t0 ((r_4 * z1) + z5)) (xf_dt (dt_X7_flaps t0 ((r_4 * z1) + z5))) (fun r_9 _ => (xf_b1 (F := fun k => wp_X7_on k r_7 (0 : Int32) r_9) (xf_dt (dt_X7_on r_7 (0 : Int32) r_9)) (fun r_11 _ => (ih ((va_up t0.1 3 ((t0.1 3) + r_11)), t0.2.1, t0.2.2.1, t0.2.2.2) z1 z2 z3 z4 (z5 + 1) i_t0))))))) (xf_p (xf_b1 (F := fun k => wp_X7_of k t0 ((r_4 * z1) + z5) (2 : Int32)) (xf_dt (dt_X7_of t0 ((r_4 * z1) + z5) (2 : Int32))) (fun r_14 _ => (xf_b1 (F := fun k => wp_X7_flaps k t0 ((r_4 * z1) + z5)) (xf_dt (dt_X7_flaps t0 ((r_4 * z1) + z5))) (fun r_16 _ => (xf_b1 (F := fun k => wp_X7_on k r_14 (0 : Int32) r_16) (xf_dt (dt_X7_on r_14 (0 : Int32) r_16)) (fun r_18 _ => (ih ((va_up t0.1 3 ((t0.1 3) + r_18)), t0.2.1, t0.2.2.1, t0.2.2.2) z1 z2 z3 z4 (z5 + 1) i_t0))))))) (xf_c (xf_b1 (F := fun k => wp_X7_flapFor k t0 ((r_4 * z1) + z5) ((t0.2.2.2 2) (Int32.toNatClampNeg ((z3 + z5) - z2)))) (xf_dt (dt_X7_flapFor t0 ((r_4 * z1) + z5) ((t0.2.2.2 2) (Int32.toNatClampNeg ((z3 + z5) - z2))))) (fun r_21 _ => (xf_n (xf_b1 (F := fun k => wp_X7_of k t0 ((r_4 * z1) + z5) (2 : Int32)) (xf_dt (dt_X7_of t0 ((r_4 * z1) + z5) (2 : Int32))) (fun r_24 _ => (xf_b1 (F := fun k => wp_X7_flaps k t0 ((r_4 * z1) + z5)) (xf_dt (dt_X7_flaps t0 ((r_4 * z1) + z5))) (fun r_26 _ => (xf_b1 (F := fun k => wp_X7_on k r_24 r_21 r_26) (xf_dt (dt_X7_on r_24 r_21 r_26)) (fun r_28 _ => (ih ((va_up t0.1 3 ((t0.1 3) + r_28)), t0.2.1, t0.2.2.1, t0.2.2.2) z1 z2 z3 z4 (z5 + 1) i_t0))))))) (ih ((va_up t0.1 4 ((t0.1 4) + 1)), t0.2.1, t0.2.2.1, t0.2.2.2) z1 z2 z3 z4 (z5 + 1) i_t0))))))))))))
set_option maxHeartbeats 4000000 in
theorem fw_X7_asks (s0 : Md) (x1 : Int32) (x2 : Int32) (x3 : Int32) (x4 : Int32) : xf (fun P : Md → Prop => wp_X7_asks (fun a0 => P a0) s0 x1 x2 x3 x4) (fun o => o.2.2.1 0 = s0.2.2.1 0) := by
  unfold wp_X7_asks
  exact (xf_x (fun n13 => (fv_X7_asks_L13  (fun v0 i_v0 => (xf_r i_v0)) (fun t0 z1 z2 z3 z4 z5 i_t0 => (xf_r i_t0)) n13 ((va_up (va_up s0.1 3 0) 4 0), s0.2.1, s0.2.2.1, s0.2.2.2) x1 x2 x3 x4 0 rfl)))
set_option maxHeartbeats 4000000 in
theorem fw_X7_cost (s0 : Md) (x1 : Int32) : xf (fun P : (Int32 × Md) → Prop => wp_X7_cost (fun a0 a1 => P (a0, a1)) s0 x1) (fun o => o.2.2.2.1 0 = s0.2.2.1 0) := by
  unfold wp_X7_cost
  exact (xf_b1 (F := fun k => wp_X7_isRow k s0 x1) (xf_dt (dt_X7_isRow s0 x1)) (fun r_1 _ => (xf_n (xf_b1 (F := fun k => wp_X7_isRowText k s0 (s0.1 5)) (xf_dt (dt_X7_isRowText s0 (s0.1 5))) (fun r_4 _ => (xf_n (xf_b1 (F := fun k => wp_X7_asks k s0 x1 (0 : Int32) (0 : Int32) (s0.1 5)) (fw_X7_asks s0 x1 (0 : Int32) (0 : Int32) (s0.1 5)) (fun u_8 j_u_8 => have i_u_8 := j_u_8.trans rfl; (xf_r i_u_8))) (xf_r rfl)))) (xf_r rfl))))
set_option maxHeartbeats 4000000 in
theorem fv_X7_best_L36  {O : Type} {I : O → Prop} {c0 : (Nat → Int64)}  {G_post : Int32 → Md → (O → Prop) → Prop} {G_e152 : Md → Int32 → Int32 → Int32 → Int32 → Int32 → Int32 → Int32 → (O → Prop) → Prop} (h_post : ∀ (v0 : Int32) (v1 : Md), v1.2.2.1 0 = c0 → xf (G_post v0 v1) I) (h_e152 : ∀ (v0 : Md) (v1 : Int32) (v2 : Int32) (v3 : Int32) (v4 : Int32) (v5 : Int32) (v6 : Int32) (v7 : Int32), v0.2.2.1 0 = c0 → xf (G_e152 v0 v1 v2 v3 v4 v5 v6 v7) I) : ∀ (n : Nat) (t0 : Md) (z1 : Int32) (z2 : Int32) (z3 : Int32) (z4 : Int32) (z5 : Int32) (z6 : Int32) (z7 : Int32), t0.2.2.1 0 = c0 → xf (fun P : O → Prop => wp_X7_best_L36 (fun v0 v1 => G_post v0 v1 P) (fun v0 v1 v2 v3 v4 v5 v6 v7 => G_e152 v0 v1 v2 v3 v4 v5 v6 v7 P) n t0 z1 z2 z3 z4 z5 z6 z7) I := by
  intro n
  induction n with
  | zero => exact fun _ _ _ _ _ _ _ _ _ => xf_F
  | succ n36 ih =>
    intro t0 z1 z2 z3 z4 z5 z6 z7 i_t0
    unfold wp_X7_best_L36
    exact (xf_p (h_e152 t0 z1 z2 z3 z4 z5 z6 z7 i_t0) (xf_b1 (F := fun k => wp_X7_endOf k t0 z7) (xf_dt (dt_X7_endOf t0 z7)) (fun r_8 _ => (xf_b1 (F := fun k => wp_X7_wide k t0) (xf_dt (dt_X7_wide t0)) (fun r_10 _ => (xf_p (h_post (-2) t0 i_t0) (xf_b1 (F := fun k => wp_X7_areSigns k t0 z7 (r_8 - z7)) (xf_dt (dt_X7_areSigns t0 z7 (r_8 - z7))) (fun r_13 _ => (xf_n (xf_b1 (F := fun k => wp_X7_asks k t0 z1 (0 : Int32) z7 (r_8 - z7)) (fw_X7_asks t0 z1 (0 : Int32) z7 (r_8 - z7)) (fun u_17 j_u_17 => have i_u_17 := j_u_17.trans i_t0; (xf_p (xf_b1 (F := fun k => wp_X7_endOf k u_17 z7) (xf_dt (dt_X7_endOf u_17 z7)) (fun r_19 _ => (ih u_17 z1 z2 z6 (u_17.1 3) (u_17.1 4) (z6 + 1) (r_19 + 1) i_u_17))) (xf_p (xf_b1 (F := fun k => wp_X7_endOf k u_17 z7) (xf_dt (dt_X7_endOf u_17 z7)) (fun r_22 _ => (ih u_17 z1 z2 z6 (u_17.1 3) (u_17.1 4) (z6 + 1) (r_22 + 1) i_u_17))) (xf_n (xf_b1 (F := fun k => wp_X7_endOf k u_17 z7) (xf_dt (dt_X7_endOf u_17 z7)) (fun r_25 _ => (ih u_17 z1 z2 z3 z4 z5 (z6 + 1) (r_25 + 1) i_u_17))) (xf_p (xf_b1 (F := fun k => wp_X7_endOf k u_17 z7) (xf_dt (dt_X7_endOf u_17 z7)) (fun r_28 _ => (ih u_17 z1 z2 z3 z4 z5 (z6 + 1) (r_28 + 1) i_u_17))) (xf_b1 (F := fun k => wp_X7_endOf k u_17 z7) (xf_dt (dt_X7_endOf u_17 z7)) (fun r_30 _ => (ih u_17 z1 z2 z6 (u_17.1 3) (u_17.1 4) (z6 + 1) (r_30 + 1) i_u_17))))))))) (h_post (-2) t0 i_t0))))))))))
set_option maxHeartbeats 4000000 in
theorem fw_X7_best (s0 : Md) (x1 : Int32) (x2 : Int32) : xf (fun P : (Int32 × Md) → Prop => wp_X7_best (fun a0 a1 => P (a0, a1)) s0 x1 x2) (fun o => o.2.2.2.1 0 = s0.2.2.1 0) := by
  unfold wp_X7_best
  exact (xf_b1 (F := fun k => wp_X7_isRow k s0 x1) (xf_dt (dt_X7_isRow s0 x1)) (fun r_1 _ => (xf_p (xf_r rfl) (xf_b1 (F := fun k => wp_X7_in k (Int32.toInt64 x2) (0 : Int64) (2 : Int64)) (xf_dt (dt_X7_in (Int32.toInt64 x2) (0 : Int64) (2 : Int64))) (fun r_4 _ => (xf_n (xf_x (fun n36 => (fv_X7_best_L36  (fun v0 v1 i_v1 => (xf_r i_v1)) (fun t0 z1 z2 z3 z4 z5 z6 z7 i_t0 => (xf_n (xf_n (xf_r i_t0) (xf_r i_t0)) (xf_r i_t0))) n36 s0 x1 x2 (-1) 0 0 0 0 rfl))) (xf_r rfl)))))))
set_option maxHeartbeats 4000000 in
theorem fv_X7_place_L52  {O : Type} {I : O → Prop} {c0 : (Nat → Int64)}  {G_post : Int32 → Md → (O → Prop) → Prop} {G_e134 : Md → Int32 → Int32 → Int32 → Int32 → Int32 → Int32 → (O → Prop) → Prop} (h_post : ∀ (v0 : Int32) (v1 : Md), v1.2.2.1 0 = c0 → xf (G_post v0 v1) I) (h_e134 : ∀ (v0 : Md) (v1 : Int32) (v2 : Int32) (v3 : Int32) (v4 : Int32) (v5 : Int32) (v6 : Int32), v0.2.2.1 0 = c0 → xf (G_e134 v0 v1 v2 v3 v4 v5 v6) I) : ∀ (n : Nat) (t0 : Md) (z1 : Int32) (z2 : Int32) (z3 : Int32) (z4 : Int32) (z5 : Int32) (z6 : Int32), t0.2.2.1 0 = c0 → xf (fun P : O → Prop => wp_X7_place_L52 (fun v0 v1 => G_post v0 v1 P) (fun v0 v1 v2 v3 v4 v5 v6 => G_e134 v0 v1 v2 v3 v4 v5 v6 P) n t0 z1 z2 z3 z4 z5 z6) I := by
  intro n
  induction n with
  | zero => exact fun _ _ _ _ _ _ _ _ => xf_F
  | succ n52 ih =>
    intro t0 z1 z2 z3 z4 z5 z6 i_t0
    unfold wp_X7_place_L52
    exact (xf_b1 (F := fun k => wp_X7_wide k t0) (xf_dt (dt_X7_wide t0)) (fun r_11 _ => (xf_p (h_e134 t0 z1 z2 z3 z4 z5 z6 i_t0) (xf_b1 (F := fun k => wp_X7_asks k t0 z1 z6 (0 : Int32) (t0.1 5)) (fw_X7_asks t0 z1 z6 (0 : Int32) (t0.1 5)) (fun u_15 j_u_15 => have i_u_15 := j_u_15.trans i_t0; (xf_p (ih u_15 z1 z2 z6 (u_15.1 3) (u_15.1 4) (z6 + 1) i_u_15) (xf_p (ih u_15 z1 z2 z3 z4 z5 (z6 + 1) i_u_15) (xf_n (ih u_15 z1 z2 z6 (u_15.1 3) (u_15.1 4) (z6 + 1) i_u_15) (xf_p (ih u_15 z1 z2 z6 (u_15.1 3) (u_15.1 4) (z6 + 1) i_u_15) (ih u_15 z1 z2 z3 z4 z5 (z6 + 1) i_u_15))))))))))
set_option maxHeartbeats 4000000 in
theorem fw_X7_place (s0 : Md) (x1 : Int32) (x2 : Int32) : xf (fun P : (Int32 × Md) → Prop => wp_X7_place (fun a0 a1 => P (a0, a1)) s0 x1 x2) (fun o => o.2.2.2.1 0 = s0.2.2.1 0) := by
  unfold wp_X7_place
  exact (xf_b1 (F := fun k => wp_X7_isRow k s0 x1) (xf_dt (dt_X7_isRow s0 x1)) (fun r_1 _ => (xf_p (xf_r rfl) (xf_b1 (F := fun k => wp_X7_in k (Int32.toInt64 x2) (0 : Int64) (1 : Int64)) (xf_dt (dt_X7_in (Int32.toInt64 x2) (0 : Int64) (1 : Int64))) (fun r_4 _ => (xf_n (xf_p (xf_r rfl) (xf_b1 (F := fun k => wp_X7_isRowText k s0 (s0.1 5)) (xf_dt (dt_X7_isRowText s0 (s0.1 5))) (fun r_8 _ => (xf_n (xf_x (fun n52 => (fv_X7_place_L52  (fun v0 v1 i_v1 => (xf_r i_v1)) (fun t0 z1 z2 z3 z4 z5 z6 i_t0 => (xf_n (xf_r i_t0) (xf_r i_t0))) n52 s0 x1 x2 (-1) 0 0 0 rfl))) (xf_r rfl))))) (xf_r rfl)))))))
set_option maxHeartbeats 4000000 in
theorem fv_X7_lays_L3  {O : Type} {I : O → Prop} {c0 : (Nat → Int64)}  {G_post : Md → (O → Prop) → Prop} {G_e36 : Md → Int32 → Int32 → (O → Prop) → Prop} (h_post : ∀ (v0 : Md), v0.2.2.1 0 = c0 → xf (G_post v0) I) (h_e36 : ∀ (v0 : Md) (v1 : Int32) (v2 : Int32), v0.2.2.1 0 = c0 → xf (G_e36 v0 v1 v2) I) : ∀ (n : Nat) (t0 : Md) (z1 : Int32) (z2 : Int32), t0.2.2.1 0 = c0 → xf (fun P : O → Prop => wp_X7_lays_L3 (fun v0 => G_post v0 P) (fun v0 v1 v2 => G_e36 v0 v1 v2 P) n t0 z1 z2) I := by
  intro n
  induction n with
  | zero => exact fun _ _ _ _ => xf_F
  | succ n3 ih =>
    intro t0 z1 z2 i_t0
    unfold wp_X7_lays_L3
    exact (xf_p (h_e36 t0 z1 z2 i_t0) (xf_c (ih ((va_up t0.1 5 ((t0.1 5) + 1)), t0.2.1, t0.2.2.1, (va_up t0.2.2.2 2 (upd (t0.2.2.2 2) (Int32.toNatClampNeg (t0.1 5)) (vp_nar .byte (Int8.toInt32 (Int32.toInt8 (z1 >>> (z2 &&& 31)))))))) z1 (z2 + (-8)) i_t0)))
set_option maxHeartbeats 4000000 in
theorem fw_X7_lays (s0 : Md) (x1 : Int32) : xf (fun P : Md → Prop => wp_X7_lays (fun a0 => P a0) s0 x1) (fun o => o.2.2.1 0 = s0.2.2.1 0) := by
  unfold wp_X7_lays
  exact (xf_x (fun n3 => (fv_X7_lays_L3  (fun v0 i_v0 => (xf_r i_v0)) (fun t0 z1 z2 i_t0 => (xf_r i_t0)) n3 s0 x1 24 rfl)))
set_option maxHeartbeats 4000000 in
theorem fw_X7_feed (s0 : Md) (x1 : Int32) (x2 : Int32) (x3 : Int32) (x4 : Int32) (x5 : Int32) : xf (fun P : (Int32 × Md) → Prop => wp_X7_feed (fun a0 a1 => P (a0, a1)) s0 x1 x2 x3 x4 x5) (fun o => o.2.2.2.1 0 = s0.2.2.1 0) := by
  unfold wp_X7_feed
  exact (xf_p (xf_b1 (F := fun k => wp_X7_lays k s0 x1) (fw_X7_lays s0 x1) (fun u_3 j_u_3 => have i_u_3 := j_u_3.trans rfl; (xf_b1 (F := fun k => wp_X7_lays k u_3 x2) (fw_X7_lays u_3 x2) (fun u_5 j_u_5 => have i_u_5 := j_u_5.trans i_u_3; (xf_b1 (F := fun k => wp_X7_lays k u_5 x3) (fw_X7_lays u_5 x3) (fun u_7 j_u_7 => have i_u_7 := j_u_7.trans i_u_5; (xf_b1 (F := fun k => wp_X7_lays k u_7 x4) (fw_X7_lays u_7 x4) (fun u_9 j_u_9 => have i_u_9 := j_u_9.trans i_u_7; (xf_b1 (F := fun k => wp_X7_lays k u_9 x5) (fw_X7_lays u_9 x5) (fun u_11 j_u_11 => have i_u_11 := j_u_11.trans i_u_9; (xf_r i_u_11))))))))))) (xf_r rfl))
set_option maxHeartbeats 4000000 in
theorem fw_X7_end (s0 : Md) (x1 : Int32) : xf (fun P : (Int32 × Md) → Prop => wp_X7_end (fun a0 a1 => P (a0, a1)) s0 x1) (fun o => o.2.2.2.1 0 = s0.2.2.1 0) := by
  unfold wp_X7_end
  exact (xf_b1 (F := fun k => wp_X7_in k (Int32.toInt64 x1) (0 : Int64) (Int32.toInt64 (s0.1 5))) (xf_dt (dt_X7_in (Int32.toInt64 x1) (0 : Int64) (Int32.toInt64 (s0.1 5)))) (fun r_1 _ => (xf_n (xf_r rfl) (xf_r rfl))))
set_option maxHeartbeats 4000000 in
theorem fv_X7_nextByte_L0  {O : Type} {I : O → Prop} {c0 : (Nat → Int64)}  {G_post : Int32 → Md → (O → Prop) → Prop} {G_e26 : Md → (O → Prop) → Prop} (h_post : ∀ (v0 : Int32) (v1 : Md), v1.2.2.1 0 = c0 → xf (G_post v0 v1) I) (h_e26 : ∀ (v0 : Md), v0.2.2.1 0 = c0 → xf (G_e26 v0) I) : ∀ (n : Nat) (t0 : Md), t0.2.2.1 0 = c0 → xf (fun P : O → Prop => wp_X7_nextByte_L0 (fun v0 v1 => G_post v0 v1 P) (fun v0 => G_e26 v0 P) n t0) I := by
  intro n
  induction n with
  | zero => exact fun _ _ => xf_F
  | succ n0 ih =>
    intro t0 i_t0
    unfold wp_X7_nextByte_L0
    exact (xf_b1 (F := fun k => wp_X7_byteAt k t0 (t0.1 6)) (xf_dt (dt_X7_byteAt t0 (t0.1 6))) (fun r_1 _ => (xf_n (h_e26 t0 i_t0) (ih ((va_up t0.1 6 ((t0.1 6) + 1)), t0.2.1, t0.2.2.1, t0.2.2.2) i_t0))))
set_option maxHeartbeats 4000000 in
theorem fw_X7_nextByte (s0 : Md) : xf (fun P : (Int32 × Md) → Prop => wp_X7_nextByte (fun a0 a1 => P (a0, a1)) s0) (fun o => o.2.2.2.1 0 = s0.2.2.1 0) := by
  unfold wp_X7_nextByte
  exact (xf_x (fun n0 => (fv_X7_nextByte_L0  (fun v0 v1 i_v1 => (xf_r i_v1)) (fun t0 i_t0 => (xf_b1 (F := fun k => wp_X7_byteAt k t0 (t0.1 6)) (xf_dt (dt_X7_byteAt t0 (t0.1 6))) (fun r_4 _ => (xf_r i_t0)))) n0 s0 rfl)))
set_option maxHeartbeats 4000000 in
theorem fw_X7_fails (s0 : Md) (x1 : Int32) (x2 : Int32) : xf (fun P : (Int32 × Md) → Prop => wp_X7_fails (fun a0 a1 => P (a0, a1)) s0 x1 x2) (fun o => o.2.2.2.1 0 = s0.2.2.1 0) := by
  unfold wp_X7_fails
  exact (xf_r rfl)
set_option maxHeartbeats 4000000 in
theorem fv_X7_isWord_L22 (i1 : Nat) {O : Type} {I : O → Prop} {c0 : (Nat → Int64)}  {G_post : Int32 → Md → (O → Prop) → Prop} {G_e51 : Md → Int32 → Int32 → (O → Prop) → Prop} (h_post : ∀ (v0 : Int32) (v1 : Md), v1.2.2.1 0 = c0 → xf (G_post v0 v1) I) (h_e51 : ∀ (v0 : Md) (v1 : Int32) (v2 : Int32), v0.2.2.1 0 = c0 → xf (G_e51 v0 v1 v2) I) : ∀ (n : Nat) (t0 : Md) (z2 : Int32) (z3 : Int32), t0.2.2.1 0 = c0 → xf (fun P : O → Prop => wp_X7_isWord_L22 i1 (fun v0 v1 => G_post v0 v1 P) (fun v0 v1 v2 => G_e51 v0 v1 v2 P) n t0 z2 z3) I := by
  intro n
  induction n with
  | zero => exact fun _ _ _ _ => xf_F
  | succ n22 ih =>
    intro t0 z2 z3 i_t0
    unfold wp_X7_isWord_L22
    exact (xf_b1 (F := fun k => wp_J0_length_8abf5 k i1) (xf_dt (dt_J0_length_8abf5 i1)) (fun r_4 _ => (xf_p (h_e51 t0 z2 z3 i_t0) (xf_b1 (F := fun k => wp_X7_byteAt k t0 (z2 + z3)) (xf_dt (dt_X7_byteAt t0 (z2 + z3))) (fun r_7 _ => (xf_b1 (F := fun k => wp_J0_charAt_5068e k i1 z3) (xf_dt (dt_J0_charAt_5068e i1 z3)) (fun r_9 _ => (xf_n (h_e51 t0 z2 z3 i_t0) (ih t0 z2 (z3 + 1) i_t0)))))))))
set_option maxHeartbeats 4000000 in
theorem fv_X7_isWord_L22b (i1 : Nat) {O : Type} {I : O → Prop} {c0 : (Nat → Int64)}  {G_post : Int32 → Md → (O → Prop) → Prop} {G_e51 : Md → Int32 → Int32 → (O → Prop) → Prop} (h_post : ∀ (v0 : Int32) (v1 : Md), v1.2.2.1 0 = c0 → xf (G_post v0 v1) I) (h_e51 : ∀ (v0 : Md) (v1 : Int32) (v2 : Int32), v0.2.2.1 0 = c0 → xf (G_e51 v0 v1 v2) I) : ∀ (n : Nat) (t0 : Md) (z2 : Int32) (z3 : Int32), t0.2.2.1 0 = c0 → xf (fun P : O → Prop => wp_X7_isWord_L22b i1 (fun v0 v1 => G_post v0 v1 P) (fun v0 v1 v2 => G_e51 v0 v1 v2 P) n t0 z2 z3) I := by
  intro n
  induction n with
  | zero => exact fun _ _ _ _ => xf_F
  | succ n22 ih =>
    intro t0 z2 z3 i_t0
    unfold wp_X7_isWord_L22b
    exact (xf_b1 (F := fun k => wp_J0_length_8abf5 k i1) (xf_dt (dt_J0_length_8abf5 i1)) (fun r_20 _ => (xf_p (h_e51 t0 z2 z3 i_t0) (xf_b1 (F := fun k => wp_X7_byteAt k t0 (z2 + z3)) (xf_dt (dt_X7_byteAt t0 (z2 + z3))) (fun r_23 _ => (xf_b1 (F := fun k => wp_J0_charAt_5068e k i1 z3) (xf_dt (dt_J0_charAt_5068e i1 z3)) (fun r_25 _ => (xf_n (h_e51 t0 z2 z3 i_t0) (ih t0 z2 (z3 + 1) i_t0)))))))))
set_option maxHeartbeats 4000000 in
theorem fw_X7_isWord (s0 : Md) (i1 : Nat) : xf (fun P : (Int32 × Md) → Prop => wp_X7_isWord (fun a0 a1 => P (a0, a1)) s0 i1) (fun o => o.2.2.2.1 0 = s0.2.2.1 0) := by
  unfold wp_X7_isWord
  exact (xf_b2 (F := fun k => wp_X7_nextByte k s0) (fw_X7_nextByte s0) (fun r_1 u_2 j_u_2 => have i_u_2 := j_u_2.trans rfl; (xf_n (xf_x (fun n22 => (fv_X7_isWord_L22 i1 (fun v0 v1 i_v1 => (xf_r i_v1)) (fun t0 z2 z3 i_t0 => (xf_b1 (F := fun k => wp_J0_length_8abf5 k i1) (xf_dt (dt_J0_length_8abf5 i1)) (fun r_12 _ => (xf_n (xf_r i_t0) (xf_b1 (F := fun k => wp_X7_byteAt k t0 (z2 + z3)) (xf_dt (dt_X7_byteAt t0 (z2 + z3))) (fun r_15 _ => (xf_b1 (F := fun k => wp_X7_in k (Int32.toInt64 r_15) (97 : Int64) (122 : Int64)) (xf_dt (dt_X7_in (Int32.toInt64 r_15) (97 : Int64) (122 : Int64))) (fun r_17 _ => (xf_n (xf_r i_t0) (xf_r i_t0)))))))))) n22 u_2 (u_2.1 6) 0 i_u_2))) (xf_x (fun n22 => (fv_X7_isWord_L22b i1 (fun v0 v1 i_v1 => (xf_r i_v1)) (fun t0 z2 z3 i_t0 => (xf_b1 (F := fun k => wp_J0_length_8abf5 k i1) (xf_dt (dt_J0_length_8abf5 i1)) (fun r_28 _ => (xf_n (xf_r i_t0) (xf_b1 (F := fun k => wp_X7_byteAt k t0 (z2 + z3)) (xf_dt (dt_X7_byteAt t0 (z2 + z3))) (fun r_31 _ => (xf_b1 (F := fun k => wp_X7_in k (Int32.toInt64 r_31) (97 : Int64) (122 : Int64)) (xf_dt (dt_X7_in (Int32.toInt64 r_31) (97 : Int64) (122 : Int64))) (fun r_33 _ => (xf_n (xf_r i_t0) (xf_r i_t0)))))))))) n22 u_2 (u_2.1 5) 0 i_u_2))))))
set_option maxHeartbeats 4000000 in
theorem fw_X7_takesWord (s0 : Md) (i1 : Nat) : xf (fun P : (Int32 × Md) → Prop => wp_X7_takesWord (fun a0 a1 => P (a0, a1)) s0 i1) (fun o => o.2.2.2.1 0 = s0.2.2.1 0) := by
  unfold wp_X7_takesWord
  exact (xf_b2 (F := fun k => wp_X7_isWord k s0 i1) (fw_X7_isWord s0 i1) (fun r_1 u_2 j_u_2 => have i_u_2 := j_u_2.trans rfl; (xf_p (xf_c (xf_r i_u_2)) (xf_b1 (F := fun k => wp_J0_length_8abf5 k i1) (xf_dt (dt_J0_length_8abf5 i1)) (fun r_5 _ => (xf_c (xf_r i_u_2)))))))
set_option maxHeartbeats 4000000 in
theorem fw_X7_mustWord (s0 : Md) (i1 : Nat) : xf (fun P : (Int32 × Md) → Prop => wp_X7_mustWord (fun a0 a1 => P (a0, a1)) s0 i1) (fun o => o.2.2.2.1 0 = s0.2.2.1 0) := by
  unfold wp_X7_mustWord
  exact (xf_b2 (F := fun k => wp_X7_takesWord k s0 i1) (fw_X7_takesWord s0 i1) (fun r_1 u_2 j_u_2 => have i_u_2 := j_u_2.trans rfl; (xf_n (xf_r i_u_2) (xf_b2 (F := fun k => wp_X7_fails k u_2 (1 : Int32) (u_2.1 6)) (fw_X7_fails u_2 (1 : Int32) (u_2.1 6)) (fun r_4 u_5 j_u_5 => have i_u_5 := j_u_5.trans i_u_2; (xf_p (xf_r i_u_5) (xf_r i_u_5)))))))
set_option maxHeartbeats 4000000 in
theorem fw_X7_takesByte (s0 : Md) (x1 : Int32) : xf (fun P : (Int32 × Md) → Prop => wp_X7_takesByte (fun a0 a1 => P (a0, a1)) s0 x1) (fun o => o.2.2.2.1 0 = s0.2.2.1 0) := by
  unfold wp_X7_takesByte
  exact (xf_b2 (F := fun k => wp_X7_nextByte k s0) (fw_X7_nextByte s0) (fun r_1 u_2 j_u_2 => have i_u_2 := j_u_2.trans rfl; (xf_n (xf_r i_u_2) (xf_r i_u_2))))
set_option maxHeartbeats 4000000 in
theorem fw_X7_mustByte (s0 : Md) (x1 : Int32) : xf (fun P : (Int32 × Md) → Prop => wp_X7_mustByte (fun a0 a1 => P (a0, a1)) s0 x1) (fun o => o.2.2.2.1 0 = s0.2.2.1 0) := by
  unfold wp_X7_mustByte
  exact (xf_b2 (F := fun k => wp_X7_takesByte k s0 x1) (fw_X7_takesByte s0 x1) (fun r_1 u_2 j_u_2 => have i_u_2 := j_u_2.trans rfl; (xf_n (xf_r i_u_2) (xf_b2 (F := fun k => wp_X7_fails k u_2 (1 : Int32) (u_2.1 6)) (fw_X7_fails u_2 (1 : Int32) (u_2.1 6)) (fun r_4 u_5 j_u_5 => have i_u_5 := j_u_5.trans i_u_2; (xf_p (xf_r i_u_5) (xf_r i_u_5)))))))
set_option maxHeartbeats 4000000 in
theorem fv_X7_readsNumber_L40  {O : Type} {I : O → Prop} {c0 : (Nat → Int64)}  {G_post : Int32 → Md → (O → Prop) → Prop} {G_e107 : Md → Int32 → Int32 → (O → Prop) → Prop} (h_post : ∀ (v0 : Int32) (v1 : Md), v1.2.2.1 0 = c0 → xf (G_post v0 v1) I) (h_e107 : ∀ (v0 : Md) (v1 : Int32) (v2 : Int32), v0.2.2.1 0 = c0 → xf (G_e107 v0 v1 v2) I) : ∀ (n : Nat) (t0 : Md) (z1 : Int32) (z2 : Int32), t0.2.2.1 0 = c0 → xf (fun P : O → Prop => wp_X7_readsNumber_L40 (fun v0 v1 => G_post v0 v1 P) (fun v0 v1 v2 => G_e107 v0 v1 v2 P) n t0 z1 z2) I := by
  intro n
  induction n with
  | zero => exact fun _ _ _ _ => xf_F
  | succ n40 ih =>
    intro t0 z1 z2 i_t0
    unfold wp_X7_readsNumber_L40
    exact (xf_b1 (F := fun k => wp_X7_byteAt k t0 (t0.1 6)) (xf_dt (dt_X7_byteAt t0 (t0.1 6))) (fun r_6 _ => (xf_b1 (F := fun k => wp_X7_in k (Int32.toInt64 r_6) (48 : Int64) (57 : Int64)) (xf_dt (dt_X7_in (Int32.toInt64 r_6) (48 : Int64) (57 : Int64))) (fun r_8 _ => (xf_p (h_e107 t0 z1 z2 i_t0) (xf_p (ih ((va_up t0.1 6 ((t0.1 6) + 1)), t0.2.1, t0.2.2.1, t0.2.2.2) z1 z2 i_t0) (xf_b1 (F := fun k => wp_X7_byteAt k t0 (t0.1 6)) (xf_dt (dt_X7_byteAt t0 (t0.1 6))) (fun r_12 _ => (ih ((va_up (va_up t0.1 6 ((t0.1 6) + 1)) 8 (((10 * (t0.1 8)) + r_12) - 48)), t0.2.1, t0.2.2.1, t0.2.2.2) z1 z2 i_t0)))))))))
set_option maxHeartbeats 4000000 in
theorem fw_X7_readsNumber (s0 : Md) (x1 : Int32) (x2 : Int32) : xf (fun P : (Int32 × Md) → Prop => wp_X7_readsNumber (fun a0 a1 => P (a0, a1)) s0 x1 x2) (fun o => o.2.2.2.1 0 = s0.2.2.1 0) := by
  unfold wp_X7_readsNumber
  exact (xf_b2 (F := fun k => wp_X7_nextByte k s0) (fw_X7_nextByte s0) (fun r_1 u_2 j_u_2 => have i_u_2 := j_u_2.trans rfl; (xf_b1 (F := fun k => wp_X7_in k (Int32.toInt64 r_1) (48 : Int64) (57 : Int64)) (xf_dt (dt_X7_in (Int32.toInt64 r_1) (48 : Int64) (57 : Int64))) (fun r_3 _ => (xf_n (xf_x (fun n40 => (fv_X7_readsNumber_L40  (fun v0 v1 i_v1 => (xf_r i_v1)) (fun t0 z1 z2 i_t0 => (xf_b1 (F := fun k => wp_X7_in k (Int32.toInt64 (t0.1 8)) (Int32.toInt64 z1) (Int32.toInt64 z2)) (xf_dt (dt_X7_in (Int32.toInt64 (t0.1 8)) (Int32.toInt64 z1) (Int32.toInt64 z2))) (fun r_14 _ => (xf_n (xf_r i_t0) (xf_b2 (F := fun k => wp_X7_fails k t0 (2 : Int32) (t0.1 9)) (fw_X7_fails t0 (2 : Int32) (t0.1 9)) (fun r_17 u_18 j_u_18 => have i_u_18 := j_u_18.trans i_t0; (xf_p (xf_r i_u_18) (xf_r i_u_18)))))))) n40 ((va_up (va_up u_2.1 8 0) 9 (u_2.1 6)), u_2.2.1, u_2.2.2.1, u_2.2.2.2) x1 x2 i_u_2))) (xf_b2 (F := fun k => wp_X7_fails k u_2 (1 : Int32) (u_2.1 6)) (fw_X7_fails u_2 (1 : Int32) (u_2.1 6)) (fun r_20 u_21 j_u_21 => have i_u_21 := j_u_21.trans i_u_2; (xf_c (xf_r i_u_21)))))))))
set_option maxHeartbeats 4000000 in
theorem fv_X7_readsQuoted_L24  {O : Type} {I : O → Prop} {c0 : (Nat → Int64)}  {G_post : Int32 → Md → (O → Prop) → Prop} {G_e102 : Md → Int32 → Int32 → (O → Prop) → Prop} (h_post : ∀ (v0 : Int32) (v1 : Md), v1.2.2.1 0 = c0 → xf (G_post v0 v1) I) (h_e102 : ∀ (v0 : Md) (v1 : Int32) (v2 : Int32), v0.2.2.1 0 = c0 → xf (G_e102 v0 v1 v2) I) : ∀ (n : Nat) (t0 : Md) (z1 : Int32) (z2 : Int32), t0.2.2.1 0 = c0 → xf (fun P : O → Prop => wp_X7_readsQuoted_L24 (fun v0 v1 => G_post v0 v1 P) (fun v0 v1 v2 => G_e102 v0 v1 v2 P) n t0 z1 z2) I := by
  intro n
  induction n with
  | zero => exact fun _ _ _ _ => xf_F
  | succ n24 ih =>
    intro t0 z1 z2 i_t0
    unfold wp_X7_readsQuoted_L24
    exact (xf_b1 (F := fun k => wp_X7_byteAt k t0 (t0.1 6)) (xf_dt (dt_X7_byteAt t0 (t0.1 6))) (fun r_4 _ => (xf_p (h_e102 t0 z1 z2 i_t0) (xf_b1 (F := fun k => wp_X7_byteAt k t0 (t0.1 6)) (xf_dt (dt_X7_byteAt t0 (t0.1 6))) (fun r_7 _ => (xf_b1 (F := fun k => wp_X7_isSign k r_7) (xf_dt (dt_X7_isSign r_7)) (fun r_9 _ => (xf_n (xf_n (ih ((va_up (va_up t0.1 6 ((t0.1 6) + 1)) 11 ((t0.1 11) + 1)), t0.2.1, t0.2.2.1, t0.2.2.2) z1 z2 i_t0) (xf_b2 (F := fun k => wp_X7_fails k t0 (2 : Int32) (t0.1 6)) (fw_X7_fails t0 (2 : Int32) (t0.1 6)) (fun r_13 u_14 j_u_14 => have i_u_14 := j_u_14.trans i_t0; (xf_c (h_post r_13 u_14 i_u_14))))) (xf_b2 (F := fun k => wp_X7_fails k t0 (1 : Int32) (t0.1 6)) (fw_X7_fails t0 (1 : Int32) (t0.1 6)) (fun r_16 u_17 j_u_17 => have i_u_17 := j_u_17.trans i_t0; (xf_c (h_post r_16 u_17 i_u_17))))))))))))
set_option maxHeartbeats 4000000 in
theorem fw_X7_readsQuoted (s0 : Md) (x1 : Int32) (x2 : Int32) : xf (fun P : (Int32 × Md) → Prop => wp_X7_readsQuoted (fun a0 a1 => P (a0, a1)) s0 x1 x2) (fun o => o.2.2.2.1 0 = s0.2.2.1 0) := by
  unfold wp_X7_readsQuoted
  exact (xf_b2 (F := fun k => wp_X7_mustByte k s0 (39 : Int32)) (fw_X7_mustByte s0 (39 : Int32)) (fun r_1 u_2 j_u_2 => have i_u_2 := j_u_2.trans rfl; (xf_n (xf_x (fun n24 => (fv_X7_readsQuoted_L24  (fun v0 v1 i_v1 => (xf_r i_v1)) (fun t0 z1 z2 i_t0 => (xf_p (xf_r i_t0) (xf_b2 (F := fun k => wp_X7_fails k t0 (2 : Int32) (t0.1 6)) (fw_X7_fails t0 (2 : Int32) (t0.1 6)) (fun r_20 u_21 j_u_21 => have i_u_21 := j_u_21.trans i_t0; (xf_c (xf_r i_u_21)))))) n24 ((va_up (va_up u_2.1 10 (u_2.1 6)) 11 0), u_2.2.1, u_2.2.2.1, u_2.2.2.2) x1 x2 i_u_2))) (xf_r i_u_2))))
set_option maxHeartbeats 4000000 in
theorem fw_X7_readsLose (s0 : Md) : xf (fun P : (Int32 × Md) → Prop => wp_X7_readsLose (fun a0 a1 => P (a0, a1)) s0) (fun o => o.2.2.2.1 0 = s0.2.2.1 0) := by
  unfold wp_X7_readsLose
  exact (xf_b1 (F := fun k => wp_X7_cells k ((va_up s0.1 6 ((s0.1 6) + 4)), s0.2.1, s0.2.2.1, s0.2.2.2)) (xf_dt (dt_X7_cells ((va_up s0.1 6 ((s0.1 6) + 4)), s0.2.1, s0.2.2.1, s0.2.2.2))) (fun r_1 _ => (xf_b2 (F := fun k => wp_X7_readsNumber k ((va_up s0.1 6 ((s0.1 6) + 4)), s0.2.1, s0.2.2.1, s0.2.2.2) (0 : Int32) (r_1 - 1)) (fw_X7_readsNumber ((va_up s0.1 6 ((s0.1 6) + 4)), s0.2.1, s0.2.2.1, s0.2.2.2) (0 : Int32) (r_1 - 1)) (fun r_3 u_4 j_u_4 => have i_u_4 := j_u_4.trans rfl; (xf_n (xf_b2 (F := fun k => wp_X7_readsNumber k ((va_up u_4.1 12 (u_4.1 8)), u_4.2.1, u_4.2.2.1, u_4.2.2.2) (0 : Int32) (9 : Int32)) (fw_X7_readsNumber ((va_up u_4.1 12 (u_4.1 8)), u_4.2.1, u_4.2.2.1, u_4.2.2.2) (0 : Int32) (9 : Int32)) (fun r_6 u_7 j_u_7 => have i_u_7 := j_u_7.trans i_u_4; (xf_c (xf_r i_u_7)))) (xf_r i_u_4))))))
set_option maxHeartbeats 4000000 in
theorem fw_X7_isDone (s0 : Md) (x1 : Int32) : xf (fun P : (Int32 × Md) → Prop => wp_X7_isDone (fun a0 a1 => P (a0, a1)) s0 x1) (fun o => o.2.2.2.1 0 = s0.2.2.1 0) := by
  unfold wp_X7_isDone
  exact (xf_p (xf_r rfl) (xf_n (xf_r rfl) (xf_r rfl)))
set_option maxHeartbeats 4000000 in
theorem fv_X7_goesTimes_1_L90  {O : Type} {I : O → Prop} {c0 : (Nat → Int64)}  {G_post : Int32 → Md → (O → Prop) → Prop} {G_e141 : Md → Int32 → Int32 → Int32 → Int32 → Int32 → (O → Prop) → Prop} (h_post : ∀ (v0 : Int32) (v1 : Md), v1.2.2.1 0 = c0 → xf (G_post v0 v1) I) (h_e141 : ∀ (v0 : Md) (v1 : Int32) (v2 : Int32) (v3 : Int32) (v4 : Int32) (v5 : Int32), v0.2.2.1 0 = c0 → xf (G_e141 v0 v1 v2 v3 v4 v5) I) : ∀ (n : Nat) (t0 : Md) (z1 : Int32) (z2 : Int32) (z3 : Int32) (z4 : Int32) (z5 : Int32), t0.2.2.1 0 = c0 → xf (fun P : O → Prop => wp_X7_goesTimes_1_L90 (fun v0 v1 => G_post v0 v1 P) (fun v0 v1 v2 v3 v4 v5 => G_e141 v0 v1 v2 v3 v4 v5 P) n t0 z1 z2 z3 z4 z5) I := by
  intro n
  induction n with
  | zero => exact fun _ _ _ _ _ _ _ => xf_F
  | succ n90 ih =>
    intro t0 z1 z2 z3 z4 z5 i_t0
    unfold wp_X7_goesTimes_1_L90
    exact (xf_p (xf_p xf_F (xf_p xf_F xf_F)) (xf_p (h_e141 t0 z1 z2 z3 z4 z5 i_t0) (xf_p (h_e141 t0 z1 z2 z3 z4 z5 i_t0) (xf_p xf_F (xf_p xf_F xf_F)))))
set_option maxHeartbeats 4000000 in
theorem fw_X7_goesTimes_1 (s0 : Md) (x1 : Int32) : xf (fun P : (Int32 × Md) → Prop => wp_X7_goesTimes_1 (fun a0 a1 => P (a0, a1)) s0 x1) (fun o => o.2.2.2.1 0 = s0.2.2.1 0) := by
  unfold wp_X7_goesTimes_1
  exact (xf_b2 (F := fun k => wp_X7_readsNumber k ((va_up s0.1 6 ((s0.1 6) + 5)), s0.2.1, s0.2.2.1, s0.2.2.2) (0 : Int32) (20 : Int32)) (fw_X7_readsNumber ((va_up s0.1 6 ((s0.1 6) + 5)), s0.2.1, s0.2.2.1, s0.2.2.2) (0 : Int32) (20 : Int32)) (fun r_1 u_2 j_u_2 => have i_u_2 := j_u_2.trans rfl; (xf_n (xf_b2 (F := fun k => wp_X7_nextByte k u_2) (fw_X7_nextByte u_2) (fun r_4 u_5 j_u_5 => have i_u_5 := j_u_5.trans i_u_2; (xf_n (xf_b2 (F := fun k => wp_X7_mustByte k u_5 (40 : Int32)) (fw_X7_mustByte u_5 (40 : Int32)) (fun r_7 u_8 j_u_8 => have i_u_8 := j_u_8.trans i_u_5; (xf_n (xf_b2 (F := fun k => wp_X7_isDone k u_8 x1) (fw_X7_isDone u_8 x1) (fun r_10 u_11 j_u_11 => have i_u_11 := j_u_11.trans i_u_8; (xf_x (fun n90 => (fv_X7_goesTimes_1_L90  (fun v0 v1 i_v1 => (xf_r i_v1)) (fun t0 z1 z2 z3 z4 z5 i_t0 => (xf_b2 (F := fun k => wp_X7_mustByte k t0 (41 : Int32)) (fw_X7_mustByte t0 (41 : Int32)) (fun r_19 u_20 j_u_20 => have i_u_20 := j_u_20.trans i_t0; (xf_n (xf_r i_u_20) (xf_r i_u_20))))) n90 ((va_up u_11.1 14 ((u_11.1 14) + 1)), u_11.2.1, u_11.2.2.1, u_11.2.2.2) x1 (u_2.1 8) r_10 (u_11.1 6) 0 i_u_11))))) (xf_r i_u_8)))) (xf_n (xf_b2 (F := fun k => wp_X7_mustByte k u_5 (40 : Int32)) (fw_X7_mustByte u_5 (40 : Int32)) (fun r_23 u_24 j_u_24 => have i_u_24 := j_u_24.trans i_u_5; (xf_n (xf_b2 (F := fun k => wp_X7_isDone k u_24 x1) (fw_X7_isDone u_24 x1) (fun r_26 u_27 j_u_27 => have i_u_27 := j_u_27.trans i_u_24; (xf_x (fun n90 => (fv_X7_goesTimes_1_L90  (fun v0 v1 i_v1 => (xf_r i_v1)) (fun t0 z1 z2 z3 z4 z5 i_t0 => (xf_b2 (F := fun k => wp_X7_mustByte k t0 (41 : Int32)) (fw_X7_mustByte t0 (41 : Int32)) (fun r_35 u_36 j_u_36 => have i_u_36 := j_u_36.trans i_t0; (xf_n (xf_r i_u_36) (xf_r i_u_36))))) n90 ((va_up u_27.1 14 ((u_27.1 14) + 1)), u_27.2.1, u_27.2.2.1, u_27.2.2.2) x1 (u_2.1 8) r_26 (u_27.1 6) 0 i_u_27))))) (xf_r i_u_24)))) (xf_b2 (F := fun k => wp_X7_fails k u_5 (3 : Int32) (u_5.1 6)) (fw_X7_fails u_5 (3 : Int32) (u_5.1 6)) (fun r_38 u_39 j_u_39 => have i_u_39 := j_u_39.trans i_u_5; (xf_c (xf_r i_u_39)))))))) (xf_r i_u_2))))
