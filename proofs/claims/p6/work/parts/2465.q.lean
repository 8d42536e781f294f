theorem fq_X5_blame (s0 : Tp) (x1 : Int32) (x2 : Int32) {c0 : Int32} (h0 : ¬ c0 = 0) (hs : s0.1 5 = c0) : xf (fun P : Tp → Prop => wp_X5_blame (fun a0 => P a0) s0 x1 x2) (fun o => o.1 5 = c0) := fun P h => by
  unfold wp_X5_blame at h
  exact ⟨s0, h.1 (fun g => h0 (hs.symm.trans g)), hs⟩
set_option maxHeartbeats 4000000 in
theorem fk_X5_peek_L0  {O : Type} {I : O → Prop} {c0 : Int32} (h0 : ¬ c0 = 0) {G_post : Int32 → Tp → (O → Prop) → Prop} {G_e38 : Tp → (O → Prop) → Prop} (h_post : ∀ (v0 : Int32) (v1 : Tp), v1.1 5 = c0 → xf (G_post v0 v1) I) (h_e38 : ∀ (v0 : Tp), v0.1 5 = c0 → xf (G_e38 v0) I) : ∀ (n : Nat) (t0 : Tp), t0.1 5 = c0 → xf (fun P : O → Prop => wp_X5_peek_L0 (fun v0 v1 => G_post v0 v1 P) (fun v0 => G_e38 v0 P) n t0) I := by
  intro n
  induction n with
  | zero => exact fun _ _ => xf_F
  | succ n0 ih =>
    intro t0 i_t0
    unfold wp_X5_peek_L0
    exact (xf_p (h_e38 t0 i_t0) (xf_c (xf_n (h_e38 t0 i_t0) (ih ((va_up t0.1 1 ((t0.1 1) + 1)), t0.2) i_t0))))
set_option maxHeartbeats 4000000 in
theorem fq_X5_peek (s0 : Tp) {c0 : Int32} (h0 : ¬ c0 = 0) (hs : s0.1 5 = c0) : xf (fun P : (Int32 × Tp) → Prop => wp_X5_peek (fun a0 a1 => P (a0, a1)) s0) (fun o => o.2.1 5 = c0) := by
  unfold wp_X5_peek
  exact (xf_x (fun n0 => (fk_X5_peek_L0  h0 (fun v0 v1 i_v1 => (xf_r i_v1)) (fun t0 i_t0 => (xf_p (xf_r i_t0) (xf_c (xf_r i_t0)))) n0 s0 hs)))
set_option maxHeartbeats 4000000 in
theorem fk_X5_takeWord_L13  {O : Type} {I : O → Prop} {c0 : Int32} (h0 : ¬ c0 = 0) {G_post : Int32 → Tp → (O → Prop) → Prop} {G_e63 : Tp → (O → Prop) → Prop} (h_post : ∀ (v0 : Int32) (v1 : Tp), v1.1 5 = c0 → xf (G_post v0 v1) I) (h_e63 : ∀ (v0 : Tp), v0.1 5 = c0 → xf (G_e63 v0) I) : ∀ (n : Nat) (t0 : Tp), t0.1 5 = c0 → xf (fun P : O → Prop => wp_X5_takeWord_L13 (fun v0 v1 => G_post v0 v1 P) (fun v0 => G_e63 v0 P) n t0) I := by
  intro n
  induction n with
  | zero => exact fun _ _ => xf_F
  | succ n13 ih =>
    intro t0 i_t0
    unfold wp_X5_takeWord_L13
    exact (xf_p (h_e63 t0 i_t0) (xf_b1 (F := fun k => wp_X5_byteAt k t0 (t0.1 1)) (xf_dt (dt_X5_byteAt t0 (t0.1 1))) (fun r_4 _ => (xf_p (h_e63 t0 i_t0) (xf_b1 (F := fun k => wp_X5_byteAt k t0 (t0.1 1)) (xf_dt (dt_X5_byteAt t0 (t0.1 1))) (fun r_7 _ => (xf_p (h_e63 t0 i_t0) (ih ((va_up t0.1 1 ((t0.1 1) + 1)), t0.2) i_t0))))))))
set_option maxHeartbeats 4000000 in
theorem fq_X5_takeWord (s0 : Tp) {c0 : Int32} (h0 : ¬ c0 = 0) (hs : s0.1 5 = c0) : xf (fun P : (Int32 × Tp) → Prop => wp_X5_takeWord (fun a0 a1 => P (a0, a1)) s0) (fun o => o.2.1 5 = c0) := by
  unfold wp_X5_takeWord
  exact (xf_b2 (F := fun k => wp_X5_peek k s0) (fq_X5_peek s0 h0 hs) (fun r_1 u_2 i_u_2 => (xf_x (fun n13 => (fk_X5_takeWord_L13  h0 (fun v0 v1 i_v1 => (xf_r i_v1)) (fun t0 i_t0 => (xf_b1 (F := fun k => wp_X5_wordRead k t0) (xf_dt (dt_X5_wordRead t0)) (fun r_10 _ => (xf_r i_t0)))) n13 ((va_up u_2.1 2 (u_2.1 1)), u_2.2) i_u_2)))))
set_option maxHeartbeats 4000000 in
theorem fq_X5_takeThisWord (s0 : Tp) (x1 : Int32) {c0 : Int32} (h0 : ¬ c0 = 0) (hs : s0.1 5 = c0) : xf (fun P : Tp → Prop => wp_X5_takeThisWord (fun a0 => P a0) s0 x1) (fun o => o.1 5 = c0) := by
  unfold wp_X5_takeThisWord
  exact (xf_b2 (F := fun k => wp_X5_takeWord k s0) (fq_X5_takeWord s0 h0 hs) (fun r_1 u_2 i_u_2 => (xf_p (xf_r i_u_2) (xf_b1 (F := fun k => wp_X5_blame k u_2 (u_2.1 2) (1 : Int32)) (fq_X5_blame u_2 (u_2.1 2) (1 : Int32) h0 i_u_2) (fun u_5 i_u_5 => (xf_r i_u_5))))))
set_option maxHeartbeats 4000000 in
theorem fk_X5_takeNumber_L15  {O : Type} {I : O → Prop} {c0 : Int32} (h0 : ¬ c0 = 0) {G_post : Int32 → Tp → (O → Prop) → Prop} {G_e88 : Tp → Int32 → Int32 → Int32 → (O → Prop) → Prop} (h_post : ∀ (v0 : Int32) (v1 : Tp), v1.1 5 = c0 → xf (G_post v0 v1) I) (h_e88 : ∀ (v0 : Tp) (v1 : Int32) (v2 : Int32) (v3 : Int32), v0.1 5 = c0 → xf (G_e88 v0 v1 v2 v3) I) : ∀ (n : Nat) (t0 : Tp) (z1 : Int32) (z2 : Int32) (z3 : Int32), t0.1 5 = c0 → xf (fun P : O → Prop => wp_X5_takeNumber_L15 (fun v0 v1 => G_post v0 v1 P) (fun v0 v1 v2 v3 => G_e88 v0 v1 v2 v3 P) n t0 z1 z2 z3) I := by
  intro n
  induction n with
  | zero => exact fun _ _ _ _ _ => xf_F
  | succ n15 ih =>
    intro t0 z1 z2 z3 i_t0
    unfold wp_X5_takeNumber_L15
    exact (xf_p (h_e88 t0 z1 z2 z3 i_t0) (xf_b1 (F := fun k => wp_X5_byteAt k t0 (t0.1 1)) (xf_dt (dt_X5_byteAt t0 (t0.1 1))) (fun r_4 _ => (xf_p (h_e88 t0 z1 z2 z3 i_t0) (xf_b1 (F := fun k => wp_X5_byteAt k t0 (t0.1 1)) (xf_dt (dt_X5_byteAt t0 (t0.1 1))) (fun r_7 _ => (xf_p (h_e88 t0 z1 z2 z3 i_t0) (xf_b1 (F := fun k => wp_X5_byteAt k t0 (t0.1 1)) (xf_dt (dt_X5_byteAt t0 (t0.1 1))) (fun r_10 _ => (ih ((va_up t0.1 1 ((t0.1 1) + 1)), t0.2) z1 z2 (if ((((z3 * 10) + r_10) - 48) < (1000 : Int32)) then (((z3 * 10) + r_10) - 48) else (1000 : Int32)) i_t0))))))))))
set_option maxHeartbeats 4000000 in
theorem fq_X5_takeNumber (s0 : Tp) (x1 : Int32) (x2 : Int32) {c0 : Int32} (h0 : ¬ c0 = 0) (hs : s0.1 5 = c0) : xf (fun P : (Int32 × Tp) → Prop => wp_X5_takeNumber (fun a0 a1 => P (a0, a1)) s0 x1 x2) (fun o => o.2.1 5 = c0) := by
  unfold wp_X5_takeNumber
  exact (xf_b2 (F := fun k => wp_X5_peek k s0) (fq_X5_peek s0 h0 hs) (fun r_1 u_2 i_u_2 => (xf_x (fun n15 => (fk_X5_takeNumber_L15  h0 (fun v0 v1 i_v1 => (xf_r i_v1)) (fun t0 z1 z2 z3 i_t0 => (xf_n (xf_p (xf_b1 (F := fun k => wp_X5_blame k t0 (t0.1 2) (2 : Int32)) (fq_X5_blame t0 (t0.1 2) (2 : Int32) h0 i_t0) (fun u_15 i_u_15 => (xf_r i_u_15))) (xf_p (xf_r i_t0) (xf_b1 (F := fun k => wp_X5_blame k t0 (t0.1 2) (2 : Int32)) (fq_X5_blame t0 (t0.1 2) (2 : Int32) h0 i_t0) (fun u_18 i_u_18 => (xf_r i_u_18))))) (xf_b1 (F := fun k => wp_X5_blame k t0 (t0.1 1) (1 : Int32)) (fq_X5_blame t0 (t0.1 1) (1 : Int32) h0 i_t0) (fun u_20 i_u_20 => (xf_r i_u_20))))) n15 ((va_up u_2.1 2 (u_2.1 1)), u_2.2) x1 x2 0 i_u_2)))))
set_option maxHeartbeats 4000000 in
theorem fq_X5_takeByte (s0 : Tp) (x1 : Int32) {c0 : Int32} (h0 : ¬ c0 = 0) (hs : s0.1 5 = c0) : xf (fun P : Tp → Prop => wp_X5_takeByte (fun a0 => P a0) s0 x1) (fun o => o.1 5 = c0) := by
  unfold wp_X5_takeByte
  exact (xf_b2 (F := fun k => wp_X5_peek k s0) (fq_X5_peek s0 h0 hs) (fun r_1 u_2 i_u_2 => (xf_n (xf_b1 (F := fun k => wp_X5_blame k u_2 (u_2.1 1) (1 : Int32)) (fq_X5_blame u_2 (u_2.1 1) (1 : Int32) h0 i_u_2) (fun u_5 i_u_5 => (xf_r i_u_5))) (xf_r i_u_2))))
set_option maxHeartbeats 4000000 in
theorem fk_X5_takeQuoted_L14  {O : Type} {I : O → Prop} {c0 : Int32} (h0 : ¬ c0 = 0) {G_post : Tp → (O → Prop) → Prop} {G_e106 : Tp → Int32 → Int32 → (O → Prop) → Prop} (h_post : ∀ (v0 : Tp), v0.1 5 = c0 → xf (G_post v0) I) (h_e106 : ∀ (v0 : Tp) (v1 : Int32) (v2 : Int32), v0.1 5 = c0 → xf (G_e106 v0 v1 v2) I) : ∀ (n : Nat) (t0 : Tp) (z1 : Int32) (z2 : Int32), t0.1 5 = c0 → xf (fun P : O → Prop => wp_X5_takeQuoted_L14 (fun v0 => G_post v0 P) (fun v0 v1 v2 => G_e106 v0 v1 v2 P) n t0 z1 z2) I := by
  intro n
  induction n with
  | zero => exact fun _ _ _ _ => xf_F
  | succ n14 ih =>
    intro t0 z1 z2 i_t0
    unfold wp_X5_takeQuoted_L14
    exact (xf_p (h_e106 t0 z1 z2 i_t0) (xf_b1 (F := fun k => wp_X5_isSound k t0) (xf_dt (dt_X5_isSound t0)) (fun r_4 _ => (xf_p (h_e106 t0 z1 z2 i_t0) (xf_b1 (F := fun k => wp_X5_byteAt k t0 (t0.1 1)) (xf_dt (dt_X5_byteAt t0 (t0.1 1))) (fun r_7 _ => (xf_p (h_e106 t0 z1 z2 i_t0) (xf_b1 (F := fun k => wp_X5_byteAt k t0 (t0.1 1)) (xf_dt (dt_X5_byteAt t0 (t0.1 1))) (fun r_10 _ => (xf_b1 (F := fun k => wp_X6_isSign k r_10) (xf_dt (dt_X6_isSign r_10)) (fun r_12 _ => (xf_n (xf_p (ih ((va_up t0.1 1 ((t0.1 1) + 1)), t0.2) z1 z2 i_t0) (xf_b1 (F := fun k => wp_X5_blame k t0 (t0.1 1) (2 : Int32)) (fq_X5_blame t0 (t0.1 1) (2 : Int32) h0 i_t0) (fun u_17 i_u_17 => (ih ((va_up u_17.1 1 ((u_17.1 1) + 1)), u_17.2) z1 z2 i_u_17)))) (xf_b1 (F := fun k => wp_X5_blame k t0 (t0.1 1) (1 : Int32)) (fq_X5_blame t0 (t0.1 1) (1 : Int32) h0 i_t0) (fun u_19 i_u_19 => (ih ((va_up u_19.1 1 ((u_19.1 1) + 1)), u_19.2) z1 z2 i_u_19)))))))))))))))
set_option maxHeartbeats 4000000 in
theorem fq_X5_takeQuoted (s0 : Tp) (x1 : Int32) (x2 : Int32) {c0 : Int32} (h0 : ¬ c0 = 0) (hs : s0.1 5 = c0) : xf (fun P : Tp → Prop => wp_X5_takeQuoted (fun a0 => P a0) s0 x1 x2) (fun o => o.1 5 = c0) := by
  unfold wp_X5_takeQuoted
  exact (xf_b1 (F := fun k => wp_X5_takeByte k s0 (39 : Int32)) (fq_X5_takeByte s0 (39 : Int32) h0 hs) (fun u_2 i_u_2 => (xf_x (fun n14 => (fk_X5_takeQuoted_L14  h0 (fun v0 i_v0 => (xf_r i_v0)) (fun t0 z1 z2 i_t0 => (xf_p (xf_p (xf_r i_t0) (xf_b1 (F := fun k => wp_X5_blame k ((va_up t0.1 4 ((t0.1 1) - (t0.1 3))), t0.2) (t0.1 1) (2 : Int32)) (fq_X5_blame ((va_up t0.1 4 ((t0.1 1) - (t0.1 3))), t0.2) (t0.1 1) (2 : Int32) h0 i_t0) (fun u_23 i_u_23 => (xf_r i_u_23)))) (xf_b1 (F := fun k => wp_X5_blame k ((va_up t0.1 4 ((t0.1 1) - (t0.1 3))), t0.2) (t0.1 0) (1 : Int32)) (fq_X5_blame ((va_up t0.1 4 ((t0.1 1) - (t0.1 3))), t0.2) (t0.1 0) (1 : Int32) h0 i_t0) (fun u_25 i_u_25 => (xf_r i_u_25))))) n14 ((va_up u_2.1 3 (u_2.1 1)), u_2.2) x1 x2 i_u_2)))))
