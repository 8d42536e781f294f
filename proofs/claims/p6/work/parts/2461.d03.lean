set_option maxHeartbeats 4000000 in
theorem dt_X6_tryToSettle (s2 : Bd) (s3 : Bd) (s4 : Mo) : dt (fun P : (Bd × Mo) → Prop => wp_X6_tryToSettle (fun a0 a1 => P (a0, a1)) s2 s3 s4) (fun P : (Bd × Mo) → Prop => wp_X6_tryToSettle (fun a0 a1 => P (a0, a1)) s2 s3 s4) := by
  unfold wp_X6_tryToSettle
  exact (dt_b1 (F := fun k => wp_X0_copyAllButLog k s3 s2) (dt_X0_copyAllButLog s3 s2) (fun u_2 => (dt_b2 (F := fun k => wp_X2_turn k s4 u_2 (9999 : Int32)) (dt_X2_turn s4 u_2 (9999 : Int32)) (fun u_4a u_4b => (dt_r _)))))
set_option maxHeartbeats 4000000 in
theorem dt_X6_when (s2 : Bd) (s3 : Bd) (s4 : Mo) (x1 : Int32) : dt (fun P : (Int32 × Bd × Mo) → Prop => wp_X6_when (fun a0 a1 a2 => P (a0, a1, a2)) s2 s3 s4 x1) (fun P : (Int32 × Bd × Mo) → Prop => wp_X6_when (fun a0 a1 a2 => P (a0, a1, a2)) s2 s3 s4 x1) := by
  unfold wp_X6_when
  exact (dt_b1 (F := fun k => wp_X0_isThere k s2) (dt_X0_isThere s2) (fun r_1 => (dt_p (dt_r _) (dt_p (dt_r _) (dt_p (dt_b2 (F := fun k => wp_X6_tryToSettle k s2 s3 s4) (dt_X6_tryToSettle s2 s3 s4) (fun u_7a u_7b => (dt_p (dt_r _) (dt_p (dt_r _) (dt_p (dt_r _) (dt_p (dt_r _) (dt_p (dt_b1 (F := fun k => wp_X0_wrongCount k u_7a) (dt_X0_wrongCount u_7a) (fun r_13 => (dt_r _))) (dt_p (dt_r _) (dt_r _))))))))) (dt_r _))))))
set_option maxHeartbeats 4000000 in
theorem dt_X6_loudest (s2 : Bd) (s3 : Bd) (s4 : Mo) (x1 : Int32) : dt (fun P : (Int32 × Bd × Mo) → Prop => wp_X6_loudest (fun a0 a1 a2 => P (a0, a1, a2)) s2 s3 s4 x1) (fun P : (Int32 × Bd × Mo) → Prop => wp_X6_loudest (fun a0 a1 a2 => P (a0, a1, a2)) s2 s3 s4 x1) := by
  unfold wp_X6_loudest
  exact (dt_b1 (F := fun k => wp_X0_isThere k s2) (dt_X0_isThere s2) (fun r_1 => (dt_p (dt_r _) (dt_p (dt_r _) (dt_p (dt_b2 (F := fun k => wp_X6_tryToSettle k s2 s3 s4) (dt_X6_tryToSettle s2 s3 s4) (fun u_7a u_7b => (dt_n (dt_n (dt_r _) (dt_r _)) (dt_r _)))) (dt_r _))))))
set_option maxHeartbeats 4000000 in
theorem dt_X6_total (s2 : Bd) (x1 : Int32) : dt (fun P : Int32 → Prop => wp_X6_total (fun a0 => P a0) s2 x1) (fun P : Int32 → Prop => wp_X6_total (fun a0 => P a0) s2 x1) := by
  unfold wp_X6_total
  exact (dt_b1 (F := fun k => wp_X0_isThere k s2) (dt_X0_isThere s2) (fun r_1 => (dt_n (dt_p (dt_r _) (dt_p (dt_r _) (dt_p (dt_b1 (F := fun k => wp_X0_sumOf_8 k s2) (dt_X0_sumOf_8 s2) (fun r_7 => (dt_r _))) (dt_p (dt_b1 (F := fun k => wp_X0_sumOf_9 k s2) (dt_X0_sumOf_9 s2) (fun r_10 => (dt_r _))) (dt_r _))))) (dt_r _))))
set_option maxHeartbeats 4000000 in
theorem dl_X6_rests_L26 (s2 : Bd) {O : Type} {G_post G2_post : Int32 → Bd → Mo → (O → Prop) → Prop} {G_e77 G2_e77 : Bd → Mo → Int32 → Int32 → (O → Prop) → Prop} (h_post : ∀ v0 v1 v2, dt (G_post v0 v1 v2) (G2_post v0 v1 v2)) (h_e77 : ∀ v0 v1 v2 v3, dt (G_e77 v0 v1 v2 v3) (G2_e77 v0 v1 v2 v3)) : ∀ (n m : Nat) (t2 : Bd) (t3 : Mo) (z1 : Int32) (z2 : Int32), dt (fun P : O → Prop => wp_X6_rests_L26 s2 (fun v0 v1 v2 => G_post v0 v1 v2 P) (fun v0 v1 v2 v3 => G_e77 v0 v1 v2 v3 P) n t2 t3 z1 z2) (fun P : O → Prop => wp_X6_rests_L26 s2 (fun v0 v1 v2 => G2_post v0 v1 v2 P) (fun v0 v1 v2 v3 => G2_e77 v0 v1 v2 v3 P) m t2 t3 z1 z2) := by
  intro n
  induction n with
  | zero => exact fun _ _ _ _ _ => dt_F
  | succ n26 ih =>
    intro m t2 t3 z1 z2
    have key : ∀ m9 : Nat, dt (fun P : O → Prop => wp_X6_rests_L26 s2 (fun v0 v1 v2 => G_post v0 v1 v2 P) (fun v0 v1 v2 v3 => G_e77 v0 v1 v2 v3 P) (n26 + 1) t2 t3 z1 z2) (fun P : O → Prop => wp_X6_rests_L26 s2 (fun v0 v1 v2 => G2_post v0 v1 v2 P) (fun v0 v1 v2 v3 => G2_e77 v0 v1 v2 v3 P) (m9 + 1) t2 t3 z1 z2) := by
      intro m9
      unfold wp_X6_rests_L26
      exact (dt_p (h_e77 t2 t3 z1 z2) (dt_b1 (F := fun k => wp_X0_leftOf k t2 z1) (dt_X0_leftOf t2 z1) (fun r_7 => (dt_n (dt_b2 (F := fun k => wp_X2_turn k t3 t2 (1 : Int32)) (dt_X2_turn t3 t2 (1 : Int32)) (fun u_11a u_11b => (dt_n (ih m9 u_11b u_11a z1 (z2 + 1)) (h_post (-2) u_11b u_11a)))) (h_post z2 t2 t3)))))
    cases m with
    | zero => exact dt_0 (key 0)
    | succ m9 => exact key m9
set_option maxHeartbeats 4000000 in
theorem dt_X6_rests (s2 : Bd) (s3 : Bd) (s4 : Mo) (x1 : Int32) : dt (fun P : (Int32 × Bd × Mo) → Prop => wp_X6_rests (fun a0 a1 a2 => P (a0, a1, a2)) s2 s3 s4 x1) (fun P : (Int32 × Bd × Mo) → Prop => wp_X6_rests (fun a0 a1 a2 => P (a0, a1, a2)) s2 s3 s4 x1) := by
  unfold wp_X6_rests
  exact (dt_b1 (F := fun k => wp_X0_hasCell k s2 x1) (dt_X0_hasCell s2 x1) (fun r_1 => (dt_n (dt_b1 (F := fun k => wp_X0_copyAllButLog k s3 s2) (dt_X0_copyAllButLog s3 s2) (fun u_5 => (dt_x (fun n26 m_n26 => (dl_X6_rests_L26 s2 (fun v0 v1 v2 => (dt_r _)) (fun t2 t3 z1 z2 => (dt_r _)) n26 m_n26 u_5 s4 x1 0))))) (dt_r _))))
set_option maxHeartbeats 4000000 in
theorem dt_X6_cost (s1 : Tp) (s2 : Bd) (x1 : Int32) : dt (fun P : Int32 → Prop => wp_X6_cost (fun a0 => P a0) s1 s2 x1) (fun P : Int32 → Prop => wp_X6_cost (fun a0 => P a0) s1 s2 x1) := by
  unfold wp_X6_cost
  exact (dt_b1 (F := fun k => wp_X6_whyNotRow k s1 s2 x1) (dt_X6_whyNotRow s1 s2 x1) (fun r_1 => (dt_n (dt_r _) (dt_b1 (F := fun k => wp_X0_costOf k s2 s1 x1 (0 : Int32) (0 : Int32) (s1.1 0)) (dt_X0_costOf s2 s1 x1 (0 : Int32) (0 : Int32) (s1.1 0)) (fun r_4 => (dt_r _))))))
set_option maxHeartbeats 4000000 in
theorem dl_X6_best_L39 (s1 : Tp) (s2 : Bd) {O : Type} {G_post G2_post : Int32 → (O → Prop) → Prop} {G_e187 G2_e187 : Int32 → Int32 → Int32 → Int32 → Int32 → Int32 → Int32 → Int32 → (O → Prop) → Prop} (h_post : ∀ v0, dt (G_post v0) (G2_post v0)) (h_e187 : ∀ v0 v1 v2 v3 v4 v5 v6 v7, dt (G_e187 v0 v1 v2 v3 v4 v5 v6 v7) (G2_e187 v0 v1 v2 v3 v4 v5 v6 v7)) : ∀ (n m : Nat) (z1 : Int32) (z2 : Int32) (z3 : Int32) (z4 : Int32) (z5 : Int32) (z6 : Int32) (z7 : Int32) (z8 : Int32), dt (fun P : O → Prop => wp_X6_best_L39 s1 s2 (fun v0 => G_post v0 P) (fun v0 v1 v2 v3 v4 v5 v6 v7 => G_e187 v0 v1 v2 v3 v4 v5 v6 v7 P) n z1 z2 z3 z4 z5 z6 z7 z8) (fun P : O → Prop => wp_X6_best_L39 s1 s2 (fun v0 => G2_post v0 P) (fun v0 v1 v2 v3 v4 v5 v6 v7 => G2_e187 v0 v1 v2 v3 v4 v5 v6 v7 P) m z1 z2 z3 z4 z5 z6 z7 z8) := by
  intro n
  induction n with
  | zero => exact fun _ _ _ _ _ _ _ _ _ => dt_F
  | succ n39 ih =>
    intro m z1 z2 z3 z4 z5 z6 z7 z8
    have key : ∀ m9 : Nat, dt (fun P : O → Prop => wp_X6_best_L39 s1 s2 (fun v0 => G_post v0 P) (fun v0 v1 v2 v3 v4 v5 v6 v7 => G_e187 v0 v1 v2 v3 v4 v5 v6 v7 P) (n39 + 1) z1 z2 z3 z4 z5 z6 z7 z8) (fun P : O → Prop => wp_X6_best_L39 s1 s2 (fun v0 => G2_post v0 P) (fun v0 v1 v2 v3 v4 v5 v6 v7 => G2_e187 v0 v1 v2 v3 v4 v5 v6 v7 P) (m9 + 1) z1 z2 z3 z4 z5 z6 z7 z8) := by
      intro m9
      unfold wp_X6_best_L39
      exact (dt_p (h_e187 z1 z2 z3 z4 z5 z6 z7 z8) (dt_p (dt_b1 (F := fun k => wp_X6_isRowText k s1 s2 z4 (z8 - z4)) (dt_X6_isRowText s1 s2 z4 (z8 - z4)) (fun r_8 => (dt_n (dt_b1 (F := fun k => wp_X0_costOf k s2 s1 z1 (0 : Int32) z4 (z8 - z4)) (dt_X0_costOf s2 s1 z1 (0 : Int32) z4 (z8 - z4)) (fun r_11 => (dt_b1 (F := fun k => wp_X0_missesOf k s2 s1 z1 (0 : Int32) z4 (z8 - z4)) (dt_X0_missesOf s2 s1 z1 (0 : Int32) z4 (z8 - z4)) (fun r_13 => (dt_p (ih m9 z1 z2 (z3 + 1) (z8 + 1) z3 r_11 r_13 (z8 + 1)) (dt_p (ih m9 z1 z2 (z3 + 1) (z8 + 1) z3 r_11 r_13 (z8 + 1)) (dt_n (ih m9 z1 z2 (z3 + 1) (z8 + 1) z5 z6 z7 (z8 + 1)) (dt_p (ih m9 z1 z2 (z3 + 1) (z8 + 1) z5 z6 z7 (z8 + 1)) (ih m9 z1 z2 (z3 + 1) (z8 + 1) z3 r_11 r_13 (z8 + 1)))))))))) (h_post (-2))))) (dt_b1 (F := fun k => wp_X5_byteAt k s1 z8) (dt_X5_byteAt s1 z8) (fun r_19 => (dt_n (ih m9 z1 z2 z3 z4 z5 z6 z7 (z8 + 1)) (dt_b1 (F := fun k => wp_X6_isRowText k s1 s2 z4 (z8 - z4)) (dt_X6_isRowText s1 s2 z4 (z8 - z4)) (fun r_22 => (dt_n (dt_b1 (F := fun k => wp_X0_costOf k s2 s1 z1 (0 : Int32) z4 (z8 - z4)) (dt_X0_costOf s2 s1 z1 (0 : Int32) z4 (z8 - z4)) (fun r_25 => (dt_b1 (F := fun k => wp_X0_missesOf k s2 s1 z1 (0 : Int32) z4 (z8 - z4)) (dt_X0_missesOf s2 s1 z1 (0 : Int32) z4 (z8 - z4)) (fun r_27 => (dt_p (ih m9 z1 z2 (z3 + 1) (z8 + 1) z3 r_25 r_27 (z8 + 1)) (dt_p (ih m9 z1 z2 (z3 + 1) (z8 + 1) z3 r_25 r_27 (z8 + 1)) (dt_n (ih m9 z1 z2 (z3 + 1) (z8 + 1) z5 z6 z7 (z8 + 1)) (dt_p (ih m9 z1 z2 (z3 + 1) (z8 + 1) z5 z6 z7 (z8 + 1)) (ih m9 z1 z2 (z3 + 1) (z8 + 1) z3 r_25 r_27 (z8 + 1)))))))))) (h_post (-2))))))))))
    cases m with
    | zero => exact dt_0 (key 0)
    | succ m9 => exact key m9
set_option maxHeartbeats 4000000 in
theorem dt_X6_best (s1 : Tp) (s2 : Bd) (x1 : Int32) (x2 : Int32) : dt (fun P : Int32 → Prop => wp_X6_best (fun a0 => P a0) s1 s2 x1 x2) (fun P : Int32 → Prop => wp_X6_best (fun a0 => P a0) s1 s2 x1 x2) := by
  unfold wp_X6_best
  exact (dt_b1 (F := fun k => wp_X0_hasRow k s2 x1) (dt_X0_hasRow s2 x1) (fun r_1 => (dt_p (dt_r _) (dt_p (dt_r _) (dt_p (dt_x (fun n39 m_n39 => (dl_X6_best_L39 s1 s2 (fun v0 => (dt_r _)) (fun z1 z2 z3 z4 z5 z6 z7 z8 => (dt_n (dt_n (dt_r _) (dt_r _)) (dt_r _))) n39 m_n39 x1 x2 0 0 0 0 0 0))) (dt_r _))))))
set_option maxHeartbeats 4000000 in
theorem dl_X6_place_L58 (s1 : Tp) (s2 : Bd) {O : Type} {G_post G2_post : Int32 → (O → Prop) → Prop} {G_e153 G2_e153 : Int32 → Int32 → Int32 → Int32 → Int32 → Int32 → Int32 → (O → Prop) → Prop} (h_post : ∀ v0, dt (G_post v0) (G2_post v0)) (h_e153 : ∀ v0 v1 v2 v3 v4 v5 v6, dt (G_e153 v0 v1 v2 v3 v4 v5 v6) (G2_e153 v0 v1 v2 v3 v4 v5 v6)) : ∀ (n m : Nat) (z1 : Int32) (z2 : Int32) (z3 : Int32) (z4 : Int32) (z5 : Int32) (z6 : Int32) (z7 : Int32), dt (fun P : O → Prop => wp_X6_place_L58 s1 s2 (fun v0 => G_post v0 P) (fun v0 v1 v2 v3 v4 v5 v6 => G_e153 v0 v1 v2 v3 v4 v5 v6 P) n z1 z2 z3 z4 z5 z6 z7) (fun P : O → Prop => wp_X6_place_L58 s1 s2 (fun v0 => G2_post v0 P) (fun v0 v1 v2 v3 v4 v5 v6 => G2_e153 v0 v1 v2 v3 v4 v5 v6 P) m z1 z2 z3 z4 z5 z6 z7) := by
  intro n
  induction n with
  | zero => exact fun _ _ _ _ _ _ _ _ => dt_F
  | succ n58 ih =>
    intro m z1 z2 z3 z4 z5 z6 z7
    have key : ∀ m9 : Nat, dt (fun P : O → Prop => wp_X6_place_L58 s1 s2 (fun v0 => G_post v0 P) (fun v0 v1 v2 v3 v4 v5 v6 => G_e153 v0 v1 v2 v3 v4 v5 v6 P) (n58 + 1) z1 z2 z3 z4 z5 z6 z7) (fun P : O → Prop => wp_X6_place_L58 s1 s2 (fun v0 => G2_post v0 P) (fun v0 v1 v2 v3 v4 v5 v6 => G2_e153 v0 v1 v2 v3 v4 v5 v6 P) (m9 + 1) z1 z2 z3 z4 z5 z6 z7) := by
      intro m9
      unfold wp_X6_place_L58
      exact (dt_p (h_e153 z1 z2 z3 z4 z5 z6 z7) (dt_b1 (F := fun k => wp_X0_costOf k s2 s1 z1 z7 (0 : Int32) z3) (dt_X0_costOf s2 s1 z1 z7 (0 : Int32) z3) (fun r_11 => (dt_b1 (F := fun k => wp_X0_missesOf k s2 s1 z1 z7 (0 : Int32) z3) (dt_X0_missesOf s2 s1 z1 z7 (0 : Int32) z3) (fun r_13 => (dt_p (ih m9 z1 z2 z3 z7 r_11 r_13 (z7 + 1)) (dt_p (ih m9 z1 z2 z3 z7 r_11 r_13 (z7 + 1)) (dt_n (ih m9 z1 z2 z3 z4 z5 z6 (z7 + 1)) (dt_p (ih m9 z1 z2 z3 z4 z5 z6 (z7 + 1)) (ih m9 z1 z2 z3 z7 r_11 r_13 (z7 + 1)))))))))))
    cases m with
    | zero => exact dt_0 (key 0)
    | succ m9 => exact key m9
set_option maxHeartbeats 4000000 in
theorem dt_X6_place (s1 : Tp) (s2 : Bd) (x1 : Int32) (x2 : Int32) : dt (fun P : Int32 → Prop => wp_X6_place (fun a0 => P a0) s1 s2 x1 x2) (fun P : Int32 → Prop => wp_X6_place (fun a0 => P a0) s1 s2 x1 x2) := by
  unfold wp_X6_place
  exact (dt_b1 (F := fun k => wp_X0_hasRow k s2 x1) (dt_X0_hasRow s2 x1) (fun r_1 => (dt_p (dt_r _) (dt_p (dt_r _) (dt_p (dt_p (dt_r _) (dt_b1 (F := fun k => wp_X6_isRowText k s1 s2 (0 : Int32) (s1.1 0)) (dt_X6_isRowText s1 s2 (0 : Int32) (s1.1 0)) (fun r_7 => (dt_n (dt_x (fun n58 m_n58 => (dl_X6_place_L58 s1 s2 (fun v0 => (dt_r _)) (fun z1 z2 z3 z4 z5 z6 z7 => (dt_n (dt_r _) (dt_r _))) n58 m_n58 x1 x2 (s1.1 0) (-1) 0 0 0))) (dt_r _))))) (dt_r _))))))
set_option maxHeartbeats 4000000 in
theorem dt_X6_log (s2 : Bd) (x1 : Int32) (x2 : Int32) : dt (fun P : Int32 → Prop => wp_X6_log (fun a0 => P a0) s2 x1 x2) (fun P : Int32 → Prop => wp_X6_log (fun a0 => P a0) s2 x1 x2) := by
  unfold wp_X6_log
  exact (dt_b1 (F := fun k => wp_X0_hasDrum k s2 x1) (dt_X0_hasDrum s2 x1) (fun r_1 => (dt_n (dt_p (dt_b1 (F := fun k => wp_X0_journey k s2 x1) (dt_X0_journey s2 x1) (fun r_5 => (dt_r _))) (dt_p (dt_b1 (F := fun k => wp_X0_logSize k s2 x1) (dt_X0_logSize s2 x1) (fun r_8 => (dt_r _))) (dt_p (dt_b1 (F := fun k => wp_X0_unlikeEntries k s2 x1) (dt_X0_unlikeEntries s2 x1) (fun r_11 => (dt_r _))) (dt_r _)))) (dt_r _))))
set_option maxHeartbeats 4000000 in
theorem dt_X6_often (s2 : Bd) (x1 : Int32) (x2 : Int32) (x3 : Int32) : dt (fun P : Int32 → Prop => wp_X6_often (fun a0 => P a0) s2 x1 x2 x3) (fun P : Int32 → Prop => wp_X6_often (fun a0 => P a0) s2 x1 x2 x3) := by
  unfold wp_X6_often
  exact (dt_b1 (F := fun k => wp_X0_hasDrum k s2 x1) (dt_X0_hasDrum s2 x1) (fun r_1 => (dt_p (dt_r _) (dt_p (dt_r _) (dt_b1 (F := fun k => wp_X0_flapsOn k s2 x1) (dt_X0_flapsOn s2 x1) (fun r_5 => (dt_p (dt_b1 (F := fun k => wp_X0_entriesOf k s2 x1 x2 x3) (dt_X0_entriesOf s2 x1 x2 x3) (fun r_8 => (dt_r _))) (dt_r _))))))))
set_option maxHeartbeats 4000000 in
theorem dl_X6_usual_L30 (s2 : Bd) {O : Type} {G_post G2_post : Int32 → (O → Prop) → Prop} {G_e76 G2_e76 : Int32 → Int32 → Int32 → Int32 → Int32 → (O → Prop) → Prop} (h_post : ∀ v0, dt (G_post v0) (G2_post v0)) (h_e76 : ∀ v0 v1 v2 v3 v4, dt (G_e76 v0 v1 v2 v3 v4) (G2_e76 v0 v1 v2 v3 v4)) : ∀ (n m : Nat) (z1 : Int32) (z2 : Int32) (z3 : Int32) (z4 : Int32) (z5 : Int32), dt (fun P : O → Prop => wp_X6_usual_L30 s2 (fun v0 => G_post v0 P) (fun v0 v1 v2 v3 v4 => G_e76 v0 v1 v2 v3 v4 P) n z1 z2 z3 z4 z5) (fun P : O → Prop => wp_X6_usual_L30 s2 (fun v0 => G2_post v0 P) (fun v0 v1 v2 v3 v4 => G2_e76 v0 v1 v2 v3 v4 P) m z1 z2 z3 z4 z5) := by
  intro n
  induction n with
  | zero => exact fun _ _ _ _ _ _ => dt_F
  | succ n30 ih =>
    intro m z1 z2 z3 z4 z5
    have key : ∀ m9 : Nat, dt (fun P : O → Prop => wp_X6_usual_L30 s2 (fun v0 => G_post v0 P) (fun v0 v1 v2 v3 v4 => G_e76 v0 v1 v2 v3 v4 P) (n30 + 1) z1 z2 z3 z4 z5) (fun P : O → Prop => wp_X6_usual_L30 s2 (fun v0 => G2_post v0 P) (fun v0 v1 v2 v3 v4 => G2_e76 v0 v1 v2 v3 v4 P) (m9 + 1) z1 z2 z3 z4 z5) := by
      intro m9
      unfold wp_X6_usual_L30
      exact (dt_b1 (F := fun k => wp_X0_flapsOn k s2 z1) (dt_X0_flapsOn s2 z1) (fun r_6 => (dt_p (h_e76 z1 z2 z3 z4 z5) (dt_b1 (F := fun k => wp_X0_entriesOf k s2 z1 z5 (1 : Int32)) (dt_X0_entriesOf s2 z1 z5 (1 : Int32)) (fun r_9 => (dt_p (ih m9 z1 z2 z3 z4 (z5 + 1)) (ih m9 z1 z2 z5 r_9 (z5 + 1))))))))
    cases m with
    | zero => exact dt_0 (key 0)
    | succ m9 => exact key m9
set_option maxHeartbeats 4000000 in
theorem dt_X6_usual (s2 : Bd) (x1 : Int32) (x2 : Int32) : dt (fun P : Int32 → Prop => wp_X6_usual (fun a0 => P a0) s2 x1 x2) (fun P : Int32 → Prop => wp_X6_usual (fun a0 => P a0) s2 x1 x2) := by
  unfold wp_X6_usual
  exact (dt_b1 (F := fun k => wp_X0_hasDrum k s2 x1) (dt_X0_hasDrum s2 x1) (fun r_1 => (dt_p (dt_r _) (dt_p (dt_r _) (dt_p (dt_x (fun n30 m_n30 => (dl_X6_usual_L30 s2 (fun v0 => (dt_r _)) (fun z1 z2 z3 z4 z5 => (dt_n (dt_n (dt_r _) (dt_r _)) (dt_r _))) n30 m_n30 x1 x2 (-1) 0 0))) (dt_r _))))))
set_option maxHeartbeats 4000000 in
theorem dl_X6_better_L55 (s2 : Bd) {O : Type} {G_post G2_post : Int32 → (O → Prop) → Prop} {G_e100 G2_e100 : Int32 → Int32 → Int32 → Int32 → Int32 → Int32 → Int32 → Int32 → (O → Prop) → Prop} (h_post : ∀ v0, dt (G_post v0) (G2_post v0)) (h_e100 : ∀ v0 v1 v2 v3 v4 v5 v6 v7, dt (G_e100 v0 v1 v2 v3 v4 v5 v6 v7) (G2_e100 v0 v1 v2 v3 v4 v5 v6 v7)) : ∀ (n m : Nat) (z1 : Int32) (z2 : Int32) (z3 : Int32) (z4 : Int32) (z5 : Int32) (z6 : Int32) (z7 : Int32) (z8 : Int32), dt (fun P : O → Prop => wp_X6_better_L55 s2 (fun v0 => G_post v0 P) (fun v0 v1 v2 v3 v4 v5 v6 v7 => G_e100 v0 v1 v2 v3 v4 v5 v6 v7 P) n z1 z2 z3 z4 z5 z6 z7 z8) (fun P : O → Prop => wp_X6_better_L55 s2 (fun v0 => G2_post v0 P) (fun v0 v1 v2 v3 v4 v5 v6 v7 => G2_e100 v0 v1 v2 v3 v4 v5 v6 v7 P) m z1 z2 z3 z4 z5 z6 z7 z8) := by
  intro n
  induction n with
  | zero => exact fun _ _ _ _ _ _ _ _ _ => dt_F
  | succ n55 ih =>
    intro m z1 z2 z3 z4 z5 z6 z7 z8
    have key : ∀ m9 : Nat, dt (fun P : O → Prop => wp_X6_better_L55 s2 (fun v0 => G_post v0 P) (fun v0 v1 v2 v3 v4 v5 v6 v7 => G_e100 v0 v1 v2 v3 v4 v5 v6 v7 P) (n55 + 1) z1 z2 z3 z4 z5 z6 z7 z8) (fun P : O → Prop => wp_X6_better_L55 s2 (fun v0 => G2_post v0 P) (fun v0 v1 v2 v3 v4 v5 v6 v7 => G2_e100 v0 v1 v2 v3 v4 v5 v6 v7 P) (m9 + 1) z1 z2 z3 z4 z5 z6 z7 z8) := by
      intro m9
      unfold wp_X6_better_L55
      exact (dt_p (h_e100 z1 z2 z3 z4 z5 z6 z7 z8) (dt_b1 (F := fun k => wp_X0_journeyChange k s2 z1 z7 z8) (dt_X0_journeyChange s2 z1 z7 z8) (fun r_10 => (dt_p (ih m9 z1 z2 z3 z4 z5 z6 z7 (z8 + 1)) (ih m9 z1 z2 z3 r_10 z7 z8 z7 (z8 + 1))))))
    cases m with
    | zero => exact dt_0 (key 0)
    | succ m9 => exact key m9
set_option maxHeartbeats 4000000 in
theorem dl_X6_better_L43 (s2 : Bd) {O : Type} {G_post G2_post : Int32 → (O → Prop) → Prop} {G_e106 G2_e106 : Int32 → Int32 → Int32 → Int32 → Int32 → Int32 → Int32 → (O → Prop) → Prop} (h_post : ∀ v0, dt (G_post v0) (G2_post v0)) (h_e106 : ∀ v0 v1 v2 v3 v4 v5 v6, dt (G_e106 v0 v1 v2 v3 v4 v5 v6) (G2_e106 v0 v1 v2 v3 v4 v5 v6)) : ∀ (n m : Nat) (z1 : Int32) (z2 : Int32) (z3 : Int32) (z4 : Int32) (z5 : Int32) (z6 : Int32) (z7 : Int32), dt (fun P : O → Prop => wp_X6_better_L43 s2 (fun v0 => G_post v0 P) (fun v0 v1 v2 v3 v4 v5 v6 => G_e106 v0 v1 v2 v3 v4 v5 v6 P) n z1 z2 z3 z4 z5 z6 z7) (fun P : O → Prop => wp_X6_better_L43 s2 (fun v0 => G2_post v0 P) (fun v0 v1 v2 v3 v4 v5 v6 => G2_e106 v0 v1 v2 v3 v4 v5 v6 P) m z1 z2 z3 z4 z5 z6 z7) := by
  intro n
  induction n with
  | zero => exact fun _ _ _ _ _ _ _ _ => dt_F
  | succ n43 ih =>
    intro m z1 z2 z3 z4 z5 z6 z7
    have key : ∀ m9 : Nat, dt (fun P : O → Prop => wp_X6_better_L43 s2 (fun v0 => G_post v0 P) (fun v0 v1 v2 v3 v4 v5 v6 => G_e106 v0 v1 v2 v3 v4 v5 v6 P) (n43 + 1) z1 z2 z3 z4 z5 z6 z7) (fun P : O → Prop => wp_X6_better_L43 s2 (fun v0 => G2_post v0 P) (fun v0 v1 v2 v3 v4 v5 v6 => G2_e106 v0 v1 v2 v3 v4 v5 v6 P) (m9 + 1) z1 z2 z3 z4 z5 z6 z7) := by
      intro m9
      unfold wp_X6_better_L43
      exact (dt_p (h_e106 z1 z2 z3 z4 z5 z6 z7) (dt_x (fun n55 m_n55 => (dl_X6_better_L55 s2 (fun v0 => (h_post v0)) (fun z1 z2 z3 z4 z5 z6 z7 z8 => (ih m9 z1 z2 z3 z4 z5 z6 (z7 + 1))) n55 m_n55 z1 z2 z3 z4 z5 z6 z7 (z7 + 1)))))
    cases m with
    | zero => exact dt_0 (key 0)
    | succ m9 => exact key m9
set_option maxHeartbeats 4000000 in
theorem dt_X6_better (s2 : Bd) (x1 : Int32) (x2 : Int32) : dt (fun P : Int32 → Prop => wp_X6_better (fun a0 => P a0) s2 x1 x2) (fun P : Int32 → Prop => wp_X6_better (fun a0 => P a0) s2 x1 x2) := by
  unfold wp_X6_better
  exact (dt_b1 (F := fun k => wp_X0_hasDrum k s2 x1) (dt_X0_hasDrum s2 x1) (fun r_1 => (dt_p (dt_r _) (dt_p (dt_r _) (dt_p (dt_b1 (F := fun k => wp_X0_flapsOn k s2 x1) (dt_X0_flapsOn s2 x1) (fun r_6 => (dt_x (fun n43 m_n43 => (dl_X6_better_L43 s2 (fun v0 => (dt_r _)) (fun z1 z2 z3 z4 z5 z6 z7 => (dt_n (dt_n (dt_n (dt_r _) (dt_r _)) (dt_b1 (F := fun k => wp_X0_journey k s2 z1) (dt_X0_journey s2 z1) (fun r_16 => (dt_r _)))) (dt_r _))) n43 m_n43 x1 x2 r_6 0 (-1) (-1) 1))))) (dt_r _))))))
set_option maxHeartbeats 4000000 in
theorem dl_X6_farthest_L30 (s2 : Bd) {O : Type} {G_post G2_post : Int32 → (O → Prop) → Prop} {G_e101 G2_e101 : Int32 → Int32 → Int32 → Int32 → Int32 → (O → Prop) → Prop} (h_post : ∀ v0, dt (G_post v0) (G2_post v0)) (h_e101 : ∀ v0 v1 v2 v3 v4, dt (G_e101 v0 v1 v2 v3 v4) (G2_e101 v0 v1 v2 v3 v4)) : ∀ (n m : Nat) (z1 : Int32) (z2 : Int32) (z3 : Int32) (z4 : Int32) (z5 : Int32), dt (fun P : O → Prop => wp_X6_farthest_L30 s2 (fun v0 => G_post v0 P) (fun v0 v1 v2 v3 v4 => G_e101 v0 v1 v2 v3 v4 P) n z1 z2 z3 z4 z5) (fun P : O → Prop => wp_X6_farthest_L30 s2 (fun v0 => G2_post v0 P) (fun v0 v1 v2 v3 v4 => G2_e101 v0 v1 v2 v3 v4 P) m z1 z2 z3 z4 z5) := by
  intro n
  induction n with
  | zero => exact fun _ _ _ _ _ _ => dt_F
  | succ n30 ih =>
    intro m z1 z2 z3 z4 z5
    have key : ∀ m9 : Nat, dt (fun P : O → Prop => wp_X6_farthest_L30 s2 (fun v0 => G_post v0 P) (fun v0 v1 v2 v3 v4 => G_e101 v0 v1 v2 v3 v4 P) (n30 + 1) z1 z2 z3 z4 z5) (fun P : O → Prop => wp_X6_farthest_L30 s2 (fun v0 => G2_post v0 P) (fun v0 v1 v2 v3 v4 => G2_e101 v0 v1 v2 v3 v4 P) (m9 + 1) z1 z2 z3 z4 z5) := by
      intro m9
      unfold wp_X6_farthest_L30
      exact (dt_b1 (F := fun k => wp_X0_flapsOf k s2 z1) (dt_X0_flapsOf s2 z1) (fun r_6 => (dt_p (h_e101 z1 z2 z3 z4 z5) (dt_b1 (F := fun k => wp_X0_flapsOnTo k s2 z1 z5) (dt_X0_flapsOnTo s2 z1 z5) (fun r_9 => (dt_b1 (F := fun k => wp_X0_signOn k s2 z1 z5) (dt_X0_signOn s2 z1 z5) (fun r_11 => (dt_p (ih m9 z1 z2 z3 z4 (z5 + 1)) (dt_b1 (F := fun k => wp_X0_nearest k s2 z1 r_11) (dt_X0_nearest s2 z1 r_11) (fun r_14 => (dt_n (ih m9 z1 z2 z3 z4 (z5 + 1)) (ih m9 z1 z2 r_9 r_11 (z5 + 1)))))))))))))
    cases m with
    | zero => exact dt_0 (key 0)
    | succ m9 => exact key m9
set_option maxHeartbeats 4000000 in
theorem dt_X6_farthest (s2 : Bd) (x1 : Int32) (x2 : Int32) : dt (fun P : Int32 → Prop => wp_X6_farthest (fun a0 => P a0) s2 x1 x2) (fun P : Int32 → Prop => wp_X6_farthest (fun a0 => P a0) s2 x1 x2) := by
  unfold wp_X6_farthest
  exact (dt_b1 (F := fun k => wp_X0_hasCell k s2 x1) (dt_X0_hasCell s2 x1) (fun r_1 => (dt_p (dt_r _) (dt_p (dt_r _) (dt_p (dt_x (fun n30 m_n30 => (dl_X6_farthest_L30 s2 (fun v0 => (dt_r _)) (fun z1 z2 z3 z4 z5 => (dt_n (dt_r _) (dt_r _))) n30 m_n30 x1 x2 (-1) (-1) 0))) (dt_r _))))))
set_option maxHeartbeats 4000000 in
theorem dt_X6_lacks (s2 : Bd) (x1 : Int32) (x2 : Int32) : dt (fun P : Int32 → Prop => wp_X6_lacks (fun a0 => P a0) s2 x1 x2) (fun P : Int32 → Prop => wp_X6_lacks (fun a0 => P a0) s2 x1 x2) := by
  unfold wp_X6_lacks
  exact (dt_b1 (F := fun k => wp_X0_hasCell k s2 x1) (dt_X0_hasCell s2 x1) (fun r_1 => (dt_p (dt_r _) (dt_p (dt_r _) (dt_p (dt_n (dt_c (dt_b1 (F := fun k => wp_X0_signsOfOthers k s2 ((s2.2.1 3) (Int32.toNatClampNeg x1))) (dt_X0_signsOfOthers s2 ((s2.2.1 3) (Int32.toNatClampNeg x1))) (fun r_8 => (dt_r _)))) (dt_b1 (F := fun k => wp_X0_missedOfOwn k s2 x1) (dt_X0_missedOfOwn s2 x1) (fun r_10 => (dt_r _)))) (dt_r _))))))
set_option maxHeartbeats 4000000 in
theorem dl_X6_unlike_L34 (s2 : Bd) {O : Type} {G_post G2_post : Int32 → (O → Prop) → Prop} {G_e104 G2_e104 : Int32 → Int32 → Int32 → Int32 → (O → Prop) → Prop} (h_post : ∀ v0, dt (G_post v0) (G2_post v0)) (h_e104 : ∀ v0 v1 v2 v3, dt (G_e104 v0 v1 v2 v3) (G2_e104 v0 v1 v2 v3)) : ∀ (n m : Nat) (z1 : Int32) (z2 : Int32) (z3 : Int32) (z4 : Int32), dt (fun P : O → Prop => wp_X6_unlike_L34 s2 (fun v0 => G_post v0 P) (fun v0 v1 v2 v3 => G_e104 v0 v1 v2 v3 P) n z1 z2 z3 z4) (fun P : O → Prop => wp_X6_unlike_L34 s2 (fun v0 => G2_post v0 P) (fun v0 v1 v2 v3 => G2_e104 v0 v1 v2 v3 P) m z1 z2 z3 z4) := by
  intro n
  induction n with
  | zero => exact fun _ _ _ _ _ => dt_F
  | succ n34 ih =>
    intro m z1 z2 z3 z4
    have key : ∀ m9 : Nat, dt (fun P : O → Prop => wp_X6_unlike_L34 s2 (fun v0 => G_post v0 P) (fun v0 v1 v2 v3 => G_e104 v0 v1 v2 v3 P) (n34 + 1) z1 z2 z3 z4) (fun P : O → Prop => wp_X6_unlike_L34 s2 (fun v0 => G2_post v0 P) (fun v0 v1 v2 v3 => G2_e104 v0 v1 v2 v3 P) (m9 + 1) z1 z2 z3 z4) := by
      intro m9
      unfold wp_X6_unlike_L34
      exact (dt_p (h_e104 z1 z2 z3 z4) (dt_b1 (F := fun k => wp_X0_wantedSign k s2 ((z1 * (s2.1 1)) + z4)) (dt_X0_wantedSign s2 ((z1 * (s2.1 1)) + z4)) (fun r_9 => (dt_b1 (F := fun k => wp_X0_wantedSign k s2 ((z2 * (s2.1 1)) + z4)) (dt_X0_wantedSign s2 ((z2 * (s2.1 1)) + z4)) (fun r_11 => (dt_p (ih m9 z1 z2 z3 (z4 + 1)) (ih m9 z1 z2 (z3 + 1) (z4 + 1))))))))
    cases m with
    | zero => exact dt_0 (key 0)
    | succ m9 => exact key m9
set_option maxHeartbeats 4000000 in
theorem dt_X6_unlike (s2 : Bd) (x1 : Int32) (x2 : Int32) : dt (fun P : Int32 → Prop => wp_X6_unlike (fun a0 => P a0) s2 x1 x2) (fun P : Int32 → Prop => wp_X6_unlike (fun a0 => P a0) s2 x1 x2) := by
  unfold wp_X6_unlike
  exact (dt_b1 (F := fun k => wp_X0_hasRow k s2 x1) (dt_X0_hasRow s2 x1) (fun r_1 => (dt_p (dt_r _) (dt_b1 (F := fun k => wp_X0_hasRow k s2 x2) (dt_X0_hasRow s2 x2) (fun r_4 => (dt_p (dt_r _) (dt_n (dt_x (fun n34 m_n34 => (dl_X6_unlike_L34 s2 (fun v0 => (dt_r _)) (fun z1 z2 z3 z4 => (dt_r _)) n34 m_n34 x1 x2 0 0))) (dt_r _))))))))
set_option maxHeartbeats 4000000 in
theorem dt_X6_letter (s2 : Bd) (x1 : Int32) (x2 : Int32) : dt (fun P : Int32 → Prop => wp_X6_letter (fun a0 => P a0) s2 x1 x2) (fun P : Int32 → Prop => wp_X6_letter (fun a0 => P a0) s2 x1 x2) := by
  unfold wp_X6_letter
  exact (dt_p (dt_r _) (dt_p (dt_r _) (dt_p (dt_b1 (F := fun k => wp_X0_isThere k s2) (dt_X0_isThere s2) (fun r_4 => (dt_p (dt_n (dt_p (dt_c (dt_n (dt_c (dt_n (dt_c (dt_b1 (F := fun k => wp_X0_signOn k s2 (((x2 / ((s2.1 1) + 1)) * (s2.1 1)) + (x2 - ((x2 / ((s2.1 1) + 1)) * ((s2.1 1) + 1)))) ((s2.2.1 6) (Int32.toNatClampNeg (((x2 / ((s2.1 1) + 1)) * (s2.1 1)) + (x2 - ((x2 / ((s2.1 1) + 1)) * ((s2.1 1) + 1))))))) (dt_X0_signOn s2 (((x2 / ((s2.1 1) + 1)) * (s2.1 1)) + (x2 - ((x2 / ((s2.1 1) + 1)) * ((s2.1 1) + 1)))) ((s2.2.1 6) (Int32.toNatClampNeg (((x2 / ((s2.1 1) + 1)) * (s2.1 1)) + (x2 - ((x2 / ((s2.1 1) + 1)) * ((s2.1 1) + 1))))))) (fun r_14 => (dt_r _)))) (dt_c (dt_b1 (F := fun k => wp_X0_signOn k s2 (((x2 / ((s2.1 1) + 1)) * (s2.1 1)) + (x2 - ((x2 / ((s2.1 1) + 1)) * ((s2.1 1) + 1)))) ((s2.2.1 4) (Int32.toNatClampNeg (((x2 / ((s2.1 1) + 1)) * (s2.1 1)) + (x2 - ((x2 / ((s2.1 1) + 1)) * ((s2.1 1) + 1))))))) (dt_X0_signOn s2 (((x2 / ((s2.1 1) + 1)) * (s2.1 1)) + (x2 - ((x2 / ((s2.1 1) + 1)) * ((s2.1 1) + 1)))) ((s2.2.1 4) (Int32.toNatClampNeg (((x2 / ((s2.1 1) + 1)) * (s2.1 1)) + (x2 - ((x2 / ((s2.1 1) + 1)) * ((s2.1 1) + 1))))))) (fun r_17 => (dt_r _)))))) (dt_r _))) (dt_r _)) (dt_r _)) (dt_b1 (F := fun k => wp_X0_cells k s2) (dt_X0_cells s2) (fun r_19 => (dt_n (dt_p (dt_c (dt_n (dt_c (dt_n (dt_c (dt_b1 (F := fun k => wp_X0_signOn k s2 (((x2 / ((s2.1 1) + 1)) * (s2.1 1)) + (x2 - ((x2 / ((s2.1 1) + 1)) * ((s2.1 1) + 1)))) ((s2.2.1 6) (Int32.toNatClampNeg (((x2 / ((s2.1 1) + 1)) * (s2.1 1)) + (x2 - ((x2 / ((s2.1 1) + 1)) * ((s2.1 1) + 1))))))) (dt_X0_signOn s2 (((x2 / ((s2.1 1) + 1)) * (s2.1 1)) + (x2 - ((x2 / ((s2.1 1) + 1)) * ((s2.1 1) + 1)))) ((s2.2.1 6) (Int32.toNatClampNeg (((x2 / ((s2.1 1) + 1)) * (s2.1 1)) + (x2 - ((x2 / ((s2.1 1) + 1)) * ((s2.1 1) + 1))))))) (fun r_28 => (dt_r _)))) (dt_c (dt_b1 (F := fun k => wp_X0_signOn k s2 (((x2 / ((s2.1 1) + 1)) * (s2.1 1)) + (x2 - ((x2 / ((s2.1 1) + 1)) * ((s2.1 1) + 1)))) ((s2.2.1 4) (Int32.toNatClampNeg (((x2 / ((s2.1 1) + 1)) * (s2.1 1)) + (x2 - ((x2 / ((s2.1 1) + 1)) * ((s2.1 1) + 1))))))) (dt_X0_signOn s2 (((x2 / ((s2.1 1) + 1)) * (s2.1 1)) + (x2 - ((x2 / ((s2.1 1) + 1)) * ((s2.1 1) + 1)))) ((s2.2.1 4) (Int32.toNatClampNeg (((x2 / ((s2.1 1) + 1)) * (s2.1 1)) + (x2 - ((x2 / ((s2.1 1) + 1)) * ((s2.1 1) + 1))))))) (fun r_31 => (dt_r _)))))) (dt_r _))) (dt_r _)) (dt_r _))))))) (dt_r _))))
set_option maxHeartbeats 4000000 in
theorem dl_X6_digest_L6 (s2 : Bd) {O : Type} {G_post G2_post : Int64 → (O → Prop) → Prop} {G_e124 G2_e124 : Int64 → Int32 → (O → Prop) → Prop} (h_post : ∀ v0, dt (G_post v0) (G2_post v0)) (h_e124 : ∀ v0 v1, dt (G_e124 v0 v1) (G2_e124 v0 v1)) : ∀ (n m : Nat) (w1 : Int64) (z3 : Int32), dt (fun P : O → Prop => wp_X6_digest_L6 s2 (fun v0 => G_post v0 P) (fun v0 v1 => G_e124 v0 v1 P) n w1 z3) (fun P : O → Prop => wp_X6_digest_L6 s2 (fun v0 => G2_post v0 P) (fun v0 v1 => G2_e124 v0 v1 P) m w1 z3) := by
  intro n
  induction n with
  | zero => exact fun _ _ _ => dt_F
  | succ n6 ih =>
    intro m w1 z3
    have key : ∀ m9 : Nat, dt (fun P : O → Prop => wp_X6_digest_L6 s2 (fun v0 => G_post v0 P) (fun v0 v1 => G_e124 v0 v1 P) (n6 + 1) w1 z3) (fun P : O → Prop => wp_X6_digest_L6 s2 (fun v0 => G2_post v0 P) (fun v0 v1 => G2_e124 v0 v1 P) (m9 + 1) w1 z3) := by
      intro m9
      unfold wp_X6_digest_L6
      exact (dt_b1 (F := fun k => wp_X0_cells k s2) (dt_X0_cells s2) (fun r_1 => (dt_p (h_e124 w1 z3) (dt_c (dt_c (dt_c (dt_c (dt_c (dt_c (ih m9 ((31 * ((31 * ((31 * ((31 * ((31 * ((31 * w1) + (Int32.toInt64 ((s2.2.1 3) (Int32.toNatClampNeg z3))))) + (Int32.toInt64 ((s2.2.1 4) (Int32.toNatClampNeg z3))))) + (Int32.toInt64 ((s2.2.1 5) (Int32.toNatClampNeg z3))))) + (Int32.toInt64 ((s2.2.1 6) (Int32.toNatClampNeg z3))))) + (Int32.toInt64 ((s2.2.1 7) (Int32.toNatClampNeg z3))))) + (s2.2.2.1 (Int32.toNatClampNeg z3))) (z3 + 1)))))))))))
    cases m with
    | zero => exact dt_0 (key 0)
    | succ m9 => exact key m9
set_option maxHeartbeats 4000000 in
theorem dt_X6_digest (s2 : Bd) : dt (fun P : Int64 → Prop => wp_X6_digest (fun a0 => P a0) s2) (fun P : Int64 → Prop => wp_X6_digest (fun a0 => P a0) s2) := by
  unfold wp_X6_digest
  exact (dt_x (fun n6 m_n6 => (dl_X6_digest_L6 s2 (fun v0 => (dt_r _)) (fun w1 z3 => (dt_r _)) n6 m_n6 17 0)))
set_option maxHeartbeats 4000000 in
theorem dt_X7_in (y0 : Int64) (y2 : Int64) (y4 : Int64) : dt (fun P : Int32 → Prop => wp_X7_in (fun a0 => P a0) y0 y2 y4) (fun P : Int32 → Prop => wp_X7_in (fun a0 => P a0) y0 y2 y4) := by
  unfold wp_X7_in
  exact (dt_p (dt_r _) (dt_p (dt_r _) (dt_r _)))
set_option maxHeartbeats 4000000 in
theorem dt_X7_isIn (y0 : Int64) (x2 : Int32) : dt (fun P : Int32 → Prop => wp_X7_isIn (fun a0 => P a0) y0 x2) (fun P : Int32 → Prop => wp_X7_isIn (fun a0 => P a0) y0 x2) := by
  unfold wp_X7_isIn
  exact (dt_n (dt_r _) (dt_r _))
set_option maxHeartbeats 4000000 in
theorem dt_X7_isSign (x0 : Int32) : dt (fun P : Int32 → Prop => wp_X7_isSign (fun a0 => P a0) x0) (fun P : Int32 → Prop => wp_X7_isSign (fun a0 => P a0) x0) := by
  unfold wp_X7_isSign
  exact (dt_b1 (F := fun k => wp_X7_in k (Int32.toInt64 x0) (32 : Int64) (126 : Int64)) (dt_X7_in (Int32.toInt64 x0) (32 : Int64) (126 : Int64)) (fun r_1 => (dt_p (dt_r _) (dt_p (dt_r _) (dt_r _)))))
set_option maxHeartbeats 4000000 in
theorem dt_X7_rows (s0 : Md) : dt (fun P : Int32 → Prop => wp_X7_rows (fun a0 => P a0) s0) (fun P : Int32 → Prop => wp_X7_rows (fun a0 => P a0) s0) := by
  unfold wp_X7_rows
  exact (dt_r _)
set_option maxHeartbeats 4000000 in
theorem dt_X7_wide (s0 : Md) : dt (fun P : Int32 → Prop => wp_X7_wide (fun a0 => P a0) s0) (fun P : Int32 → Prop => wp_X7_wide (fun a0 => P a0) s0) := by
  unfold wp_X7_wide
  exact (dt_r _)
set_option maxHeartbeats 4000000 in
theorem dt_X7_cells (s0 : Md) : dt (fun P : Int32 → Prop => wp_X7_cells (fun a0 => P a0) s0) (fun P : Int32 → Prop => wp_X7_cells (fun a0 => P a0) s0) := by
  unfold wp_X7_cells
  exact (dt_b1 (F := fun k => wp_X7_rows k s0) (dt_X7_rows s0) (fun r_1 => (dt_b1 (F := fun k => wp_X7_wide k s0) (dt_X7_wide s0) (fun r_3 => (dt_r _)))))
set_option maxHeartbeats 4000000 in
theorem dt_X7_drums (s0 : Md) : dt (fun P : Int32 → Prop => wp_X7_drums (fun a0 => P a0) s0) (fun P : Int32 → Prop => wp_X7_drums (fun a0 => P a0) s0) := by
  unfold wp_X7_drums
  exact (dt_r _)
set_option maxHeartbeats 4000000 in
theorem dt_X7_isBoard (s0 : Md) : dt (fun P : Int32 → Prop => wp_X7_isBoard (fun a0 => P a0) s0) (fun P : Int32 → Prop => wp_X7_isBoard (fun a0 => P a0) s0) := by
  unfold wp_X7_isBoard
  exact (dt_b1 (F := fun k => wp_X7_drums k s0) (dt_X7_drums s0) (fun r_1 => (dt_p (dt_r _) (dt_r _))))
set_option maxHeartbeats 4000000 in
theorem dt_X7_isCell (s0 : Md) (x1 : Int32) : dt (fun P : Int32 → Prop => wp_X7_isCell (fun a0 => P a0) s0 x1) (fun P : Int32 → Prop => wp_X7_isCell (fun a0 => P a0) s0 x1) := by
  unfold wp_X7_isCell
  exact (dt_b1 (F := fun k => wp_X7_cells k s0) (dt_X7_cells s0) (fun r_1 => (dt_b1 (F := fun k => wp_X7_in k (Int32.toInt64 x1) (0 : Int64) (Int32.toInt64 (r_1 - 1))) (dt_X7_in (Int32.toInt64 x1) (0 : Int64) (Int32.toInt64 (r_1 - 1))) (fun r_3 => (dt_c (dt_r _))))))
set_option maxHeartbeats 4000000 in
theorem dt_X7_isRow (s0 : Md) (x1 : Int32) : dt (fun P : Int32 → Prop => wp_X7_isRow (fun a0 => P a0) s0 x1) (fun P : Int32 → Prop => wp_X7_isRow (fun a0 => P a0) s0 x1) := by
  unfold wp_X7_isRow
  exact (dt_b1 (F := fun k => wp_X7_rows k s0) (dt_X7_rows s0) (fun r_1 => (dt_b1 (F := fun k => wp_X7_in k (Int32.toInt64 x1) (0 : Int64) (Int32.toInt64 (r_1 - 1))) (dt_X7_in (Int32.toInt64 x1) (0 : Int64) (Int32.toInt64 (r_1 - 1))) (fun r_3 => (dt_c (dt_r _))))))
set_option maxHeartbeats 4000000 in
theorem dt_X7_isDrum (s0 : Md) (x1 : Int32) : dt (fun P : Int32 → Prop => wp_X7_isDrum (fun a0 => P a0) s0 x1) (fun P : Int32 → Prop => wp_X7_isDrum (fun a0 => P a0) s0 x1) := by
  unfold wp_X7_isDrum
  exact (dt_b1 (F := fun k => wp_X7_drums k s0) (dt_X7_drums s0) (fun r_1 => (dt_b1 (F := fun k => wp_X7_in k (Int32.toInt64 x1) (0 : Int64) (Int32.toInt64 (r_1 - 1))) (dt_X7_in (Int32.toInt64 x1) (0 : Int64) (Int32.toInt64 (r_1 - 1))) (fun r_3 => (dt_c (dt_r _))))))
set_option maxHeartbeats 4000000 in
theorem dt_X7_of (s0 : Md) (x1 : Int32) (x2 : Int32) : dt (fun P : Int32 → Prop => wp_X7_of (fun a0 => P a0) s0 x1 x2) (fun P : Int32 → Prop => wp_X7_of (fun a0 => P a0) s0 x1 x2) := by
  unfold wp_X7_of
  exact (dt_c (dt_r _))
set_option maxHeartbeats 4000000 in
theorem dt_X7_sets (s0 : Md) (x1 : Int32) (x2 : Int32) (y3 : Int64) : dt (fun P : Md → Prop => wp_X7_sets (fun a0 => P a0) s0 x1 x2 y3) (fun P : Md → Prop => wp_X7_sets (fun a0 => P a0) s0 x1 x2 y3) := by
  unfold wp_X7_sets
  exact (dt_c (dt_r _))
set_option maxHeartbeats 4000000 in
theorem dt_X7_wornOf (s0 : Md) (x1 : Int32) : dt (fun P : Int64 → Prop => wp_X7_wornOf (fun a0 => P a0) s0 x1) (fun P : Int64 → Prop => wp_X7_wornOf (fun a0 => P a0) s0 x1) := by
  unfold wp_X7_wornOf
  exact (dt_c (dt_r _))
set_option maxHeartbeats 4000000 in
theorem dt_X7_currentOf (s0 : Md) (x1 : Int32) : dt (fun P : Int32 → Prop => wp_X7_currentOf (fun a0 => P a0) s0 x1) (fun P : Int32 → Prop => wp_X7_currentOf (fun a0 => P a0) s0 x1) := by
  unfold wp_X7_currentOf
  exact (dt_c (dt_r _))
set_option maxHeartbeats 4000000 in
theorem dt_X7_flapsOf (s0 : Md) (x1 : Int32) : dt (fun P : Int32 → Prop => wp_X7_flapsOf (fun a0 => P a0) s0 x1) (fun P : Int32 → Prop => wp_X7_flapsOf (fun a0 => P a0) s0 x1) := by
  unfold wp_X7_flapsOf
  exact (dt_c (dt_r _))
set_option maxHeartbeats 4000000 in
theorem dt_X7_signOf (s0 : Md) (x1 : Int32) (x2 : Int32) : dt (fun P : Int32 → Prop => wp_X7_signOf (fun a0 => P a0) s0 x1 x2) (fun P : Int32 → Prop => wp_X7_signOf (fun a0 => P a0) s0 x1 x2) := by
  unfold wp_X7_signOf
  exact (dt_c (dt_r _))
set_option maxHeartbeats 4000000 in
theorem dt_X7_flaps (s0 : Md) (x1 : Int32) : dt (fun P : Int32 → Prop => wp_X7_flaps (fun a0 => P a0) s0 x1) (fun P : Int32 → Prop => wp_X7_flaps (fun a0 => P a0) s0 x1) := by
  unfold wp_X7_flaps
  exact (dt_b1 (F := fun k => wp_X7_of k s0 x1 (0 : Int32)) (dt_X7_of s0 x1 (0 : Int32)) (fun r_1 => (dt_b1 (F := fun k => wp_X7_flapsOf k s0 r_1) (dt_X7_flapsOf s0 r_1) (fun r_3 => (dt_r _)))))
set_option maxHeartbeats 4000000 in
theorem dt_X7_current (s0 : Md) (x1 : Int32) : dt (fun P : Int32 → Prop => wp_X7_current (fun a0 => P a0) s0 x1) (fun P : Int32 → Prop => wp_X7_current (fun a0 => P a0) s0 x1) := by
  unfold wp_X7_current
  exact (dt_b1 (F := fun k => wp_X7_of k s0 x1 (0 : Int32)) (dt_X7_of s0 x1 (0 : Int32)) (fun r_1 => (dt_b1 (F := fun k => wp_X7_currentOf k s0 r_1) (dt_X7_currentOf s0 r_1) (fun r_3 => (dt_r _)))))
set_option maxHeartbeats 4000000 in
theorem dt_X7_on (x0 : Int32) (x1 : Int32) (x2 : Int32) : dt (fun P : Int32 → Prop => wp_X7_on (fun a0 => P a0) x0 x1 x2) (fun P : Int32 → Prop => wp_X7_on (fun a0 => P a0) x0 x1 x2) := by
  unfold wp_X7_on
  exact (dt_c (dt_r _))
set_option maxHeartbeats 4000000 in
theorem dt_X7_leftOf (s0 : Md) (x1 : Int32) : dt (fun P : Int32 → Prop => wp_X7_leftOf (fun a0 => P a0) s0 x1) (fun P : Int32 → Prop => wp_X7_leftOf (fun a0 => P a0) s0 x1) := by
  unfold wp_X7_leftOf
  exact (dt_b1 (F := fun k => wp_X7_of k s0 x1 (2 : Int32)) (dt_X7_of s0 x1 (2 : Int32)) (fun r_1 => (dt_b1 (F := fun k => wp_X7_of k s0 x1 (3 : Int32)) (dt_X7_of s0 x1 (3 : Int32)) (fun r_3 => (dt_b1 (F := fun k => wp_X7_flaps k s0 x1) (dt_X7_flaps s0 x1) (fun r_5 => (dt_b1 (F := fun k => wp_X7_on k r_1 r_3 r_5) (dt_X7_on r_1 r_3 r_5) (fun r_7 => (dt_r _)))))))))
set_option maxHeartbeats 4000000 in
theorem dl_X7_bits_L4  {O : Type} {G_post G2_post : Int32 → (O → Prop) → Prop} {G_e32 G2_e32 : Int64 → Int32 → Int32 → (O → Prop) → Prop} (h_post : ∀ v0, dt (G_post v0) (G2_post v0)) (h_e32 : ∀ v0 v1 v2, dt (G_e32 v0 v1 v2) (G2_e32 v0 v1 v2)) : ∀ (n m : Nat) (w0 : Int64) (z2 : Int32) (z3 : Int32), dt (fun P : O → Prop => wp_X7_bits_L4 (fun v0 => G_post v0 P) (fun v0 v1 v2 => G_e32 v0 v1 v2 P) n w0 z2 z3) (fun P : O → Prop => wp_X7_bits_L4 (fun v0 => G2_post v0 P) (fun v0 v1 v2 => G2_e32 v0 v1 v2 P) m w0 z2 z3) := by
  intro n
  induction n with
  | zero => exact fun _ _ _ _ => dt_F
  | succ n4 ih =>
    intro m w0 z2 z3
    have key : ∀ m9 : Nat, dt (fun P : O → Prop => wp_X7_bits_L4 (fun v0 => G_post v0 P) (fun v0 v1 v2 => G_e32 v0 v1 v2 P) (n4 + 1) w0 z2 z3) (fun P : O → Prop => wp_X7_bits_L4 (fun v0 => G2_post v0 P) (fun v0 v1 v2 => G2_e32 v0 v1 v2 P) (m9 + 1) w0 z2 z3) := by
      intro m9
      unfold wp_X7_bits_L4
      exact (dt_p (h_e32 w0 z2 z3) (dt_b1 (F := fun k => wp_X7_isIn k w0 z3) (dt_X7_isIn w0 z3) (fun r_2 => (dt_p (ih m9 w0 (z2 + 0) (z3 + 1)) (ih m9 w0 (z2 + 1) (z3 + 1))))))
    cases m with
    | zero => exact dt_0 (key 0)
    | succ m9 => exact key m9
set_option maxHeartbeats 4000000 in
theorem dt_X7_bits (y0 : Int64) : dt (fun P : Int32 → Prop => wp_X7_bits (fun a0 => P a0) y0) (fun P : Int32 → Prop => wp_X7_bits (fun a0 => P a0) y0) := by
  unfold wp_X7_bits
  exact (dt_x (fun n4 m_n4 => (dl_X7_bits_L4  (fun v0 => (dt_r _)) (fun w0 z2 z3 => (dt_r _)) n4 m_n4 y0 0 0)))
set_option maxHeartbeats 4000000 in
theorem dt_X7_steps (s0 : Md) (x1 : Int32) : dt (fun P : Md → Prop => wp_X7_steps (fun a0 => P a0) s0 x1) (fun P : Md → Prop => wp_X7_steps (fun a0 => P a0) s0 x1) := by
  unfold wp_X7_steps
  exact (dt_b1 (F := fun k => wp_X7_of k s0 x1 (2 : Int32)) (dt_X7_of s0 x1 (2 : Int32)) (fun r_1 => (dt_b1 (F := fun k => wp_X7_flaps k s0 x1) (dt_X7_flaps s0 x1) (fun r_3 => (dt_c (dt_b1 (F := fun k => wp_X7_sets k s0 x1 (2 : Int32) (Int32.toInt64 ((r_1 + 1) - (((r_1 + 1) / r_3) * r_3)))) (dt_X7_sets s0 x1 (2 : Int32) (Int32.toInt64 ((r_1 + 1) - (((r_1 + 1) / r_3) * r_3)))) (fun u_7 => (dt_b1 (F := fun k => wp_X7_of k u_7 x1 (5 : Int32)) (dt_X7_of u_7 x1 (5 : Int32)) (fun r_8 => (dt_b1 (F := fun k => wp_X7_sets k u_7 x1 (5 : Int32) (Int32.toInt64 (r_8 + 1))) (dt_X7_sets u_7 x1 (5 : Int32) (Int32.toInt64 (r_8 + 1))) (fun u_11 => (dt_b1 (F := fun k => wp_X7_of k (u_11.1, u_11.2.1, (va_up u_11.2.2.1 0 (vp_updL (u_11.2.2.1 0) (Int32.toNatClampNeg 6) (((u_11.2.2.1 0) (Int32.toNatClampNeg 6)) + 1))), u_11.2.2.2) x1 (4 : Int32)) (dt_X7_of (u_11.1, u_11.2.1, (va_up u_11.2.2.1 0 (vp_updL (u_11.2.2.1 0) (Int32.toNatClampNeg 6) (((u_11.2.2.1 0) (Int32.toNatClampNeg 6)) + 1))), u_11.2.2.2) x1 (4 : Int32)) (fun r_12 => (dt_p (dt_b1 (F := fun k => wp_X7_of k (u_11.1, u_11.2.1, (va_up u_11.2.2.1 0 (vp_updL (u_11.2.2.1 0) (Int32.toNatClampNeg 6) (((u_11.2.2.1 0) (Int32.toNatClampNeg 6)) + 1))), u_11.2.2.2) x1 (1 : Int32)) (dt_X7_of (u_11.1, u_11.2.1, (va_up u_11.2.2.1 0 (vp_updL (u_11.2.2.1 0) (Int32.toNatClampNeg 6) (((u_11.2.2.1 0) (Int32.toNatClampNeg 6)) + 1))), u_11.2.2.2) x1 (1 : Int32)) (fun r_15 => (dt_b1 (F := fun k => wp_X7_flaps k (u_11.1, u_11.2.1, (va_up u_11.2.2.1 0 (vp_updL (u_11.2.2.1 0) (Int32.toNatClampNeg 6) (((u_11.2.2.1 0) (Int32.toNatClampNeg 6)) + 1))), u_11.2.2.2) x1) (dt_X7_flaps (u_11.1, u_11.2.1, (va_up u_11.2.2.1 0 (vp_updL (u_11.2.2.1 0) (Int32.toNatClampNeg 6) (((u_11.2.2.1 0) (Int32.toNatClampNeg 6)) + 1))), u_11.2.2.2) x1) (fun r_17 => (dt_c (dt_b1 (F := fun k => wp_X7_sets k (u_11.1, u_11.2.1, (va_up u_11.2.2.1 0 (vp_updL (u_11.2.2.1 0) (Int32.toNatClampNeg 6) (((u_11.2.2.1 0) (Int32.toNatClampNeg 6)) + 1))), u_11.2.2.2) x1 (1 : Int32) (Int32.toInt64 ((r_15 + 1) - (((r_15 + 1) / r_17) * r_17)))) (dt_X7_sets (u_11.1, u_11.2.1, (va_up u_11.2.2.1 0 (vp_updL (u_11.2.2.1 0) (Int32.toNatClampNeg 6) (((u_11.2.2.1 0) (Int32.toNatClampNeg 6)) + 1))), u_11.2.2.2) x1 (1 : Int32) (Int32.toInt64 ((r_15 + 1) - (((r_15 + 1) / r_17) * r_17)))) (fun u_21 => (dt_b1 (F := fun k => wp_X7_of k u_21 x1 (1 : Int32)) (dt_X7_of u_21 x1 (1 : Int32)) (fun r_22 => (dt_p (dt_b1 (F := fun k => wp_X7_of k u_21 x1 (6 : Int32)) (dt_X7_of u_21 x1 (6 : Int32)) (fun r_25 => (dt_b1 (F := fun k => wp_X7_sets k u_21 x1 (6 : Int32) (Int32.toInt64 (r_25 + ((r_1 + 1) - (((r_1 + 1) / r_3) * r_3))))) (dt_X7_sets u_21 x1 (6 : Int32) (Int32.toInt64 (r_25 + ((r_1 + 1) - (((r_1 + 1) / r_3) * r_3))))) (fun u_28 => (dt_b1 (F := fun k => wp_X7_sets k (u_28.1, u_28.2.1, (va_up u_28.2.2.1 0 (vp_updL (u_28.2.2.1 0) (Int32.toNatClampNeg 7) (((u_28.2.2.1 0) (Int32.toNatClampNeg 7)) + (Int32.toInt64 ((r_1 + 1) - (((r_1 + 1) / r_3) * r_3)))))), u_28.2.2.2) x1 (2 : Int32) (0 : Int64)) (dt_X7_sets (u_28.1, u_28.2.1, (va_up u_28.2.2.1 0 (vp_updL (u_28.2.2.1 0) (Int32.toNatClampNeg 7) (((u_28.2.2.1 0) (Int32.toNatClampNeg 7)) + (Int32.toInt64 ((r_1 + 1) - (((r_1 + 1) / r_3) * r_3)))))), u_28.2.2.2) x1 (2 : Int32) (0 : Int64)) (fun u_30 => (dt_r _))))))) (dt_r _))))))))))) (dt_b1 (F := fun k => wp_X7_of k (u_11.1, u_11.2.1, (va_up u_11.2.2.1 0 (vp_updL (u_11.2.2.1 0) (Int32.toNatClampNeg 6) (((u_11.2.2.1 0) (Int32.toNatClampNeg 6)) + 1))), u_11.2.2.2) x1 (4 : Int32)) (dt_X7_of (u_11.1, u_11.2.1, (va_up u_11.2.2.1 0 (vp_updL (u_11.2.2.1 0) (Int32.toNatClampNeg 6) (((u_11.2.2.1 0) (Int32.toNatClampNeg 6)) + 1))), u_11.2.2.2) x1 (4 : Int32)) (fun r_31 => (dt_b1 (F := fun k => wp_X7_sets k (u_11.1, u_11.2.1, (va_up u_11.2.2.1 0 (vp_updL (u_11.2.2.1 0) (Int32.toNatClampNeg 6) (((u_11.2.2.1 0) (Int32.toNatClampNeg 6)) + 1))), u_11.2.2.2) x1 (4 : Int32) (Int32.toInt64 (r_31 - 1))) (dt_X7_sets (u_11.1, u_11.2.1, (va_up u_11.2.2.1 0 (vp_updL (u_11.2.2.1 0) (Int32.toNatClampNeg 6) (((u_11.2.2.1 0) (Int32.toNatClampNeg 6)) + 1))), u_11.2.2.2) x1 (4 : Int32) (Int32.toInt64 (r_31 - 1))) (fun u_34 => (dt_r _)))))))))))))))))))
set_option maxHeartbeats 4000000 in
theorem dl_X7_findsTurning_L33  {O : Type} {G_post G2_post : Md → (O → Prop) → Prop} {G_e91 G2_e91 : Md → Int64 → Int32 → Int32 → Int32 → (O → Prop) → Prop} (h_post : ∀ v0, dt (G_post v0) (G2_post v0)) (h_e91 : ∀ v0 v1 v2 v3 v4, dt (G_e91 v0 v1 v2 v3 v4) (G2_e91 v0 v1 v2 v3 v4)) : ∀ (n m : Nat) (t0 : Md) (w1 : Int64) (z3 : Int32) (z4 : Int32) (z5 : Int32), dt (fun P : O → Prop => wp_X7_findsTurning_L33 (fun v0 => G_post v0 P) (fun v0 v1 v2 v3 v4 => G_e91 v0 v1 v2 v3 v4 P) n t0 w1 z3 z4 z5) (fun P : O → Prop => wp_X7_findsTurning_L33 (fun v0 => G2_post v0 P) (fun v0 v1 v2 v3 v4 => G2_e91 v0 v1 v2 v3 v4 P) m t0 w1 z3 z4 z5) := by
  intro n
  induction n with
  | zero => exact fun _ _ _ _ _ _ => dt_F
  | succ n33 ih =>
    intro m t0 w1 z3 z4 z5
    have key : ∀ m9 : Nat, dt (fun P : O → Prop => wp_X7_findsTurning_L33 (fun v0 => G_post v0 P) (fun v0 v1 v2 v3 v4 => G_e91 v0 v1 v2 v3 v4 P) (n33 + 1) t0 w1 z3 z4 z5) (fun P : O → Prop => wp_X7_findsTurning_L33 (fun v0 => G2_post v0 P) (fun v0 v1 v2 v3 v4 => G2_e91 v0 v1 v2 v3 v4 P) (m9 + 1) t0 w1 z3 z4 z5) := by
      intro m9
      unfold wp_X7_findsTurning_L33
      exact (dt_b1 (F := fun k => wp_X7_cells k t0) (dt_X7_cells t0) (fun r_4 => (dt_p (h_e91 t0 w1 z3 z4 z5) (dt_b1 (F := fun k => wp_X7_isIn k w1 z5) (dt_X7_isIn w1 z5) (fun r_7 => (dt_n (ih m9 t0 w1 z3 z4 (z5 + 1)) (dt_b1 (F := fun k => wp_X7_leftOf k t0 z5) (dt_X7_leftOf t0 z5) (fun r_10 => (dt_p (ih m9 t0 w1 z3 z4 (z5 + 1)) (dt_p (ih m9 t0 w1 z3 z5 (z5 + 1)) (dt_b1 (F := fun k => wp_X7_leftOf k t0 z5) (dt_X7_leftOf t0 z5) (fun r_14 => (dt_b1 (F := fun k => wp_X7_leftOf k t0 z4) (dt_X7_leftOf t0 z4) (fun r_16 => (dt_p (ih m9 t0 w1 z3 z4 (z5 + 1)) (ih m9 t0 w1 z3 z5 (z5 + 1)))))))))))))))))
    cases m with
    | zero => exact dt_0 (key 0)
    | succ m9 => exact key m9
set_option maxHeartbeats 4000000 in
theorem dl_X7_findsTurning_L19  {O : Type} {G_post G2_post : Md → (O → Prop) → Prop} {G_e174 G2_e174 : Md → Int64 → Int32 → (O → Prop) → Prop} (h_post : ∀ v0, dt (G_post v0) (G2_post v0)) (h_e174 : ∀ v0 v1 v2, dt (G_e174 v0 v1 v2) (G2_e174 v0 v1 v2)) : ∀ (n m : Nat) (t0 : Md) (w1 : Int64) (z3 : Int32), dt (fun P : O → Prop => wp_X7_findsTurning_L19 (fun v0 => G_post v0 P) (fun v0 v1 v2 => G_e174 v0 v1 v2 P) n t0 w1 z3) (fun P : O → Prop => wp_X7_findsTurning_L19 (fun v0 => G2_post v0 P) (fun v0 v1 v2 => G2_e174 v0 v1 v2 P) m t0 w1 z3) := by
  intro n
  induction n with
  | zero => exact fun _ _ _ _ => dt_F
  | succ n19 ih =>
    intro m t0 w1 z3
    have key : ∀ m9 : Nat, dt (fun P : O → Prop => wp_X7_findsTurning_L19 (fun v0 => G_post v0 P) (fun v0 v1 v2 => G_e174 v0 v1 v2 P) (n19 + 1) t0 w1 z3) (fun P : O → Prop => wp_X7_findsTurning_L19 (fun v0 => G2_post v0 P) (fun v0 v1 v2 => G2_e174 v0 v1 v2 P) (m9 + 1) t0 w1 z3) := by
      intro m9
      unfold wp_X7_findsTurning_L19
      exact (dt_b1 (F := fun k => wp_X7_cells k t0) (dt_X7_cells t0) (fun r_1 => (dt_p (h_e174 t0 w1 z3) (dt_x (fun n33 m_n33 => (dl_X7_findsTurning_L33  (fun v0 => (h_post v0)) (fun t0 w1 z3 z4 z5 => (dt_n (dt_b1 (F := fun k => wp_X7_current k t0 z4) (dt_X7_current t0 z4) (fun r_20 => (dt_p (dt_b1 (F := fun k => wp_X7_current k ((va_up t0.1 1 ((t0.1 1) + 1)), (t0.2.1 ||| ((1 : Int64) <<< ((Int32.toInt64 z4) &&& 63))), t0.2.2.1, t0.2.2.2) z4) (dt_X7_current ((va_up t0.1 1 ((t0.1 1) + 1)), (t0.2.1 ||| ((1 : Int64) <<< ((Int32.toInt64 z4) &&& 63))), t0.2.2.1, t0.2.2.2) z4) (fun r_23 => (ih m9 ((va_up (va_up t0.1 1 ((t0.1 1) + 1)) 2 ((t0.1 2) + r_23)), (t0.2.1 ||| ((1 : Int64) <<< ((Int32.toInt64 z4) &&& 63))), t0.2.2.1, t0.2.2.2) (w1 ||| ((1 : Int64) <<< ((Int32.toInt64 z4) &&& 63))) (z3 + 1)))) (ih m9 t0 (w1 ||| ((1 : Int64) <<< ((Int32.toInt64 z4) &&& 63))) (z3 + 1))))) (h_post t0))) n33 m_n33 t0 w1 z3 (-1) 0))))))
    cases m with
    | zero => exact dt_0 (key 0)
    | succ m9 => exact key m9
set_option maxHeartbeats 4000000 in
theorem dt_X7_findsTurning (s0 : Md) : dt (fun P : Md → Prop => wp_X7_findsTurning (fun a0 => P a0) s0) (fun P : Md → Prop => wp_X7_findsTurning (fun a0 => P a0) s0) := by
  unfold wp_X7_findsTurning
  exact (dt_x (fun n19 m_n19 => (dl_X7_findsTurning_L19  (fun v0 => (dt_r _)) (fun t0 w1 z3 => (dt_r _)) n19 m_n19 ((va_up (va_up s0.1 1 0) 2 0), 0, s0.2.2.1, s0.2.2.2) 0 0)))
set_option maxHeartbeats 4000000 in
theorem dl_X7_ticks_L6  {O : Type} {G_post G2_post : Int32 → Md → (O → Prop) → Prop} {G_e36 G2_e36 : Md → Int32 → (O → Prop) → Prop} (h_post : ∀ v0 v1, dt (G_post v0 v1) (G2_post v0 v1)) (h_e36 : ∀ v0 v1, dt (G_e36 v0 v1) (G2_e36 v0 v1)) : ∀ (n m : Nat) (t0 : Md) (z1 : Int32), dt (fun P : O → Prop => wp_X7_ticks_L6 (fun v0 v1 => G_post v0 v1 P) (fun v0 v1 => G_e36 v0 v1 P) n t0 z1) (fun P : O → Prop => wp_X7_ticks_L6 (fun v0 v1 => G2_post v0 v1 P) (fun v0 v1 => G2_e36 v0 v1 P) m t0 z1) := by
  intro n
  induction n with
  | zero => exact fun _ _ _ => dt_F
  | succ n6 ih =>
    intro m t0 z1
    have key : ∀ m9 : Nat, dt (fun P : O → Prop => wp_X7_ticks_L6 (fun v0 v1 => G_post v0 v1 P) (fun v0 v1 => G_e36 v0 v1 P) (n6 + 1) t0 z1) (fun P : O → Prop => wp_X7_ticks_L6 (fun v0 v1 => G2_post v0 v1 P) (fun v0 v1 => G2_e36 v0 v1 P) (m9 + 1) t0 z1) := by
      intro m9
      unfold wp_X7_ticks_L6
      exact (dt_b1 (F := fun k => wp_X7_cells k t0) (dt_X7_cells t0) (fun r_3 => (dt_p (h_e36 t0 z1) (dt_b1 (F := fun k => wp_X7_isIn k t0.2.1 z1) (dt_X7_isIn t0.2.1 z1) (fun r_6 => (dt_p (ih m9 t0 (z1 + 1)) (dt_b1 (F := fun k => wp_X7_steps k t0 z1) (dt_X7_steps t0 z1) (fun u_10 => (ih m9 u_10 (z1 + 1))))))))))
    cases m with
    | zero => exact dt_0 (key 0)
    | succ m9 => exact key m9
set_option maxHeartbeats 4000000 in
theorem dt_X7_ticks (s0 : Md) : dt (fun P : (Int32 × Md) → Prop => wp_X7_ticks (fun a0 a1 => P (a0, a1)) s0) (fun P : (Int32 × Md) → Prop => wp_X7_ticks (fun a0 a1 => P (a0, a1)) s0) := by
  unfold wp_X7_ticks
  exact (dt_b1 (F := fun k => wp_X7_findsTurning k s0) (dt_X7_findsTurning s0) (fun u_2 => (dt_x (fun n6 m_n6 => (dl_X7_ticks_L6  (fun v0 v1 => (dt_r _)) (fun t0 z1 => (dt_n (dt_r _) (dt_r _))) n6 m_n6 u_2 0)))))
set_option maxHeartbeats 4000000 in
theorem dl_X7_flapFor_L5 (s0 : Md) {O : Type} {G_post G2_post : Int32 → (O → Prop) → Prop} {G_e95 G2_e95 : Int32 → Int32 → Int32 → Int32 → (O → Prop) → Prop} (h_post : ∀ v0, dt (G_post v0) (G2_post v0)) (h_e95 : ∀ v0 v1 v2 v3, dt (G_e95 v0 v1 v2 v3) (G2_e95 v0 v1 v2 v3)) : ∀ (n m : Nat) (z1 : Int32) (z2 : Int32) (z3 : Int32) (z4 : Int32), dt (fun P : O → Prop => wp_X7_flapFor_L5 s0 (fun v0 => G_post v0 P) (fun v0 v1 v2 v3 => G_e95 v0 v1 v2 v3 P) n z1 z2 z3 z4) (fun P : O → Prop => wp_X7_flapFor_L5 s0 (fun v0 => G2_post v0 P) (fun v0 v1 v2 v3 => G2_e95 v0 v1 v2 v3 P) m z1 z2 z3 z4) := by
  intro n
  induction n with
  | zero => exact fun _ _ _ _ _ => dt_F
  | succ n5 ih =>
    intro m z1 z2 z3 z4
    have key : ∀ m9 : Nat, dt (fun P : O → Prop => wp_X7_flapFor_L5 s0 (fun v0 => G_post v0 P) (fun v0 v1 v2 v3 => G_e95 v0 v1 v2 v3 P) (n5 + 1) z1 z2 z3 z4) (fun P : O → Prop => wp_X7_flapFor_L5 s0 (fun v0 => G2_post v0 P) (fun v0 v1 v2 v3 => G2_e95 v0 v1 v2 v3 P) (m9 + 1) z1 z2 z3 z4) := by
      intro m9
      unfold wp_X7_flapFor_L5
      exact (dt_b1 (F := fun k => wp_X7_flaps k s0 z1) (dt_X7_flaps s0 z1) (fun r_1 => (dt_p (h_e95 z1 z2 z3 z4) (dt_b1 (F := fun k => wp_X7_of k s0 z1 (0 : Int32)) (dt_X7_of s0 z1 (0 : Int32)) (fun r_4 => (dt_b1 (F := fun k => wp_X7_signOf k s0 r_4 z4) (dt_X7_signOf s0 r_4 z4) (fun r_6 => (dt_n (ih m9 z1 z2 z3 (z4 + 1)) (dt_b1 (F := fun k => wp_X7_wornOf k s0 z1) (dt_X7_wornOf s0 z1) (fun r_9 => (dt_b1 (F := fun k => wp_X7_isIn k r_9 z4) (dt_X7_isIn r_9 z4) (fun r_11 => (dt_p (dt_p (ih m9 z1 z2 z4 (z4 + 1)) (dt_b1 (F := fun k => wp_X7_of k s0 z1 (2 : Int32)) (dt_X7_of s0 z1 (2 : Int32)) (fun r_15 => (dt_b1 (F := fun k => wp_X7_flaps k s0 z1) (dt_X7_flaps s0 z1) (fun r_17 => (dt_b1 (F := fun k => wp_X7_on k r_15 z4 r_17) (dt_X7_on r_15 z4 r_17) (fun r_19 => (dt_b1 (F := fun k => wp_X7_of k s0 z1 (2 : Int32)) (dt_X7_of s0 z1 (2 : Int32)) (fun r_21 => (dt_b1 (F := fun k => wp_X7_flaps k s0 z1) (dt_X7_flaps s0 z1) (fun r_23 => (dt_b1 (F := fun k => wp_X7_on k r_21 z3 r_23) (dt_X7_on r_21 z3 r_23) (fun r_25 => (dt_p (ih m9 z1 z2 z3 (z4 + 1)) (ih m9 z1 z2 z4 (z4 + 1)))))))))))))))) (ih m9 z1 z2 z3 (z4 + 1)))))))))))))))
    cases m with
    | zero => exact dt_0 (key 0)
    | succ m9 => exact key m9
set_option maxHeartbeats 4000000 in
theorem dt_X7_flapFor (s0 : Md) (x1 : Int32) (x2 : Int32) : dt (fun P : Int32 → Prop => wp_X7_flapFor (fun a0 => P a0) s0 x1 x2) (fun P : Int32 → Prop => wp_X7_flapFor (fun a0 => P a0) s0 x1 x2) := by
  unfold wp_X7_flapFor
  exact (dt_x (fun n5 m_n5 => (dl_X7_flapFor_L5 s0 (fun v0 => (dt_r _)) (fun z1 z2 z3 z4 => (dt_r _)) n5 m_n5 x1 x2 (-1) 0)))
set_option maxHeartbeats 4000000 in
theorem dt_X7_wantsFlap (s0 : Md) (x1 : Int32) (x2 : Int32) (x3 : Int32) : dt (fun P : Md → Prop => wp_X7_wantsFlap (fun a0 => P a0) s0 x1 x2 x3) (fun P : Md → Prop => wp_X7_wantsFlap (fun a0 => P a0) s0 x1 x2 x3) := by
  unfold wp_X7_wantsFlap
  exact (dt_b1 (F := fun k => wp_X7_sets k s0 x1 (3 : Int32) (Int32.toInt64 x2)) (dt_X7_sets s0 x1 (3 : Int32) (Int32.toInt64 x2)) (fun u_2 => (dt_p (dt_r _) (dt_b1 (F := fun k => wp_X7_of k u_2 x1 (2 : Int32)) (dt_X7_of u_2 x1 (2 : Int32)) (fun r_4 => (dt_p (dt_r _) (dt_b1 (F := fun k => wp_X7_of k u_2 x1 (0 : Int32)) (dt_X7_of u_2 x1 (0 : Int32)) (fun r_7 => (dt_b1 (F := fun k => wp_X7_of k u_2 x1 (2 : Int32)) (dt_X7_of u_2 x1 (2 : Int32)) (fun r_9 => (dt_c (dt_c (dt_r _)))))))))))))
set_option maxHeartbeats 4000000 in
theorem dl_X7_wantsSigns_L6  {O : Type} {G_post G2_post : Int32 → Md → (O → Prop) → Prop} {G_e81 G2_e81 : Md → Int32 → Int32 → Int32 → Int32 → Int32 → Int32 → (O → Prop) → Prop} (h_post : ∀ v0 v1, dt (G_post v0 v1) (G2_post v0 v1)) (h_e81 : ∀ v0 v1 v2 v3 v4 v5 v6, dt (G_e81 v0 v1 v2 v3 v4 v5 v6) (G2_e81 v0 v1 v2 v3 v4 v5 v6)) : ∀ (n m : Nat) (t0 : Md) (z1 : Int32) (z2 : Int32) (z3 : Int32) (z4 : Int32) (z5 : Int32) (z6 : Int32), dt (fun P : O → Prop => wp_X7_wantsSigns_L6 (fun v0 v1 => G_post v0 v1 P) (fun v0 v1 v2 v3 v4 v5 v6 => G_e81 v0 v1 v2 v3 v4 v5 v6 P) n t0 z1 z2 z3 z4 z5 z6) (fun P : O → Prop => wp_X7_wantsSigns_L6 (fun v0 v1 => G2_post v0 v1 P) (fun v0 v1 v2 v3 v4 v5 v6 => G2_e81 v0 v1 v2 v3 v4 v5 v6 P) m t0 z1 z2 z3 z4 z5 z6) := by
  intro n
  induction n with
  | zero => exact fun _ _ _ _ _ _ _ _ => dt_F
  | succ n6 ih =>
    intro m t0 z1 z2 z3 z4 z5 z6
    have key : ∀ m9 : Nat, dt (fun P : O → Prop => wp_X7_wantsSigns_L6 (fun v0 v1 => G_post v0 v1 P) (fun v0 v1 v2 v3 v4 v5 v6 => G_e81 v0 v1 v2 v3 v4 v5 v6 P) (n6 + 1) t0 z1 z2 z3 z4 z5 z6) (fun P : O → Prop => wp_X7_wantsSigns_L6 (fun v0 v1 => G2_post v0 v1 P) (fun v0 v1 v2 v3 v4 v5 v6 => G2_e81 v0 v1 v2 v3 v4 v5 v6 P) (m9 + 1) t0 z1 z2 z3 z4 z5 z6) := by
      intro m9
      unfold wp_X7_wantsSigns_L6
      exact (dt_b1 (F := fun k => wp_X7_wide k t0) (dt_X7_wide t0) (fun r_1 => (dt_p (h_e81 t0 z1 z2 z3 z4 z5 z6) (dt_b1 (F := fun k => wp_X7_wide k t0) (dt_X7_wide t0) (fun r_4 => (dt_p (dt_b1 (F := fun k => wp_X7_wantsFlap k t0 ((r_4 * z1) + z6) (0 : Int32) z4) (dt_X7_wantsFlap t0 ((r_4 * z1) + z6) (0 : Int32) z4) (fun u_8 => (ih m9 u_8 z1 z2 z3 z4 z5 (z6 + 1)))) (dt_c (dt_b1 (F := fun k => wp_X7_flapFor k t0 ((r_4 * z1) + z6) ((t0.2.2.2 2) (Int32.toNatClampNeg (z2 + z6)))) (dt_X7_flapFor t0 ((r_4 * z1) + z6) ((t0.2.2.2 2) (Int32.toNatClampNeg (z2 + z6)))) (fun r_10 => (dt_n (dt_b1 (F := fun k => wp_X7_wantsFlap k t0 ((r_4 * z1) + z6) r_10 z4) (dt_X7_wantsFlap t0 ((r_4 * z1) + z6) r_10 z4) (fun u_14 => (ih m9 u_14 z1 z2 z3 z4 z5 (z6 + 1)))) (ih m9 t0 z1 z2 z3 z4 (z5 + 1) (z6 + 1))))))))))))
    cases m with
    | zero => exact dt_0 (key 0)
    | succ m9 => exact key m9
set_option maxHeartbeats 4000000 in
theorem dt_X7_wantsSigns (s0 : Md) (x1 : Int32) (x2 : Int32) (x3 : Int32) (x4 : Int32) : dt (fun P : (Int32 × Md) → Prop => wp_X7_wantsSigns (fun a0 a1 => P (a0, a1)) s0 x1 x2 x3 x4) (fun P : (Int32 × Md) → Prop => wp_X7_wantsSigns (fun a0 a1 => P (a0, a1)) s0 x1 x2 x3 x4) := by
  unfold wp_X7_wantsSigns
  exact (dt_x (fun n6 m_n6 => (dl_X7_wantsSigns_L6  (fun v0 v1 => (dt_r _)) (fun t0 z1 z2 z3 z4 z5 z6 => (dt_r _)) n6 m_n6 s0 x1 x2 x3 x4 0 0)))
