set_option maxHeartbeats 4000000 in
theorem dl_X7_readsRow_L62  {O : Type} {G_post G2_post : Int32 → Md → (O → Prop) → Prop} {G_e116 G2_e116 : Md → Int32 → Int32 → Int32 → (O → Prop) → Prop} (h_post : ∀ v0 v1, dt (G_post v0 v1) (G2_post v0 v1)) (h_e116 : ∀ v0 v1 v2 v3, dt (G_e116 v0 v1 v2 v3) (G2_e116 v0 v1 v2 v3)) : ∀ (n m : Nat) (t0 : Md) (z1 : Int32) (z2 : Int32) (z3 : Int32), dt (fun P : O → Prop => wp_X7_readsRow_L62 (fun v0 v1 => G_post v0 v1 P) (fun v0 v1 v2 v3 => G_e116 v0 v1 v2 v3 P) n t0 z1 z2 z3) (fun P : O → Prop => wp_X7_readsRow_L62 (fun v0 v1 => G2_post v0 v1 P) (fun v0 v1 v2 v3 => G2_e116 v0 v1 v2 v3 P) m t0 z1 z2 z3) := by
  intro n
  induction n with
  | zero => exact fun _ _ _ _ _ => dt_F
  | succ n62 ih =>
    intro m t0 z1 z2 z3
    have key : ∀ m9 : Nat, dt (fun P : O → Prop => wp_X7_readsRow_L62 (fun v0 v1 => G_post v0 v1 P) (fun v0 v1 v2 v3 => G_e116 v0 v1 v2 v3 P) (n62 + 1) t0 z1 z2 z3) (fun P : O → Prop => wp_X7_readsRow_L62 (fun v0 v1 => G2_post v0 v1 P) (fun v0 v1 v2 v3 => G2_e116 v0 v1 v2 v3 P) (m9 + 1) t0 z1 z2 z3) := by
      intro m9
      unfold wp_X7_readsRow_L62
      exact (dt_b1 (F := fun k => wp_X7_wide k t0) (dt_X7_wide t0) (fun r_13 => (dt_p (h_e116 t0 z1 z2 z3) (dt_b1 (F := fun k => wp_X7_wide k t0) (dt_X7_wide t0) (fun r_16 => (dt_b1 (F := fun k => wp_X7_of k t0 ((r_16 * z1) + z3) (3 : Int32)) (dt_X7_of t0 ((r_16 * z1) + z3) (3 : Int32)) (fun r_18 => (dt_b1 (F := fun k => wp_X7_sets k t0 ((r_16 * z1) + z3) (1 : Int32) (Int32.toInt64 r_18)) (dt_X7_sets t0 ((r_16 * z1) + z3) (1 : Int32) (Int32.toInt64 r_18)) (fun u_21 => (dt_b1 (F := fun k => wp_X7_of k u_21 ((r_16 * z1) + z3) (3 : Int32)) (dt_X7_of u_21 ((r_16 * z1) + z3) (3 : Int32)) (fun r_22 => (dt_b1 (F := fun k => wp_X7_sets k u_21 ((r_16 * z1) + z3) (2 : Int32) (Int32.toInt64 r_22)) (dt_X7_sets u_21 ((r_16 * z1) + z3) (2 : Int32) (Int32.toInt64 r_22)) (fun u_25 => (ih m9 u_25 z1 z2 (z3 + 1)))))))))))))))
    cases m with
    | zero => exact dt_0 (key 0)
    | succ m9 => exact key m9
set_option maxHeartbeats 4000000 in
theorem dt_X7_readsRow (s0 : Md) : dt (fun P : (Int32 × Md) → Prop => wp_X7_readsRow (fun a0 a1 => P (a0, a1)) s0) (fun P : (Int32 × Md) → Prop => wp_X7_readsRow (fun a0 a1 => P (a0, a1)) s0) := by
  unfold wp_X7_readsRow
  exact (dt_b1 (F := fun k => wp_X7_rows k ((va_up s0.1 6 ((s0.1 6) + 3)), s0.2.1, s0.2.2.1, s0.2.2.2)) (dt_X7_rows ((va_up s0.1 6 ((s0.1 6) + 3)), s0.2.1, s0.2.2.1, s0.2.2.2)) (fun r_1 => (dt_b2 (F := fun k => wp_X7_readsNumber k ((va_up s0.1 6 ((s0.1 6) + 3)), s0.2.1, s0.2.2.1, s0.2.2.2) (0 : Int32) (r_1 - 1)) (dt_X7_readsNumber ((va_up s0.1 6 ((s0.1 6) + 3)), s0.2.1, s0.2.2.1, s0.2.2.2) (0 : Int32) (r_1 - 1)) (fun r_3 u_4 => (dt_n (dt_b1 (F := fun k => wp_X7_wide k u_4) (dt_X7_wide u_4) (fun r_6 => (dt_b2 (F := fun k => wp_X7_readsQuoted k u_4 (0 : Int32) r_6) (dt_X7_readsQuoted u_4 (0 : Int32) r_6) (fun r_8 u_9 => (dt_n (dt_b2 (F := fun k => wp_X7_wantsSigns k u_9 (u_4.1 8) (u_9.1 10) (u_9.1 11) (0 : Int32)) (dt_X7_wantsSigns u_9 (u_4.1 8) (u_9.1 10) (u_9.1 11) (0 : Int32)) (fun r_11 u_12 => (dt_x (fun n62 m_n62 => (dl_X7_readsRow_L62  (fun v0 v1 => (dt_r _)) (fun t0 z1 z2 z3 => (dt_r _)) n62 m_n62 u_12 (u_4.1 8) r_11 0))))) (dt_r _)))))) (dt_r _))))))
set_option maxHeartbeats 4000000 in
theorem dt_X7_readsLose (s0 : Md) : dt (fun P : (Int32 × Md) → Prop => wp_X7_readsLose (fun a0 a1 => P (a0, a1)) s0) (fun P : (Int32 × Md) → Prop => wp_X7_readsLose (fun a0 a1 => P (a0, a1)) s0) := by
  unfold wp_X7_readsLose
  exact (dt_b1 (F := fun k => wp_X7_cells k ((va_up s0.1 6 ((s0.1 6) + 4)), s0.2.1, s0.2.2.1, s0.2.2.2)) (dt_X7_cells ((va_up s0.1 6 ((s0.1 6) + 4)), s0.2.1, s0.2.2.1, s0.2.2.2)) (fun r_1 => (dt_b2 (F := fun k => wp_X7_readsNumber k ((va_up s0.1 6 ((s0.1 6) + 4)), s0.2.1, s0.2.2.1, s0.2.2.2) (0 : Int32) (r_1 - 1)) (dt_X7_readsNumber ((va_up s0.1 6 ((s0.1 6) + 4)), s0.2.1, s0.2.2.1, s0.2.2.2) (0 : Int32) (r_1 - 1)) (fun r_3 u_4 => (dt_n (dt_b2 (F := fun k => wp_X7_readsNumber k ((va_up u_4.1 12 (u_4.1 8)), u_4.2.1, u_4.2.2.1, u_4.2.2.2) (0 : Int32) (9 : Int32)) (dt_X7_readsNumber ((va_up u_4.1 12 (u_4.1 8)), u_4.2.1, u_4.2.2.1, u_4.2.2.2) (0 : Int32) (9 : Int32)) (fun r_6 u_7 => (dt_c (dt_r _)))) (dt_r _))))))
set_option maxHeartbeats 4000000 in
theorem dt_X7_readsPart (s0 : Md) : dt (fun P : (Int32 × Md) → Prop => wp_X7_readsPart (fun a0 a1 => P (a0, a1)) s0) (fun P : (Int32 × Md) → Prop => wp_X7_readsPart (fun a0 a1 => P (a0, a1)) s0) := by
  unfold wp_X7_readsPart
  exact (dt_b2 (F := fun k => wp_X7_isWord k s0 2) (dt_X7_isWord s0 2) (fun r_1 u_2 => (dt_p (dt_b2 (F := fun k => wp_X7_isWord k u_2 3) (dt_X7_isWord u_2 3) (fun r_4 u_5 => (dt_n (dt_b1 (F := fun k => wp_X7_drums k u_5) (dt_X7_drums u_5) (fun r_7 => (dt_n (dt_b2 (F := fun k => wp_X7_isWord k u_5 3) (dt_X7_isWord u_5 3) (fun r_10 u_11 => (dt_p (dt_b2 (F := fun k => wp_X7_isWord k u_11 4) (dt_X7_isWord u_11 4) (fun r_13 u_14 => (dt_p (dt_b2 (F := fun k => wp_X7_isWord k u_14 5) (dt_X7_isWord u_14 5) (fun r_16 u_17 => (dt_p (dt_b2 (F := fun k => wp_X7_readsLose k u_17) (dt_X7_readsLose u_17) (fun r_19 u_20 => (dt_n (dt_b1 (F := fun k => wp_X7_sets k u_20 (u_20.1 12) (4 : Int32) (Int32.toInt64 (u_20.1 8))) (dt_X7_sets u_20 (u_20.1 12) (4 : Int32) (Int32.toInt64 (u_20.1 8))) (fun u_23 => (dt_r _))) (dt_r _)))) (dt_b2 (F := fun k => wp_X7_readsRow k u_17) (dt_X7_readsRow u_17) (fun r_24 u_25 => (dt_c (dt_r _))))))) (dt_b2 (F := fun k => wp_X7_readsWorn k u_14) (dt_X7_readsWorn u_14) (fun r_27 u_28 => (dt_c (dt_r _))))))) (dt_b2 (F := fun k => wp_X7_readsCells k u_11) (dt_X7_readsCells u_11) (fun r_30 u_31 => (dt_c (dt_r _))))))) (dt_b2 (F := fun k => wp_X7_fails k u_5 (3 : Int32) (u_5.1 6)) (dt_X7_fails u_5 (3 : Int32) (u_5.1 6)) (fun r_33 u_34 => (dt_c (dt_r _))))))) (dt_b2 (F := fun k => wp_X7_isWord k u_5 4) (dt_X7_isWord u_5 4) (fun r_36 u_37 => (dt_n (dt_b1 (F := fun k => wp_X7_drums k u_37) (dt_X7_drums u_37) (fun r_39 => (dt_n (dt_b2 (F := fun k => wp_X7_isWord k u_37 3) (dt_X7_isWord u_37 3) (fun r_42 u_43 => (dt_p (dt_b2 (F := fun k => wp_X7_isWord k u_43 4) (dt_X7_isWord u_43 4) (fun r_45 u_46 => (dt_p (dt_b2 (F := fun k => wp_X7_isWord k u_46 5) (dt_X7_isWord u_46 5) (fun r_48 u_49 => (dt_p (dt_b2 (F := fun k => wp_X7_readsLose k u_49) (dt_X7_readsLose u_49) (fun r_51 u_52 => (dt_n (dt_b1 (F := fun k => wp_X7_sets k u_52 (u_52.1 12) (4 : Int32) (Int32.toInt64 (u_52.1 8))) (dt_X7_sets u_52 (u_52.1 12) (4 : Int32) (Int32.toInt64 (u_52.1 8))) (fun u_55 => (dt_r _))) (dt_r _)))) (dt_b2 (F := fun k => wp_X7_readsRow k u_49) (dt_X7_readsRow u_49) (fun r_56 u_57 => (dt_c (dt_r _))))))) (dt_b2 (F := fun k => wp_X7_readsWorn k u_46) (dt_X7_readsWorn u_46) (fun r_59 u_60 => (dt_c (dt_r _))))))) (dt_b2 (F := fun k => wp_X7_readsCells k u_43) (dt_X7_readsCells u_43) (fun r_62 u_63 => (dt_c (dt_r _))))))) (dt_b2 (F := fun k => wp_X7_fails k u_37 (3 : Int32) (u_37.1 6)) (dt_X7_fails u_37 (3 : Int32) (u_37.1 6)) (fun r_65 u_66 => (dt_c (dt_r _))))))) (dt_b2 (F := fun k => wp_X7_isWord k u_37 5) (dt_X7_isWord u_37 5) (fun r_68 u_69 => (dt_n (dt_b1 (F := fun k => wp_X7_drums k u_69) (dt_X7_drums u_69) (fun r_71 => (dt_n (dt_b2 (F := fun k => wp_X7_isWord k u_69 3) (dt_X7_isWord u_69 3) (fun r_74 u_75 => (dt_p (dt_b2 (F := fun k => wp_X7_isWord k u_75 4) (dt_X7_isWord u_75 4) (fun r_77 u_78 => (dt_p (dt_b2 (F := fun k => wp_X7_isWord k u_78 5) (dt_X7_isWord u_78 5) (fun r_80 u_81 => (dt_p (dt_b2 (F := fun k => wp_X7_readsLose k u_81) (dt_X7_readsLose u_81) (fun r_83 u_84 => (dt_n (dt_b1 (F := fun k => wp_X7_sets k u_84 (u_84.1 12) (4 : Int32) (Int32.toInt64 (u_84.1 8))) (dt_X7_sets u_84 (u_84.1 12) (4 : Int32) (Int32.toInt64 (u_84.1 8))) (fun u_87 => (dt_r _))) (dt_r _)))) (dt_b2 (F := fun k => wp_X7_readsRow k u_81) (dt_X7_readsRow u_81) (fun r_88 u_89 => (dt_c (dt_r _))))))) (dt_b2 (F := fun k => wp_X7_readsWorn k u_78) (dt_X7_readsWorn u_78) (fun r_91 u_92 => (dt_c (dt_r _))))))) (dt_b2 (F := fun k => wp_X7_readsCells k u_75) (dt_X7_readsCells u_75) (fun r_94 u_95 => (dt_c (dt_r _))))))) (dt_b2 (F := fun k => wp_X7_fails k u_69 (3 : Int32) (u_69.1 6)) (dt_X7_fails u_69 (3 : Int32) (u_69.1 6)) (fun r_97 u_98 => (dt_c (dt_r _))))))) (dt_b2 (F := fun k => wp_X7_isWord k u_69 6) (dt_X7_isWord u_69 6) (fun r_100 u_101 => (dt_p (dt_b2 (F := fun k => wp_X7_fails k u_101 (1 : Int32) (u_101.1 6)) (dt_X7_fails u_101 (1 : Int32) (u_101.1 6)) (fun r_103 u_104 => (dt_c (dt_r _)))) (dt_b1 (F := fun k => wp_X7_drums k u_101) (dt_X7_drums u_101) (fun r_106 => (dt_n (dt_b2 (F := fun k => wp_X7_isWord k u_101 3) (dt_X7_isWord u_101 3) (fun r_109 u_110 => (dt_p (dt_b2 (F := fun k => wp_X7_isWord k u_110 4) (dt_X7_isWord u_110 4) (fun r_112 u_113 => (dt_p (dt_b2 (F := fun k => wp_X7_isWord k u_113 5) (dt_X7_isWord u_113 5) (fun r_115 u_116 => (dt_p (dt_b2 (F := fun k => wp_X7_readsLose k u_116) (dt_X7_readsLose u_116) (fun r_118 u_119 => (dt_n (dt_b1 (F := fun k => wp_X7_sets k u_119 (u_119.1 12) (4 : Int32) (Int32.toInt64 (u_119.1 8))) (dt_X7_sets u_119 (u_119.1 12) (4 : Int32) (Int32.toInt64 (u_119.1 8))) (fun u_122 => (dt_r _))) (dt_r _)))) (dt_b2 (F := fun k => wp_X7_readsRow k u_116) (dt_X7_readsRow u_116) (fun r_123 u_124 => (dt_c (dt_r _))))))) (dt_b2 (F := fun k => wp_X7_readsWorn k u_113) (dt_X7_readsWorn u_113) (fun r_126 u_127 => (dt_c (dt_r _))))))) (dt_b2 (F := fun k => wp_X7_readsCells k u_110) (dt_X7_readsCells u_110) (fun r_129 u_130 => (dt_c (dt_r _))))))) (dt_b2 (F := fun k => wp_X7_fails k u_101 (3 : Int32) (u_101.1 6)) (dt_X7_fails u_101 (3 : Int32) (u_101.1 6)) (fun r_132 u_133 => (dt_c (dt_r _))))))))))))))))))) (dt_b2 (F := fun k => wp_X7_readsDrum k u_2) (dt_X7_readsDrum u_2) (fun r_135 u_136 => (dt_c (dt_r _)))))))
set_option maxHeartbeats 4000000 in
theorem dl_X7_readsBoard_L116  {O : Type} {G_post G2_post : Int32 → Md → (O → Prop) → Prop} {G_e147 G2_e147 : Md → (O → Prop) → Prop} {G_e149 G2_e149 : Md → (O → Prop) → Prop} (h_post : ∀ v0 v1, dt (G_post v0 v1) (G2_post v0 v1)) (h_e147 : ∀ v0, dt (G_e147 v0) (G2_e147 v0)) (h_e149 : ∀ v0, dt (G_e149 v0) (G2_e149 v0)) : ∀ (n m : Nat) (t0 : Md), dt (fun P : O → Prop => wp_X7_readsBoard_L116 (fun v0 v1 => G_post v0 v1 P) (fun v0 => G_e147 v0 P) (fun v0 => G_e149 v0 P) n t0) (fun P : O → Prop => wp_X7_readsBoard_L116 (fun v0 v1 => G2_post v0 v1 P) (fun v0 => G2_e147 v0 P) (fun v0 => G2_e149 v0 P) m t0) := by
  intro n
  induction n with
  | zero => exact fun _ _ => dt_F
  | succ n116 ih =>
    intro m t0
    have key : ∀ m9 : Nat, dt (fun P : O → Prop => wp_X7_readsBoard_L116 (fun v0 v1 => G_post v0 v1 P) (fun v0 => G_e147 v0 P) (fun v0 => G_e149 v0 P) (n116 + 1) t0) (fun P : O → Prop => wp_X7_readsBoard_L116 (fun v0 v1 => G2_post v0 v1 P) (fun v0 => G2_e147 v0 P) (fun v0 => G2_e149 v0 P) (m9 + 1) t0) := by
      intro m9
      unfold wp_X7_readsBoard_L116
      exact (dt_b2 (F := fun k => wp_X7_nextByte k t0) (dt_X7_nextByte t0) (fun r_20 u_21 => (dt_n (h_e149 u_21) (dt_b2 (F := fun k => wp_X7_nextByte k ((va_up u_21.1 6 ((u_21.1 6) + 1)), u_21.2.1, u_21.2.2.1, u_21.2.2.2)) (dt_X7_nextByte ((va_up u_21.1 6 ((u_21.1 6) + 1)), u_21.2.1, u_21.2.2.1, u_21.2.2.2)) (fun r_23 u_24 => (dt_b2 (F := fun k => wp_X7_readsPart k u_24) (dt_X7_readsPart u_24) (fun r_25 u_26 => (dt_n (ih m9 u_26) (h_e147 u_26)))))))))
    cases m with
    | zero => exact dt_0 (key 0)
    | succ m9 => exact key m9
set_option maxHeartbeats 4000000 in
theorem dl_X7_readsBoard_L116b  {O : Type} {G_post G2_post : Int32 → Md → (O → Prop) → Prop} {G_e147 G2_e147 : Md → (O → Prop) → Prop} {G_e149 G2_e149 : Md → (O → Prop) → Prop} (h_post : ∀ v0 v1, dt (G_post v0 v1) (G2_post v0 v1)) (h_e147 : ∀ v0, dt (G_e147 v0) (G2_e147 v0)) (h_e149 : ∀ v0, dt (G_e149 v0) (G2_e149 v0)) : ∀ (n m : Nat) (t0 : Md), dt (fun P : O → Prop => wp_X7_readsBoard_L116b (fun v0 v1 => G_post v0 v1 P) (fun v0 => G_e147 v0 P) (fun v0 => G_e149 v0 P) n t0) (fun P : O → Prop => wp_X7_readsBoard_L116b (fun v0 v1 => G2_post v0 v1 P) (fun v0 => G2_e147 v0 P) (fun v0 => G2_e149 v0 P) m t0) := by
  intro n
  induction n with
  | zero => exact fun _ _ => dt_F
  | succ n116 ih =>
    intro m t0
    have key : ∀ m9 : Nat, dt (fun P : O → Prop => wp_X7_readsBoard_L116b (fun v0 v1 => G_post v0 v1 P) (fun v0 => G_e147 v0 P) (fun v0 => G_e149 v0 P) (n116 + 1) t0) (fun P : O → Prop => wp_X7_readsBoard_L116b (fun v0 v1 => G2_post v0 v1 P) (fun v0 => G2_e147 v0 P) (fun v0 => G2_e149 v0 P) (m9 + 1) t0) := by
      intro m9
      unfold wp_X7_readsBoard_L116b
      exact (dt_b2 (F := fun k => wp_X7_nextByte k t0) (dt_X7_nextByte t0) (fun r_52 u_53 => (dt_n (h_e149 u_53) (dt_b2 (F := fun k => wp_X7_nextByte k ((va_up u_53.1 6 ((u_53.1 6) + 1)), u_53.2.1, u_53.2.2.1, u_53.2.2.2)) (dt_X7_nextByte ((va_up u_53.1 6 ((u_53.1 6) + 1)), u_53.2.1, u_53.2.2.1, u_53.2.2.2)) (fun r_55 u_56 => (dt_b2 (F := fun k => wp_X7_readsPart k u_56) (dt_X7_readsPart u_56) (fun r_57 u_58 => (dt_n (ih m9 u_58) (h_e147 u_58)))))))))
    cases m with
    | zero => exact dt_0 (key 0)
    | succ m9 => exact key m9
set_option maxHeartbeats 4000000 in
theorem dt_X7_readsBoard (s0 : Md) : dt (fun P : (Int32 × Md) → Prop => wp_X7_readsBoard (fun a0 a1 => P (a0, a1)) s0) (fun P : (Int32 × Md) → Prop => wp_X7_readsBoard (fun a0 a1 => P (a0, a1)) s0) := by
  unfold wp_X7_readsBoard
  exact (dt_b2 (F := fun k => wp_X7_mustWord k ((va_up s0.1 6 0), s0.2.1, s0.2.2.1, s0.2.2.2) 0) (dt_X7_mustWord ((va_up s0.1 6 0), s0.2.1, s0.2.2.1, s0.2.2.2) 0) (fun r_1 u_2 => (dt_p (dt_r _) (dt_b2 (F := fun k => wp_X7_readsNumber k u_2 (1 : Int32) (6 : Int32)) (dt_X7_readsNumber u_2 (1 : Int32) (6 : Int32)) (fun r_4 u_5 => (dt_n (dt_b1 (F := fun k => wp_X7_rows k (u_5.1, u_5.2.1, (va_up u_5.2.2.1 0 (vp_updL (u_5.2.2.1 0) (Int32.toNatClampNeg 0) (Int32.toInt64 (u_5.1 8)))), u_5.2.2.2)) (dt_X7_rows (u_5.1, u_5.2.1, (va_up u_5.2.2.1 0 (vp_updL (u_5.2.2.1 0) (Int32.toNatClampNeg 0) (Int32.toInt64 (u_5.1 8)))), u_5.2.2.2)) (fun r_7 => (dt_c (dt_p (dt_b2 (F := fun k => wp_X7_readsNumber k (u_5.1, u_5.2.1, (va_up u_5.2.2.1 0 (vp_updL (u_5.2.2.1 0) (Int32.toNatClampNeg 0) (Int32.toInt64 (u_5.1 8)))), u_5.2.2.2) (1 : Int32) (10 : Int32)) (dt_X7_readsNumber (u_5.1, u_5.2.1, (va_up u_5.2.2.1 0 (vp_updL (u_5.2.2.1 0) (Int32.toNatClampNeg 0) (Int32.toInt64 (u_5.1 8)))), u_5.2.2.2) (1 : Int32) (10 : Int32)) (fun r_11 u_12 => (dt_n (dt_b2 (F := fun k => wp_X7_mustWord k (u_12.1, u_12.2.1, (va_up u_12.2.2.1 0 (vp_updL (u_12.2.2.1 0) (Int32.toNatClampNeg 1) (Int32.toInt64 (u_12.1 8)))), u_12.2.2.2) 1) (dt_X7_mustWord (u_12.1, u_12.2.1, (va_up u_12.2.2.1 0 (vp_updL (u_12.2.2.1 0) (Int32.toNatClampNeg 1) (Int32.toInt64 (u_12.1 8)))), u_12.2.2.2) 1) (fun r_14 u_15 => (dt_p (dt_r _) (dt_b2 (F := fun k => wp_X7_readsNumber k u_15 (1 : Int32) (99 : Int32)) (dt_X7_readsNumber u_15 (1 : Int32) (99 : Int32)) (fun r_17 u_18 => (dt_n (dt_x (fun n116 m_n116 => (dl_X7_readsBoard_L116  (fun v0 v1 => (dt_r _)) (fun t0 => (dt_r _)) (fun t0 => (dt_b2 (F := fun k => wp_X7_nextByte k t0) (dt_X7_nextByte t0) (fun r_28 u_29 => (dt_p (dt_b1 (F := fun k => wp_X7_drums k u_29) (dt_X7_drums u_29) (fun r_31 => (dt_p (dt_r _) (dt_b2 (F := fun k => wp_X7_fails k u_29 (4 : Int32) (u_29.1 5)) (dt_X7_fails u_29 (4 : Int32) (u_29.1 5)) (fun r_34 u_35 => (dt_p (dt_r _) (dt_r _))))))) (dt_b2 (F := fun k => wp_X7_fails k u_29 (1 : Int32) (u_29.1 6)) (dt_X7_fails u_29 (1 : Int32) (u_29.1 6)) (fun r_37 u_38 => (dt_c (dt_r _)))))))) n116 m_n116 (u_18.1, u_18.2.1, (va_up u_18.2.2.1 0 (vp_updL (u_18.2.2.1 0) (Int32.toNatClampNeg 2) (Int32.toInt64 (u_18.1 8)))), u_18.2.2.2)))) (dt_r _))))))) (dt_r _)))) (dt_b1 (F := fun k => wp_X7_rows k (u_5.1, u_5.2.1, (va_up u_5.2.2.1 0 (vp_updL (u_5.2.2.1 0) (Int32.toNatClampNeg 0) (Int32.toInt64 (u_5.1 8)))), u_5.2.2.2)) (dt_X7_rows (u_5.1, u_5.2.1, (va_up u_5.2.2.1 0 (vp_updL (u_5.2.2.1 0) (Int32.toNatClampNeg 0) (Int32.toInt64 (u_5.1 8)))), u_5.2.2.2)) (fun r_40 => (dt_c (dt_b2 (F := fun k => wp_X7_readsNumber k (u_5.1, u_5.2.1, (va_up u_5.2.2.1 0 (vp_updL (u_5.2.2.1 0) (Int32.toNatClampNeg 0) (Int32.toInt64 (u_5.1 8)))), u_5.2.2.2) (1 : Int32) (40 / r_40)) (dt_X7_readsNumber (u_5.1, u_5.2.1, (va_up u_5.2.2.1 0 (vp_updL (u_5.2.2.1 0) (Int32.toNatClampNeg 0) (Int32.toInt64 (u_5.1 8)))), u_5.2.2.2) (1 : Int32) (40 / r_40)) (fun r_43 u_44 => (dt_n (dt_b2 (F := fun k => wp_X7_mustWord k (u_44.1, u_44.2.1, (va_up u_44.2.2.1 0 (vp_updL (u_44.2.2.1 0) (Int32.toNatClampNeg 1) (Int32.toInt64 (u_44.1 8)))), u_44.2.2.2) 1) (dt_X7_mustWord (u_44.1, u_44.2.1, (va_up u_44.2.2.1 0 (vp_updL (u_44.2.2.1 0) (Int32.toNatClampNeg 1) (Int32.toInt64 (u_44.1 8)))), u_44.2.2.2) 1) (fun r_46 u_47 => (dt_p (dt_r _) (dt_b2 (F := fun k => wp_X7_readsNumber k u_47 (1 : Int32) (99 : Int32)) (dt_X7_readsNumber u_47 (1 : Int32) (99 : Int32)) (fun r_49 u_50 => (dt_n (dt_x (fun n116 m_n116 => (dl_X7_readsBoard_L116b  (fun v0 v1 => (dt_r _)) (fun t0 => (dt_r _)) (fun t0 => (dt_b2 (F := fun k => wp_X7_nextByte k t0) (dt_X7_nextByte t0) (fun r_60 u_61 => (dt_p (dt_b1 (F := fun k => wp_X7_drums k u_61) (dt_X7_drums u_61) (fun r_63 => (dt_p (dt_r _) (dt_b2 (F := fun k => wp_X7_fails k u_61 (4 : Int32) (u_61.1 5)) (dt_X7_fails u_61 (4 : Int32) (u_61.1 5)) (fun r_66 u_67 => (dt_p (dt_r _) (dt_r _))))))) (dt_b2 (F := fun k => wp_X7_fails k u_61 (1 : Int32) (u_61.1 6)) (dt_X7_fails u_61 (1 : Int32) (u_61.1 6)) (fun r_69 u_70 => (dt_c (dt_r _)))))))) n116 m_n116 (u_50.1, u_50.2.1, (va_up u_50.2.2.1 0 (vp_updL (u_50.2.2.1 0) (Int32.toNatClampNeg 2) (Int32.toInt64 (u_50.1 8)))), u_50.2.2.2)))) (dt_r _))))))) (dt_r _))))))))))) (dt_r _)))))))
set_option maxHeartbeats 4000000 in
theorem dl_X7_tell_L6  {O : Type} {G_post G2_post : Int32 → Md → (O → Prop) → Prop} {G_e26 G2_e26 : Md → Int32 → (O → Prop) → Prop} (h_post : ∀ v0 v1, dt (G_post v0 v1) (G2_post v0 v1)) (h_e26 : ∀ v0 v1, dt (G_e26 v0 v1) (G2_e26 v0 v1)) : ∀ (n m : Nat) (t0 : Md) (z1 : Int32), dt (fun P : O → Prop => wp_X7_tell_L6 (fun v0 v1 => G_post v0 v1 P) (fun v0 v1 => G_e26 v0 v1 P) n t0 z1) (fun P : O → Prop => wp_X7_tell_L6 (fun v0 v1 => G2_post v0 v1 P) (fun v0 v1 => G2_e26 v0 v1 P) m t0 z1) := by
  intro n
  induction n with
  | zero => exact fun _ _ _ => dt_F
  | succ n6 ih =>
    intro m t0 z1
    have key : ∀ m9 : Nat, dt (fun P : O → Prop => wp_X7_tell_L6 (fun v0 v1 => G_post v0 v1 P) (fun v0 v1 => G_e26 v0 v1 P) (n6 + 1) t0 z1) (fun P : O → Prop => wp_X7_tell_L6 (fun v0 v1 => G2_post v0 v1 P) (fun v0 v1 => G2_e26 v0 v1 P) (m9 + 1) t0 z1) := by
      intro m9
      unfold wp_X7_tell_L6
      exact (dt_p (h_e26 t0 z1) (dt_c (ih m9 (t0.1, t0.2.1, (va_up t0.2.2.1 0 (vp_updL (t0.2.2.1 0) (Int32.toNatClampNeg z1) 0)), t0.2.2.2) (z1 + 1))))
    cases m with
    | zero => exact dt_0 (key 0)
    | succ m9 => exact key m9
set_option maxHeartbeats 4000000 in
theorem dt_X7_tell (s0 : Md) : dt (fun P : (Int32 × Md) → Prop => wp_X7_tell (fun a0 a1 => P (a0, a1)) s0) (fun P : (Int32 × Md) → Prop => wp_X7_tell (fun a0 a1 => P (a0, a1)) s0) := by
  unfold wp_X7_tell
  exact (dt_b1 (F := fun k => wp_X7_putsAside k s0) (dt_X7_putsAside s0) (fun u_2 => (dt_x (fun n6 m_n6 => (dl_X7_tell_L6  (fun v0 v1 => (dt_r _)) (fun t0 z1 => (dt_b2 (F := fun k => wp_X7_readsBoard k t0) (dt_X7_readsBoard t0) (fun r_5 u_6 => (dt_n (dt_b1 (F := fun k => wp_X7_drums k ((va_up (va_up u_6.1 0 0) 5 0), u_6.2.1, u_6.2.2.1, u_6.2.2.2)) (dt_X7_drums ((va_up (va_up u_6.1 0 0) 5 0), u_6.2.1, u_6.2.2.1, u_6.2.2.2)) (fun r_8 => (dt_r _))) (dt_b1 (F := fun k => wp_X7_takesBack k ((va_up u_6.1 5 0), u_6.2.1, u_6.2.2.1, u_6.2.2.2)) (dt_X7_takesBack ((va_up u_6.1 5 0), u_6.2.1, u_6.2.2.1, u_6.2.2.2)) (fun u_11 => (dt_r _))))))) n6 m_n6 u_2 0)))))
set_option maxHeartbeats 4000000 in
theorem dt_X7_isDone (s0 : Md) (x1 : Int32) : dt (fun P : (Int32 × Md) → Prop => wp_X7_isDone (fun a0 a1 => P (a0, a1)) s0 x1) (fun P : (Int32 × Md) → Prop => wp_X7_isDone (fun a0 a1 => P (a0, a1)) s0 x1) := by
  unfold wp_X7_isDone
  exact (dt_p (dt_r _) (dt_n (dt_r _) (dt_r _)))
set_option maxHeartbeats 4000000 in
theorem dt_X7_goesRow (s0 : Md) (x1 : Int32) : dt (fun P : (Int32 × Md) → Prop => wp_X7_goesRow (fun a0 a1 => P (a0, a1)) s0 x1) (fun P : (Int32 × Md) → Prop => wp_X7_goesRow (fun a0 a1 => P (a0, a1)) s0 x1) := by
  unfold wp_X7_goesRow
  exact (dt_b1 (F := fun k => wp_X7_rows k ((va_up s0.1 6 ((s0.1 6) + 3)), s0.2.1, s0.2.2.1, s0.2.2.2)) (dt_X7_rows ((va_up s0.1 6 ((s0.1 6) + 3)), s0.2.1, s0.2.2.1, s0.2.2.2)) (fun r_1 => (dt_b2 (F := fun k => wp_X7_readsNumber k ((va_up s0.1 6 ((s0.1 6) + 3)), s0.2.1, s0.2.2.1, s0.2.2.2) (0 : Int32) (r_1 - 1)) (dt_X7_readsNumber ((va_up s0.1 6 ((s0.1 6) + 3)), s0.2.1, s0.2.2.1, s0.2.2.2) (0 : Int32) (r_1 - 1)) (fun r_3 u_4 => (dt_n (dt_b1 (F := fun k => wp_X7_wide k u_4) (dt_X7_wide u_4) (fun r_6 => (dt_b2 (F := fun k => wp_X7_readsQuoted k u_4 (0 : Int32) r_6) (dt_X7_readsQuoted u_4 (0 : Int32) r_6) (fun r_8 u_9 => (dt_n (dt_b2 (F := fun k => wp_X7_isDone k u_9 x1) (dt_X7_isDone u_9 x1) (fun r_11 u_12 => (dt_p (dt_r _) (dt_b2 (F := fun k => wp_X7_wantsSigns k u_12 (u_4.1 8) (u_12.1 10) (u_12.1 11) (1 : Int32)) (dt_X7_wantsSigns u_12 (u_4.1 8) (u_12.1 10) (u_12.1 11) (1 : Int32)) (fun r_14 u_15 => (dt_r _)))))) (dt_r _)))))) (dt_r _))))))
set_option maxHeartbeats 4000000 in
theorem dt_X7_goesScroll (s0 : Md) (x1 : Int32) : dt (fun P : (Int32 × Md) → Prop => wp_X7_goesScroll (fun a0 a1 => P (a0, a1)) s0 x1) (fun P : (Int32 × Md) → Prop => wp_X7_goesScroll (fun a0 a1 => P (a0, a1)) s0 x1) := by
  unfold wp_X7_goesScroll
  exact (dt_b1 (F := fun k => wp_X7_wide k ((va_up s0.1 6 ((s0.1 6) + 6)), s0.2.1, s0.2.2.1, s0.2.2.2)) (dt_X7_wide ((va_up s0.1 6 ((s0.1 6) + 6)), s0.2.1, s0.2.2.1, s0.2.2.2)) (fun r_1 => (dt_b2 (F := fun k => wp_X7_readsQuoted k ((va_up s0.1 6 ((s0.1 6) + 6)), s0.2.1, s0.2.2.1, s0.2.2.2) (0 : Int32) r_1) (dt_X7_readsQuoted ((va_up s0.1 6 ((s0.1 6) + 6)), s0.2.1, s0.2.2.1, s0.2.2.2) (0 : Int32) r_1) (fun r_3 u_4 => (dt_n (dt_b2 (F := fun k => wp_X7_isDone k u_4 x1) (dt_X7_isDone u_4 x1) (fun r_6 u_7 => (dt_p (dt_r _) (dt_b2 (F := fun k => wp_X7_scrolls k u_7 (u_7.1 10) (u_7.1 11)) (dt_X7_scrolls u_7 (u_7.1 10) (u_7.1 11)) (fun r_9 u_10 => (dt_r _)))))) (dt_r _))))))
set_option maxHeartbeats 4000000 in
theorem dl_X7_goesHome_L38  {O : Type} {G_post G2_post : Int32 → Md → (O → Prop) → Prop} {G_e69 G2_e69 : Md → Int32 → Int32 → (O → Prop) → Prop} (h_post : ∀ v0 v1, dt (G_post v0 v1) (G2_post v0 v1)) (h_e69 : ∀ v0 v1 v2, dt (G_e69 v0 v1 v2) (G2_e69 v0 v1 v2)) : ∀ (n m : Nat) (t0 : Md) (z1 : Int32) (z2 : Int32), dt (fun P : O → Prop => wp_X7_goesHome_L38 (fun v0 v1 => G_post v0 v1 P) (fun v0 v1 v2 => G_e69 v0 v1 v2 P) n t0 z1 z2) (fun P : O → Prop => wp_X7_goesHome_L38 (fun v0 v1 => G2_post v0 v1 P) (fun v0 v1 v2 => G2_e69 v0 v1 v2 P) m t0 z1 z2) := by
  intro n
  induction n with
  | zero => exact fun _ _ _ _ => dt_F
  | succ n38 ih =>
    intro m t0 z1 z2
    have key : ∀ m9 : Nat, dt (fun P : O → Prop => wp_X7_goesHome_L38 (fun v0 v1 => G_post v0 v1 P) (fun v0 v1 v2 => G_e69 v0 v1 v2 P) (n38 + 1) t0 z1 z2) (fun P : O → Prop => wp_X7_goesHome_L38 (fun v0 v1 => G2_post v0 v1 P) (fun v0 v1 v2 => G2_e69 v0 v1 v2 P) (m9 + 1) t0 z1 z2) := by
      intro m9
      unfold wp_X7_goesHome_L38
      exact (dt_b1 (F := fun k => wp_X7_wide k t0) (dt_X7_wide t0) (fun r_9 => (dt_p (h_e69 t0 z1 z2) (dt_b1 (F := fun k => wp_X7_wide k t0) (dt_X7_wide t0) (fun r_12 => (dt_b1 (F := fun k => wp_X7_wantsFlap k t0 ((r_12 * (t0.1 8)) + z2) (0 : Int32) (0 : Int32)) (dt_X7_wantsFlap t0 ((r_12 * (t0.1 8)) + z2) (0 : Int32) (0 : Int32)) (fun u_15 => (ih m9 u_15 z1 (z2 + 1)))))))))
    cases m with
    | zero => exact dt_0 (key 0)
    | succ m9 => exact key m9
set_option maxHeartbeats 4000000 in
theorem dt_X7_goesHome (s0 : Md) (x1 : Int32) : dt (fun P : (Int32 × Md) → Prop => wp_X7_goesHome (fun a0 a1 => P (a0, a1)) s0 x1) (fun P : (Int32 × Md) → Prop => wp_X7_goesHome (fun a0 a1 => P (a0, a1)) s0 x1) := by
  unfold wp_X7_goesHome
  exact (dt_b1 (F := fun k => wp_X7_rows k ((va_up s0.1 6 ((s0.1 6) + 4)), s0.2.1, s0.2.2.1, s0.2.2.2)) (dt_X7_rows ((va_up s0.1 6 ((s0.1 6) + 4)), s0.2.1, s0.2.2.1, s0.2.2.2)) (fun r_1 => (dt_b2 (F := fun k => wp_X7_readsNumber k ((va_up s0.1 6 ((s0.1 6) + 4)), s0.2.1, s0.2.2.1, s0.2.2.2) (0 : Int32) (r_1 - 1)) (dt_X7_readsNumber ((va_up s0.1 6 ((s0.1 6) + 4)), s0.2.1, s0.2.2.1, s0.2.2.2) (0 : Int32) (r_1 - 1)) (fun r_3 u_4 => (dt_n (dt_b2 (F := fun k => wp_X7_isDone k u_4 x1) (dt_X7_isDone u_4 x1) (fun r_6 u_7 => (dt_n (dt_x (fun n38 m_n38 => (dl_X7_goesHome_L38  (fun v0 v1 => (dt_r _)) (fun t0 z1 z2 => (dt_r _)) n38 m_n38 u_7 x1 0))) (dt_r _)))) (dt_r _))))))
set_option maxHeartbeats 4000000 in
theorem dl_X7_goesWait_L34  {O : Type} {G_post G2_post : Int32 → Md → (O → Prop) → Prop} {G_e53 G2_e53 : Md → Int32 → Int32 → (O → Prop) → Prop} (h_post : ∀ v0 v1, dt (G_post v0 v1) (G2_post v0 v1)) (h_e53 : ∀ v0 v1 v2, dt (G_e53 v0 v1 v2) (G2_e53 v0 v1 v2)) : ∀ (n m : Nat) (t0 : Md) (z1 : Int32) (z2 : Int32), dt (fun P : O → Prop => wp_X7_goesWait_L34 (fun v0 v1 => G_post v0 v1 P) (fun v0 v1 v2 => G_e53 v0 v1 v2 P) n t0 z1 z2) (fun P : O → Prop => wp_X7_goesWait_L34 (fun v0 v1 => G2_post v0 v1 P) (fun v0 v1 v2 => G2_e53 v0 v1 v2 P) m t0 z1 z2) := by
  intro n
  induction n with
  | zero => exact fun _ _ _ _ => dt_F
  | succ n34 ih =>
    intro m t0 z1 z2
    have key : ∀ m9 : Nat, dt (fun P : O → Prop => wp_X7_goesWait_L34 (fun v0 v1 => G_post v0 v1 P) (fun v0 v1 v2 => G_e53 v0 v1 v2 P) (n34 + 1) t0 z1 z2) (fun P : O → Prop => wp_X7_goesWait_L34 (fun v0 v1 => G2_post v0 v1 P) (fun v0 v1 v2 => G2_e53 v0 v1 v2 P) (m9 + 1) t0 z1 z2) := by
      intro m9
      unfold wp_X7_goesWait_L34
      exact (dt_p (h_e53 t0 z1 z2) (dt_b2 (F := fun k => wp_X7_ticks k t0) (dt_X7_ticks t0) (fun r_8 u_9 => (ih m9 u_9 z1 (z2 + 1)))))
    cases m with
    | zero => exact dt_0 (key 0)
    | succ m9 => exact key m9
set_option maxHeartbeats 4000000 in
theorem dt_X7_goesWait (s0 : Md) (x1 : Int32) : dt (fun P : (Int32 × Md) → Prop => wp_X7_goesWait (fun a0 a1 => P (a0, a1)) s0 x1) (fun P : (Int32 × Md) → Prop => wp_X7_goesWait (fun a0 a1 => P (a0, a1)) s0 x1) := by
  unfold wp_X7_goesWait
  exact (dt_b2 (F := fun k => wp_X7_readsNumber k ((va_up s0.1 6 ((s0.1 6) + 4)), s0.2.1, s0.2.2.1, s0.2.2.2) (1 : Int32) (99 : Int32)) (dt_X7_readsNumber ((va_up s0.1 6 ((s0.1 6) + 4)), s0.2.1, s0.2.2.1, s0.2.2.2) (1 : Int32) (99 : Int32)) (fun r_1 u_2 => (dt_n (dt_b2 (F := fun k => wp_X7_isDone k u_2 x1) (dt_X7_isDone u_2 x1) (fun r_4 u_5 => (dt_n (dt_x (fun n34 m_n34 => (dl_X7_goesWait_L34  (fun v0 v1 => (dt_r _)) (fun t0 z1 z2 => (dt_r _)) n34 m_n34 u_5 x1 0))) (dt_r _)))) (dt_r _))))
set_option maxHeartbeats 4000000 in
theorem dt_X7_goesSettle (s0 : Md) (x1 : Int32) : dt (fun P : (Int32 × Md) → Prop => wp_X7_goesSettle (fun a0 a1 => P (a0, a1)) s0 x1) (fun P : (Int32 × Md) → Prop => wp_X7_goesSettle (fun a0 a1 => P (a0, a1)) s0 x1) := by
  unfold wp_X7_goesSettle
  exact (dt_b2 (F := fun k => wp_X7_isDone k ((va_up s0.1 6 ((s0.1 6) + 6)), s0.2.1, s0.2.2.1, s0.2.2.2) x1) (dt_X7_isDone ((va_up s0.1 6 ((s0.1 6) + 6)), s0.2.1, s0.2.2.1, s0.2.2.2) x1) (fun r_1 u_2 => (dt_p (dt_r _) (dt_b2 (F := fun k => wp_X7_settles k u_2) (dt_X7_settles u_2) (fun r_4 u_5 => (dt_r _))))))
set_option maxHeartbeats 4000000 in
theorem dt_X7_goesLose (s0 : Md) (x1 : Int32) : dt (fun P : (Int32 × Md) → Prop => wp_X7_goesLose (fun a0 a1 => P (a0, a1)) s0 x1) (fun P : (Int32 × Md) → Prop => wp_X7_goesLose (fun a0 a1 => P (a0, a1)) s0 x1) := by
  unfold wp_X7_goesLose
  exact (dt_b2 (F := fun k => wp_X7_readsLose k s0) (dt_X7_readsLose s0) (fun r_1 u_2 => (dt_n (dt_b2 (F := fun k => wp_X7_isDone k u_2 x1) (dt_X7_isDone u_2 x1) (fun r_4 u_5 => (dt_p (dt_r _) (dt_b1 (F := fun k => wp_X7_sets k u_5 (u_5.1 12) (4 : Int32) (Int32.toInt64 (u_5.1 8))) (dt_X7_sets u_5 (u_5.1 12) (4 : Int32) (Int32.toInt64 (u_5.1 8))) (fun u_8 => (dt_r _)))))) (dt_r _))))
set_option maxHeartbeats 4000000 in
theorem dl_X7_goesTimes_1_L90  {O : Type} {G_post G2_post : Int32 → Md → (O → Prop) → Prop} {G_e141 G2_e141 : Md → Int32 → Int32 → Int32 → Int32 → Int32 → (O → Prop) → Prop} (h_post : ∀ v0 v1, dt (G_post v0 v1) (G2_post v0 v1)) (h_e141 : ∀ v0 v1 v2 v3 v4 v5, dt (G_e141 v0 v1 v2 v3 v4 v5) (G2_e141 v0 v1 v2 v3 v4 v5)) : ∀ (n m : Nat) (t0 : Md) (z1 : Int32) (z2 : Int32) (z3 : Int32) (z4 : Int32) (z5 : Int32), dt (fun P : O → Prop => wp_X7_goesTimes_1_L90 (fun v0 v1 => G_post v0 v1 P) (fun v0 v1 v2 v3 v4 v5 => G_e141 v0 v1 v2 v3 v4 v5 P) n t0 z1 z2 z3 z4 z5) (fun P : O → Prop => wp_X7_goesTimes_1_L90 (fun v0 v1 => G2_post v0 v1 P) (fun v0 v1 v2 v3 v4 v5 => G2_e141 v0 v1 v2 v3 v4 v5 P) m t0 z1 z2 z3 z4 z5) := by
  intro n
  induction n with
  | zero => exact fun _ _ _ _ _ _ _ => dt_F
  | succ n90 ih =>
    intro m t0 z1 z2 z3 z4 z5
    have key : ∀ m9 : Nat, dt (fun P : O → Prop => wp_X7_goesTimes_1_L90 (fun v0 v1 => G_post v0 v1 P) (fun v0 v1 v2 v3 v4 v5 => G_e141 v0 v1 v2 v3 v4 v5 P) (n90 + 1) t0 z1 z2 z3 z4 z5) (fun P : O → Prop => wp_X7_goesTimes_1_L90 (fun v0 v1 => G2_post v0 v1 P) (fun v0 v1 v2 v3 v4 v5 => G2_e141 v0 v1 v2 v3 v4 v5 P) (m9 + 1) t0 z1 z2 z3 z4 z5) := by
      intro m9
      unfold wp_X7_goesTimes_1_L90
      exact (dt_p (dt_p dt_F (dt_p dt_F dt_F)) (dt_p (h_e141 t0 z1 z2 z3 z4 z5) (dt_p (h_e141 t0 z1 z2 z3 z4 z5) (dt_p dt_F (dt_p dt_F dt_F)))))
    cases m with
    | zero => exact dt_0 (key 0)
    | succ m9 => exact key m9
set_option maxHeartbeats 4000000 in
theorem dt_X7_goesTimes_1 (s0 : Md) (x1 : Int32) : dt (fun P : (Int32 × Md) → Prop => wp_X7_goesTimes_1 (fun a0 a1 => P (a0, a1)) s0 x1) (fun P : (Int32 × Md) → Prop => wp_X7_goesTimes_1 (fun a0 a1 => P (a0, a1)) s0 x1) := by
  unfold wp_X7_goesTimes_1
  exact (dt_b2 (F := fun k => wp_X7_readsNumber k ((va_up s0.1 6 ((s0.1 6) + 5)), s0.2.1, s0.2.2.1, s0.2.2.2) (0 : Int32) (20 : Int32)) (dt_X7_readsNumber ((va_up s0.1 6 ((s0.1 6) + 5)), s0.2.1, s0.2.2.1, s0.2.2.2) (0 : Int32) (20 : Int32)) (fun r_1 u_2 => (dt_n (dt_b2 (F := fun k => wp_X7_nextByte k u_2) (dt_X7_nextByte u_2) (fun r_4 u_5 => (dt_n (dt_b2 (F := fun k => wp_X7_mustByte k u_5 (40 : Int32)) (dt_X7_mustByte u_5 (40 : Int32)) (fun r_7 u_8 => (dt_n (dt_b2 (F := fun k => wp_X7_isDone k u_8 x1) (dt_X7_isDone u_8 x1) (fun r_10 u_11 => (dt_x (fun n90 m_n90 => (dl_X7_goesTimes_1_L90  (fun v0 v1 => (dt_r _)) (fun t0 z1 z2 z3 z4 z5 => (dt_b2 (F := fun k => wp_X7_mustByte k t0 (41 : Int32)) (dt_X7_mustByte t0 (41 : Int32)) (fun r_19 u_20 => (dt_n (dt_r _) (dt_r _))))) n90 m_n90 ((va_up u_11.1 14 ((u_11.1 14) + 1)), u_11.2.1, u_11.2.2.1, u_11.2.2.2) x1 (u_2.1 8) r_10 (u_11.1 6) 0))))) (dt_r _)))) (dt_n (dt_b2 (F := fun k => wp_X7_mustByte k u_5 (40 : Int32)) (dt_X7_mustByte u_5 (40 : Int32)) (fun r_23 u_24 => (dt_n (dt_b2 (F := fun k => wp_X7_isDone k u_24 x1) (dt_X7_isDone u_24 x1) (fun r_26 u_27 => (dt_x (fun n90 m_n90 => (dl_X7_goesTimes_1_L90  (fun v0 v1 => (dt_r _)) (fun t0 z1 z2 z3 z4 z5 => (dt_b2 (F := fun k => wp_X7_mustByte k t0 (41 : Int32)) (dt_X7_mustByte t0 (41 : Int32)) (fun r_35 u_36 => (dt_n (dt_r _) (dt_r _))))) n90 m_n90 ((va_up u_27.1 14 ((u_27.1 14) + 1)), u_27.2.1, u_27.2.2.1, u_27.2.2.2) x1 (u_2.1 8) r_26 (u_27.1 6) 0))))) (dt_r _)))) (dt_b2 (F := fun k => wp_X7_fails k u_5 (3 : Int32) (u_5.1 6)) (dt_X7_fails u_5 (3 : Int32) (u_5.1 6)) (fun r_38 u_39 => (dt_c (dt_r _)))))))) (dt_r _))))
set_option maxHeartbeats 4000000 in
theorem dt_X7_goesOne_1 (s0 : Md) (x1 : Int32) : dt (fun P : (Int32 × Md) → Prop => wp_X7_goesOne_1 (fun a0 a1 => P (a0, a1)) s0 x1) (fun P : (Int32 × Md) → Prop => wp_X7_goesOne_1 (fun a0 a1 => P (a0, a1)) s0 x1) := by
  unfold wp_X7_goesOne_1
  exact (dt_b2 (F := fun k => wp_X7_isWord k s0 5) (dt_X7_isWord s0 5) (fun r_1 u_2 => (dt_p (dt_b2 (F := fun k => wp_X7_isWord k u_2 7) (dt_X7_isWord u_2 7) (fun r_4 u_5 => (dt_p (dt_b2 (F := fun k => wp_X7_isWord k u_5 8) (dt_X7_isWord u_5 8) (fun r_7 u_8 => (dt_p (dt_b2 (F := fun k => wp_X7_isWord k u_8 9) (dt_X7_isWord u_8 9) (fun r_10 u_11 => (dt_p (dt_b2 (F := fun k => wp_X7_isWord k u_11 10) (dt_X7_isWord u_11 10) (fun r_13 u_14 => (dt_p (dt_b2 (F := fun k => wp_X7_isWord k u_14 6) (dt_X7_isWord u_14 6) (fun r_16 u_17 => (dt_p (dt_b2 (F := fun k => wp_X7_isWord k u_17 11) (dt_X7_isWord u_17 11) (fun r_19 u_20 => (dt_p (dt_b2 (F := fun k => wp_X7_fails k u_20 (1 : Int32) (u_20.1 6)) (dt_X7_fails u_20 (1 : Int32) (u_20.1 6)) (fun r_22 u_23 => (dt_c (dt_r _)))) (dt_b2 (F := fun k => wp_X7_goesTimes_1 k u_20 x1) (dt_X7_goesTimes_1 u_20 x1) (fun r_25 u_26 => (dt_c (dt_r _))))))) (dt_b2 (F := fun k => wp_X7_goesLose k u_17 x1) (dt_X7_goesLose u_17 x1) (fun r_28 u_29 => (dt_c (dt_r _))))))) (dt_b2 (F := fun k => wp_X7_goesSettle k u_14 x1) (dt_X7_goesSettle u_14 x1) (fun r_31 u_32 => (dt_c (dt_r _))))))) (dt_b2 (F := fun k => wp_X7_goesWait k u_11 x1) (dt_X7_goesWait u_11 x1) (fun r_34 u_35 => (dt_c (dt_r _))))))) (dt_b2 (F := fun k => wp_X7_goesHome k u_8 x1) (dt_X7_goesHome u_8 x1) (fun r_37 u_38 => (dt_c (dt_r _))))))) (dt_b2 (F := fun k => wp_X7_goesScroll k u_5 x1) (dt_X7_goesScroll u_5 x1) (fun r_40 u_41 => (dt_c (dt_r _))))))) (dt_b2 (F := fun k => wp_X7_goesRow k u_2 x1) (dt_X7_goesRow u_2 x1) (fun r_43 u_44 => (dt_c (dt_r _)))))))
set_option maxHeartbeats 4000000 in
theorem dl_X7_goesAll_1_L10  {O : Type} {G_post G2_post : Int32 → Md → (O → Prop) → Prop} {G_e27 G2_e27 : Md → Int32 → (O → Prop) → Prop} {G_e29 G2_e29 : Md → Int32 → (O → Prop) → Prop} (h_post : ∀ v0 v1, dt (G_post v0 v1) (G2_post v0 v1)) (h_e27 : ∀ v0 v1, dt (G_e27 v0 v1) (G2_e27 v0 v1)) (h_e29 : ∀ v0 v1, dt (G_e29 v0 v1) (G2_e29 v0 v1)) : ∀ (n m : Nat) (t0 : Md) (z1 : Int32), dt (fun P : O → Prop => wp_X7_goesAll_1_L10 (fun v0 v1 => G_post v0 v1 P) (fun v0 v1 => G_e27 v0 v1 P) (fun v0 v1 => G_e29 v0 v1 P) n t0 z1) (fun P : O → Prop => wp_X7_goesAll_1_L10 (fun v0 v1 => G2_post v0 v1 P) (fun v0 v1 => G2_e27 v0 v1 P) (fun v0 v1 => G2_e29 v0 v1 P) m t0 z1) := by
  intro n
  induction n with
  | zero => exact fun _ _ _ => dt_F
  | succ n10 ih =>
    intro m t0 z1
    have key : ∀ m9 : Nat, dt (fun P : O → Prop => wp_X7_goesAll_1_L10 (fun v0 v1 => G_post v0 v1 P) (fun v0 v1 => G_e27 v0 v1 P) (fun v0 v1 => G_e29 v0 v1 P) (n10 + 1) t0 z1) (fun P : O → Prop => wp_X7_goesAll_1_L10 (fun v0 v1 => G2_post v0 v1 P) (fun v0 v1 => G2_e27 v0 v1 P) (fun v0 v1 => G2_e29 v0 v1 P) (m9 + 1) t0 z1) := by
      intro m9
      unfold wp_X7_goesAll_1_L10
      exact (dt_b2 (F := fun k => wp_X7_takesByte k t0 (59 : Int32)) (dt_X7_takesByte t0 (59 : Int32)) (fun r_4 u_5 => (dt_p (h_e29 u_5 z1) (dt_b2 (F := fun k => wp_X7_goesOne_1 k u_5 z1) (dt_X7_goesOne_1 u_5 z1) (fun r_7 u_8 => (dt_n (ih m9 u_8 z1) (h_e27 u_8 z1)))))))
    cases m with
    | zero => exact dt_0 (key 0)
    | succ m9 => exact key m9
set_option maxHeartbeats 4000000 in
theorem dt_X7_goesAll_1 (s0 : Md) (x1 : Int32) : dt (fun P : (Int32 × Md) → Prop => wp_X7_goesAll_1 (fun a0 a1 => P (a0, a1)) s0 x1) (fun P : (Int32 × Md) → Prop => wp_X7_goesAll_1 (fun a0 a1 => P (a0, a1)) s0 x1) := by
  unfold wp_X7_goesAll_1
  exact (dt_b2 (F := fun k => wp_X7_goesOne_1 k s0 x1) (dt_X7_goesOne_1 s0 x1) (fun r_1 u_2 => (dt_n (dt_x (fun n10 m_n10 => (dl_X7_goesAll_1_L10  (fun v0 v1 => (dt_r _)) (fun t0 z1 => (dt_r _)) (fun t0 z1 => (dt_r _)) n10 m_n10 u_2 x1))) (dt_r _))))
set_option maxHeartbeats 4000000 in
theorem dl_X7_goesTimes_2_L90  {O : Type} {G_post G2_post : Int32 → Md → (O → Prop) → Prop} {G_e141 G2_e141 : Md → Int32 → Int32 → Int32 → Int32 → Int32 → (O → Prop) → Prop} (h_post : ∀ v0 v1, dt (G_post v0 v1) (G2_post v0 v1)) (h_e141 : ∀ v0 v1 v2 v3 v4 v5, dt (G_e141 v0 v1 v2 v3 v4 v5) (G2_e141 v0 v1 v2 v3 v4 v5)) : ∀ (n m : Nat) (t0 : Md) (z1 : Int32) (z2 : Int32) (z3 : Int32) (z4 : Int32) (z5 : Int32), dt (fun P : O → Prop => wp_X7_goesTimes_2_L90 (fun v0 v1 => G_post v0 v1 P) (fun v0 v1 v2 v3 v4 v5 => G_e141 v0 v1 v2 v3 v4 v5 P) n t0 z1 z2 z3 z4 z5) (fun P : O → Prop => wp_X7_goesTimes_2_L90 (fun v0 v1 => G2_post v0 v1 P) (fun v0 v1 v2 v3 v4 v5 => G2_e141 v0 v1 v2 v3 v4 v5 P) m t0 z1 z2 z3 z4 z5) := by
  intro n
  induction n with
  | zero => exact fun _ _ _ _ _ _ _ => dt_F
  | succ n90 ih =>
    intro m t0 z1 z2 z3 z4 z5
    have key : ∀ m9 : Nat, dt (fun P : O → Prop => wp_X7_goesTimes_2_L90 (fun v0 v1 => G_post v0 v1 P) (fun v0 v1 v2 v3 v4 v5 => G_e141 v0 v1 v2 v3 v4 v5 P) (n90 + 1) t0 z1 z2 z3 z4 z5) (fun P : O → Prop => wp_X7_goesTimes_2_L90 (fun v0 v1 => G2_post v0 v1 P) (fun v0 v1 v2 v3 v4 v5 => G2_e141 v0 v1 v2 v3 v4 v5 P) (m9 + 1) t0 z1 z2 z3 z4 z5) := by
      intro m9
      unfold wp_X7_goesTimes_2_L90
      exact (dt_p (dt_p (dt_b2 (F := fun k => wp_X7_goesAll_1 k ((va_up t0.1 6 z4), t0.2.1, t0.2.2.1, t0.2.2.2) (0 : Int32)) (dt_X7_goesAll_1 ((va_up t0.1 6 z4), t0.2.1, t0.2.2.1, t0.2.2.2) (0 : Int32)) (fun r_14 u_15 => (dt_n (ih m9 u_15 z1 z2 z3 z4 (z5 + 1)) (h_post 0 u_15)))) (dt_p (dt_b2 (F := fun k => wp_X7_goesAll_1 k ((va_up t0.1 6 z4), t0.2.1, t0.2.2.1, t0.2.2.2) (0 : Int32)) (dt_X7_goesAll_1 ((va_up t0.1 6 z4), t0.2.1, t0.2.2.1, t0.2.2.2) (0 : Int32)) (fun r_18 u_19 => (dt_n (ih m9 u_19 z1 z2 z3 z4 (z5 + 1)) (h_post 0 u_19)))) (dt_b2 (F := fun k => wp_X7_goesAll_1 k ((va_up t0.1 6 z4), t0.2.1, t0.2.2.1, t0.2.2.2) (1 : Int32)) (dt_X7_goesAll_1 ((va_up t0.1 6 z4), t0.2.1, t0.2.2.1, t0.2.2.2) (1 : Int32)) (fun r_21 u_22 => (dt_n (ih m9 u_22 z1 z2 z3 z4 (z5 + 1)) (h_post 0 u_22)))))) (dt_p (h_e141 t0 z1 z2 z3 z4 z5) (dt_p (h_e141 t0 z1 z2 z3 z4 z5) (dt_p (dt_b2 (F := fun k => wp_X7_goesAll_1 k ((va_up t0.1 6 z4), t0.2.1, t0.2.2.1, t0.2.2.2) (0 : Int32)) (dt_X7_goesAll_1 ((va_up t0.1 6 z4), t0.2.1, t0.2.2.1, t0.2.2.2) (0 : Int32)) (fun r_27 u_28 => (dt_n (ih m9 u_28 z1 z2 z3 z4 (z5 + 1)) (h_post 0 u_28)))) (dt_p (dt_b2 (F := fun k => wp_X7_goesAll_1 k ((va_up t0.1 6 z4), t0.2.1, t0.2.2.1, t0.2.2.2) (0 : Int32)) (dt_X7_goesAll_1 ((va_up t0.1 6 z4), t0.2.1, t0.2.2.1, t0.2.2.2) (0 : Int32)) (fun r_31 u_32 => (dt_n (ih m9 u_32 z1 z2 z3 z4 (z5 + 1)) (h_post 0 u_32)))) (dt_b2 (F := fun k => wp_X7_goesAll_1 k ((va_up t0.1 6 z4), t0.2.1, t0.2.2.1, t0.2.2.2) (1 : Int32)) (dt_X7_goesAll_1 ((va_up t0.1 6 z4), t0.2.1, t0.2.2.1, t0.2.2.2) (1 : Int32)) (fun r_34 u_35 => (dt_n (ih m9 u_35 z1 z2 z3 z4 (z5 + 1)) (h_post 0 u_35)))))))))
    cases m with
    | zero => exact dt_0 (key 0)
    | succ m9 => exact key m9
set_option maxHeartbeats 4000000 in
theorem dl_X7_goesTimes_2_L90b  {O : Type} {G_post G2_post : Int32 → Md → (O → Prop) → Prop} {G_e141 G2_e141 : Md → Int32 → Int32 → Int32 → Int32 → Int32 → (O → Prop) → Prop} (h_post : ∀ v0 v1, dt (G_post v0 v1) (G2_post v0 v1)) (h_e141 : ∀ v0 v1 v2 v3 v4 v5, dt (G_e141 v0 v1 v2 v3 v4 v5) (G2_e141 v0 v1 v2 v3 v4 v5)) : ∀ (n m : Nat) (t0 : Md) (z1 : Int32) (z2 : Int32) (z3 : Int32) (z4 : Int32) (z5 : Int32), dt (fun P : O → Prop => wp_X7_goesTimes_2_L90b (fun v0 v1 => G_post v0 v1 P) (fun v0 v1 v2 v3 v4 v5 => G_e141 v0 v1 v2 v3 v4 v5 P) n t0 z1 z2 z3 z4 z5) (fun P : O → Prop => wp_X7_goesTimes_2_L90b (fun v0 v1 => G2_post v0 v1 P) (fun v0 v1 v2 v3 v4 v5 => G2_e141 v0 v1 v2 v3 v4 v5 P) m t0 z1 z2 z3 z4 z5) := by
  intro n
  induction n with
  | zero => exact fun _ _ _ _ _ _ _ => dt_F
  | succ n90 ih =>
    intro m t0 z1 z2 z3 z4 z5
    have key : ∀ m9 : Nat, dt (fun P : O → Prop => wp_X7_goesTimes_2_L90b (fun v0 v1 => G_post v0 v1 P) (fun v0 v1 v2 v3 v4 v5 => G_e141 v0 v1 v2 v3 v4 v5 P) (n90 + 1) t0 z1 z2 z3 z4 z5) (fun P : O → Prop => wp_X7_goesTimes_2_L90b (fun v0 v1 => G2_post v0 v1 P) (fun v0 v1 v2 v3 v4 v5 => G2_e141 v0 v1 v2 v3 v4 v5 P) (m9 + 1) t0 z1 z2 z3 z4 z5) := by
      intro m9
      unfold wp_X7_goesTimes_2_L90b
      exact (dt_p (dt_p (dt_b2 (F := fun k => wp_X7_goesAll_1 k ((va_up t0.1 6 z4), t0.2.1, t0.2.2.1, t0.2.2.2) (0 : Int32)) (dt_X7_goesAll_1 ((va_up t0.1 6 z4), t0.2.1, t0.2.2.1, t0.2.2.2) (0 : Int32)) (fun r_48 u_49 => (dt_n (ih m9 u_49 z1 z2 z3 z4 (z5 + 1)) (h_post 0 u_49)))) (dt_p (dt_b2 (F := fun k => wp_X7_goesAll_1 k ((va_up t0.1 6 z4), t0.2.1, t0.2.2.1, t0.2.2.2) (0 : Int32)) (dt_X7_goesAll_1 ((va_up t0.1 6 z4), t0.2.1, t0.2.2.1, t0.2.2.2) (0 : Int32)) (fun r_52 u_53 => (dt_n (ih m9 u_53 z1 z2 z3 z4 (z5 + 1)) (h_post 0 u_53)))) (dt_b2 (F := fun k => wp_X7_goesAll_1 k ((va_up t0.1 6 z4), t0.2.1, t0.2.2.1, t0.2.2.2) (1 : Int32)) (dt_X7_goesAll_1 ((va_up t0.1 6 z4), t0.2.1, t0.2.2.1, t0.2.2.2) (1 : Int32)) (fun r_55 u_56 => (dt_n (ih m9 u_56 z1 z2 z3 z4 (z5 + 1)) (h_post 0 u_56)))))) (dt_p (h_e141 t0 z1 z2 z3 z4 z5) (dt_p (h_e141 t0 z1 z2 z3 z4 z5) (dt_p (dt_b2 (F := fun k => wp_X7_goesAll_1 k ((va_up t0.1 6 z4), t0.2.1, t0.2.2.1, t0.2.2.2) (0 : Int32)) (dt_X7_goesAll_1 ((va_up t0.1 6 z4), t0.2.1, t0.2.2.1, t0.2.2.2) (0 : Int32)) (fun r_61 u_62 => (dt_n (ih m9 u_62 z1 z2 z3 z4 (z5 + 1)) (h_post 0 u_62)))) (dt_p (dt_b2 (F := fun k => wp_X7_goesAll_1 k ((va_up t0.1 6 z4), t0.2.1, t0.2.2.1, t0.2.2.2) (0 : Int32)) (dt_X7_goesAll_1 ((va_up t0.1 6 z4), t0.2.1, t0.2.2.1, t0.2.2.2) (0 : Int32)) (fun r_65 u_66 => (dt_n (ih m9 u_66 z1 z2 z3 z4 (z5 + 1)) (h_post 0 u_66)))) (dt_b2 (F := fun k => wp_X7_goesAll_1 k ((va_up t0.1 6 z4), t0.2.1, t0.2.2.1, t0.2.2.2) (1 : Int32)) (dt_X7_goesAll_1 ((va_up t0.1 6 z4), t0.2.1, t0.2.2.1, t0.2.2.2) (1 : Int32)) (fun r_68 u_69 => (dt_n (ih m9 u_69 z1 z2 z3 z4 (z5 + 1)) (h_post 0 u_69)))))))))
    cases m with
    | zero => exact dt_0 (key 0)
    | succ m9 => exact key m9
set_option maxHeartbeats 4000000 in
theorem dt_X7_goesTimes_2 (s0 : Md) (x1 : Int32) : dt (fun P : (Int32 × Md) → Prop => wp_X7_goesTimes_2 (fun a0 a1 => P (a0, a1)) s0 x1) (fun P : (Int32 × Md) → Prop => wp_X7_goesTimes_2 (fun a0 a1 => P (a0, a1)) s0 x1) := by
  unfold wp_X7_goesTimes_2
  exact (dt_b2 (F := fun k => wp_X7_readsNumber k ((va_up s0.1 6 ((s0.1 6) + 5)), s0.2.1, s0.2.2.1, s0.2.2.2) (0 : Int32) (20 : Int32)) (dt_X7_readsNumber ((va_up s0.1 6 ((s0.1 6) + 5)), s0.2.1, s0.2.2.1, s0.2.2.2) (0 : Int32) (20 : Int32)) (fun r_1 u_2 => (dt_n (dt_b2 (F := fun k => wp_X7_nextByte k u_2) (dt_X7_nextByte u_2) (fun r_4 u_5 => (dt_n (dt_b2 (F := fun k => wp_X7_mustByte k u_5 (40 : Int32)) (dt_X7_mustByte u_5 (40 : Int32)) (fun r_7 u_8 => (dt_n (dt_b2 (F := fun k => wp_X7_isDone k u_8 x1) (dt_X7_isDone u_8 x1) (fun r_10 u_11 => (dt_x (fun n90 m_n90 => (dl_X7_goesTimes_2_L90  (fun v0 v1 => (dt_r _)) (fun t0 z1 z2 z3 z4 z5 => (dt_b2 (F := fun k => wp_X7_mustByte k t0 (41 : Int32)) (dt_X7_mustByte t0 (41 : Int32)) (fun r_37 u_38 => (dt_n (dt_r _) (dt_r _))))) n90 m_n90 ((va_up u_11.1 14 ((u_11.1 14) + 1)), u_11.2.1, u_11.2.2.1, u_11.2.2.2) x1 (u_2.1 8) r_10 (u_11.1 6) 0))))) (dt_r _)))) (dt_n (dt_b2 (F := fun k => wp_X7_mustByte k u_5 (40 : Int32)) (dt_X7_mustByte u_5 (40 : Int32)) (fun r_41 u_42 => (dt_n (dt_b2 (F := fun k => wp_X7_isDone k u_42 x1) (dt_X7_isDone u_42 x1) (fun r_44 u_45 => (dt_x (fun n90 m_n90 => (dl_X7_goesTimes_2_L90b  (fun v0 v1 => (dt_r _)) (fun t0 z1 z2 z3 z4 z5 => (dt_b2 (F := fun k => wp_X7_mustByte k t0 (41 : Int32)) (dt_X7_mustByte t0 (41 : Int32)) (fun r_71 u_72 => (dt_n (dt_r _) (dt_r _))))) n90 m_n90 ((va_up u_45.1 14 ((u_45.1 14) + 1)), u_45.2.1, u_45.2.2.1, u_45.2.2.2) x1 (u_2.1 8) r_44 (u_45.1 6) 0))))) (dt_r _)))) (dt_b2 (F := fun k => wp_X7_fails k u_5 (3 : Int32) (u_5.1 6)) (dt_X7_fails u_5 (3 : Int32) (u_5.1 6)) (fun r_74 u_75 => (dt_c (dt_r _)))))))) (dt_r _))))
set_option maxHeartbeats 4000000 in
theorem dt_X7_goesOne_2 (s0 : Md) (x1 : Int32) : dt (fun P : (Int32 × Md) → Prop => wp_X7_goesOne_2 (fun a0 a1 => P (a0, a1)) s0 x1) (fun P : (Int32 × Md) → Prop => wp_X7_goesOne_2 (fun a0 a1 => P (a0, a1)) s0 x1) := by
  unfold wp_X7_goesOne_2
  exact (dt_b2 (F := fun k => wp_X7_isWord k s0 5) (dt_X7_isWord s0 5) (fun r_1 u_2 => (dt_p (dt_b2 (F := fun k => wp_X7_isWord k u_2 7) (dt_X7_isWord u_2 7) (fun r_4 u_5 => (dt_p (dt_b2 (F := fun k => wp_X7_isWord k u_5 8) (dt_X7_isWord u_5 8) (fun r_7 u_8 => (dt_p (dt_b2 (F := fun k => wp_X7_isWord k u_8 9) (dt_X7_isWord u_8 9) (fun r_10 u_11 => (dt_p (dt_b2 (F := fun k => wp_X7_isWord k u_11 10) (dt_X7_isWord u_11 10) (fun r_13 u_14 => (dt_p (dt_b2 (F := fun k => wp_X7_isWord k u_14 6) (dt_X7_isWord u_14 6) (fun r_16 u_17 => (dt_p (dt_b2 (F := fun k => wp_X7_isWord k u_17 11) (dt_X7_isWord u_17 11) (fun r_19 u_20 => (dt_p (dt_b2 (F := fun k => wp_X7_fails k u_20 (1 : Int32) (u_20.1 6)) (dt_X7_fails u_20 (1 : Int32) (u_20.1 6)) (fun r_22 u_23 => (dt_c (dt_r _)))) (dt_b2 (F := fun k => wp_X7_goesTimes_2 k u_20 x1) (dt_X7_goesTimes_2 u_20 x1) (fun r_25 u_26 => (dt_c (dt_r _))))))) (dt_b2 (F := fun k => wp_X7_goesLose k u_17 x1) (dt_X7_goesLose u_17 x1) (fun r_28 u_29 => (dt_c (dt_r _))))))) (dt_b2 (F := fun k => wp_X7_goesSettle k u_14 x1) (dt_X7_goesSettle u_14 x1) (fun r_31 u_32 => (dt_c (dt_r _))))))) (dt_b2 (F := fun k => wp_X7_goesWait k u_11 x1) (dt_X7_goesWait u_11 x1) (fun r_34 u_35 => (dt_c (dt_r _))))))) (dt_b2 (F := fun k => wp_X7_goesHome k u_8 x1) (dt_X7_goesHome u_8 x1) (fun r_37 u_38 => (dt_c (dt_r _))))))) (dt_b2 (F := fun k => wp_X7_goesScroll k u_5 x1) (dt_X7_goesScroll u_5 x1) (fun r_40 u_41 => (dt_c (dt_r _))))))) (dt_b2 (F := fun k => wp_X7_goesRow k u_2 x1) (dt_X7_goesRow u_2 x1) (fun r_43 u_44 => (dt_c (dt_r _)))))))
set_option maxHeartbeats 4000000 in
theorem dl_X7_goesAll_2_L10  {O : Type} {G_post G2_post : Int32 → Md → (O → Prop) → Prop} {G_e27 G2_e27 : Md → Int32 → (O → Prop) → Prop} {G_e29 G2_e29 : Md → Int32 → (O → Prop) → Prop} (h_post : ∀ v0 v1, dt (G_post v0 v1) (G2_post v0 v1)) (h_e27 : ∀ v0 v1, dt (G_e27 v0 v1) (G2_e27 v0 v1)) (h_e29 : ∀ v0 v1, dt (G_e29 v0 v1) (G2_e29 v0 v1)) : ∀ (n m : Nat) (t0 : Md) (z1 : Int32), dt (fun P : O → Prop => wp_X7_goesAll_2_L10 (fun v0 v1 => G_post v0 v1 P) (fun v0 v1 => G_e27 v0 v1 P) (fun v0 v1 => G_e29 v0 v1 P) n t0 z1) (fun P : O → Prop => wp_X7_goesAll_2_L10 (fun v0 v1 => G2_post v0 v1 P) (fun v0 v1 => G2_e27 v0 v1 P) (fun v0 v1 => G2_e29 v0 v1 P) m t0 z1) := by
  intro n
  induction n with
  | zero => exact fun _ _ _ => dt_F
  | succ n10 ih =>
    intro m t0 z1
    have key : ∀ m9 : Nat, dt (fun P : O → Prop => wp_X7_goesAll_2_L10 (fun v0 v1 => G_post v0 v1 P) (fun v0 v1 => G_e27 v0 v1 P) (fun v0 v1 => G_e29 v0 v1 P) (n10 + 1) t0 z1) (fun P : O → Prop => wp_X7_goesAll_2_L10 (fun v0 v1 => G2_post v0 v1 P) (fun v0 v1 => G2_e27 v0 v1 P) (fun v0 v1 => G2_e29 v0 v1 P) (m9 + 1) t0 z1) := by
      intro m9
      unfold wp_X7_goesAll_2_L10
      exact (dt_b2 (F := fun k => wp_X7_takesByte k t0 (59 : Int32)) (dt_X7_takesByte t0 (59 : Int32)) (fun r_4 u_5 => (dt_p (h_e29 u_5 z1) (dt_b2 (F := fun k => wp_X7_goesOne_2 k u_5 z1) (dt_X7_goesOne_2 u_5 z1) (fun r_7 u_8 => (dt_n (ih m9 u_8 z1) (h_e27 u_8 z1)))))))
    cases m with
    | zero => exact dt_0 (key 0)
    | succ m9 => exact key m9
set_option maxHeartbeats 4000000 in
theorem dt_X7_goesAll_2 (s0 : Md) (x1 : Int32) : dt (fun P : (Int32 × Md) → Prop => wp_X7_goesAll_2 (fun a0 a1 => P (a0, a1)) s0 x1) (fun P : (Int32 × Md) → Prop => wp_X7_goesAll_2 (fun a0 a1 => P (a0, a1)) s0 x1) := by
  unfold wp_X7_goesAll_2
  exact (dt_b2 (F := fun k => wp_X7_goesOne_2 k s0 x1) (dt_X7_goesOne_2 s0 x1) (fun r_1 u_2 => (dt_n (dt_x (fun n10 m_n10 => (dl_X7_goesAll_2_L10  (fun v0 v1 => (dt_r _)) (fun t0 z1 => (dt_r _)) (fun t0 z1 => (dt_r _)) n10 m_n10 u_2 x1))) (dt_r _))))
set_option maxHeartbeats 4000000 in
theorem dl_X7_goesTimes_3_L90  {O : Type} {G_post G2_post : Int32 → Md → (O → Prop) → Prop} {G_e141 G2_e141 : Md → Int32 → Int32 → Int32 → Int32 → Int32 → (O → Prop) → Prop} (h_post : ∀ v0 v1, dt (G_post v0 v1) (G2_post v0 v1)) (h_e141 : ∀ v0 v1 v2 v3 v4 v5, dt (G_e141 v0 v1 v2 v3 v4 v5) (G2_e141 v0 v1 v2 v3 v4 v5)) : ∀ (n m : Nat) (t0 : Md) (z1 : Int32) (z2 : Int32) (z3 : Int32) (z4 : Int32) (z5 : Int32), dt (fun P : O → Prop => wp_X7_goesTimes_3_L90 (fun v0 v1 => G_post v0 v1 P) (fun v0 v1 v2 v3 v4 v5 => G_e141 v0 v1 v2 v3 v4 v5 P) n t0 z1 z2 z3 z4 z5) (fun P : O → Prop => wp_X7_goesTimes_3_L90 (fun v0 v1 => G2_post v0 v1 P) (fun v0 v1 v2 v3 v4 v5 => G2_e141 v0 v1 v2 v3 v4 v5 P) m t0 z1 z2 z3 z4 z5) := by
  intro n
  induction n with
  | zero => exact fun _ _ _ _ _ _ _ => dt_F
  | succ n90 ih =>
    intro m t0 z1 z2 z3 z4 z5
    have key : ∀ m9 : Nat, dt (fun P : O → Prop => wp_X7_goesTimes_3_L90 (fun v0 v1 => G_post v0 v1 P) (fun v0 v1 v2 v3 v4 v5 => G_e141 v0 v1 v2 v3 v4 v5 P) (n90 + 1) t0 z1 z2 z3 z4 z5) (fun P : O → Prop => wp_X7_goesTimes_3_L90 (fun v0 v1 => G2_post v0 v1 P) (fun v0 v1 v2 v3 v4 v5 => G2_e141 v0 v1 v2 v3 v4 v5 P) (m9 + 1) t0 z1 z2 z3 z4 z5) := by
      intro m9
      unfold wp_X7_goesTimes_3_L90
      exact (dt_p (dt_p (dt_b2 (F := fun k => wp_X7_goesAll_2 k ((va_up t0.1 6 z4), t0.2.1, t0.2.2.1, t0.2.2.2) (0 : Int32)) (dt_X7_goesAll_2 ((va_up t0.1 6 z4), t0.2.1, t0.2.2.1, t0.2.2.2) (0 : Int32)) (fun r_14 u_15 => (dt_n (ih m9 u_15 z1 z2 z3 z4 (z5 + 1)) (h_post 0 u_15)))) (dt_p (dt_b2 (F := fun k => wp_X7_goesAll_2 k ((va_up t0.1 6 z4), t0.2.1, t0.2.2.1, t0.2.2.2) (0 : Int32)) (dt_X7_goesAll_2 ((va_up t0.1 6 z4), t0.2.1, t0.2.2.1, t0.2.2.2) (0 : Int32)) (fun r_18 u_19 => (dt_n (ih m9 u_19 z1 z2 z3 z4 (z5 + 1)) (h_post 0 u_19)))) (dt_b2 (F := fun k => wp_X7_goesAll_2 k ((va_up t0.1 6 z4), t0.2.1, t0.2.2.1, t0.2.2.2) (1 : Int32)) (dt_X7_goesAll_2 ((va_up t0.1 6 z4), t0.2.1, t0.2.2.1, t0.2.2.2) (1 : Int32)) (fun r_21 u_22 => (dt_n (ih m9 u_22 z1 z2 z3 z4 (z5 + 1)) (h_post 0 u_22)))))) (dt_p (h_e141 t0 z1 z2 z3 z4 z5) (dt_p (h_e141 t0 z1 z2 z3 z4 z5) (dt_p (dt_b2 (F := fun k => wp_X7_goesAll_2 k ((va_up t0.1 6 z4), t0.2.1, t0.2.2.1, t0.2.2.2) (0 : Int32)) (dt_X7_goesAll_2 ((va_up t0.1 6 z4), t0.2.1, t0.2.2.1, t0.2.2.2) (0 : Int32)) (fun r_27 u_28 => (dt_n (ih m9 u_28 z1 z2 z3 z4 (z5 + 1)) (h_post 0 u_28)))) (dt_p (dt_b2 (F := fun k => wp_X7_goesAll_2 k ((va_up t0.1 6 z4), t0.2.1, t0.2.2.1, t0.2.2.2) (0 : Int32)) (dt_X7_goesAll_2 ((va_up t0.1 6 z4), t0.2.1, t0.2.2.1, t0.2.2.2) (0 : Int32)) (fun r_31 u_32 => (dt_n (ih m9 u_32 z1 z2 z3 z4 (z5 + 1)) (h_post 0 u_32)))) (dt_b2 (F := fun k => wp_X7_goesAll_2 k ((va_up t0.1 6 z4), t0.2.1, t0.2.2.1, t0.2.2.2) (1 : Int32)) (dt_X7_goesAll_2 ((va_up t0.1 6 z4), t0.2.1, t0.2.2.1, t0.2.2.2) (1 : Int32)) (fun r_34 u_35 => (dt_n (ih m9 u_35 z1 z2 z3 z4 (z5 + 1)) (h_post 0 u_35)))))))))
    cases m with
    | zero => exact dt_0 (key 0)
    | succ m9 => exact key m9
set_option maxHeartbeats 4000000 in
theorem dl_X7_goesTimes_3_L90b  {O : Type} {G_post G2_post : Int32 → Md → (O → Prop) → Prop} {G_e141 G2_e141 : Md → Int32 → Int32 → Int32 → Int32 → Int32 → (O → Prop) → Prop} (h_post : ∀ v0 v1, dt (G_post v0 v1) (G2_post v0 v1)) (h_e141 : ∀ v0 v1 v2 v3 v4 v5, dt (G_e141 v0 v1 v2 v3 v4 v5) (G2_e141 v0 v1 v2 v3 v4 v5)) : ∀ (n m : Nat) (t0 : Md) (z1 : Int32) (z2 : Int32) (z3 : Int32) (z4 : Int32) (z5 : Int32), dt (fun P : O → Prop => wp_X7_goesTimes_3_L90b (fun v0 v1 => G_post v0 v1 P) (fun v0 v1 v2 v3 v4 v5 => G_e141 v0 v1 v2 v3 v4 v5 P) n t0 z1 z2 z3 z4 z5) (fun P : O → Prop => wp_X7_goesTimes_3_L90b (fun v0 v1 => G2_post v0 v1 P) (fun v0 v1 v2 v3 v4 v5 => G2_e141 v0 v1 v2 v3 v4 v5 P) m t0 z1 z2 z3 z4 z5) := by
  intro n
  induction n with
  | zero => exact fun _ _ _ _ _ _ _ => dt_F
  | succ n90 ih =>
    intro m t0 z1 z2 z3 z4 z5
    have key : ∀ m9 : Nat, dt (fun P : O → Prop => wp_X7_goesTimes_3_L90b (fun v0 v1 => G_post v0 v1 P) (fun v0 v1 v2 v3 v4 v5 => G_e141 v0 v1 v2 v3 v4 v5 P) (n90 + 1) t0 z1 z2 z3 z4 z5) (fun P : O → Prop => wp_X7_goesTimes_3_L90b (fun v0 v1 => G2_post v0 v1 P) (fun v0 v1 v2 v3 v4 v5 => G2_e141 v0 v1 v2 v3 v4 v5 P) (m9 + 1) t0 z1 z2 z3 z4 z5) := by
      intro m9
      unfold wp_X7_goesTimes_3_L90b
      exact (dt_p (dt_p (dt_b2 (F := fun k => wp_X7_goesAll_2 k ((va_up t0.1 6 z4), t0.2.1, t0.2.2.1, t0.2.2.2) (0 : Int32)) (dt_X7_goesAll_2 ((va_up t0.1 6 z4), t0.2.1, t0.2.2.1, t0.2.2.2) (0 : Int32)) (fun r_48 u_49 => (dt_n (ih m9 u_49 z1 z2 z3 z4 (z5 + 1)) (h_post 0 u_49)))) (dt_p (dt_b2 (F := fun k => wp_X7_goesAll_2 k ((va_up t0.1 6 z4), t0.2.1, t0.2.2.1, t0.2.2.2) (0 : Int32)) (dt_X7_goesAll_2 ((va_up t0.1 6 z4), t0.2.1, t0.2.2.1, t0.2.2.2) (0 : Int32)) (fun r_52 u_53 => (dt_n (ih m9 u_53 z1 z2 z3 z4 (z5 + 1)) (h_post 0 u_53)))) (dt_b2 (F := fun k => wp_X7_goesAll_2 k ((va_up t0.1 6 z4), t0.2.1, t0.2.2.1, t0.2.2.2) (1 : Int32)) (dt_X7_goesAll_2 ((va_up t0.1 6 z4), t0.2.1, t0.2.2.1, t0.2.2.2) (1 : Int32)) (fun r_55 u_56 => (dt_n (ih m9 u_56 z1 z2 z3 z4 (z5 + 1)) (h_post 0 u_56)))))) (dt_p (h_e141 t0 z1 z2 z3 z4 z5) (dt_p (h_e141 t0 z1 z2 z3 z4 z5) (dt_p (dt_b2 (F := fun k => wp_X7_goesAll_2 k ((va_up t0.1 6 z4), t0.2.1, t0.2.2.1, t0.2.2.2) (0 : Int32)) (dt_X7_goesAll_2 ((va_up t0.1 6 z4), t0.2.1, t0.2.2.1, t0.2.2.2) (0 : Int32)) (fun r_61 u_62 => (dt_n (ih m9 u_62 z1 z2 z3 z4 (z5 + 1)) (h_post 0 u_62)))) (dt_p (dt_b2 (F := fun k => wp_X7_goesAll_2 k ((va_up t0.1 6 z4), t0.2.1, t0.2.2.1, t0.2.2.2) (0 : Int32)) (dt_X7_goesAll_2 ((va_up t0.1 6 z4), t0.2.1, t0.2.2.1, t0.2.2.2) (0 : Int32)) (fun r_65 u_66 => (dt_n (ih m9 u_66 z1 z2 z3 z4 (z5 + 1)) (h_post 0 u_66)))) (dt_b2 (F := fun k => wp_X7_goesAll_2 k ((va_up t0.1 6 z4), t0.2.1, t0.2.2.1, t0.2.2.2) (1 : Int32)) (dt_X7_goesAll_2 ((va_up t0.1 6 z4), t0.2.1, t0.2.2.1, t0.2.2.2) (1 : Int32)) (fun r_68 u_69 => (dt_n (ih m9 u_69 z1 z2 z3 z4 (z5 + 1)) (h_post 0 u_69)))))))))
    cases m with
    | zero => exact dt_0 (key 0)
    | succ m9 => exact key m9
set_option maxHeartbeats 4000000 in
theorem dt_X7_goesTimes_3 (s0 : Md) (x1 : Int32) : dt (fun P : (Int32 × Md) → Prop => wp_X7_goesTimes_3 (fun a0 a1 => P (a0, a1)) s0 x1) (fun P : (Int32 × Md) → Prop => wp_X7_goesTimes_3 (fun a0 a1 => P (a0, a1)) s0 x1) := by
  unfold wp_X7_goesTimes_3
  exact (dt_b2 (F := fun k => wp_X7_readsNumber k ((va_up s0.1 6 ((s0.1 6) + 5)), s0.2.1, s0.2.2.1, s0.2.2.2) (0 : Int32) (20 : Int32)) (dt_X7_readsNumber ((va_up s0.1 6 ((s0.1 6) + 5)), s0.2.1, s0.2.2.1, s0.2.2.2) (0 : Int32) (20 : Int32)) (fun r_1 u_2 => (dt_n (dt_b2 (F := fun k => wp_X7_nextByte k u_2) (dt_X7_nextByte u_2) (fun r_4 u_5 => (dt_n (dt_b2 (F := fun k => wp_X7_mustByte k u_5 (40 : Int32)) (dt_X7_mustByte u_5 (40 : Int32)) (fun r_7 u_8 => (dt_n (dt_b2 (F := fun k => wp_X7_isDone k u_8 x1) (dt_X7_isDone u_8 x1) (fun r_10 u_11 => (dt_x (fun n90 m_n90 => (dl_X7_goesTimes_3_L90  (fun v0 v1 => (dt_r _)) (fun t0 z1 z2 z3 z4 z5 => (dt_b2 (F := fun k => wp_X7_mustByte k t0 (41 : Int32)) (dt_X7_mustByte t0 (41 : Int32)) (fun r_37 u_38 => (dt_n (dt_r _) (dt_r _))))) n90 m_n90 ((va_up u_11.1 14 ((u_11.1 14) + 1)), u_11.2.1, u_11.2.2.1, u_11.2.2.2) x1 (u_2.1 8) r_10 (u_11.1 6) 0))))) (dt_r _)))) (dt_n (dt_b2 (F := fun k => wp_X7_mustByte k u_5 (40 : Int32)) (dt_X7_mustByte u_5 (40 : Int32)) (fun r_41 u_42 => (dt_n (dt_b2 (F := fun k => wp_X7_isDone k u_42 x1) (dt_X7_isDone u_42 x1) (fun r_44 u_45 => (dt_x (fun n90 m_n90 => (dl_X7_goesTimes_3_L90b  (fun v0 v1 => (dt_r _)) (fun t0 z1 z2 z3 z4 z5 => (dt_b2 (F := fun k => wp_X7_mustByte k t0 (41 : Int32)) (dt_X7_mustByte t0 (41 : Int32)) (fun r_71 u_72 => (dt_n (dt_r _) (dt_r _))))) n90 m_n90 ((va_up u_45.1 14 ((u_45.1 14) + 1)), u_45.2.1, u_45.2.2.1, u_45.2.2.2) x1 (u_2.1 8) r_44 (u_45.1 6) 0))))) (dt_r _)))) (dt_b2 (F := fun k => wp_X7_fails k u_5 (3 : Int32) (u_5.1 6)) (dt_X7_fails u_5 (3 : Int32) (u_5.1 6)) (fun r_74 u_75 => (dt_c (dt_r _)))))))) (dt_r _))))
set_option maxHeartbeats 4000000 in
theorem dt_X7_goesOne_3 (s0 : Md) (x1 : Int32) : dt (fun P : (Int32 × Md) → Prop => wp_X7_goesOne_3 (fun a0 a1 => P (a0, a1)) s0 x1) (fun P : (Int32 × Md) → Prop => wp_X7_goesOne_3 (fun a0 a1 => P (a0, a1)) s0 x1) := by
  unfold wp_X7_goesOne_3
  exact (dt_b2 (F := fun k => wp_X7_isWord k s0 5) (dt_X7_isWord s0 5) (fun r_1 u_2 => (dt_p (dt_b2 (F := fun k => wp_X7_isWord k u_2 7) (dt_X7_isWord u_2 7) (fun r_4 u_5 => (dt_p (dt_b2 (F := fun k => wp_X7_isWord k u_5 8) (dt_X7_isWord u_5 8) (fun r_7 u_8 => (dt_p (dt_b2 (F := fun k => wp_X7_isWord k u_8 9) (dt_X7_isWord u_8 9) (fun r_10 u_11 => (dt_p (dt_b2 (F := fun k => wp_X7_isWord k u_11 10) (dt_X7_isWord u_11 10) (fun r_13 u_14 => (dt_p (dt_b2 (F := fun k => wp_X7_isWord k u_14 6) (dt_X7_isWord u_14 6) (fun r_16 u_17 => (dt_p (dt_b2 (F := fun k => wp_X7_isWord k u_17 11) (dt_X7_isWord u_17 11) (fun r_19 u_20 => (dt_p (dt_b2 (F := fun k => wp_X7_fails k u_20 (1 : Int32) (u_20.1 6)) (dt_X7_fails u_20 (1 : Int32) (u_20.1 6)) (fun r_22 u_23 => (dt_c (dt_r _)))) (dt_b2 (F := fun k => wp_X7_goesTimes_3 k u_20 x1) (dt_X7_goesTimes_3 u_20 x1) (fun r_25 u_26 => (dt_c (dt_r _))))))) (dt_b2 (F := fun k => wp_X7_goesLose k u_17 x1) (dt_X7_goesLose u_17 x1) (fun r_28 u_29 => (dt_c (dt_r _))))))) (dt_b2 (F := fun k => wp_X7_goesSettle k u_14 x1) (dt_X7_goesSettle u_14 x1) (fun r_31 u_32 => (dt_c (dt_r _))))))) (dt_b2 (F := fun k => wp_X7_goesWait k u_11 x1) (dt_X7_goesWait u_11 x1) (fun r_34 u_35 => (dt_c (dt_r _))))))) (dt_b2 (F := fun k => wp_X7_goesHome k u_8 x1) (dt_X7_goesHome u_8 x1) (fun r_37 u_38 => (dt_c (dt_r _))))))) (dt_b2 (F := fun k => wp_X7_goesScroll k u_5 x1) (dt_X7_goesScroll u_5 x1) (fun r_40 u_41 => (dt_c (dt_r _))))))) (dt_b2 (F := fun k => wp_X7_goesRow k u_2 x1) (dt_X7_goesRow u_2 x1) (fun r_43 u_44 => (dt_c (dt_r _)))))))
set_option maxHeartbeats 4000000 in
theorem dl_X7_goesAll_3_L10  {O : Type} {G_post G2_post : Int32 → Md → (O → Prop) → Prop} {G_e27 G2_e27 : Md → Int32 → (O → Prop) → Prop} {G_e29 G2_e29 : Md → Int32 → (O → Prop) → Prop} (h_post : ∀ v0 v1, dt (G_post v0 v1) (G2_post v0 v1)) (h_e27 : ∀ v0 v1, dt (G_e27 v0 v1) (G2_e27 v0 v1)) (h_e29 : ∀ v0 v1, dt (G_e29 v0 v1) (G2_e29 v0 v1)) : ∀ (n m : Nat) (t0 : Md) (z1 : Int32), dt (fun P : O → Prop => wp_X7_goesAll_3_L10 (fun v0 v1 => G_post v0 v1 P) (fun v0 v1 => G_e27 v0 v1 P) (fun v0 v1 => G_e29 v0 v1 P) n t0 z1) (fun P : O → Prop => wp_X7_goesAll_3_L10 (fun v0 v1 => G2_post v0 v1 P) (fun v0 v1 => G2_e27 v0 v1 P) (fun v0 v1 => G2_e29 v0 v1 P) m t0 z1) := by
  intro n
  induction n with
  | zero => exact fun _ _ _ => dt_F
  | succ n10 ih =>
    intro m t0 z1
    have key : ∀ m9 : Nat, dt (fun P : O → Prop => wp_X7_goesAll_3_L10 (fun v0 v1 => G_post v0 v1 P) (fun v0 v1 => G_e27 v0 v1 P) (fun v0 v1 => G_e29 v0 v1 P) (n10 + 1) t0 z1) (fun P : O → Prop => wp_X7_goesAll_3_L10 (fun v0 v1 => G2_post v0 v1 P) (fun v0 v1 => G2_e27 v0 v1 P) (fun v0 v1 => G2_e29 v0 v1 P) (m9 + 1) t0 z1) := by
      intro m9
      unfold wp_X7_goesAll_3_L10
      exact (dt_b2 (F := fun k => wp_X7_takesByte k t0 (59 : Int32)) (dt_X7_takesByte t0 (59 : Int32)) (fun r_4 u_5 => (dt_p (h_e29 u_5 z1) (dt_b2 (F := fun k => wp_X7_goesOne_3 k u_5 z1) (dt_X7_goesOne_3 u_5 z1) (fun r_7 u_8 => (dt_n (ih m9 u_8 z1) (h_e27 u_8 z1)))))))
    cases m with
    | zero => exact dt_0 (key 0)
    | succ m9 => exact key m9
set_option maxHeartbeats 4000000 in
theorem dt_X7_goesAll_3 (s0 : Md) (x1 : Int32) : dt (fun P : (Int32 × Md) → Prop => wp_X7_goesAll_3 (fun a0 a1 => P (a0, a1)) s0 x1) (fun P : (Int32 × Md) → Prop => wp_X7_goesAll_3 (fun a0 a1 => P (a0, a1)) s0 x1) := by
  unfold wp_X7_goesAll_3
  exact (dt_b2 (F := fun k => wp_X7_goesOne_3 k s0 x1) (dt_X7_goesOne_3 s0 x1) (fun r_1 u_2 => (dt_n (dt_x (fun n10 m_n10 => (dl_X7_goesAll_3_L10  (fun v0 v1 => (dt_r _)) (fun t0 z1 => (dt_r _)) (fun t0 z1 => (dt_r _)) n10 m_n10 u_2 x1))) (dt_r _))))
set_option maxHeartbeats 4000000 in
theorem dl_X7_goesTimes_4_L90  {O : Type} {G_post G2_post : Int32 → Md → (O → Prop) → Prop} {G_e141 G2_e141 : Md → Int32 → Int32 → Int32 → Int32 → Int32 → (O → Prop) → Prop} (h_post : ∀ v0 v1, dt (G_post v0 v1) (G2_post v0 v1)) (h_e141 : ∀ v0 v1 v2 v3 v4 v5, dt (G_e141 v0 v1 v2 v3 v4 v5) (G2_e141 v0 v1 v2 v3 v4 v5)) : ∀ (n m : Nat) (t0 : Md) (z1 : Int32) (z2 : Int32) (z3 : Int32) (z4 : Int32) (z5 : Int32), dt (fun P : O → Prop => wp_X7_goesTimes_4_L90 (fun v0 v1 => G_post v0 v1 P) (fun v0 v1 v2 v3 v4 v5 => G_e141 v0 v1 v2 v3 v4 v5 P) n t0 z1 z2 z3 z4 z5) (fun P : O → Prop => wp_X7_goesTimes_4_L90 (fun v0 v1 => G2_post v0 v1 P) (fun v0 v1 v2 v3 v4 v5 => G2_e141 v0 v1 v2 v3 v4 v5 P) m t0 z1 z2 z3 z4 z5) := by
  intro n
  induction n with
  | zero => exact fun _ _ _ _ _ _ _ => dt_F
  | succ n90 ih =>
    intro m t0 z1 z2 z3 z4 z5
    have key : ∀ m9 : Nat, dt (fun P : O → Prop => wp_X7_goesTimes_4_L90 (fun v0 v1 => G_post v0 v1 P) (fun v0 v1 v2 v3 v4 v5 => G_e141 v0 v1 v2 v3 v4 v5 P) (n90 + 1) t0 z1 z2 z3 z4 z5) (fun P : O → Prop => wp_X7_goesTimes_4_L90 (fun v0 v1 => G2_post v0 v1 P) (fun v0 v1 v2 v3 v4 v5 => G2_e141 v0 v1 v2 v3 v4 v5 P) (m9 + 1) t0 z1 z2 z3 z4 z5) := by
      intro m9
      unfold wp_X7_goesTimes_4_L90
      exact (dt_p (dt_p (dt_b2 (F := fun k => wp_X7_goesAll_3 k ((va_up t0.1 6 z4), t0.2.1, t0.2.2.1, t0.2.2.2) (0 : Int32)) (dt_X7_goesAll_3 ((va_up t0.1 6 z4), t0.2.1, t0.2.2.1, t0.2.2.2) (0 : Int32)) (fun r_14 u_15 => (dt_n (ih m9 u_15 z1 z2 z3 z4 (z5 + 1)) (h_post 0 u_15)))) (dt_p (dt_b2 (F := fun k => wp_X7_goesAll_3 k ((va_up t0.1 6 z4), t0.2.1, t0.2.2.1, t0.2.2.2) (0 : Int32)) (dt_X7_goesAll_3 ((va_up t0.1 6 z4), t0.2.1, t0.2.2.1, t0.2.2.2) (0 : Int32)) (fun r_18 u_19 => (dt_n (ih m9 u_19 z1 z2 z3 z4 (z5 + 1)) (h_post 0 u_19)))) (dt_b2 (F := fun k => wp_X7_goesAll_3 k ((va_up t0.1 6 z4), t0.2.1, t0.2.2.1, t0.2.2.2) (1 : Int32)) (dt_X7_goesAll_3 ((va_up t0.1 6 z4), t0.2.1, t0.2.2.1, t0.2.2.2) (1 : Int32)) (fun r_21 u_22 => (dt_n (ih m9 u_22 z1 z2 z3 z4 (z5 + 1)) (h_post 0 u_22)))))) (dt_p (h_e141 t0 z1 z2 z3 z4 z5) (dt_p (h_e141 t0 z1 z2 z3 z4 z5) (dt_p (dt_b2 (F := fun k => wp_X7_goesAll_3 k ((va_up t0.1 6 z4), t0.2.1, t0.2.2.1, t0.2.2.2) (0 : Int32)) (dt_X7_goesAll_3 ((va_up t0.1 6 z4), t0.2.1, t0.2.2.1, t0.2.2.2) (0 : Int32)) (fun r_27 u_28 => (dt_n (ih m9 u_28 z1 z2 z3 z4 (z5 + 1)) (h_post 0 u_28)))) (dt_p (dt_b2 (F := fun k => wp_X7_goesAll_3 k ((va_up t0.1 6 z4), t0.2.1, t0.2.2.1, t0.2.2.2) (0 : Int32)) (dt_X7_goesAll_3 ((va_up t0.1 6 z4), t0.2.1, t0.2.2.1, t0.2.2.2) (0 : Int32)) (fun r_31 u_32 => (dt_n (ih m9 u_32 z1 z2 z3 z4 (z5 + 1)) (h_post 0 u_32)))) (dt_b2 (F := fun k => wp_X7_goesAll_3 k ((va_up t0.1 6 z4), t0.2.1, t0.2.2.1, t0.2.2.2) (1 : Int32)) (dt_X7_goesAll_3 ((va_up t0.1 6 z4), t0.2.1, t0.2.2.1, t0.2.2.2) (1 : Int32)) (fun r_34 u_35 => (dt_n (ih m9 u_35 z1 z2 z3 z4 (z5 + 1)) (h_post 0 u_35)))))))))
    cases m with
    | zero => exact dt_0 (key 0)
    | succ m9 => exact key m9
set_option maxHeartbeats 4000000 in
theorem dl_X7_goesTimes_4_L90b  {O : Type} {G_post G2_post : Int32 → Md → (O → Prop) → Prop} {G_e141 G2_e141 : Md → Int32 → Int32 → Int32 → Int32 → Int32 → (O → Prop) → Prop} (h_post : ∀ v0 v1, dt (G_post v0 v1) (G2_post v0 v1)) (h_e141 : ∀ v0 v1 v2 v3 v4 v5, dt (G_e141 v0 v1 v2 v3 v4 v5) (G2_e141 v0 v1 v2 v3 v4 v5)) : ∀ (n m : Nat) (t0 : Md) (z1 : Int32) (z2 : Int32) (z3 : Int32) (z4 : Int32) (z5 : Int32), dt (fun P : O → Prop => wp_X7_goesTimes_4_L90b (fun v0 v1 => G_post v0 v1 P) (fun v0 v1 v2 v3 v4 v5 => G_e141 v0 v1 v2 v3 v4 v5 P) n t0 z1 z2 z3 z4 z5) (fun P : O → Prop => wp_X7_goesTimes_4_L90b (fun v0 v1 => G2_post v0 v1 P) (fun v0 v1 v2 v3 v4 v5 => G2_e141 v0 v1 v2 v3 v4 v5 P) m t0 z1 z2 z3 z4 z5) := by
  intro n
  induction n with
  | zero => exact fun _ _ _ _ _ _ _ => dt_F
  | succ n90 ih =>
    intro m t0 z1 z2 z3 z4 z5
    have key : ∀ m9 : Nat, dt (fun P : O → Prop => wp_X7_goesTimes_4_L90b (fun v0 v1 => G_post v0 v1 P) (fun v0 v1 v2 v3 v4 v5 => G_e141 v0 v1 v2 v3 v4 v5 P) (n90 + 1) t0 z1 z2 z3 z4 z5) (fun P : O → Prop => wp_X7_goesTimes_4_L90b (fun v0 v1 => G2_post v0 v1 P) (fun v0 v1 v2 v3 v4 v5 => G2_e141 v0 v1 v2 v3 v4 v5 P) (m9 + 1) t0 z1 z2 z3 z4 z5) := by
      intro m9
      unfold wp_X7_goesTimes_4_L90b
      exact (dt_p (dt_p (dt_b2 (F := fun k => wp_X7_goesAll_3 k ((va_up t0.1 6 z4), t0.2.1, t0.2.2.1, t0.2.2.2) (0 : Int32)) (dt_X7_goesAll_3 ((va_up t0.1 6 z4), t0.2.1, t0.2.2.1, t0.2.2.2) (0 : Int32)) (fun r_48 u_49 => (dt_n (ih m9 u_49 z1 z2 z3 z4 (z5 + 1)) (h_post 0 u_49)))) (dt_p (dt_b2 (F := fun k => wp_X7_goesAll_3 k ((va_up t0.1 6 z4), t0.2.1, t0.2.2.1, t0.2.2.2) (0 : Int32)) (dt_X7_goesAll_3 ((va_up t0.1 6 z4), t0.2.1, t0.2.2.1, t0.2.2.2) (0 : Int32)) (fun r_52 u_53 => (dt_n (ih m9 u_53 z1 z2 z3 z4 (z5 + 1)) (h_post 0 u_53)))) (dt_b2 (F := fun k => wp_X7_goesAll_3 k ((va_up t0.1 6 z4), t0.2.1, t0.2.2.1, t0.2.2.2) (1 : Int32)) (dt_X7_goesAll_3 ((va_up t0.1 6 z4), t0.2.1, t0.2.2.1, t0.2.2.2) (1 : Int32)) (fun r_55 u_56 => (dt_n (ih m9 u_56 z1 z2 z3 z4 (z5 + 1)) (h_post 0 u_56)))))) (dt_p (h_e141 t0 z1 z2 z3 z4 z5) (dt_p (h_e141 t0 z1 z2 z3 z4 z5) (dt_p (dt_b2 (F := fun k => wp_X7_goesAll_3 k ((va_up t0.1 6 z4), t0.2.1, t0.2.2.1, t0.2.2.2) (0 : Int32)) (dt_X7_goesAll_3 ((va_up t0.1 6 z4), t0.2.1, t0.2.2.1, t0.2.2.2) (0 : Int32)) (fun r_61 u_62 => (dt_n (ih m9 u_62 z1 z2 z3 z4 (z5 + 1)) (h_post 0 u_62)))) (dt_p (dt_b2 (F := fun k => wp_X7_goesAll_3 k ((va_up t0.1 6 z4), t0.2.1, t0.2.2.1, t0.2.2.2) (0 : Int32)) (dt_X7_goesAll_3 ((va_up t0.1 6 z4), t0.2.1, t0.2.2.1, t0.2.2.2) (0 : Int32)) (fun r_65 u_66 => (dt_n (ih m9 u_66 z1 z2 z3 z4 (z5 + 1)) (h_post 0 u_66)))) (dt_b2 (F := fun k => wp_X7_goesAll_3 k ((va_up t0.1 6 z4), t0.2.1, t0.2.2.1, t0.2.2.2) (1 : Int32)) (dt_X7_goesAll_3 ((va_up t0.1 6 z4), t0.2.1, t0.2.2.1, t0.2.2.2) (1 : Int32)) (fun r_68 u_69 => (dt_n (ih m9 u_69 z1 z2 z3 z4 (z5 + 1)) (h_post 0 u_69)))))))))
    cases m with
    | zero => exact dt_0 (key 0)
    | succ m9 => exact key m9
set_option maxHeartbeats 4000000 in
theorem dt_X7_goesTimes_4 (s0 : Md) (x1 : Int32) : dt (fun P : (Int32 × Md) → Prop => wp_X7_goesTimes_4 (fun a0 a1 => P (a0, a1)) s0 x1) (fun P : (Int32 × Md) → Prop => wp_X7_goesTimes_4 (fun a0 a1 => P (a0, a1)) s0 x1) := by
  unfold wp_X7_goesTimes_4
  exact (dt_b2 (F := fun k => wp_X7_readsNumber k ((va_up s0.1 6 ((s0.1 6) + 5)), s0.2.1, s0.2.2.1, s0.2.2.2) (0 : Int32) (20 : Int32)) (dt_X7_readsNumber ((va_up s0.1 6 ((s0.1 6) + 5)), s0.2.1, s0.2.2.1, s0.2.2.2) (0 : Int32) (20 : Int32)) (fun r_1 u_2 => (dt_n (dt_b2 (F := fun k => wp_X7_nextByte k u_2) (dt_X7_nextByte u_2) (fun r_4 u_5 => (dt_n (dt_b2 (F := fun k => wp_X7_mustByte k u_5 (40 : Int32)) (dt_X7_mustByte u_5 (40 : Int32)) (fun r_7 u_8 => (dt_n (dt_b2 (F := fun k => wp_X7_isDone k u_8 x1) (dt_X7_isDone u_8 x1) (fun r_10 u_11 => (dt_x (fun n90 m_n90 => (dl_X7_goesTimes_4_L90  (fun v0 v1 => (dt_r _)) (fun t0 z1 z2 z3 z4 z5 => (dt_b2 (F := fun k => wp_X7_mustByte k t0 (41 : Int32)) (dt_X7_mustByte t0 (41 : Int32)) (fun r_37 u_38 => (dt_n (dt_r _) (dt_r _))))) n90 m_n90 ((va_up u_11.1 14 ((u_11.1 14) + 1)), u_11.2.1, u_11.2.2.1, u_11.2.2.2) x1 (u_2.1 8) r_10 (u_11.1 6) 0))))) (dt_r _)))) (dt_n (dt_b2 (F := fun k => wp_X7_mustByte k u_5 (40 : Int32)) (dt_X7_mustByte u_5 (40 : Int32)) (fun r_41 u_42 => (dt_n (dt_b2 (F := fun k => wp_X7_isDone k u_42 x1) (dt_X7_isDone u_42 x1) (fun r_44 u_45 => (dt_x (fun n90 m_n90 => (dl_X7_goesTimes_4_L90b  (fun v0 v1 => (dt_r _)) (fun t0 z1 z2 z3 z4 z5 => (dt_b2 (F := fun k => wp_X7_mustByte k t0 (41 : Int32)) (dt_X7_mustByte t0 (41 : Int32)) (fun r_71 u_72 => (dt_n (dt_r _) (dt_r _))))) n90 m_n90 ((va_up u_45.1 14 ((u_45.1 14) + 1)), u_45.2.1, u_45.2.2.1, u_45.2.2.2) x1 (u_2.1 8) r_44 (u_45.1 6) 0))))) (dt_r _)))) (dt_b2 (F := fun k => wp_X7_fails k u_5 (3 : Int32) (u_5.1 6)) (dt_X7_fails u_5 (3 : Int32) (u_5.1 6)) (fun r_74 u_75 => (dt_c (dt_r _)))))))) (dt_r _))))
set_option maxHeartbeats 4000000 in
theorem dt_X7_goesOne_4 (s0 : Md) (x1 : Int32) : dt (fun P : (Int32 × Md) → Prop => wp_X7_goesOne_4 (fun a0 a1 => P (a0, a1)) s0 x1) (fun P : (Int32 × Md) → Prop => wp_X7_goesOne_4 (fun a0 a1 => P (a0, a1)) s0 x1) := by
  unfold wp_X7_goesOne_4
  exact (dt_b2 (F := fun k => wp_X7_isWord k s0 5) (dt_X7_isWord s0 5) (fun r_1 u_2 => (dt_p (dt_b2 (F := fun k => wp_X7_isWord k u_2 7) (dt_X7_isWord u_2 7) (fun r_4 u_5 => (dt_p (dt_b2 (F := fun k => wp_X7_isWord k u_5 8) (dt_X7_isWord u_5 8) (fun r_7 u_8 => (dt_p (dt_b2 (F := fun k => wp_X7_isWord k u_8 9) (dt_X7_isWord u_8 9) (fun r_10 u_11 => (dt_p (dt_b2 (F := fun k => wp_X7_isWord k u_11 10) (dt_X7_isWord u_11 10) (fun r_13 u_14 => (dt_p (dt_b2 (F := fun k => wp_X7_isWord k u_14 6) (dt_X7_isWord u_14 6) (fun r_16 u_17 => (dt_p (dt_b2 (F := fun k => wp_X7_isWord k u_17 11) (dt_X7_isWord u_17 11) (fun r_19 u_20 => (dt_p (dt_b2 (F := fun k => wp_X7_fails k u_20 (1 : Int32) (u_20.1 6)) (dt_X7_fails u_20 (1 : Int32) (u_20.1 6)) (fun r_22 u_23 => (dt_c (dt_r _)))) (dt_b2 (F := fun k => wp_X7_goesTimes_4 k u_20 x1) (dt_X7_goesTimes_4 u_20 x1) (fun r_25 u_26 => (dt_c (dt_r _))))))) (dt_b2 (F := fun k => wp_X7_goesLose k u_17 x1) (dt_X7_goesLose u_17 x1) (fun r_28 u_29 => (dt_c (dt_r _))))))) (dt_b2 (F := fun k => wp_X7_goesSettle k u_14 x1) (dt_X7_goesSettle u_14 x1) (fun r_31 u_32 => (dt_c (dt_r _))))))) (dt_b2 (F := fun k => wp_X7_goesWait k u_11 x1) (dt_X7_goesWait u_11 x1) (fun r_34 u_35 => (dt_c (dt_r _))))))) (dt_b2 (F := fun k => wp_X7_goesHome k u_8 x1) (dt_X7_goesHome u_8 x1) (fun r_37 u_38 => (dt_c (dt_r _))))))) (dt_b2 (F := fun k => wp_X7_goesScroll k u_5 x1) (dt_X7_goesScroll u_5 x1) (fun r_40 u_41 => (dt_c (dt_r _))))))) (dt_b2 (F := fun k => wp_X7_goesRow k u_2 x1) (dt_X7_goesRow u_2 x1) (fun r_43 u_44 => (dt_c (dt_r _)))))))
set_option maxHeartbeats 4000000 in
theorem dl_X7_goesAll_4_L10  {O : Type} {G_post G2_post : Int32 → Md → (O → Prop) → Prop} {G_e27 G2_e27 : Md → Int32 → (O → Prop) → Prop} {G_e29 G2_e29 : Md → Int32 → (O → Prop) → Prop} (h_post : ∀ v0 v1, dt (G_post v0 v1) (G2_post v0 v1)) (h_e27 : ∀ v0 v1, dt (G_e27 v0 v1) (G2_e27 v0 v1)) (h_e29 : ∀ v0 v1, dt (G_e29 v0 v1) (G2_e29 v0 v1)) : ∀ (n m : Nat) (t0 : Md) (z1 : Int32), dt (fun P : O → Prop => wp_X7_goesAll_4_L10 (fun v0 v1 => G_post v0 v1 P) (fun v0 v1 => G_e27 v0 v1 P) (fun v0 v1 => G_e29 v0 v1 P) n t0 z1) (fun P : O → Prop => wp_X7_goesAll_4_L10 (fun v0 v1 => G2_post v0 v1 P) (fun v0 v1 => G2_e27 v0 v1 P) (fun v0 v1 => G2_e29 v0 v1 P) m t0 z1) := by
  intro n
  induction n with
  | zero => exact fun _ _ _ => dt_F
  | succ n10 ih =>
    intro m t0 z1
    have key : ∀ m9 : Nat, dt (fun P : O → Prop => wp_X7_goesAll_4_L10 (fun v0 v1 => G_post v0 v1 P) (fun v0 v1 => G_e27 v0 v1 P) (fun v0 v1 => G_e29 v0 v1 P) (n10 + 1) t0 z1) (fun P : O → Prop => wp_X7_goesAll_4_L10 (fun v0 v1 => G2_post v0 v1 P) (fun v0 v1 => G2_e27 v0 v1 P) (fun v0 v1 => G2_e29 v0 v1 P) (m9 + 1) t0 z1) := by
      intro m9
      unfold wp_X7_goesAll_4_L10
      exact (dt_b2 (F := fun k => wp_X7_takesByte k t0 (59 : Int32)) (dt_X7_takesByte t0 (59 : Int32)) (fun r_4 u_5 => (dt_p (h_e29 u_5 z1) (dt_b2 (F := fun k => wp_X7_goesOne_4 k u_5 z1) (dt_X7_goesOne_4 u_5 z1) (fun r_7 u_8 => (dt_n (ih m9 u_8 z1) (h_e27 u_8 z1)))))))
    cases m with
    | zero => exact dt_0 (key 0)
    | succ m9 => exact key m9
set_option maxHeartbeats 4000000 in
theorem dt_X7_goesAll_4 (s0 : Md) (x1 : Int32) : dt (fun P : (Int32 × Md) → Prop => wp_X7_goesAll_4 (fun a0 a1 => P (a0, a1)) s0 x1) (fun P : (Int32 × Md) → Prop => wp_X7_goesAll_4 (fun a0 a1 => P (a0, a1)) s0 x1) := by
  unfold wp_X7_goesAll_4
  exact (dt_b2 (F := fun k => wp_X7_goesOne_4 k s0 x1) (dt_X7_goesOne_4 s0 x1) (fun r_1 u_2 => (dt_n (dt_x (fun n10 m_n10 => (dl_X7_goesAll_4_L10  (fun v0 v1 => (dt_r _)) (fun t0 z1 => (dt_r _)) (fun t0 z1 => (dt_r _)) n10 m_n10 u_2 x1))) (dt_r _))))
set_option maxHeartbeats 4000000 in
theorem dt_X7_goesProgram (s0 : Md) (x1 : Int32) : dt (fun P : (Int32 × Md) → Prop => wp_X7_goesProgram (fun a0 a1 => P (a0, a1)) s0 x1) (fun P : (Int32 × Md) → Prop => wp_X7_goesProgram (fun a0 a1 => P (a0, a1)) s0 x1) := by
  unfold wp_X7_goesProgram
  exact (dt_b2 (F := fun k => wp_X7_goesAll_4 k ((va_up (va_up (va_up s0.1 6 0) 13 0) 14 0), s0.2.1, s0.2.2.1, s0.2.2.2) x1) (dt_X7_goesAll_4 ((va_up (va_up (va_up s0.1 6 0) 13 0) 14 0), s0.2.1, s0.2.2.1, s0.2.2.2) x1) (fun r_1 u_2 => (dt_n (dt_b2 (F := fun k => wp_X7_nextByte k u_2) (dt_X7_nextByte u_2) (fun r_4 u_5 => (dt_p (dt_r _) (dt_b2 (F := fun k => wp_X7_fails k u_5 (1 : Int32) (u_5.1 6)) (dt_X7_fails u_5 (1 : Int32) (u_5.1 6)) (fun r_7 u_8 => (dt_p (dt_r _) (dt_r _))))))) (dt_r _))))
set_option maxHeartbeats 4000000 in
theorem dt_X7_run (s0 : Md) : dt (fun P : (Int32 × Md) → Prop => wp_X7_run (fun a0 a1 => P (a0, a1)) s0) (fun P : (Int32 × Md) → Prop => wp_X7_run (fun a0 a1 => P (a0, a1)) s0) := by
  unfold wp_X7_run
  exact (dt_b1 (F := fun k => wp_X7_isBoard k s0) (dt_X7_isBoard s0) (fun r_1 => (dt_p (dt_b1 (F := fun k => wp_X7_isBoard k ((va_up s0.1 5 0), s0.2.1, s0.2.2.1, s0.2.2.2)) (dt_X7_isBoard ((va_up s0.1 5 0), s0.2.1, s0.2.2.1, s0.2.2.2)) (fun r_4 => (dt_n (dt_r _) (dt_r _)))) (dt_b2 (F := fun k => wp_X7_goesProgram k s0 (0 : Int32)) (dt_X7_goesProgram s0 (0 : Int32)) (fun r_7 u_8 => (dt_p (dt_b1 (F := fun k => wp_X7_isBoard k ((va_up u_8.1 5 0), u_8.2.1, u_8.2.2.1, u_8.2.2.2)) (dt_X7_isBoard ((va_up u_8.1 5 0), u_8.2.1, u_8.2.2.1, u_8.2.2.2)) (fun r_10 => (dt_n (dt_r _) (dt_r _)))) (dt_b1 (F := fun k => wp_X7_keepsAct k u_8) (dt_X7_keepsAct u_8) (fun u_14 => (dt_b2 (F := fun k => wp_X7_goesProgram k u_14 (1 : Int32)) (dt_X7_goesProgram u_14 (1 : Int32)) (fun r_15 u_16 => (dt_b1 (F := fun k => wp_X7_isBoard k ((va_up u_16.1 5 0), u_16.2.1, u_16.2.2.1, u_16.2.2.2)) (dt_X7_isBoard ((va_up u_16.1 5 0), u_16.2.1, u_16.2.2.1, u_16.2.2.2)) (fun r_17 => (dt_n (dt_p (dt_r _) (dt_r _)) (dt_r _))))))))))))))
set_option maxHeartbeats 4000000 in
theorem dl_X7_loudest_L31  {O : Type} {G_post G2_post : Int32 → Md → (O → Prop) → Prop} {G_e63 G2_e63 : Md → Int32 → Int32 → Int32 → Int32 → (O → Prop) → Prop} (h_post : ∀ v0 v1, dt (G_post v0 v1) (G2_post v0 v1)) (h_e63 : ∀ v0 v1 v2 v3 v4, dt (G_e63 v0 v1 v2 v3 v4) (G2_e63 v0 v1 v2 v3 v4)) : ∀ (n m : Nat) (t0 : Md) (z1 : Int32) (z2 : Int32) (z3 : Int32) (z4 : Int32), dt (fun P : O → Prop => wp_X7_loudest_L31 (fun v0 v1 => G_post v0 v1 P) (fun v0 v1 v2 v3 v4 => G_e63 v0 v1 v2 v3 v4 P) n t0 z1 z2 z3 z4) (fun P : O → Prop => wp_X7_loudest_L31 (fun v0 v1 => G2_post v0 v1 P) (fun v0 v1 v2 v3 v4 => G2_e63 v0 v1 v2 v3 v4 P) m t0 z1 z2 z3 z4) := by
  intro n
  induction n with
  | zero => exact fun _ _ _ _ _ _ => dt_F
  | succ n31 ih =>
    intro m t0 z1 z2 z3 z4
    have key : ∀ m9 : Nat, dt (fun P : O → Prop => wp_X7_loudest_L31 (fun v0 v1 => G_post v0 v1 P) (fun v0 v1 v2 v3 v4 => G_e63 v0 v1 v2 v3 v4 P) (n31 + 1) t0 z1 z2 z3 z4) (fun P : O → Prop => wp_X7_loudest_L31 (fun v0 v1 => G2_post v0 v1 P) (fun v0 v1 v2 v3 v4 => G2_e63 v0 v1 v2 v3 v4 P) (m9 + 1) t0 z1 z2 z3 z4) := by
      intro m9
      unfold wp_X7_loudest_L31
      exact (dt_b2 (F := fun k => wp_X7_ticks k t0) (dt_X7_ticks t0) (fun r_9 u_10 => (dt_p (h_e63 u_10 z1 z2 z3 z4) (dt_p (ih m9 u_10 z1 z4 (u_10.1 1) (z4 + 1)) (ih m9 u_10 z1 z2 z3 (z4 + 1))))))
    cases m with
    | zero => exact dt_0 (key 0)
    | succ m9 => exact key m9
set_option maxHeartbeats 4000000 in
theorem dt_X7_loudest (s0 : Md) (x1 : Int32) : dt (fun P : (Int32 × Md) → Prop => wp_X7_loudest (fun a0 a1 => P (a0, a1)) s0 x1) (fun P : (Int32 × Md) → Prop => wp_X7_loudest (fun a0 a1 => P (a0, a1)) s0 x1) := by
  unfold wp_X7_loudest
  exact (dt_b1 (F := fun k => wp_X7_isBoard k s0) (dt_X7_isBoard s0) (fun r_1 => (dt_p (dt_r _) (dt_b1 (F := fun k => wp_X7_in k (Int32.toInt64 x1) (0 : Int64) (1 : Int64)) (dt_X7_in (Int32.toInt64 x1) (0 : Int64) (1 : Int64)) (fun r_4 => (dt_n (dt_b1 (F := fun k => wp_X7_putsAside k s0) (dt_X7_putsAside s0) (fun u_8 => (dt_x (fun n31 m_n31 => (dl_X7_loudest_L31  (fun v0 v1 => (dt_r _)) (fun t0 z1 z2 z3 z4 => (dt_b1 (F := fun k => wp_X7_takesBack k t0) (dt_X7_takesBack t0) (fun u_14 => (dt_p (dt_r _) (dt_n (dt_r _) (dt_r _)))))) n31 m_n31 u_8 x1 (-2) 0 0))))) (dt_r _)))))))
set_option maxHeartbeats 4000000 in
theorem dl_X7_usual_L29 (s0 : Md) {O : Type} {G_post G2_post : Int32 → (O → Prop) → Prop} {G_e74 G2_e74 : Int32 → Int32 → Int32 → Int32 → Int32 → (O → Prop) → Prop} (h_post : ∀ v0, dt (G_post v0) (G2_post v0)) (h_e74 : ∀ v0 v1 v2 v3 v4, dt (G_e74 v0 v1 v2 v3 v4) (G2_e74 v0 v1 v2 v3 v4)) : ∀ (n m : Nat) (z1 : Int32) (z2 : Int32) (z3 : Int32) (z4 : Int32) (z5 : Int32), dt (fun P : O → Prop => wp_X7_usual_L29 s0 (fun v0 => G_post v0 P) (fun v0 v1 v2 v3 v4 => G_e74 v0 v1 v2 v3 v4 P) n z1 z2 z3 z4 z5) (fun P : O → Prop => wp_X7_usual_L29 s0 (fun v0 => G2_post v0 P) (fun v0 v1 v2 v3 v4 => G2_e74 v0 v1 v2 v3 v4 P) m z1 z2 z3 z4 z5) := by
  intro n
  induction n with
  | zero => exact fun _ _ _ _ _ _ => dt_F
  | succ n29 ih =>
    intro m z1 z2 z3 z4 z5
    have key : ∀ m9 : Nat, dt (fun P : O → Prop => wp_X7_usual_L29 s0 (fun v0 => G_post v0 P) (fun v0 v1 v2 v3 v4 => G_e74 v0 v1 v2 v3 v4 P) (n29 + 1) z1 z2 z3 z4 z5) (fun P : O → Prop => wp_X7_usual_L29 s0 (fun v0 => G2_post v0 P) (fun v0 v1 v2 v3 v4 => G2_e74 v0 v1 v2 v3 v4 P) (m9 + 1) z1 z2 z3 z4 z5) := by
      intro m9
      unfold wp_X7_usual_L29
      exact (dt_b1 (F := fun k => wp_X7_flapsOf k s0 z1) (dt_X7_flapsOf s0 z1) (fun r_7 => (dt_p (h_e74 z1 z2 z3 z4 z5) (dt_b1 (F := fun k => wp_X7_often k s0 z1 z5 (1 : Int32)) (dt_X7_often s0 z1 z5 (1 : Int32)) (fun r_10 => (dt_p (dt_b1 (F := fun k => wp_X7_often k s0 z1 z5 (1 : Int32)) (dt_X7_often s0 z1 z5 (1 : Int32)) (fun r_13 => (ih m9 z1 z2 z5 r_13 (z5 + 1)))) (ih m9 z1 z2 z3 z4 (z5 + 1))))))))
    cases m with
    | zero => exact dt_0 (key 0)
    | succ m9 => exact key m9
set_option maxHeartbeats 4000000 in
theorem dt_X7_usual (s0 : Md) (x1 : Int32) (x2 : Int32) : dt (fun P : Int32 → Prop => wp_X7_usual (fun a0 => P a0) s0 x1 x2) (fun P : Int32 → Prop => wp_X7_usual (fun a0 => P a0) s0 x1 x2) := by
  unfold wp_X7_usual
  exact (dt_b1 (F := fun k => wp_X7_isDrum k s0 x1) (dt_X7_isDrum s0 x1) (fun r_1 => (dt_p (dt_r _) (dt_b1 (F := fun k => wp_X7_in k (Int32.toInt64 x2) (0 : Int64) (1 : Int64)) (dt_X7_in (Int32.toInt64 x2) (0 : Int64) (1 : Int64)) (fun r_4 => (dt_n (dt_x (fun n29 m_n29 => (dl_X7_usual_L29 s0 (fun v0 => (dt_r _)) (fun z1 z2 z3 z4 z5 => (dt_p (dt_r _) (dt_n (dt_r _) (dt_r _)))) n29 m_n29 x1 x2 (-2) 0 0))) (dt_r _)))))))
set_option maxHeartbeats 4000000 in
theorem dt_X3_push (s0 : Pa) (s1 : Bd) : dt (fun P : Pa → Prop => wp_X3_push (fun a0 => P a0) s0 s1) (fun P : Pa → Prop => wp_X3_push (fun a0 => P a0) s0 s1) := by
  unfold wp_X3_push
  refine dt_c ?_
  cases s0.2 (Int32.toNatClampNeg (s0.1 1)) with
  | none => exact dt_b1 (F := fun k => wp_X0_copyAll k fr_B s1) (dt_X0_copyAll fr_B s1) (fun _ => dt_r _)
  | some S2 => exact dt_b1 (F := fun k => wp_X0_copyAll k S2 s1) (dt_X0_copyAll S2 s1) (fun _ => dt_r _)
set_option maxHeartbeats 4000000 in
theorem dt_X3_pop (s0 : Pa) (s1 : Bd) : dt (fun P : (Int32 × Pa × Bd) → Prop => wp_X3_pop (fun a0 a1 a2 => P (a0, a1, a2)) s0 s1) (fun P : (Int32 × Pa × Bd) → Prop => wp_X3_pop (fun a0 a1 a2 => P (a0, a1, a2)) s0 s1) := by
  unfold wp_X3_pop
  refine dt_n (dt_c ?_) (dt_r _)
  cases s0.2 (Int32.toNatClampNeg ((((s0.1 1) + 10) - 1) - (((s0.1 1) + 10) - 1) / 10 * 10)) with
  | none => exact dt_r _
  | some S3 => exact dt_b1 (F := fun k => wp_X0_copyAll k s1 S3) (dt_X0_copyAll s1 S3) (fun _ => dt_r _)
set_option maxHeartbeats 4000000 in
theorem dt_X6_row (s1 : Tp) (s2 : Bd) (s6 : Pa) (x1 : Int32) : dt (fun P : (Int32 × Tp × Bd × Pa) → Prop => wp_X6_row (fun a0 a1 a2 a3 => P (a0, a1, a2, a3)) s1 s2 s6 x1) (fun P : (Int32 × Tp × Bd × Pa) → Prop => wp_X6_row (fun a0 a1 a2 a3 => P (a0, a1, a2, a3)) s1 s2 s6 x1) := by
  unfold wp_X6_row
  exact (dt_b1 (F := fun k => wp_X6_whyNotRow k s1 s2 x1) (dt_X6_whyNotRow s1 s2 x1) (fun r_1 => (dt_n (dt_r _) (dt_b1 (F := fun k => wp_X3_push k s6 s2) (dt_X3_push s6 s2) (fun s_6 => (dt_b2 (F := fun k => wp_X0_wantSigns k s2 s1 x1 (0 : Int32) (s1.1 0)) (dt_X0_wantSigns s2 s1 x1 (0 : Int32) (s1.1 0)) (fun r_10 u_11 => (dt_r _))))))))
set_option maxHeartbeats 4000000 in
theorem dt_X6_scroll (s1 : Tp) (s2 : Bd) (s6 : Pa) : dt (fun P : (Int32 × Tp × Bd × Pa) → Prop => wp_X6_scroll (fun a0 a1 a2 a3 => P (a0, a1, a2, a3)) s1 s2 s6) (fun P : (Int32 × Tp × Bd × Pa) → Prop => wp_X6_scroll (fun a0 a1 a2 a3 => P (a0, a1, a2, a3)) s1 s2 s6) := by
  unfold wp_X6_scroll
  exact (dt_b1 (F := fun k => wp_X6_whyNotRow k s1 s2 ((s2.1 0) - 1)) (dt_X6_whyNotRow s1 s2 ((s2.1 0) - 1)) (fun r_1 => (dt_n (dt_r _) (dt_b1 (F := fun k => wp_X3_push k s6 s2) (dt_X3_push s6 s2) (fun s_6 => (dt_b2 (F := fun k => wp_X0_scrollUp k s2 s1 (0 : Int32) (s1.1 0)) (dt_X0_scrollUp s2 s1 (0 : Int32) (s1.1 0)) (fun r_10 u_11 => (dt_r _))))))))
set_option maxHeartbeats 4000000 in
theorem dt_X6_tick (s2 : Bd) (s4 : Mo) (s6 : Pa) (x1 : Int32) : dt (fun P : (Int32 × Bd × Mo × Pa) → Prop => wp_X6_tick (fun a0 a1 a2 a3 => P (a0, a1, a2, a3)) s2 s4 s6 x1) (fun P : (Int32 × Bd × Mo × Pa) → Prop => wp_X6_tick (fun a0 a1 a2 a3 => P (a0, a1, a2, a3)) s2 s4 s6 x1) := by
  unfold wp_X6_tick
  exact (dt_b1 (F := fun k => wp_X0_isThere k s2) (dt_X0_isThere s2) (fun r_1 => (dt_p (dt_r _) (dt_p (dt_r _) (dt_p (dt_b1 (F := fun k => wp_X3_push k s6 s2) (dt_X3_push s6 s2) (fun s_8 => (dt_b2 (F := fun k => wp_X2_turn k s4 s2 x1) (dt_X2_turn s4 s2 x1) (fun u_13a u_13b => (dt_r _))))) (dt_r _))))))
set_option maxHeartbeats 4000000 in
theorem dt_X6_settle (s2 : Bd) (s4 : Mo) (s6 : Pa) : dt (fun P : (Int32 × Bd × Mo × Pa) → Prop => wp_X6_settle (fun a0 a1 a2 a3 => P (a0, a1, a2, a3)) s2 s4 s6) (fun P : (Int32 × Bd × Mo × Pa) → Prop => wp_X6_settle (fun a0 a1 a2 a3 => P (a0, a1, a2, a3)) s2 s4 s6) := by
  unfold wp_X6_settle
  exact (dt_b1 (F := fun k => wp_X0_isThere k s2) (dt_X0_isThere s2) (fun r_1 => (dt_n (dt_b1 (F := fun k => wp_X2_choose k s4 s2) (dt_X2_choose s4 s2) (fun u_5 => (dt_n (dt_b1 (F := fun k => wp_X3_push k s6 s2) (dt_X3_push s6 s2) (fun s_9 => (dt_b2 (F := fun k => wp_X2_turn k u_5 s2 (9999 : Int32)) (dt_X2_turn u_5 s2 (9999 : Int32)) (fun u_14a u_14b => (dt_r _))))) (dt_r _)))) (dt_r _))))
set_option maxHeartbeats 4000000 in
theorem dt_X6_lose (s2 : Bd) (s6 : Pa) (x1 : Int32) (x2 : Int32) : dt (fun P : (Int32 × Bd × Pa) → Prop => wp_X6_lose (fun a0 a1 a2 => P (a0, a1, a2)) s2 s6 x1 x2) (fun P : (Int32 × Bd × Pa) → Prop => wp_X6_lose (fun a0 a1 a2 => P (a0, a1, a2)) s2 s6 x1 x2) := by
  unfold wp_X6_lose
  exact (dt_b1 (F := fun k => wp_X0_hasCell k s2 x1) (dt_X0_hasCell s2 x1) (fun r_1 => (dt_p (dt_r _) (dt_p (dt_r _) (dt_p (dt_c (dt_n (dt_b1 (F := fun k => wp_X3_push k s6 s2) (dt_X3_push s6 s2) (fun s_10 => (dt_b1 (F := fun k => wp_X0_setLost k s2 x1 x2) (dt_X0_setLost s2 x1 x2) (fun u_15 => (dt_r _))))) (dt_r _))) (dt_r _))))))
set_option maxHeartbeats 4000000 in
theorem dt_X6_wear (s2 : Bd) (s6 : Pa) (x1 : Int32) (x2 : Int32) : dt (fun P : (Int32 × Bd × Pa) → Prop => wp_X6_wear (fun a0 a1 a2 => P (a0, a1, a2)) s2 s6 x1 x2) (fun P : (Int32 × Bd × Pa) → Prop => wp_X6_wear (fun a0 a1 a2 => P (a0, a1, a2)) s2 s6 x1 x2) := by
  unfold wp_X6_wear
  exact (dt_b1 (F := fun k => wp_X0_hasFlap k s2 x1 x2) (dt_X0_hasFlap s2 x1 x2) (fun r_1 => (dt_p (dt_r _) (dt_n (dt_b1 (F := fun k => wp_X0_isWorn k s2 x1 x2) (dt_X0_isWorn s2 x1 x2) (fun r_5 => (dt_p (dt_b1 (F := fun k => wp_X3_push k s6 s2) (dt_X3_push s6 s2) (fun s_10 => (dt_b1 (F := fun k => wp_X0_wearFlap k s2 x1 x2) (dt_X0_wearFlap s2 x1 x2) (fun u_15 => (dt_b1 (F := fun k => wp_X0_wornCount k u_15 x1) (dt_X0_wornCount u_15 x1) (fun r_16 => (dt_r _))))))) (dt_r _)))) (dt_r _)))))
set_option maxHeartbeats 4000000 in
theorem dt_X6_mend (s2 : Bd) (s6 : Pa) (x1 : Int32) (x2 : Int32) : dt (fun P : (Int32 × Bd × Pa) → Prop => wp_X6_mend (fun a0 a1 a2 => P (a0, a1, a2)) s2 s6 x1 x2) (fun P : (Int32 × Bd × Pa) → Prop => wp_X6_mend (fun a0 a1 a2 => P (a0, a1, a2)) s2 s6 x1 x2) := by
  unfold wp_X6_mend
  exact (dt_b1 (F := fun k => wp_X0_hasFlap k s2 x1 x2) (dt_X0_hasFlap s2 x1 x2) (fun r_1 => (dt_n (dt_b1 (F := fun k => wp_X0_isWorn k s2 x1 x2) (dt_X0_isWorn s2 x1 x2) (fun r_4 => (dt_n (dt_b1 (F := fun k => wp_X3_push k s6 s2) (dt_X3_push s6 s2) (fun s_9 => (dt_b1 (F := fun k => wp_X0_mendFlap k s2 x1 x2) (dt_X0_mendFlap s2 x1 x2) (fun u_14 => (dt_b1 (F := fun k => wp_X0_wornCount k u_14 x1) (dt_X0_wornCount u_14 x1) (fun r_15 => (dt_r _))))))) (dt_r _)))) (dt_r _))))
set_option maxHeartbeats 4000000 in
theorem dt_X6_limit (s2 : Bd) (s6 : Pa) (x1 : Int32) : dt (fun P : (Int32 × Bd × Pa) → Prop => wp_X6_limit (fun a0 a1 a2 => P (a0, a1, a2)) s2 s6 x1) (fun P : (Int32 × Bd × Pa) → Prop => wp_X6_limit (fun a0 a1 a2 => P (a0, a1, a2)) s2 s6 x1) := by
  unfold wp_X6_limit
  exact (dt_b1 (F := fun k => wp_X0_isThere k s2) (dt_X0_isThere s2) (fun r_1 => (dt_p (dt_r _) (dt_p (dt_r _) (dt_p (dt_n (dt_b1 (F := fun k => wp_X3_push k s6 s2) (dt_X3_push s6 s2) (fun s_9 => (dt_r _))) (dt_r _)) (dt_r _))))))
set_option maxHeartbeats 4000000 in
theorem dt_X6_exchange (s2 : Bd) (s6 : Pa) (x1 : Int32) (x2 : Int32) (x3 : Int32) : dt (fun P : (Int32 × Bd × Pa) → Prop => wp_X6_exchange (fun a0 a1 a2 => P (a0, a1, a2)) s2 s6 x1 x2 x3) (fun P : (Int32 × Bd × Pa) → Prop => wp_X6_exchange (fun a0 a1 a2 => P (a0, a1, a2)) s2 s6 x1 x2 x3) := by
  unfold wp_X6_exchange
  exact (dt_b1 (F := fun k => wp_X0_isMovable k s2 x1 x2) (dt_X0_isMovable s2 x1 x2) (fun r_1 => (dt_p (dt_r _) (dt_b1 (F := fun k => wp_X0_isMovable k s2 x1 x3) (dt_X0_isMovable s2 x1 x3) (fun r_4 => (dt_p (dt_r _) (dt_n (dt_b1 (F := fun k => wp_X3_push k s6 s2) (dt_X3_push s6 s2) (fun s_10 => (dt_b1 (F := fun k => wp_X0_swapSigns k s2 x1 x2 x3) (dt_X0_swapSigns s2 x1 x2 x3) (fun u_15 => (dt_b1 (F := fun k => wp_X0_emptyLog k u_15) (dt_X0_emptyLog u_15) (fun b_18 => (dt_r _))))))) (dt_r _))))))))
set_option maxHeartbeats 4000000 in
theorem dt_X6_run (s1 : Tp) (s2 : Bd) (s4 : Mo) (s5 : Pg) (s6 : Pa) : dt (fun P : (Int32 × Tp × Bd × Mo × Pg × Pa) → Prop => wp_X6_run (fun a0 a1 a2 a3 a4 a5 => P (a0, a1, a2, a3, a4, a5)) s1 s2 s4 s5 s6) (fun P : (Int32 × Tp × Bd × Mo × Pg × Pa) → Prop => wp_X6_run (fun a0 a1 a2 a3 a4 a5 => P (a0, a1, a2, a3, a4, a5)) s1 s2 s4 s5 s6) := by
  unfold wp_X6_run
  exact (dt_b3 (F := fun k => wp_X6_whyNotProgram k s1 s2 s5) (dt_X6_whyNotProgram s1 s2 s5) (fun r_1 u_2a u_2b => (dt_n (dt_r _) (dt_b1 (F := fun k => wp_X3_push k s6 s2) (dt_X3_push s6 s2) (fun s_6 => (dt_b4 (F := fun k => wp_X6_doProgram k u_2a s2 s4 u_2b) (dt_X6_doProgram u_2a s2 s4 u_2b) (fun r_10 u_11a u_11b u_11c => (dt_r _))))))))
set_option maxHeartbeats 4000000 in
theorem dt_X6_undo (s2 : Bd) (s6 : Pa) : dt (fun P : (Int32 × Bd × Pa) → Prop => wp_X6_undo (fun a0 a1 a2 => P (a0, a1, a2)) s2 s6) (fun P : (Int32 × Bd × Pa) → Prop => wp_X6_undo (fun a0 a1 a2 => P (a0, a1, a2)) s2 s6) := by
  unfold wp_X6_undo
  exact (dt_b3 (F := fun k => wp_X3_pop k s6 s2) (dt_X3_pop s6 s2) (fun r_2 s_3 b_6 => (dt_p (dt_r _) (dt_r _))))
