theorem wq_X7_usual {post : Int32 → Prop} {s0 : Md} {x1 : Int32} {x2 : Int32} {N R W D : Int} (h102075 : mb (N) (R) (W) (D) s0) (k : ∀ (r : Int32), post r) : wp_X7_usual post s0 x1 x2 := by
  unfold wp_X7_usual
  have := h102075.1
  have := h102075.2.1
  have := h102075.2.2.1
  have := h102075.2.2.2.1
  refine wq_X7_isDrum h102075 (fun r_1 q102076 => ?_)
  refine ⟨fun c102077 => ?_, fun c102078 => ?_⟩
  · replace c102077 := q_eq c102077
    rw [li_0] at c102077
    exact k _
  · replace c102078 := q_neq c102078
    rw [li_0] at c102078
    refine wq_X7_in (fun r_4 q102079 => ?_)
    try simp only [lj_0, lj_1] at q102079
    have := tq_64 x2
    refine ⟨fun c102080 => ?_, fun c102081 => ?_⟩
    · replace c102080 := q_neq c102080
      rw [li_0] at c102080
      have p102082 : 0 ≤ (x1).toInt ∧ (x1).toInt < D := by omega
      have p102083 : 0 ≤ (0 : Int32).toInt ∧ (0 : Int32).toInt ≤ 40 := by (have := li_0; omega)
      obtain ⟨f102084, g102085⟩ := fu_e 50
      have p102086 : 40 - (0 : Int32).toInt < (f102084 : Int) := by (have := li_0; omega)
      refine ⟨f102084, wq_X7_usual_L29 h102075 (fun z1 z2 z3 z4 z5 q102087 q102088 => ?_) f102084 _ _ _ _ _ p102082 p102083 p102086⟩
      refine ⟨fun c102089 => ?_, fun c102090 => ?_⟩
      · replace c102089 := q_eq c102089
        rw [li_m2] at c102089
        exact k _
      · replace c102090 := q_neq c102090
        rw [li_m2] at c102090
        refine ⟨fun c102091 => ?_, fun c102092 => ?_⟩
        · replace c102091 := q_neq c102091
          rw [li_0] at c102091
          exact k _
        · replace c102092 := q_eq c102092
          rw [li_0] at c102092
          exact k _
    · replace c102081 := q_eq c102081
      rw [li_0] at c102081
      exact k _
theorem wq_X7_loudest_L31 {post : Int32 → Md → Prop} {e63 : Md → Int32 → Int32 → Int32 → Int32 → Prop} {N R W D : Int} (hD : 0 < D) (ke : ∀ (t : Md) (z1 z2 z3 z4 : Int32), mb N R W D t → e63 t z1 z2 z3 z4) : ∀ (n : Nat) (t : Md) (z1 z2 z3 z4 : Int32), mb N R W D t → mu_n (t.2.2.1 0) 40 < (n : Int) → wp_X7_loudest_L31 post e63 n t z1 z2 z3 z4 := by
  have e0 : (0 : Int32).toInt = 0 := rfl
  intro n
  induction n with
  | zero =>
    intro t z1 z2 z3 z4 h hm
    have := mu_b h.2.2.2.2.1 hD 40 (by omega)
    exfalso
    omega
  | succ n ih =>
    intro t z1 z2 z3 z4 h hm
    unfold wp_X7_loudest_L31
    refine wq_X7_ticks h hD (fun r u hu ju b1 b2 => ⟨fun c => ke _ _ _ _ _ hu, fun c => ?_⟩)
    have c2 := q_nle c
    exact ⟨fun _ => ih _ _ _ _ _ hu (by omega), fun _ => ih _ _ _ _ _ hu (by omega)⟩
theorem wq_X7_loudest {post : Int32 → Md → Prop} {s0 : Md} {x1 : Int32} {N R W D : Int} (h102093 : mb (N) (R) (W) (D) s0) (h102094 : R ≤ 0 ∨ 0 < D) (k : ∀ (r : Int32) (u : Md) (R4 W4 D4 : Int), mb (N) (R4) (W4) (D4) u → R4 ≤ 0 ∨ 0 < D4 → post r u) : wp_X7_loudest post s0 x1 := by
  unfold wp_X7_loudest
  have := h102093.1
  have := h102093.2.1
  have := h102093.2.2.1
  have := h102093.2.2.2.1
  refine wq_X7_isBoard h102093 (fun r_1 q102095 => ?_)
  refine ⟨fun c102096 => ?_, fun c102097 => ?_⟩
  · replace c102096 := q_eq c102096
    rw [li_0] at c102096
    have p102098 : R ≤ 0 ∨ 0 < D := by omega
    exact k _ _ (R) (W) (D) h102093 p102098
  · replace c102097 := q_neq c102097
    rw [li_0] at c102097
    refine wq_X7_in (fun r_4 q102099 => ?_)
    try simp only [lj_0, lj_1] at q102099
    have := tq_64 x1
    refine ⟨fun c102100 => ?_, fun c102101 => ?_⟩
    · replace c102100 := q_neq c102100
      rw [li_0] at c102100
      have p102102 : R ≤ 0 ∨ 0 < D := by omega
      refine wq_X7_putsAside h102093 p102102 (fun u_8 q102103 q102104 q102105 => ?_)
      have := q102103.1
      have := q102103.2.1
      have p102106 : 0 < D := by omega
      try have := mu_b q102103.2.2.2.2.1 (show 0 < D by omega) 40 (by omega)
      obtain ⟨f102107, g102108⟩ := fu_e 5000
      have p102109 : mu_n ((u_8.2.2.1 0)) 40 < (f102107 : Int) := by (omega)
      refine ⟨f102107, wq_X7_loudest_L31 p102106 (fun t0 z1 z2 z3 z4 q102110 => ?_) f102107 _ _ _ _ _ q102103 p102109⟩
      have := q102110.1
      have := q102110.2.1
      refine wq_X7_takesBack q102110 (fun u_14 R4102111 W4102112 D4102113 q102114 q102115 q102116 => ?_)
      have := q102114.1
      have := q102114.2.1
      have := q102114.2.2.2.1
      refine ⟨fun c102117 => ?_, fun c102118 => ?_⟩
      · replace c102117 := q_eq c102117
        rw [li_m2] at c102117
        have p102119 : R4102111 ≤ 0 ∨ 0 < D4102113 := by omega
        exact k _ _ (R4102111) (W4102112) (D4102113) q102114 p102119
      · replace c102118 := q_neq c102118
        rw [li_m2] at c102118
        refine ⟨fun c102120 => ?_, fun c102121 => ?_⟩
        · replace c102120 := q_neq c102120
          rw [li_0] at c102120
          have p102122 : R4102111 ≤ 0 ∨ 0 < D4102113 := by omega
          exact k _ _ (R4102111) (W4102112) (D4102113) q102114 p102122
        · replace c102121 := q_eq c102121
          rw [li_0] at c102121
          have p102123 : R4102111 ≤ 0 ∨ 0 < D4102113 := by omega
          exact k _ _ (R4102111) (W4102112) (D4102113) q102114 p102123
    · replace c102101 := q_eq c102101
      rw [li_0] at c102101
      have p102124 : R ≤ 0 ∨ 0 < D := by omega
      exact k _ _ (R) (W) (D) h102093 p102124
theorem wq_X7_letter {post : Int32 → Prop} {s0 : Md} {x1 x2 : Int32} {N R W D : Int} (h : mb N R W D s0) (hs : R ≤ 0 ∨ 0 < D) (k : ∀ r : Int32, post r) : wp_X7_letter post s0 x1 x2 := by
  unfold wp_X7_letter
  have e0 : (0 : Int32).toInt = 0 := rfl
  have e1 : (1 : Int32).toInt = 1 := rfl
  have e2 : (2 : Int32).toInt = 2 := rfl
  have m1 : (-1 : Int32).toInt = -1 := rfl
  have l0 : (0 : Int64).toInt = 0 := rfl
  have l1 : (1 : Int64).toInt = 1 := rfl
  have x64 := tq_64 x1
  have pd := h.2.2.2.1
  have same : ∀ a b : Int32, a.toInt = W → b.toInt = W → a = b := fun a b p q => Int32.toInt_inj.mp (p.trans q.symm)
  refine wq_X7_in (fun r1 b1 => ⟨fun _ => k _, fun c1 => ?_⟩)
  have c1 := q_neq c1
  refine ⟨fun c2 => ?_, fun _ => k _⟩
  have c2 := q_le c2
  refine wq_X7_cells h (fun r5 a5 => ⟨fun c3 => ?_, fun c3 => ?_⟩)
  · have c3 := q_neq c3
    refine wq_X7_wide h (fun r8 a8 => wq_X7_rows h (fun r10 a10 => ⟨fun c4 => ?_, fun _ => k _⟩))
    have c4 := q_neq c4
    refine ⟨fun c5 => ?_, fun _ => k _⟩
    have c5 := q_lt c5
    have s8 := nw (tq_addr e1 r8) (by omega)
    have pm : ((r8 + 1) * r10).toInt = R * W + R := by
      have e := tq_mul (r8 + 1) r10
      rw [s8, a8, a10, Int.add_mul, Int.one_mul, Int.mul_comm W R] at e
      exact nw e (by omega)
    have pm2 := nw (tq_subr e1 ((r8 + 1) * r10)) (by omega)
    refine wq_X7_wide h (fun r14 a14 => ⟨z_ne (by have := nw (tq_addr e1 r14) (by omega); omega), wq_X7_wide h (fun r17 a17 => ⟨fun c6 => ?_, fun _ => k _⟩)⟩)
    have c6 := q_neq c6
    refine wq_X7_wide h (fun r20 a20 => ⟨z_ne (by have := nw (tq_addr e1 r20) (by omega); omega), wq_X7_wide h (fun r23 a23 => ?_)⟩)
    have q1 := same r20 r14 a20 a14
    have q2 := same r23 r14 a23 a14
    subst q1
    subst q2
    have lb := let_b (x := x2) (w := r23) (R := R) (W := W) a23 (by omega) (by omega) (Or.inl ⟨by omega, by omega⟩)
    have t1 := nw (tq_mulc e2 x1) (by omega)
    exact wq_X7_signAt h lb (by omega) (by omega) (fun r => k r)
  · have c3 := q_eq c3
    refine ⟨fun c4 => ⟨fun c5 => ?_, fun _ => k _⟩, fun _ => k _⟩
    have c4 := q_neq c4
    have c5 := q_lt c5
    exfalso
    omega
theorem wq_X7_count {post : Int32 → Md → Prop} {s0 : Md} {x1 : Int32} {N R W D : Int} (h : mb N R W D s0) (hs : R ≤ 0 ∨ 0 < D) (k : ∀ (r : Int32) (u : Md), mb N R W D u → post r u) : wp_X7_count post s0 x1 := by
  unfold wp_X7_count
  refine ⟨fun _ => wq_X7_rows h (fun r _ => k _ _ h), fun _ => ⟨fun _ => wq_X7_wide h (fun r _ => k _ _ h), fun _ => ⟨fun _ => wq_X7_cells h (fun r _ => k _ _ h), fun _ => ⟨fun _ => k _ _ h, fun _ => ⟨fun _ => wq_X7_drums h (fun r _ => k _ _ h), fun _ => ⟨fun _ => k _ _ h, fun _ => ⟨fun _ => k _ _ h, fun _ => ⟨fun _ => ⟨fun _ => ⟨fun _ => k _ _ h, fun _ => k _ _ h⟩, fun _ => ⟨fun _ => k _ _ h, fun _ => k _ _ h⟩⟩, fun _ => ⟨fun _ => wq_X7_findsTurningZ h hs (fun u hu _ => k _ _ hu), fun _ => k _ _ h⟩⟩⟩⟩⟩⟩⟩⟩⟩
theorem mb_N {N M R W D : Int} {s t : Md} (h : mb N R W D s) (h5 : (t.1 5).toInt = M) (hM : 0 ≤ M ∧ M ≤ 400) (h0 : t.1 0 = s.1 0) (h2 : t.2.2.1 = s.2.2.1) (h3 : t.2.2.2 0 = s.2.2.2 0) : mb M R W D t := by
  obtain ⟨a0, a1, a2, a3, a4, a5, a6, a7⟩ := h
  unfold mb
  rw [h5, h0, h2, h3]
  exact ⟨rfl, a1, hM, a3, a4, a5, a6, a7⟩
theorem wq_X7_lays_L3 {post : Md → Prop} {e36 : Md → Int32 → Int32 → Prop} {N R W D C : Int} (hC : C ≤ 400) (ke : ∀ (t : Md) (z1 z2 : Int32), mb C R W D t → e36 t z1 z2) : ∀ (n : Nat) (t : Md) (z1 z2 : Int32) (M : Int), mb M R W D t → 8 * M + z2.toInt = 8 * C - 8 → -8 ≤ z2.toInt ∧ z2.toInt ≤ 24 → z2.toInt + 8 < (n : Int) → wp_X7_lays_L3 post e36 n t z1 z2 := by
  have e0 : (0 : Int32).toInt = 0 := rfl
  have e1 : (1 : Int32).toInt = 1 := rfl
  have m8 : (-8 : Int32).toInt = -8 := rfl
  intro n
  induction n with
  | zero =>
    intro t z1 z2 M _ _ _ _
    exfalso
    omega
  | succ n ih =>
    intro t z1 z2 M h i1 i2 i3
    unfold wp_X7_lays_L3
    refine ⟨fun c => ?_, fun c => ?_⟩
    · have c2 := q_lt c
      have e : M = C := by omega
      exact ke t z1 z2 (e ▸ h)
    · have c2 := q_nlt c
      have q0 := h.1
      have q1 := h.2.2.1
      have s1 := nw (tq_addr e1 (t.1 5)) (by omega)
      have s8 := tq_addr m8 z2
      generalize hy : z2 + (-8) = y at s8 ⊢
      have s9 := nw s8 (by omega)
      refine ⟨vi (by omega) (by omega), ih _ _ _ (M + 1) (mb_N h ?_ (by omega) rfl rfl rfl) (by omega) (by omega) (by omega)⟩
      show (t.1 5 + 1).toInt = M + 1
      omega
theorem wq_X7_lays {post : Md → Prop} {s0 : Md} {x1 : Int32} {N R W D : Int} (h : mb N R W D s0) (hN : N + 4 ≤ 400) (k : ∀ u : Md, mb (N + 4) R W D u → post u) : wp_X7_lays post s0 x1 := by
  unfold wp_X7_lays
  have e24 : (24 : Int32).toInt = 24 := rfl
  obtain ⟨nf, hf⟩ := fu_e 50
  exact ⟨nf, wq_X7_lays_L3 (N := N) (C := N + 4) hN (fun t _ _ ht => k t ht) nf s0 x1 24 N h (by omega) (by omega) (by omega)⟩
theorem wq_X7_feed {post : Int32 → Md → Prop} {s0 : Md} {x1 : Int32} {x2 : Int32} {x3 : Int32} {x4 : Int32} {x5 : Int32} {N R W D : Int} (h102125 : mb (N) (R) (W) (D) s0) (k : ∀ (r : Int32) (u : Md) (M : Int), mb (M) (R) (W) (D) u → ((r).toInt = M ∧ M = N + 20 ∧ N + 20 ≤ 400) ∨ ((r).toInt = -1 ∧ M = N ∧ 400 < N + 20) → post r u) : wp_X7_feed post s0 x1 x2 x3 x4 x5 := by
  unfold wp_X7_feed
  have := h102125.1
  have := h102125.2.1
  have := h102125.2.2.1
  have := h102125.2.2.2.1
  refine ⟨fun c102126 => ?_, fun c102127 => ?_⟩
  · replace c102126 := q_le c102126
    rw [li_380] at c102126
    have p102128 : N + 4 ≤ 400 := by omega
    refine wq_X7_lays h102125 p102128 (fun u_3 q102129 => ?_)
    have := q102129.1
    have := q102129.2.1
    have := q102129.2.2.1
    have p102130 : N + 4 + 4 ≤ 400 := by omega
    refine wq_X7_lays q102129 p102130 (fun u_5 q102131 => ?_)
    have := q102131.1
    have := q102131.2.1
    have := q102131.2.2.1
    have p102132 : N + 4 + 4 + 4 ≤ 400 := by omega
    refine wq_X7_lays q102131 p102132 (fun u_7 q102133 => ?_)
    have := q102133.1
    have := q102133.2.1
    have := q102133.2.2.1
    have p102134 : N + 4 + 4 + 4 + 4 ≤ 400 := by omega
    refine wq_X7_lays q102133 p102134 (fun u_9 q102135 => ?_)
    have := q102135.1
    have := q102135.2.1
    have := q102135.2.2.1
    have p102136 : N + 4 + 4 + 4 + 4 + 4 ≤ 400 := by omega
    refine wq_X7_lays q102135 p102136 (fun u_11 q102137 => ?_)
    have := q102137.1
    have := q102137.2.1
    have := q102137.2.2.1
    have p102138 : ((u_11.1 5).toInt = N + 4 + 4 + 4 + 4 + 4 ∧ N + 4 + 4 + 4 + 4 + 4 = N + 20 ∧ N + 20 ≤ 400) ∨ ((u_11.1 5).toInt = -1 ∧ N + 4 + 4 + 4 + 4 + 4 = N ∧ 400 < N + 20) := by omega
    exact k _ _ (N + 4 + 4 + 4 + 4 + 4) q102137 p102138
  · replace c102127 := q_nle c102127
    rw [li_380] at c102127
    have p102139 : ((-1 : Int32).toInt = N ∧ N = N + 20 ∧ N + 20 ≤ 400) ∨ ((-1 : Int32).toInt = -1 ∧ N = N ∧ 400 < N + 20) := by (have := li_m1; omega)
    exact k _ _ (N) h102125 p102139
theorem wq_X7_end {post : Int32 → Md → Prop} {s0 : Md} {x1 : Int32} {N R W D : Int} (h102140 : mb (N) (R) (W) (D) s0) (k : ∀ (r : Int32) (u : Md) (M : Int), mb (M) (R) (W) (D) u → ((r).toInt = (x1).toInt ∧ M = (x1).toInt ∧ 0 ≤ (x1).toInt ∧ (x1).toInt ≤ N) ∨ ((r).toInt = -1 ∧ M = N ∧ ((x1).toInt < 0 ∨ N < (x1).toInt)) → post r u) : wp_X7_end post s0 x1 := by
  unfold wp_X7_end
  have := h102140.1
  have := h102140.2.1
  have := h102140.2.2.1
  have := h102140.2.2.2.1
  refine wq_X7_in (fun r_1 q102141 => ?_)
  try simp only [lj_0] at q102141
  have := tq_64 x1
  have := tq_64 (s0.1 5)
  refine ⟨fun c102142 => ?_, fun c102143 => ?_⟩
  · replace c102142 := q_neq c102142
    rw [li_0] at c102142
    have p102144 : (x1).toInt = (x1).toInt := by omega
    have p102145 : 0 ≤ (s0.1 0).toInt ∧ (s0.1 0).toInt ≤ 10 := by omega
    have p102146 : 0 ≤ (x1).toInt ∧ (x1).toInt ≤ 400 := by omega
    have p102147 : 0 ≤ R ∧ R ≤ 6 ∧ 0 ≤ W ∧ W ≤ 10 ∧ 0 ≤ R * W ∧ R * W ≤ 40 ∧ 0 ≤ D ∧ D ≤ 4 ∧ (D ≤ 0 ∨ 1 ≤ R) ∧ (1 ≤ R ∨ R * W = 0) := by omega
    have B102148 : mb ((x1).toInt) (R) (W) (D) ((va_up s0.1 5 x1), s0.2.1, s0.2.2.1, s0.2.2.2) := ⟨p102144, p102145, p102146, p102147, h102140.2.2.2.2.1, h102140.2.2.2.2.2.1, h102140.2.2.2.2.2.2.1, h102140.2.2.2.2.2.2.2⟩
    have p102149 : ((x1).toInt = (x1).toInt ∧ (x1).toInt = (x1).toInt ∧ 0 ≤ (x1).toInt ∧ (x1).toInt ≤ N) ∨ ((x1).toInt = -1 ∧ (x1).toInt = N ∧ ((x1).toInt < 0 ∨ N < (x1).toInt)) := by omega
    exact k _ _ ((x1).toInt) B102148 p102149
  · replace c102143 := q_eq c102143
    rw [li_0] at c102143
    have p102150 : ((-1 : Int32).toInt = (x1).toInt ∧ N = (x1).toInt ∧ 0 ≤ (x1).toInt ∧ (x1).toInt ≤ N) ∨ ((-1 : Int32).toInt = -1 ∧ N = N ∧ ((x1).toInt < 0 ∨ N < (x1).toInt)) := by (have := li_m1; omega)
    exact k _ _ (N) h102140 p102150
