theorem wq_X0_makeCell {post : Bd → Prop} {s0 : Bd} {x1 : Int32} {x2 : Int32} {R W : Int} (h1 : bi (R) (W) s0) (h2 : 0 ≤ (x1).toInt ∧ (x1).toInt < 40) (h3 : 0 ≤ (x2).toInt ∧ (x2).toInt ≤ 3) (k : ∀ (u : Bd), bi (R) (W) u → post u) : wp_X0_makeCell post s0 x1 x2 := by
  unfold wp_X0_makeCell
  have := h1.1
  have := h1.2.1
  have := h1.2.2.1
  have := h1.2.2.2.1
  have := h1.2.2.2.2.2.2.2.2.2
  have v4 : vp_in x1 40 := vi (by omega) (by omega)
  refine ⟨v4, ?_⟩
  refine ⟨v4, ?_⟩
  refine ⟨v4, ?_⟩
  refine ⟨v4, ?_⟩
  refine ⟨v4, ?_⟩
  refine ⟨v4, ?_⟩
  refine ⟨v4, ?_⟩
  refine ⟨v4, ?_⟩
  have p5 : (s0.1 0).toInt = R := by omega
  have p6 : (s0.1 1).toInt = W := by omega
  have p7 : 0 ≤ (s0.1 3).toInt ∧ (s0.1 3).toInt ≤ 4 := by omega
  have p8 : 0 ≤ R ∧ R ≤ 6 ∧ 0 ≤ W ∧ W ≤ 10 ∧ 0 ≤ R * W ∧ R * W ≤ 40 := by omega
  have p9 : ar 4 (0) (40) (s0.2.1 1) := h1.2.2.2.2.1
  have p10 : ar 40 (0) (3) (upd (s0.2.1 3) (Int32.toNatClampNeg x1) x2) := (ar_upd h1.2.2.2.2.2.1 (by omega) (by omega))
  have p11 : ar 40 (0) (39) (upd (s0.2.1 4) (Int32.toNatClampNeg x1) 0) := (ar_upd h1.2.2.2.2.2.2.1 (by decide) (by decide))
  have p12 : ar 40 (0) (39) (upd (s0.2.1 5) (Int32.toNatClampNeg x1) 0) := (ar_upd h1.2.2.2.2.2.2.2.1 (by decide) (by decide))
  have p13 : ar 40 (0) (39) (upd (s0.2.1 6) (Int32.toNatClampNeg x1) 0) := (ar_upd h1.2.2.2.2.2.2.2.2.1 (by decide) (by decide))
  have p14 : s0.2.2.2.1 ≤ 6400 := by omega
  have B15 : bi (R) (W) (s0.1, (va_up (va_up (va_up (va_up (va_up (va_up (va_up s0.2.1 3 (upd (s0.2.1 3) (Int32.toNatClampNeg x1) x2)) 4 (upd (s0.2.1 4) (Int32.toNatClampNeg x1) 0)) 5 (upd (s0.2.1 5) (Int32.toNatClampNeg x1) 0)) 6 (upd (s0.2.1 6) (Int32.toNatClampNeg x1) 0)) 7 (upd (s0.2.1 7) (Int32.toNatClampNeg x1) 0)) 8 (upd (s0.2.1 8) (Int32.toNatClampNeg x1) 0)) 9 (upd (s0.2.1 9) (Int32.toNatClampNeg x1) 0)), (vp_updL s0.2.2.1 (Int32.toNatClampNeg x1) 0), s0.2.2.2.1, s0.2.2.2.2) := ⟨p5, p6, p7, p8, p9, p10, p11, p12, p13, p14⟩
  exact k _ B15
theorem wq_X0_clear_L32 {post : Bd → Prop} {e50 : Bd → Int32 → Prop} (ke50 : ∀ (t0 : Bd) (z1 : Int32), bi ((0 : Int)) ((0 : Int)) t0 → 0 ≤ (z1).toInt ∧ (z1).toInt ≤ 40 → e50 t0 z1) : ∀ (n : Nat) (t0 : Bd) (z1 : Int32), bi ((0 : Int)) ((0 : Int)) t0 → 0 ≤ (z1).toInt ∧ (z1).toInt ≤ 40 → 40 - (z1).toInt < (n : Int) → wp_X0_clear_L32 post e50 n t0 z1 := by
  intro n
  induction n with
  | zero =>
    intro t0 z1 i16 i17 i18
    have := i16.1
    have := i16.2.1
    have := i16.2.2.1
    have := i16.2.2.2.1
    have := i16.2.2.2.2.2.2.2.2.2
    exfalso
    omega
  | succ n ih =>
    intro t0 z1 i16 i17 i18
    unfold wp_X0_clear_L32
    have := i16.1
    have := i16.2.1
    have := i16.2.2.1
    have := i16.2.2.2.1
    have := i16.2.2.2.2.2.2.2.2.2
    refine ⟨fun c19 => ?_, fun c20 => ?_⟩
    · replace c19 := q_le c19
      rw [li_40] at c19
      have p21 : 0 ≤ (z1).toInt ∧ (z1).toInt ≤ 40 := by omega
      exact ke50 _ _ i16 p21
    · replace c20 := q_nle c20
      rw [li_40] at c20
      have p22 : 0 ≤ (z1).toInt ∧ (z1).toInt < 40 := by omega
      have p23 : 0 ≤ ((0 : Int32)).toInt ∧ ((0 : Int32)).toInt ≤ 3 := by (have := li_0; omega)
      refine wq_X0_makeCell i16 p22 p23 (fun u_3 q24 => ?_)
      have := q24.1
      have := q24.2.1
      have := q24.2.2.1
      have := q24.2.2.2.2.2.2.2.2.2
      have e25 := tq_addr li_1 z1
      try rw [Int.emod_eq_of_lt (show 0 ≤ (z1).toInt + 1 + 2147483648 by omega) (show (z1).toInt + 1 + 2147483648 < 4294967296 by omega)] at e25
      have p26 : 0 ≤ (z1 + 1).toInt ∧ (z1 + 1).toInt ≤ 40 := by omega
      have p27 : 40 - (z1 + 1).toInt < ((n : Nat) : Int) := by (omega)
      exact ih _ _ q24 p26 p27
theorem wq_X0_clear {post : Bd → Prop} {s0 : Bd} {R W : Int} (h28 : bi (R) (W) s0) (k : ∀ (u : Bd), bi ((0 : Int)) ((0 : Int)) u → post u) : wp_X0_clear post s0 := by
  unfold wp_X0_clear
  have := h28.1
  have := h28.2.1
  have := h28.2.2.1
  have := h28.2.2.2.1
  have := h28.2.2.2.2.2.2.2.2.2
  have p29 : (0 : Int32).toInt = (0 : Int) := by (have := li_0; omega)
  have p30 : (0 : Int32).toInt = (0 : Int) := by (have := li_0; omega)
  have p31 : 0 ≤ (0 : Int32).toInt ∧ (0 : Int32).toInt ≤ 4 := by (have := li_0; omega)
  have p32 : 0 ≤ (0 : Int) ∧ (0 : Int) ≤ 6 ∧ 0 ≤ (0 : Int) ∧ (0 : Int) ≤ 10 ∧ 0 ≤ (0 : Int) * (0 : Int) ∧ (0 : Int) * (0 : Int) ≤ 40 := by omega
  have p33 : ar 4 (0) (40) (s0.2.1 1) := h28.2.2.2.2.1
  have p34 : ar 40 (0) (3) (s0.2.1 3) := h28.2.2.2.2.2.1
  have p35 : ar 40 (0) (39) (s0.2.1 4) := h28.2.2.2.2.2.2.1
  have p36 : ar 40 (0) (39) (s0.2.1 5) := h28.2.2.2.2.2.2.2.1
  have p37 : ar 40 (0) (39) (s0.2.1 6) := h28.2.2.2.2.2.2.2.2.1
  have p38 : s0.2.2.2.1 ≤ 6400 := by omega
  have B39 : bi ((0 : Int)) ((0 : Int)) ((va_up (va_up (va_up (va_up (va_up (va_up s0.1 0 0) 1 0) 2 0) 3 0) 4 0) 5 0), s0.2.1, s0.2.2.1, s0.2.2.2.1, s0.2.2.2.2) := ⟨p29, p30, p31, p32, p33, p34, p35, p36, p37, p38⟩
  have p40 : 0 ≤ (0 : Int32).toInt ∧ (0 : Int32).toInt ≤ 40 := by (have := li_0; omega)
  obtain ⟨f41, g42⟩ := fu_e 50
  have p43 : 40 - (0 : Int32).toInt < (f41 : Int) := by (have := li_0; omega)
  refine ⟨f41, wq_X0_clear_L32 (fun t0 z1 q44 q45 => ?_) f41 _ _ B39 p40 p43⟩
  have := q44.1
  have := q44.2.1
  have := q44.2.2.1
  have := q44.2.2.2.1
  have := q44.2.2.2.2.2.2.2.2.2
  exact k _ q44
theorem wq_X0_cells {post : Int32 → Prop} {s0 : Bd} {R W : Int} (h46 : bi (R) (W) s0) (k : ∀ (r : Int32), (r).toInt = R * W → post r) : wp_X0_cells post s0 := by
  unfold wp_X0_cells
  have := h46.1
  have := h46.2.1
  have := h46.2.2.1
  have := h46.2.2.2.1
  have := h46.2.2.2.2.2.2.2.2.2
  have := bi_c h46
  have p47 : ((s0.1 0) * (s0.1 1)).toInt = R * W := by omega
  exact k _ p47
theorem wq_X0_hasCell {post : Int32 → Prop} {s0 : Bd} {x1 : Int32} {R W : Int} (h48 : bi (R) (W) s0) (k : ∀ (r : Int32), ((r).toInt = 1 ∧ 0 ≤ (x1).toInt ∧ (x1).toInt < R * W) ∨ ((r).toInt = 0 ∧ ((x1).toInt < 0 ∨ R * W ≤ (x1).toInt)) → post r) : wp_X0_hasCell post s0 x1 := by
  unfold wp_X0_hasCell
  have := h48.1
  have := h48.2.1
  have := h48.2.2.1
  have := h48.2.2.2.1
  have := h48.2.2.2.2.2.2.2.2.2
  refine ⟨fun c49 => ?_, fun c50 => ?_⟩
  · replace c49 := q_lt c49
    rw [li_0] at c49
    have p51 : ((0 : Int32).toInt = 1 ∧ 0 ≤ (x1).toInt ∧ (x1).toInt < R * W) ∨ ((0 : Int32).toInt = 0 ∧ ((x1).toInt < 0 ∨ R * W ≤ (x1).toInt)) := by (have := li_0; omega)
    exact k _ p51
  · replace c50 := q_nlt c50
    rw [li_0] at c50
    refine wq_X0_cells h48 (fun r_2 q52 => ?_)
    refine ⟨fun c53 => ?_, fun c54 => ?_⟩
    · replace c53 := q_le c53
      have p55 : ((0 : Int32).toInt = 1 ∧ 0 ≤ (x1).toInt ∧ (x1).toInt < R * W) ∨ ((0 : Int32).toInt = 0 ∧ ((x1).toInt < 0 ∨ R * W ≤ (x1).toInt)) := by (have := li_0; omega)
      exact k _ p55
    · replace c54 := q_nle c54
      have p56 : ((1 : Int32).toInt = 1 ∧ 0 ≤ (x1).toInt ∧ (x1).toInt < R * W) ∨ ((1 : Int32).toInt = 0 ∧ ((x1).toInt < 0 ∨ R * W ≤ (x1).toInt)) := by (have := li_1; omega)
      exact k _ p56
theorem wq_X0_setLost {post : Bd → Prop} {s0 : Bd} {x1 : Int32} {x2 : Int32} {R W : Int} (h57 : bi (R) (W) s0) (k : ∀ (u : Bd), bi (R) (W) u → post u) : wp_X0_setLost post s0 x1 x2 := by
  unfold wp_X0_setLost
  have := h57.1
  have := h57.2.1
  have := h57.2.2.1
  have := h57.2.2.2.1
  have := h57.2.2.2.2.2.2.2.2.2
  refine wq_X0_hasCell h57 (fun r_1 q58 => ?_)
  refine ⟨fun c59 => ?_, fun c60 => ?_⟩
  · replace c59 := q_eq c59
    rw [li_0] at c59
    exact k _ h57
  · replace c60 := q_neq c60
    rw [li_0] at c60
    have v61 : vp_in x1 40 := vi (by omega) (by omega)
    refine ⟨v61, ?_⟩
    have p62 : (s0.1 0).toInt = R := by omega
    have p63 : (s0.1 1).toInt = W := by omega
    have p64 : 0 ≤ (s0.1 3).toInt ∧ (s0.1 3).toInt ≤ 4 := by omega
    have p65 : 0 ≤ R ∧ R ≤ 6 ∧ 0 ≤ W ∧ W ≤ 10 ∧ 0 ≤ R * W ∧ R * W ≤ 40 := by omega
    have p66 : ar 4 (0) (40) (s0.2.1 1) := h57.2.2.2.2.1
    have p67 : ar 40 (0) (3) (s0.2.1 3) := h57.2.2.2.2.2.1
    have p68 : ar 40 (0) (39) (s0.2.1 4) := h57.2.2.2.2.2.2.1
    have p69 : ar 40 (0) (39) (s0.2.1 5) := h57.2.2.2.2.2.2.2.1
    have p70 : ar 40 (0) (39) (s0.2.1 6) := h57.2.2.2.2.2.2.2.2.1
    have p71 : s0.2.2.2.1 ≤ 6400 := by omega
    have B72 : bi (R) (W) (s0.1, (va_up s0.2.1 7 (upd (s0.2.1 7) (Int32.toNatClampNeg x1) x2)), s0.2.2.1, s0.2.2.2.1, s0.2.2.2.2) := ⟨p62, p63, p64, p65, p66, p67, p68, p69, p70, p71⟩
    exact k _ B72
theorem wq_X5_byteAt {post : Int32 → Prop} {s0 : Tp} {x1 : Int32} {N : Int} (h73 : tz (N) s0) (k : ∀ (r : Int32), post r) : wp_X5_byteAt post s0 x1 := by
  unfold wp_X5_byteAt
  have := h73.1
  have := h73.2
  refine ⟨fun c74 => ?_, fun c75 => ?_⟩
  · replace c74 := q_lt c74
    rw [li_0] at c74
    exact k _
  · replace c75 := q_nlt c75
    rw [li_0] at c75
    refine ⟨fun c76 => ?_, fun c77 => ?_⟩
    · replace c76 := q_le c76
      exact k _
    · replace c77 := q_nle c77
      have v78 : vp_in x1 400 := vi (by omega) (by omega)
      refine ⟨v78, ?_⟩
      exact k _
theorem wq_X0_addDrum_L40 {s1 : Tp} {post : Bd → Prop} {e76 : Bd → Int32 → Int32 → Int32 → Int32 → Prop} {N R W : Int} (h79 : tz (N) s1) (ke76 : ∀ (t0 : Bd) (z1 : Int32) (z3 : Int32) (z4 : Int32) (z5 : Int32), bi (R) (W) t0 → (t0.1 3).toInt < 4 → 0 ≤ (z5).toInt ∧ (z5).toInt ≤ (z4).toInt ∧ (z4).toInt ≤ 40 → e76 t0 z1 z3 z4 z5) : ∀ (n : Nat) (t0 : Bd) (z1 : Int32) (z3 : Int32) (z4 : Int32) (z5 : Int32), bi (R) (W) t0 → (t0.1 3).toInt < 4 → 0 ≤ (z5).toInt ∧ (z5).toInt ≤ (z4).toInt ∧ (z4).toInt ≤ 40 → (z4).toInt - (z5).toInt < (n : Int) → wp_X0_addDrum_L40 s1 post e76 n t0 z1 z3 z4 z5 := by
  have := h79.1
  have := h79.2
  intro n
  induction n with
  | zero =>
    intro t0 z1 z3 z4 z5 i80 i81 i82 i83
    have := i80.1
    have := i80.2.1
    have := i80.2.2.1
    have := i80.2.2.2.1
    have := i80.2.2.2.2.2.2.2.2.2
    exfalso
    omega
  | succ n ih =>
    intro t0 z1 z3 z4 z5 i80 i81 i82 i83
    unfold wp_X0_addDrum_L40
    have := i80.1
    have := i80.2.1
    have := i80.2.2.1
    have := i80.2.2.2.1
    have := i80.2.2.2.2.2.2.2.2.2
    refine ⟨fun c84 => ?_, fun c85 => ?_⟩
    · replace c84 := q_le c84
      have p86 : (t0.1 3).toInt < 4 := by omega
      have p87 : 0 ≤ (z5).toInt ∧ (z5).toInt ≤ (z4).toInt ∧ (z4).toInt ≤ 40 := by omega
      exact ke76 _ _ _ _ _ i80 p86 p87
    · replace c85 := q_nle c85
      refine wq_X5_byteAt h79 (fun r_6 => ?_)
      have e88 := tq_mulr li_40 (t0.1 3)
      try rw [Int.emod_eq_of_lt (show 0 ≤ (t0.1 3).toInt * 40 + 2147483648 by omega) (show (t0.1 3).toInt * 40 + 2147483648 < 4294967296 by omega)] at e88
      have e89 := tq_add ((t0.1 3) * 40) z5
      try rw [Int.emod_eq_of_lt (show 0 ≤ ((t0.1 3) * 40).toInt + (z5).toInt + 2147483648 by omega) (show ((t0.1 3) * 40).toInt + (z5).toInt + 2147483648 < 4294967296 by omega)] at e89
      have v90 : vp_in (((t0.1 3) * 40) + z5) 160 := vi (by omega) (by omega)
      refine ⟨v90, ?_⟩
      have p91 : (t0.1 0).toInt = R := by omega
      have p92 : (t0.1 1).toInt = W := by omega
      have p93 : 0 ≤ (t0.1 3).toInt ∧ (t0.1 3).toInt ≤ 4 := by omega
      have p94 : 0 ≤ R ∧ R ≤ 6 ∧ 0 ≤ W ∧ W ≤ 10 ∧ 0 ≤ R * W ∧ R * W ≤ 40 := by omega
      have p95 : ar 4 (0) (40) (t0.2.1 1) := i80.2.2.2.2.1
      have p96 : ar 40 (0) (3) (t0.2.1 3) := i80.2.2.2.2.2.1
      have p97 : ar 40 (0) (39) (t0.2.1 4) := i80.2.2.2.2.2.2.1
      have p98 : ar 40 (0) (39) (t0.2.1 5) := i80.2.2.2.2.2.2.2.1
      have p99 : ar 40 (0) (39) (t0.2.1 6) := i80.2.2.2.2.2.2.2.2.1
      have p100 : t0.2.2.2.1 ≤ 6400 := by omega
      have B101 : bi (R) (W) (t0.1, (va_up t0.2.1 2 (upd (t0.2.1 2) (Int32.toNatClampNeg (((t0.1 3) * 40) + z5)) r_6)), t0.2.2.1, t0.2.2.2.1, t0.2.2.2.2) := ⟨p91, p92, p93, p94, p95, p96, p97, p98, p99, p100⟩
      have p102 : (t0.1 3).toInt < 4 := by omega
      have e103 := tq_addr li_1 z5
      try rw [Int.emod_eq_of_lt (show 0 ≤ (z5).toInt + 1 + 2147483648 by omega) (show (z5).toInt + 1 + 2147483648 < 4294967296 by omega)] at e103
      have p104 : 0 ≤ (z5 + 1).toInt ∧ (z5 + 1).toInt ≤ (z4).toInt ∧ (z4).toInt ≤ 40 := by omega
      have p105 : (z4).toInt - (z5 + 1).toInt < ((n : Nat) : Int) := by (omega)
      exact ih _ _ _ _ _ B101 p102 p104 p105
theorem wq_X0_addDrum {post : Bd → Prop} {s0 : Bd} {s1 : Tp} {x1 : Int32} {x3 : Int32} {x4 : Int32} {R W N : Int} (h106 : bi (R) (W) s0) (h107 : tz (N) s1) (h108 : 0 ≤ (x4).toInt) (k : ∀ (u : Bd), bi (R) (W) u → post u) : wp_X0_addDrum post s0 s1 x1 x3 x4 := by
  unfold wp_X0_addDrum
  have := h106.1
  have := h106.2.1
  have := h106.2.2.1
  have := h106.2.2.2.1
  have := h106.2.2.2.2.2.2.2.2.2
  have := h107.1
  have := h107.2
  refine ⟨fun c109 => ?_, fun c110 => ?_⟩
  · replace c109 := q_le c109
    rw [li_4] at c109
    exact k _ h106
  · replace c110 := q_nle c110
    rw [li_4] at c110
    refine ⟨fun c111 => ?_, fun c112 => ?_⟩
    · replace c111 := q_le c111
      rw [li_40] at c111
      have v113 : vp_in (s0.1 3) 4 := vi (by omega) (by omega)
      refine ⟨v113, ?_⟩
      refine ⟨v113, ?_⟩
      have p114 : (s0.1 0).toInt = R := by omega
      have p115 : (s0.1 1).toInt = W := by omega
      have p116 : 0 ≤ (s0.1 3).toInt ∧ (s0.1 3).toInt ≤ 4 := by omega
      have p117 : 0 ≤ R ∧ R ≤ 6 ∧ 0 ≤ W ∧ W ≤ 10 ∧ 0 ≤ R * W ∧ R * W ≤ 40 := by omega
      have p118 : ar 4 (0) (40) (upd (s0.2.1 1) (Int32.toNatClampNeg (s0.1 3)) x4) := (ar_upd h106.2.2.2.2.1 (by omega) (by omega))
      have p119 : ar 40 (0) (3) (s0.2.1 3) := h106.2.2.2.2.2.1
      have p120 : ar 40 (0) (39) (s0.2.1 4) := h106.2.2.2.2.2.2.1
      have p121 : ar 40 (0) (39) (s0.2.1 5) := h106.2.2.2.2.2.2.2.1
      have p122 : ar 40 (0) (39) (s0.2.1 6) := h106.2.2.2.2.2.2.2.2.1
      have p123 : s0.2.2.2.1 ≤ 6400 := by omega
      have B124 : bi (R) (W) (s0.1, (va_up (va_up s0.2.1 0 (upd (s0.2.1 0) (Int32.toNatClampNeg (s0.1 3)) x1)) 1 (upd (s0.2.1 1) (Int32.toNatClampNeg (s0.1 3)) x4)), s0.2.2.1, s0.2.2.2.1, s0.2.2.2.2) := ⟨p114, p115, p116, p117, p118, p119, p120, p121, p122, p123⟩
      have p125 : (s0.1 3).toInt < 4 := by omega
      have p126 : 0 ≤ (0 : Int32).toInt ∧ (0 : Int32).toInt ≤ (x4).toInt ∧ (x4).toInt ≤ 40 := by (have := li_0; omega)
      obtain ⟨f127, g128⟩ := fu_e 50
      have p129 : (x4).toInt - (0 : Int32).toInt < (f127 : Int) := by (have := li_0; omega)
      refine ⟨f127, wq_X0_addDrum_L40 h107 (fun t0 z1 z3 z4 z5 q130 q131 q132 => ?_) f127 _ _ _ _ _ B124 p125 p126 p129⟩
      have := q130.1
      have := q130.2.1
      have := q130.2.2.1
      have := q130.2.2.2.2.2.2.2.2.2
      have p133 : (t0.1 0).toInt = R := by omega
      have p134 : (t0.1 1).toInt = W := by omega
      have e135 := tq_addr li_1 (t0.1 3)
      try rw [Int.emod_eq_of_lt (show 0 ≤ (t0.1 3).toInt + 1 + 2147483648 by omega) (show (t0.1 3).toInt + 1 + 2147483648 < 4294967296 by omega)] at e135
      have p136 : 0 ≤ ((t0.1 3) + 1).toInt ∧ ((t0.1 3) + 1).toInt ≤ 4 := by omega
      have p137 : 0 ≤ R ∧ R ≤ 6 ∧ 0 ≤ W ∧ W ≤ 10 ∧ 0 ≤ R * W ∧ R * W ≤ 40 := by omega
      have p138 : ar 4 (0) (40) (t0.2.1 1) := q130.2.2.2.2.1
      have p139 : ar 40 (0) (3) (t0.2.1 3) := q130.2.2.2.2.2.1
      have p140 : ar 40 (0) (39) (t0.2.1 4) := q130.2.2.2.2.2.2.1
      have p141 : ar 40 (0) (39) (t0.2.1 5) := q130.2.2.2.2.2.2.2.1
      have p142 : ar 40 (0) (39) (t0.2.1 6) := q130.2.2.2.2.2.2.2.2.1
      have p143 : t0.2.2.2.1 ≤ 6400 := by omega
      have B144 : bi (R) (W) ((va_up t0.1 3 ((t0.1 3) + 1)), t0.2.1, t0.2.2.1, t0.2.2.2.1, t0.2.2.2.2) := ⟨p133, p134, p136, p137, p138, p139, p140, p141, p142, p143⟩
      exact k _ B144
    · replace c112 := q_nle c112
      rw [li_40] at c112
      exact k _ h106
theorem wq_X0_copyAllButLog {post : Bd → Prop} {s0 : Bd} {s1 : Bd} {R W R2 W2 : Int} (h145 : bi (R) (W) s0) (h146 : bi (R2) (W2) s1) (k : ∀ (u : Bd), bi (R2) (W2) u → u.2.2.2.1 = s0.2.2.2.1 → post u) : wp_X0_copyAllButLog post s0 s1 := by
  unfold wp_X0_copyAllButLog
  have := h145.1
  have := h145.2.1
  have := h145.2.2.1
  have := h145.2.2.2.1
  have := h145.2.2.2.2.2.2.2.2.2
  have := h146.1
  have := h146.2.1
  have := h146.2.2.1
  have := h146.2.2.2.1
  have := h146.2.2.2.2.2.2.2.2.2
  refine wq_X0_cells h146 (fun r_1 q147 => ?_)
  refine ⟨(z_nlt (by have := li_0; omega)), ?_⟩
  refine ⟨(tn_0 (by omega)), ?_⟩
  refine ⟨(tn_0 (by omega)), ?_⟩
  refine ⟨(z_nlt (by have := li_0; omega)), ?_⟩
  refine ⟨(tn_0 (by omega)), ?_⟩
  refine ⟨(tn_0 (by omega)), ?_⟩
  refine ⟨(z_nlt (by have := li_0; omega)), ?_⟩
  refine ⟨(tn_0 (by omega)), ?_⟩
  refine ⟨(tn_0 (by omega)), ?_⟩
  refine ⟨(z_nlt (by have := li_0; omega)), ?_⟩
  refine ⟨(tn_0 (by omega)), ?_⟩
  refine ⟨(tn_0 (by omega)), ?_⟩
  refine ⟨(z_nlt (by have := li_0; omega)), ?_⟩
  refine ⟨(tn_0 (by omega)), ?_⟩
  refine ⟨(tn_0 (by omega)), ?_⟩
  refine ⟨(z_nlt (by have := li_0; omega)), ?_⟩
  refine ⟨(tn_0 (by omega)), ?_⟩
  refine ⟨(tn_0 (by omega)), ?_⟩
  refine ⟨(z_nlt (by have := li_0; omega)), ?_⟩
  refine ⟨(tn_0 (by omega)), ?_⟩
  refine ⟨(tn_0 (by omega)), ?_⟩
  refine ⟨(z_nlt (by have := li_0; omega)), ?_⟩
  refine ⟨(tn_0 (by omega)), ?_⟩
  refine ⟨(tn_0 (by omega)), ?_⟩
  have p148 : (s1.1 0).toInt = R2 := by omega
  have p149 : (s1.1 1).toInt = W2 := by omega
  have p150 : 0 ≤ (s1.1 3).toInt ∧ (s1.1 3).toInt ≤ 4 := by omega
  have p151 : 0 ≤ R2 ∧ R2 ≤ 6 ∧ 0 ≤ W2 ∧ W2 ≤ 10 ∧ 0 ≤ R2 * W2 ∧ R2 * W2 ≤ 40 := by omega
  have p152 : ar 4 (0) (40) (va_cpy (s1.2.1 1) (s0.2.1 1) (Int32.toNatClampNeg 0) (Int32.toNatClampNeg 0) (Int32.toNatClampNeg 4)) := (ar_cpy h146.2.2.2.2.1 h145.2.2.2.2.1)
  have p153 : ar 40 (0) (3) (va_cpy (s1.2.1 3) (s0.2.1 3) (Int32.toNatClampNeg 0) (Int32.toNatClampNeg 0) (Int32.toNatClampNeg r_1)) := (ar_cpy h146.2.2.2.2.2.1 h145.2.2.2.2.2.1)
  have p154 : ar 40 (0) (39) (va_cpy (s1.2.1 4) (s0.2.1 4) (Int32.toNatClampNeg 0) (Int32.toNatClampNeg 0) (Int32.toNatClampNeg r_1)) := (ar_cpy h146.2.2.2.2.2.2.1 h145.2.2.2.2.2.2.1)
  have p155 : ar 40 (0) (39) (va_cpy (s1.2.1 5) (s0.2.1 5) (Int32.toNatClampNeg 0) (Int32.toNatClampNeg 0) (Int32.toNatClampNeg r_1)) := (ar_cpy h146.2.2.2.2.2.2.2.1 h145.2.2.2.2.2.2.2.1)
  have p156 : ar 40 (0) (39) (va_cpy (s1.2.1 6) (s0.2.1 6) (Int32.toNatClampNeg 0) (Int32.toNatClampNeg 0) (Int32.toNatClampNeg r_1)) := (ar_cpy h146.2.2.2.2.2.2.2.2.1 h145.2.2.2.2.2.2.2.2.1)
  have p157 : s0.2.2.2.1 ≤ 6400 := by omega
  have B158 : bi (R2) (W2) ((va_up (va_up (va_up (va_up (va_up (va_up s0.1 0 (s1.1 0)) 1 (s1.1 1)) 2 (s1.1 2)) 3 (s1.1 3)) 4 (s1.1 4)) 5 (s1.1 5)), (va_up (va_up (va_up (va_up (va_up (va_up (va_up (va_up (va_up (va_up s0.2.1 0 (va_cpy (s1.2.1 0) (s0.2.1 0) (Int32.toNatClampNeg 0) (Int32.toNatClampNeg 0) (Int32.toNatClampNeg 4))) 1 (va_cpy (s1.2.1 1) (s0.2.1 1) (Int32.toNatClampNeg 0) (Int32.toNatClampNeg 0) (Int32.toNatClampNeg 4))) 2 (va_cpy (s1.2.1 2) (s0.2.1 2) (Int32.toNatClampNeg 0) (Int32.toNatClampNeg 0) (Int32.toNatClampNeg 160))) 3 (va_cpy (s1.2.1 3) (s0.2.1 3) (Int32.toNatClampNeg 0) (Int32.toNatClampNeg 0) (Int32.toNatClampNeg r_1))) 4 (va_cpy (s1.2.1 4) (s0.2.1 4) (Int32.toNatClampNeg 0) (Int32.toNatClampNeg 0) (Int32.toNatClampNeg r_1))) 5 (va_cpy (s1.2.1 5) (s0.2.1 5) (Int32.toNatClampNeg 0) (Int32.toNatClampNeg 0) (Int32.toNatClampNeg r_1))) 6 (va_cpy (s1.2.1 6) (s0.2.1 6) (Int32.toNatClampNeg 0) (Int32.toNatClampNeg 0) (Int32.toNatClampNeg r_1))) 7 (va_cpy (s1.2.1 7) (s0.2.1 7) (Int32.toNatClampNeg 0) (Int32.toNatClampNeg 0) (Int32.toNatClampNeg r_1))) 8 (va_cpy (s1.2.1 8) (s0.2.1 8) (Int32.toNatClampNeg 0) (Int32.toNatClampNeg 0) (Int32.toNatClampNeg r_1))) 9 (va_cpy (s1.2.1 9) (s0.2.1 9) (Int32.toNatClampNeg 0) (Int32.toNatClampNeg 0) (Int32.toNatClampNeg r_1))), (va_cpy s1.2.2.1 s0.2.2.1 (Int32.toNatClampNeg 0) (Int32.toNatClampNeg 0) (Int32.toNatClampNeg r_1)), s0.2.2.2.1, s0.2.2.2.2) := ⟨p148, p149, p150, p151, p152, p153, p154, p155, p156, p157⟩
  have p159 : s0.2.2.2.1 = s0.2.2.2.1 := by omega
  exact k _ B158 p159
