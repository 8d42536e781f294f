theorem wq_X0_makeCell {post : Bd → Prop} {s0 : Bd} {x1 : Int32} {x2 : Int32} {R W : Int} (h1 : bi (R) (W) s0) (h2 : 0 ≤ (x1).toInt ∧ (x1).toInt < 40) (h3 : 0 ≤ (x2).toInt ∧ (x2).toInt ≤ 3) (k : ∀ (u : Bd), bi (R) (W) u → post u) : wp_X0_makeCell post s0 x1 x2 := by
  unfold wp_X0_makeCell
  have := h1.1
  have := h1.2.1
  have := h1.2.2.1
  have := h1.2.2.2.1
  have := h1.2.2.2.2.2.2.2.2.2
  have v4 : vp_in x1 40 := vi (by omega) (by omega)
  refine ⟨v4, ?_⟩
  refine ⟨v4, ?_⟩
  refine ⟨v4, ?_⟩
  refine ⟨v4, ?_⟩
  refine ⟨v4, ?_⟩
  refine ⟨v4, ?_⟩
  refine ⟨v4, ?_⟩
  refine ⟨v4, ?_⟩
  have p5 : (s0.1 0).toInt = R := by omega
  have p6 : (s0.1 1).toInt = W := by omega
  have p7 : 0 ≤ (s0.1 3).toInt ∧ (s0.1 3).toInt ≤ 4 := by omega
  have p8 : 0 ≤ R ∧ R ≤ 6 ∧ 0 ≤ W ∧ W ≤ 10 ∧ 0 ≤ R * W ∧ R * W ≤ 40 := by omega
  have p9 : ar 4 (0) (40) (s0.2.1 1) := h1.2.2.2.2.1
  have p10 : ar 40 (0) (3) (upd (s0.2.1 3) (Int32.toNatClampNeg x1) x2) := (ar_upd h1.2.2.2.2.2.1 (by omega) (by omega))
  have := li_0
  have p11 : ar 40 (0) (39) (upd (s0.2.1 4) (Int32.toNatClampNeg x1) 0) := (ar_upd h1.2.2.2.2.2.2.1 (by omega) (by omega))
  have p12 : ar 40 (0) (39) (upd (s0.2.1 5) (Int32.toNatClampNeg x1) 0) := (ar_upd h1.2.2.2.2.2.2.2.1 (by omega) (by omega))
  have p13 : ar 40 (0) (39) (upd (s0.2.1 6) (Int32.toNatClampNeg x1) 0) := (ar_upd h1.2.2.2.2.2.2.2.2.1 (by omega) (by omega))
  have p14 : s0.2.2.2.1 ≤ 6400 := by omega
  have B15 : bi (R) (W) (s0.1, (va_up (va_up (va_up (va_up (va_up (va_up (va_up s0.2.1 3 (upd (s0.2.1 3) (Int32.toNatClampNeg x1) x2)) 4 (upd (s0.2.1 4) (Int32.toNatClampNeg x1) 0)) 5 (upd (s0.2.1 5) (Int32.toNatClampNeg x1) 0)) 6 (upd (s0.2.1 6) (Int32.toNatClampNeg x1) 0)) 7 (upd (s0.2.1 7) (Int32.toNatClampNeg x1) 0)) 8 (upd (s0.2.1 8) (Int32.toNatClampNeg x1) 0)) 9 (upd (s0.2.1 9) (Int32.toNatClampNeg x1) 0)), (vp_updL s0.2.2.1 (Int32.toNatClampNeg x1) 0), s0.2.2.2.1, s0.2.2.2.2) := ⟨p5, p6, p7, p8, p9, p10, p11, p12, p13, p14⟩
  exact k _ B15
theorem wq_X0_clear_L32 {post : Bd → Prop} {e50 : Bd → Int32 → Prop} (ke50 : ∀ (t0 : Bd) (z1 : Int32), bi ((0 : Int)) ((0 : Int)) t0 → 0 ≤ (z1).toInt ∧ (z1).toInt ≤ 40 → e50 t0 z1) : ∀ (n : Nat) (t0 : Bd) (z1 : Int32), bi ((0 : Int)) ((0 : Int)) t0 → 0 ≤ (z1).toInt ∧ (z1).toInt ≤ 40 → 40 - (z1).toInt < (n : Int) → wp_X0_clear_L32 post e50 n t0 z1 := by
  intro n
  induction n with
  | zero =>
    intro t0 z1 i16 i17 i18
    have := i16.1
    have := i16.2.1
    have := i16.2.2.1
    have := i16.2.2.2.1
    have := i16.2.2.2.2.2.2.2.2.2
    exfalso
    omega
  | succ n ih =>
    intro t0 z1 i16 i17 i18
    unfold wp_X0_clear_L32
    have := i16.1
    have := i16.2.1
    have := i16.2.2.1
    have := i16.2.2.2.1
    have := i16.2.2.2.2.2.2.2.2.2
    refine ⟨fun c19 => ?_, fun c20 => ?_⟩
    · replace c19 := q_le c19
      have := li_40
      have p21 : 0 ≤ (z1).toInt ∧ (z1).toInt ≤ 40 := by omega
      exact ke50 _ _ i16 p21
    · replace c20 := q_nle c20
      have := li_40
      have p22 : 0 ≤ (z1).toInt ∧ (z1).toInt < 40 := by omega
      have := li_0
      have p23 : 0 ≤ ((0 : Int32)).toInt ∧ ((0 : Int32)).toInt ≤ 3 := by omega
      refine wq_X0_makeCell i16 p22 p23 (fun u_3 q24 => ?_)
      have := q24.1
      have := q24.2.1
      have := q24.2.2.1
      have := q24.2.2.2.2.2.2.2.2.2
      have := li_1
      have := tq_add z1 1
      have p25 : 0 ≤ (z1 + 1).toInt ∧ (z1 + 1).toInt ≤ 40 := by omega
      have p26 : 40 - (z1 + 1).toInt < ((n : Nat) : Int) := by omega
      exact ih _ _ q24 p25 p26
theorem wq_X0_clear {post : Bd → Prop} {s0 : Bd} {R W : Int} (h27 : bi (R) (W) s0) (k : ∀ (u : Bd), bi ((0 : Int)) ((0 : Int)) u → post u) : wp_X0_clear post s0 := by
  unfold wp_X0_clear
  have := h27.1
  have := h27.2.1
  have := h27.2.2.1
  have := h27.2.2.2.1
  have := h27.2.2.2.2.2.2.2.2.2
  have := li_0
  have p28 : (0).toInt = (0 : Int) := by omega
  have p29 : (0).toInt = (0 : Int) := by omega
  have p30 : 0 ≤ (0).toInt ∧ (0).toInt ≤ 4 := by omega
  have p31 : 0 ≤ (0 : Int) ∧ (0 : Int) ≤ 6 ∧ 0 ≤ (0 : Int) ∧ (0 : Int) ≤ 10 ∧ 0 ≤ (0 : Int) * (0 : Int) ∧ (0 : Int) * (0 : Int) ≤ 40 := by omega
  have p32 : ar 4 (0) (40) (s0.2.1 1) := h27.2.2.2.2.1
  have p33 : ar 40 (0) (3) (s0.2.1 3) := h27.2.2.2.2.2.1
  have p34 : ar 40 (0) (39) (s0.2.1 4) := h27.2.2.2.2.2.2.1
  have p35 : ar 40 (0) (39) (s0.2.1 5) := h27.2.2.2.2.2.2.2.1
  have p36 : ar 40 (0) (39) (s0.2.1 6) := h27.2.2.2.2.2.2.2.2.1
  have p37 : s0.2.2.2.1 ≤ 6400 := by omega
  have B38 : bi ((0 : Int)) ((0 : Int)) ((va_up (va_up (va_up (va_up (va_up (va_up s0.1 0 0) 1 0) 2 0) 3 0) 4 0) 5 0), s0.2.1, s0.2.2.1, s0.2.2.2.1, s0.2.2.2.2) := ⟨p28, p29, p30, p31, p32, p33, p34, p35, p36, p37⟩
  have p39 : 0 ≤ (0).toInt ∧ (0).toInt ≤ 40 := by omega
  have p40 : 40 - (0).toInt < ((50 : Nat) : Int) := by omega
  refine ⟨50, wq_X0_clear_L32 (fun t0 z1 q41 q42 => ?_) 50 _ _ B38 p39 p40⟩
  have := q41.1
  have := q41.2.1
  have := q41.2.2.1
  have := q41.2.2.2.1
  have := q41.2.2.2.2.2.2.2.2.2
  exact k _ q41
theorem wq_X0_cells {post : Int32 → Prop} {s0 : Bd} {R W : Int} (h43 : bi (R) (W) s0) (k : ∀ (r : Int32), (r).toInt = R * W → post r) : wp_X0_cells post s0 := by
  unfold wp_X0_cells
  have := h43.1
  have := h43.2.1
  have := h43.2.2.1
  have := h43.2.2.2.1
  have := h43.2.2.2.2.2.2.2.2.2
  have := bi_c h43
  have p44 : ((s0.1 0) * (s0.1 1)).toInt = R * W := by omega
  exact k _ p44
theorem wq_X0_hasCell {post : Int32 → Prop} {s0 : Bd} {x1 : Int32} {R W : Int} (h45 : bi (R) (W) s0) (k : ∀ (r : Int32), ((r).toInt = 1 ∧ 0 ≤ (x1).toInt ∧ (x1).toInt < R * W) ∨ ((r).toInt = 0 ∧ ((x1).toInt < 0 ∨ R * W ≤ (x1).toInt)) → post r) : wp_X0_hasCell post s0 x1 := by
  unfold wp_X0_hasCell
  have := h45.1
  have := h45.2.1
  have := h45.2.2.1
  have := h45.2.2.2.1
  have := h45.2.2.2.2.2.2.2.2.2
  refine ⟨fun c46 => ?_, fun c47 => ?_⟩
  · replace c46 := q_lt c46
    have := li_0
    have p48 : ((0).toInt = 1 ∧ 0 ≤ (x1).toInt ∧ (x1).toInt < R * W) ∨ ((0).toInt = 0 ∧ ((x1).toInt < 0 ∨ R * W ≤ (x1).toInt)) := by omega
    exact k _ p48
  · replace c47 := q_nlt c47
    have := li_0
    refine wq_X0_cells h45 (fun r_2 q49 => ?_)
    refine ⟨fun c50 => ?_, fun c51 => ?_⟩
    · replace c50 := q_le c50
      have p52 : ((0).toInt = 1 ∧ 0 ≤ (x1).toInt ∧ (x1).toInt < R * W) ∨ ((0).toInt = 0 ∧ ((x1).toInt < 0 ∨ R * W ≤ (x1).toInt)) := by omega
      exact k _ p52
    · replace c51 := q_nle c51
      have := li_1
      have p53 : ((1).toInt = 1 ∧ 0 ≤ (x1).toInt ∧ (x1).toInt < R * W) ∨ ((1).toInt = 0 ∧ ((x1).toInt < 0 ∨ R * W ≤ (x1).toInt)) := by omega
      exact k _ p53
theorem wq_X0_setLost {post : Bd → Prop} {s0 : Bd} {x1 : Int32} {x2 : Int32} {R W : Int} (h54 : bi (R) (W) s0) (k : ∀ (u : Bd), bi (R) (W) u → post u) : wp_X0_setLost post s0 x1 x2 := by
  unfold wp_X0_setLost
  have := h54.1
  have := h54.2.1
  have := h54.2.2.1
  have := h54.2.2.2.1
  have := h54.2.2.2.2.2.2.2.2.2
  refine wq_X0_hasCell h54 (fun r_1 q55 => ?_)
  refine ⟨fun c56 => ?_, fun c57 => ?_⟩
  · replace c56 := q_eq c56
    have := li_0
    exact k _ h54
  · replace c57 := q_neq c57
    have := li_0
    have v58 : vp_in x1 40 := vi (by omega) (by omega)
    refine ⟨v58, ?_⟩
    have p59 : (s0.1 0).toInt = R := by omega
    have p60 : (s0.1 1).toInt = W := by omega
    have p61 : 0 ≤ (s0.1 3).toInt ∧ (s0.1 3).toInt ≤ 4 := by omega
    have p62 : 0 ≤ R ∧ R ≤ 6 ∧ 0 ≤ W ∧ W ≤ 10 ∧ 0 ≤ R * W ∧ R * W ≤ 40 := by omega
    have p63 : ar 4 (0) (40) (s0.2.1 1) := h54.2.2.2.2.1
    have p64 : ar 40 (0) (3) (s0.2.1 3) := h54.2.2.2.2.2.1
    have p65 : ar 40 (0) (39) (s0.2.1 4) := h54.2.2.2.2.2.2.1
    have p66 : ar 40 (0) (39) (s0.2.1 5) := h54.2.2.2.2.2.2.2.1
    have p67 : ar 40 (0) (39) (s0.2.1 6) := h54.2.2.2.2.2.2.2.2.1
    have p68 : s0.2.2.2.1 ≤ 6400 := by omega
    have B69 : bi (R) (W) (s0.1, (va_up s0.2.1 7 (upd (s0.2.1 7) (Int32.toNatClampNeg x1) x2)), s0.2.2.1, s0.2.2.2.1, s0.2.2.2.2) := ⟨p59, p60, p61, p62, p63, p64, p65, p66, p67, p68⟩
    exact k _ B69
theorem wq_X5_byteAt {post : Int32 → Prop} {s0 : Tp} {x1 : Int32} {N : Int} (h70 : tz (N) s0) (k : ∀ (r : Int32), post r) : wp_X5_byteAt post s0 x1 := by
  unfold wp_X5_byteAt
  have := h70.1
  have := h70.2
  refine ⟨fun c71 => ?_, fun c72 => ?_⟩
  · replace c71 := q_lt c71
    have := li_0
    exact k _
  · replace c72 := q_nlt c72
    have := li_0
    refine ⟨fun c73 => ?_, fun c74 => ?_⟩
    · replace c73 := q_le c73
      exact k _
    · replace c74 := q_nle c74
      have v75 : vp_in x1 400 := vi (by omega) (by omega)
      refine ⟨v75, ?_⟩
      exact k _
theorem wq_X0_addDrum_L40 {s1 : Tp} {post : Bd → Prop} {e76 : Bd → Int32 → Int32 → Int32 → Int32 → Prop} {N R W : Int} (h76 : tz (N) s1) (ke76 : ∀ (t0 : Bd) (z1 : Int32) (z3 : Int32) (z4 : Int32) (z5 : Int32), bi (R) (W) t0 → (t0.1 3).toInt < 4 → 0 ≤ (z5).toInt ∧ (z5).toInt ≤ (z4).toInt ∧ (z4).toInt ≤ 40 → e76 t0 z1 z3 z4 z5) : ∀ (n : Nat) (t0 : Bd) (z1 : Int32) (z3 : Int32) (z4 : Int32) (z5 : Int32), bi (R) (W) t0 → (t0.1 3).toInt < 4 → 0 ≤ (z5).toInt ∧ (z5).toInt ≤ (z4).toInt ∧ (z4).toInt ≤ 40 → (z4).toInt - (z5).toInt < (n : Int) → wp_X0_addDrum_L40 s1 post e76 n t0 z1 z3 z4 z5 := by
  have := h76.1
  have := h76.2
  intro n
  induction n with
  | zero =>
    intro t0 z1 z3 z4 z5 i77 i78 i79 i80
    have := i77.1
    have := i77.2.1
    have := i77.2.2.1
    have := i77.2.2.2.1
    have := i77.2.2.2.2.2.2.2.2.2
    exfalso
    omega
  | succ n ih =>
    intro t0 z1 z3 z4 z5 i77 i78 i79 i80
    unfold wp_X0_addDrum_L40
    have := i77.1
    have := i77.2.1
    have := i77.2.2.1
    have := i77.2.2.2.1
    have := i77.2.2.2.2.2.2.2.2.2
    refine ⟨fun c81 => ?_, fun c82 => ?_⟩
    · replace c81 := q_le c81
      have p83 : (t0.1 3).toInt < 4 := by omega
      have p84 : 0 ≤ (z5).toInt ∧ (z5).toInt ≤ (z4).toInt ∧ (z4).toInt ≤ 40 := by omega
      exact ke76 _ _ _ _ _ i77 p83 p84
    · replace c82 := q_nle c82
      refine wq_X5_byteAt h76 (fun r_6 => ?_)
      have := tq_mulr li_40 (t0.1 3)
      have := tq_add ((t0.1 3) * 40) z5
      have v85 : vp_in (((t0.1 3) * 40) + z5) 160 := vi (by omega) (by omega)
      refine ⟨v85, ?_⟩
      have p86 : (t0.1 0).toInt = R := by omega
      have p87 : (t0.1 1).toInt = W := by omega
      have p88 : 0 ≤ (t0.1 3).toInt ∧ (t0.1 3).toInt ≤ 4 := by omega
      have p89 : 0 ≤ R ∧ R ≤ 6 ∧ 0 ≤ W ∧ W ≤ 10 ∧ 0 ≤ R * W ∧ R * W ≤ 40 := by omega
      have p90 : ar 4 (0) (40) (t0.2.1 1) := i77.2.2.2.2.1
      have p91 : ar 40 (0) (3) (t0.2.1 3) := i77.2.2.2.2.2.1
      have p92 : ar 40 (0) (39) (t0.2.1 4) := i77.2.2.2.2.2.2.1
      have p93 : ar 40 (0) (39) (t0.2.1 5) := i77.2.2.2.2.2.2.2.1
      have p94 : ar 40 (0) (39) (t0.2.1 6) := i77.2.2.2.2.2.2.2.2.1
      have p95 : t0.2.2.2.1 ≤ 6400 := by omega
      have B96 : bi (R) (W) (t0.1, (va_up t0.2.1 2 (upd (t0.2.1 2) (Int32.toNatClampNeg (((t0.1 3) * 40) + z5)) r_6)), t0.2.2.1, t0.2.2.2.1, t0.2.2.2.2) := ⟨p86, p87, p88, p89, p90, p91, p92, p93, p94, p95⟩
      have p97 : (t0.1 3).toInt < 4 := by omega
      have := li_1
      have := tq_add z5 1
      have p98 : 0 ≤ (z5 + 1).toInt ∧ (z5 + 1).toInt ≤ (z4).toInt ∧ (z4).toInt ≤ 40 := by omega
      have p99 : (z4).toInt - (z5 + 1).toInt < ((n : Nat) : Int) := by omega
      exact ih _ _ _ _ _ B96 p97 p98 p99
theorem wq_X0_addDrum {post : Bd → Prop} {s0 : Bd} {s1 : Tp} {x1 : Int32} {x3 : Int32} {x4 : Int32} {R W N : Int} (h100 : bi (R) (W) s0) (h101 : tz (N) s1) (h102 : 0 ≤ (x4).toInt) (k : ∀ (u : Bd), bi (R) (W) u → post u) : wp_X0_addDrum post s0 s1 x1 x3 x4 := by
  unfold wp_X0_addDrum
  have := h100.1
  have := h100.2.1
  have := h100.2.2.1
  have := h100.2.2.2.1
  have := h100.2.2.2.2.2.2.2.2.2
  have := h101.1
  have := h101.2
  refine ⟨fun c103 => ?_, fun c104 => ?_⟩
  · replace c103 := q_le c103
    have := li_4
    exact k _ h100
  · replace c104 := q_nle c104
    have := li_4
    refine ⟨fun c105 => ?_, fun c106 => ?_⟩
    · replace c105 := q_le c105
      have := li_40
      have v107 : vp_in (s0.1 3) 4 := vi (by omega) (by omega)
      refine ⟨v107, ?_⟩
      refine ⟨v107, ?_⟩
      have p108 : (s0.1 0).toInt = R := by omega
      have p109 : (s0.1 1).toInt = W := by omega
      have p110 : 0 ≤ (s0.1 3).toInt ∧ (s0.1 3).toInt ≤ 4 := by omega
      have p111 : 0 ≤ R ∧ R ≤ 6 ∧ 0 ≤ W ∧ W ≤ 10 ∧ 0 ≤ R * W ∧ R * W ≤ 40 := by omega
      have p112 : ar 4 (0) (40) (upd (s0.2.1 1) (Int32.toNatClampNeg (s0.1 3)) x4) := (ar_upd h100.2.2.2.2.1 (by omega) (by omega))
      have p113 : ar 40 (0) (3) (s0.2.1 3) := h100.2.2.2.2.2.1
      have p114 : ar 40 (0) (39) (s0.2.1 4) := h100.2.2.2.2.2.2.1
      have p115 : ar 40 (0) (39) (s0.2.1 5) := h100.2.2.2.2.2.2.2.1
      have p116 : ar 40 (0) (39) (s0.2.1 6) := h100.2.2.2.2.2.2.2.2.1
      have p117 : s0.2.2.2.1 ≤ 6400 := by omega
      have B118 : bi (R) (W) (s0.1, (va_up (va_up s0.2.1 0 (upd (s0.2.1 0) (Int32.toNatClampNeg (s0.1 3)) x1)) 1 (upd (s0.2.1 1) (Int32.toNatClampNeg (s0.1 3)) x4)), s0.2.2.1, s0.2.2.2.1, s0.2.2.2.2) := ⟨p108, p109, p110, p111, p112, p113, p114, p115, p116, p117⟩
      have p119 : (s0.1 3).toInt < 4 := by omega
      have := li_0
      have p120 : 0 ≤ (0).toInt ∧ (0).toInt ≤ (x4).toInt ∧ (x4).toInt ≤ 40 := by omega
      have p121 : (x4).toInt - (0).toInt < ((50 : Nat) : Int) := by omega
      refine ⟨50, wq_X0_addDrum_L40 h101 (fun t0 z1 z3 z4 z5 q122 q123 q124 => ?_) 50 _ _ _ _ _ B118 p119 p120 p121⟩
      have := q122.1
      have := q122.2.1
      have := q122.2.2.1
      have := q122.2.2.2.2.2.2.2.2.2
      have p125 : (t0.1 0).toInt = R := by omega
      have p126 : (t0.1 1).toInt = W := by omega
      have := li_1
      have := tq_add (t0.1 3) 1
      have p127 : 0 ≤ ((t0.1 3) + 1).toInt ∧ ((t0.1 3) + 1).toInt ≤ 4 := by omega
      have p128 : 0 ≤ R ∧ R ≤ 6 ∧ 0 ≤ W ∧ W ≤ 10 ∧ 0 ≤ R * W ∧ R * W ≤ 40 := by omega
      have p129 : ar 4 (0) (40) (t0.2.1 1) := q122.2.2.2.2.1
      have p130 : ar 40 (0) (3) (t0.2.1 3) := q122.2.2.2.2.2.1
      have p131 : ar 40 (0) (39) (t0.2.1 4) := q122.2.2.2.2.2.2.1
      have p132 : ar 40 (0) (39) (t0.2.1 5) := q122.2.2.2.2.2.2.2.1
      have p133 : ar 40 (0) (39) (t0.2.1 6) := q122.2.2.2.2.2.2.2.2.1
      have p134 : t0.2.2.2.1 ≤ 6400 := by omega
      have B135 : bi (R) (W) ((va_up t0.1 3 ((t0.1 3) + 1)), t0.2.1, t0.2.2.1, t0.2.2.2.1, t0.2.2.2.2) := ⟨p125, p126, p127, p128, p129, p130, p131, p132, p133, p134⟩
      exact k _ B135
    · replace c106 := q_nle c106
      have := li_40
      exact k _ h100
theorem wq_X0_copyAllButLog {post : Bd → Prop} {s0 : Bd} {s1 : Bd} {R W R2 W2 : Int} (h136 : bi (R) (W) s0) (h137 : bi (R2) (W2) s1) (k : ∀ (u : Bd), bi (R2) (W2) u → u.2.2.2.1 = s0.2.2.2.1 → post u) : wp_X0_copyAllButLog post s0 s1 := by
  unfold wp_X0_copyAllButLog
  have := h136.1
  have := h136.2.1
  have := h136.2.2.1
  have := h136.2.2.2.1
  have := h136.2.2.2.2.2.2.2.2.2
  have := h137.1
  have := h137.2.1
  have := h137.2.2.1
  have := h137.2.2.2.1
  have := h137.2.2.2.2.2.2.2.2.2
  refine wq_X0_cells h137 (fun r_1 q138 => ?_)
  have := li_0
  refine ⟨(z_nlt (by omega)), ?_⟩
  refine ⟨(tn_0 (by omega)), ?_⟩
  refine ⟨(tn_0 (by omega)), ?_⟩
  refine ⟨(z_nlt (by omega)), ?_⟩
  refine ⟨(tn_0 (by omega)), ?_⟩
  refine ⟨(tn_0 (by omega)), ?_⟩
  refine ⟨(z_nlt (by omega)), ?_⟩
  refine ⟨(tn_0 (by omega)), ?_⟩
  refine ⟨(tn_0 (by omega)), ?_⟩
  refine ⟨(z_nlt (by omega)), ?_⟩
  refine ⟨(tn_0 (by omega)), ?_⟩
  refine ⟨(tn_0 (by omega)), ?_⟩
  refine ⟨(z_nlt (by omega)), ?_⟩
  refine ⟨(tn_0 (by omega)), ?_⟩
  refine ⟨(tn_0 (by omega)), ?_⟩
  refine ⟨(z_nlt (by omega)), ?_⟩
  refine ⟨(tn_0 (by omega)), ?_⟩
  refine ⟨(tn_0 (by omega)), ?_⟩
  refine ⟨(z_nlt (by omega)), ?_⟩
  refine ⟨(tn_0 (by omega)), ?_⟩
  refine ⟨(tn_0 (by omega)), ?_⟩
  refine ⟨(z_nlt (by omega)), ?_⟩
  refine ⟨(tn_0 (by omega)), ?_⟩
  refine ⟨(tn_0 (by omega)), ?_⟩
  have p139 : (s1.1 0).toInt = R2 := by omega
  have p140 : (s1.1 1).toInt = W2 := by omega
  have p141 : 0 ≤ (s1.1 3).toInt ∧ (s1.1 3).toInt ≤ 4 := by omega
  have p142 : 0 ≤ R2 ∧ R2 ≤ 6 ∧ 0 ≤ W2 ∧ W2 ≤ 10 ∧ 0 ≤ R2 * W2 ∧ R2 * W2 ≤ 40 := by omega
  have p143 : ar 4 (0) (40) (va_cpy (s1.2.1 1) (s0.2.1 1) (Int32.toNatClampNeg 0) (Int32.toNatClampNeg 0) (Int32.toNatClampNeg 4)) := (ar_cpy h137.2.2.2.2.1 h136.2.2.2.2.1)
  have p144 : ar 40 (0) (3) (va_cpy (s1.2.1 3) (s0.2.1 3) (Int32.toNatClampNeg 0) (Int32.toNatClampNeg 0) (Int32.toNatClampNeg r_1)) := (ar_cpy h137.2.2.2.2.2.1 h136.2.2.2.2.2.1)
  have p145 : ar 40 (0) (39) (va_cpy (s1.2.1 4) (s0.2.1 4) (Int32.toNatClampNeg 0) (Int32.toNatClampNeg 0) (Int32.toNatClampNeg r_1)) := (ar_cpy h137.2.2.2.2.2.2.1 h136.2.2.2.2.2.2.1)
  have p146 : ar 40 (0) (39) (va_cpy (s1.2.1 5) (s0.2.1 5) (Int32.toNatClampNeg 0) (Int32.toNatClampNeg 0) (Int32.toNatClampNeg r_1)) := (ar_cpy h137.2.2.2.2.2.2.2.1 h136.2.2.2.2.2.2.2.1)
  have p147 : ar 40 (0) (39) (va_cpy (s1.2.1 6) (s0.2.1 6) (Int32.toNatClampNeg 0) (Int32.toNatClampNeg 0) (Int32.toNatClampNeg r_1)) := (ar_cpy h137.2.2.2.2.2.2.2.2.1 h136.2.2.2.2.2.2.2.2.1)
  have p148 : s0.2.2.2.1 ≤ 6400 := by omega
  have B149 : bi (R2) (W2) ((va_up (va_up (va_up (va_up (va_up (va_up s0.1 0 (s1.1 0)) 1 (s1.1 1)) 2 (s1.1 2)) 3 (s1.1 3)) 4 (s1.1 4)) 5 (s1.1 5)), (va_up (va_up (va_up (va_up (va_up (va_up (va_up (va_up (va_up (va_up s0.2.1 0 (va_cpy (s1.2.1 0) (s0.2.1 0) (Int32.toNatClampNeg 0) (Int32.toNatClampNeg 0) (Int32.toNatClampNeg 4))) 1 (va_cpy (s1.2.1 1) (s0.2.1 1) (Int32.toNatClampNeg 0) (Int32.toNatClampNeg 0) (Int32.toNatClampNeg 4))) 2 (va_cpy (s1.2.1 2) (s0.2.1 2) (Int32.toNatClampNeg 0) (Int32.toNatClampNeg 0) (Int32.toNatClampNeg 160))) 3 (va_cpy (s1.2.1 3) (s0.2.1 3) (Int32.toNatClampNeg 0) (Int32.toNatClampNeg 0) (Int32.toNatClampNeg r_1))) 4 (va_cpy (s1.2.1 4) (s0.2.1 4) (Int32.toNatClampNeg 0) (Int32.toNatClampNeg 0) (Int32.toNatClampNeg r_1))) 5 (va_cpy (s1.2.1 5) (s0.2.1 5) (Int32.toNatClampNeg 0) (Int32.toNatClampNeg 0) (Int32.toNatClampNeg r_1))) 6 (va_cpy (s1.2.1 6) (s0.2.1 6) (Int32.toNatClampNeg 0) (Int32.toNatClampNeg 0) (Int32.toNatClampNeg r_1))) 7 (va_cpy (s1.2.1 7) (s0.2.1 7) (Int32.toNatClampNeg 0) (Int32.toNatClampNeg 0) (Int32.toNatClampNeg r_1))) 8 (va_cpy (s1.2.1 8) (s0.2.1 8) (Int32.toNatClampNeg 0) (Int32.toNatClampNeg 0) (Int32.toNatClampNeg r_1))) 9 (va_cpy (s1.2.1 9) (s0.2.1 9) (Int32.toNatClampNeg 0) (Int32.toNatClampNeg 0) (Int32.toNatClampNeg r_1))), (va_cpy s1.2.2.1 s0.2.2.1 (Int32.toNatClampNeg 0) (Int32.toNatClampNeg 0) (Int32.toNatClampNeg r_1)), s0.2.2.2.1, s0.2.2.2.2) := ⟨p139, p140, p141, p142, p143, p144, p145, p146, p147, p148⟩
  have p150 : s0.2.2.2.1 = s0.2.2.2.1 := by omega
  exact k _ B149 p150
theorem wq_X0_entryStart_L4 {s0 : Bd} {post : Int32 → Prop} {e39 : Int32 → Int32 → Int32 → Prop} {R W : Int} (h151 : bi (R) (W) s0) (ke39 : ∀ (z1 : Int32) (z2 : Int32) (z3 : Int32), 0 ≤ (z3).toInt ∧ (z3).toInt ≤ 4 → 0 ≤ (z2).toInt ∧ (z2).toInt ≤ 1600 * (z3).toInt → e39 z1 z2 z3) : ∀ (n : Nat) (z1 : Int32) (z2 : Int32) (z3 : Int32), 0 ≤ (z3).toInt ∧ (z3).toInt ≤ 4 → 0 ≤ (z2).toInt ∧ (z2).toInt ≤ 1600 * (z3).toInt → 4 - (z3).toInt < (n : Int) → wp_X0_entryStart_L4 s0 post e39 n z1 z2 z3 := by
  have := h151.1
  have := h151.2.1
  have := h151.2.2.1
  have := h151.2.2.2.1
  have := h151.2.2.2.2.2.2.2.2.2
  intro n
  induction n with
  | zero =>
    intro z1 z2 z3 i152 i153 i154
    exfalso
    omega
  | succ n ih =>
    intro z1 z2 z3 i152 i153 i154
    unfold wp_X0_entryStart_L4
    refine ⟨fun c155 => ?_, fun c156 => ?_⟩
    · replace c155 := q_le c155
      have p157 : 0 ≤ (z3).toInt ∧ (z3).toInt ≤ 4 := by omega
      have p158 : 0 ≤ (z2).toInt ∧ (z2).toInt ≤ 1600 * (z3).toInt := by omega
      exact ke39 _ _ _ p157 p158
    · replace c156 := q_nle c156
      refine ⟨fun c159 => ?_, fun c160 => ?_⟩
      · replace c159 := q_le c159
        have p161 : 0 ≤ (z3).toInt ∧ (z3).toInt ≤ 4 := by omega
        have p162 : 0 ≤ (z2).toInt ∧ (z2).toInt ≤ 1600 * (z3).toInt := by omega
        exact ke39 _ _ _ p161 p162
      · replace c160 := q_nle c160
        have v163 : vp_in z3 4 := vi (by omega) (by omega)
        refine ⟨v163, ?_⟩
        refine ⟨v163, ?_⟩
        have := li_1
        have := tq_add z3 1
        have p164 : 0 ≤ (z3 + 1).toInt ∧ (z3 + 1).toInt ≤ 4 := by omega
        have := ar_at (h151.2.2.2.2.1) v163
        have := sq_b (a := (s0.2.1 1 (Int32.toNatClampNeg z3))) (by omega) (by omega)
        have := tq_add z2 ((s0.2.1 1 (Int32.toNatClampNeg z3)) * (s0.2.1 1 (Int32.toNatClampNeg z3)))
        have p165 : 0 ≤ (z2 + ((s0.2.1 1 (Int32.toNatClampNeg z3)) * (s0.2.1 1 (Int32.toNatClampNeg z3)))).toInt ∧ (z2 + ((s0.2.1 1 (Int32.toNatClampNeg z3)) * (s0.2.1 1 (Int32.toNatClampNeg z3)))).toInt ≤ 1600 * (z3 + 1).toInt := by omega
        have p166 : 4 - (z3 + 1).toInt < ((n : Nat) : Int) := by omega
        exact ih _ _ _ p164 p165 p166
theorem wq_X0_entryStart {post : Int32 → Prop} {s0 : Bd} {x1 : Int32} {R W : Int} (h167 : bi (R) (W) s0) (k : ∀ (r : Int32), 0 ≤ (r).toInt ∧ (r).toInt ≤ 6400 → post r) : wp_X0_entryStart post s0 x1 := by
  unfold wp_X0_entryStart
  have := h167.1
  have := h167.2.1
  have := h167.2.2.1
  have := h167.2.2.2.1
  have := h167.2.2.2.2.2.2.2.2.2
  have := li_0
  have p168 : 0 ≤ (0).toInt ∧ (0).toInt ≤ 4 := by omega
  have p169 : 0 ≤ (0).toInt ∧ (0).toInt ≤ 1600 * (0).toInt := by omega
  have p170 : 4 - (0).toInt < ((50 : Nat) : Int) := by omega
  refine ⟨50, wq_X0_entryStart_L4 h167 (fun z1 z2 z3 q171 q172 => ?_) 50 _ _ _ p168 p169 p170⟩
  have p173 : 0 ≤ (z2).toInt ∧ (z2).toInt ≤ 6400 := by omega
  exact k _ p173
theorem wq_X0_entryCount {post : Int32 → Prop} {s0 : Bd} {R W : Int} (h174 : bi (R) (W) s0) (k : ∀ (r : Int32), 0 ≤ (r).toInt ∧ (r).toInt ≤ 6400 → post r) : wp_X0_entryCount post s0 := by
  unfold wp_X0_entryCount
  have := h174.1
  have := h174.2.1
  have := h174.2.2.1
  have := h174.2.2.2.1
  have := h174.2.2.2.2.2.2.2.2.2
  refine wq_X0_entryStart h174 (fun r_1 q175 => ?_)
  have p176 : 0 ≤ (r_1).toInt ∧ (r_1).toInt ≤ 6400 := by omega
  exact k _ p176
theorem wq_X0_copyAll {post : Bd → Prop} {s0 : Bd} {s1 : Bd} {R W R2 W2 : Int} (h177 : bi (R) (W) s0) (h178 : bi (R2) (W2) s1) (k : ∀ (u : Bd), bi (R2) (W2) u → post u) : wp_X0_copyAll post s0 s1 := by
  unfold wp_X0_copyAll
  have := h177.1
  have := h177.2.1
  have := h177.2.2.1
  have := h177.2.2.2.1
  have := h177.2.2.2.2.2.2.2.2.2
  have := h178.1
  have := h178.2.1
  have := h178.2.2.1
  have := h178.2.2.2.1
  have := h178.2.2.2.2.2.2.2.2.2
  refine wq_X0_copyAllButLog h177 h178 (fun u_2 q179 q180 => ?_)
  have := q179.1
  have := q179.2.1
  have := q179.2.2.1
  have := q179.2.2.2.2.2.2.2.2.2
  refine wq_X0_entryCount h178 (fun r_3 q181 => ?_)
  refine ⟨fun c182 => ?_, fun c183 => ?_⟩
  · replace c182 := q_le c182
    have := tq_ofn (n := u_2.2.2.2.1) (by omega)
    have := tq_ofn (n := s1.2.2.2.1) (by omega)
    have := tq_ite (a := (Int32.ofNat s1.2.2.2.1)) (b := r_3) (x := (Int32.ofNat s1.2.2.2.1)) (y := r_3)
    have := li_0
    refine ⟨(z_nlt (by omega)), ?_⟩
    refine ⟨(tn_0 (by omega)), ?_⟩
    refine ⟨(tn_0 (by omega)), ?_⟩
    have p184 : (u_2.1 0).toInt = R2 := by omega
    have p185 : (u_2.1 1).toInt = W2 := by omega
    have p186 : 0 ≤ (u_2.1 3).toInt ∧ (u_2.1 3).toInt ≤ 4 := by omega
    have p187 : 0 ≤ R2 ∧ R2 ≤ 6 ∧ 0 ≤ W2 ∧ W2 ≤ 10 ∧ 0 ≤ R2 * W2 ∧ R2 * W2 ≤ 40 := by omega
    have p188 : ar 4 (0) (40) (u_2.2.1 1) := q179.2.2.2.2.1
    have p189 : ar 40 (0) (3) (u_2.2.1 3) := q179.2.2.2.2.2.1
    have p190 : ar 40 (0) (39) (u_2.2.1 4) := q179.2.2.2.2.2.2.1
    have p191 : ar 40 (0) (39) (u_2.2.1 5) := q179.2.2.2.2.2.2.2.1
    have p192 : ar 40 (0) (39) (u_2.2.1 6) := q179.2.2.2.2.2.2.2.2.1
    have p193 : u_2.2.2.2.1 ≤ 6400 := by omega
    have B194 : bi (R2) (W2) (u_2.1, u_2.2.1, u_2.2.2.1, u_2.2.2.2.1, (va_cpy s1.2.2.2.2 u_2.2.2.2.2 (Int32.toNatClampNeg 0) (Int32.toNatClampNeg 0) (Int32.toNatClampNeg (if ((Int32.ofNat s1.2.2.2.1) < r_3) then (Int32.ofNat s1.2.2.2.1) else r_3)))) := ⟨p184, p185, p186, p187, p188, p189, p190, p191, p192, p193⟩
    exact k _ B194
  · replace c183 := q_nle c183
    have := tq_ofn (n := u_2.2.2.2.1) (by omega)
    have := li_0
    refine ⟨(z_nlt (by omega)), ?_⟩
    refine ⟨(tn_le (by omega)), ?_⟩
    have := tq_ofn (n := s1.2.2.2.1) (by omega)
    have := tq_ite (a := (Int32.ofNat s1.2.2.2.1)) (b := r_3) (x := (Int32.ofNat s1.2.2.2.1)) (y := r_3)
    refine ⟨(z_nlt (by omega)), ?_⟩
    refine ⟨(tn_0 (by omega)), ?_⟩
    refine ⟨(tn_0n (by omega)), ?_⟩
    have p195 : (u_2.1 0).toInt = R2 := by omega
    have p196 : (u_2.1 1).toInt = W2 := by omega
    have p197 : 0 ≤ (u_2.1 3).toInt ∧ (u_2.1 3).toInt ≤ 4 := by omega
    have p198 : 0 ≤ R2 ∧ R2 ≤ 6 ∧ 0 ≤ W2 ∧ W2 ≤ 10 ∧ 0 ≤ R2 * W2 ∧ R2 * W2 ≤ 40 := by omega
    have p199 : ar 4 (0) (40) (u_2.2.1 1) := q179.2.2.2.2.1
    have p200 : ar 40 (0) (3) (u_2.2.1 3) := q179.2.2.2.2.2.1
    have p201 : ar 40 (0) (39) (u_2.2.1 4) := q179.2.2.2.2.2.2.1
    have p202 : ar 40 (0) (39) (u_2.2.1 5) := q179.2.2.2.2.2.2.2.1
    have p203 : ar 40 (0) (39) (u_2.2.1 6) := q179.2.2.2.2.2.2.2.2.1
    have p204 : (Int32.toNatClampNeg r_3) ≤ 6400 := tn_le (by omega)
    have B205 : bi (R2) (W2) (u_2.1, u_2.2.1, u_2.2.2.1, (Int32.toNatClampNeg r_3), (va_cpy s1.2.2.2.2 (fun _ => 0) (Int32.toNatClampNeg 0) (Int32.toNatClampNeg 0) (Int32.toNatClampNeg (if ((Int32.ofNat s1.2.2.2.1) < r_3) then (Int32.ofNat s1.2.2.2.1) else r_3)))) := ⟨p195, p196, p197, p198, p199, p200, p201, p202, p203, p204⟩
    exact k _ B205
theorem wq_X0_isThere {post : Int32 → Prop} {s0 : Bd} {R W : Int} (h206 : bi (R) (W) s0) (k : ∀ (r : Int32), ((r).toInt = 1 ∧ 0 < R) ∨ ((r).toInt = 0 ∧ R ≤ 0) → post r) : wp_X0_isThere post s0 := by
  unfold wp_X0_isThere
  have := h206.1
  have := h206.2.1
  have := h206.2.2.1
  have := h206.2.2.2.1
  have := h206.2.2.2.2.2.2.2.2.2
  refine ⟨fun c207 => ?_, fun c208 => ?_⟩
  · replace c207 := q_le c207
    have := li_0
    have p209 : ((0).toInt = 1 ∧ 0 < R) ∨ ((0).toInt = 0 ∧ R ≤ 0) := by omega
    exact k _ p209
  · replace c208 := q_nle c208
    have := li_0
    have := li_1
    have p210 : ((1).toInt = 1 ∧ 0 < R) ∨ ((1).toInt = 0 ∧ R ≤ 0) := by omega
    exact k _ p210
theorem wq_X0_hasRow {post : Int32 → Prop} {s0 : Bd} {x1 : Int32} {R W : Int} (h211 : bi (R) (W) s0) (k : ∀ (r : Int32), ((r).toInt = 1 ∧ 0 ≤ (x1).toInt ∧ (x1).toInt < R) ∨ ((r).toInt = 0 ∧ ((x1).toInt < 0 ∨ R ≤ (x1).toInt)) → post r) : wp_X0_hasRow post s0 x1 := by
  unfold wp_X0_hasRow
  have := h211.1
  have := h211.2.1
  have := h211.2.2.1
  have := h211.2.2.2.1
  have := h211.2.2.2.2.2.2.2.2.2
  refine ⟨fun c212 => ?_, fun c213 => ?_⟩
  · replace c212 := q_lt c212
    have := li_0
    have p214 : ((0).toInt = 1 ∧ 0 ≤ (x1).toInt ∧ (x1).toInt < R) ∨ ((0).toInt = 0 ∧ ((x1).toInt < 0 ∨ R ≤ (x1).toInt)) := by omega
    exact k _ p214
  · replace c213 := q_nlt c213
    have := li_0
    refine ⟨fun c215 => ?_, fun c216 => ?_⟩
    · replace c215 := q_le c215
      have p217 : ((0).toInt = 1 ∧ 0 ≤ (x1).toInt ∧ (x1).toInt < R) ∨ ((0).toInt = 0 ∧ ((x1).toInt < 0 ∨ R ≤ (x1).toInt)) := by omega
      exact k _ p217
    · replace c216 := q_nle c216
      have := li_1
      have p218 : ((1).toInt = 1 ∧ 0 ≤ (x1).toInt ∧ (x1).toInt < R) ∨ ((1).toInt = 0 ∧ ((x1).toInt < 0 ∨ R ≤ (x1).toInt)) := by omega
      exact k _ p218
theorem wq_X0_hasDrum {post : Int32 → Prop} {s0 : Bd} {x1 : Int32} {R W : Int} (h219 : bi (R) (W) s0) (k : ∀ (r : Int32), ((r).toInt = 1 ∧ 0 ≤ (x1).toInt ∧ (x1).toInt < (s0.1 3).toInt) ∨ ((r).toInt = 0 ∧ ((x1).toInt < 0 ∨ (s0.1 3).toInt ≤ (x1).toInt)) → post r) : wp_X0_hasDrum post s0 x1 := by
  unfold wp_X0_hasDrum
  have := h219.1
  have := h219.2.1
  have := h219.2.2.1
  have := h219.2.2.2.1
  have := h219.2.2.2.2.2.2.2.2.2
  refine ⟨fun c220 => ?_, fun c221 => ?_⟩
  · replace c220 := q_lt c220
    have := li_0
    have p222 : ((0).toInt = 1 ∧ 0 ≤ (x1).toInt ∧ (x1).toInt < (s0.1 3).toInt) ∨ ((0).toInt = 0 ∧ ((x1).toInt < 0 ∨ (s0.1 3).toInt ≤ (x1).toInt)) := by omega
    exact k _ p222
  · replace c221 := q_nlt c221
    have := li_0
    refine ⟨fun c223 => ?_, fun c224 => ?_⟩
    · replace c223 := q_le c223
      have p225 : ((0).toInt = 1 ∧ 0 ≤ (x1).toInt ∧ (x1).toInt < (s0.1 3).toInt) ∨ ((0).toInt = 0 ∧ ((x1).toInt < 0 ∨ (s0.1 3).toInt ≤ (x1).toInt)) := by omega
      exact k _ p225
    · replace c224 := q_nle c224
      have := li_1
      have p226 : ((1).toInt = 1 ∧ 0 ≤ (x1).toInt ∧ (x1).toInt < (s0.1 3).toInt) ∨ ((1).toInt = 0 ∧ ((x1).toInt < 0 ∨ (s0.1 3).toInt ≤ (x1).toInt)) := by omega
      exact k _ p226
theorem wq_X0_flapsOf {post : Int32 → Prop} {s0 : Bd} {x1 : Int32} {R W : Int} (h227 : bi (R) (W) s0) (h228 : 0 ≤ (x1).toInt ∧ (x1).toInt < 40) (k : ∀ (r : Int32), 0 ≤ (r).toInt ∧ (r).toInt ≤ 40 → post r) : wp_X0_flapsOf post s0 x1 := by
  unfold wp_X0_flapsOf
  have := h227.1
  have := h227.2.1
  have := h227.2.2.1
  have := h227.2.2.2.1
  have := h227.2.2.2.2.2.2.2.2.2
  have v229 : vp_in x1 40 := vi (by omega) (by omega)
  refine ⟨v229, ?_⟩
  refine ⟨fun c230 => ?_, fun c231 => ?_⟩
  · replace c230 := q_lt c230
    have := ar_at (h227.2.2.2.2.2.1) v229
    have := li_0
    have p232 : 0 ≤ (0).toInt ∧ (0).toInt ≤ 40 := by omega
    exact k _ p232
  · replace c231 := q_nlt c231
    have := ar_at (h227.2.2.2.2.2.1) v229
    have := li_0
    refine ⟨fun c233 => ?_, fun c234 => ?_⟩
    · replace c233 := q_le c233
      have p235 : 0 ≤ (0).toInt ∧ (0).toInt ≤ 40 := by omega
      exact k _ p235
    · replace c234 := q_nle c234
      have v236 : vp_in (s0.2.1 3 (Int32.toNatClampNeg x1)) 4 := vi (by omega) (by omega)
      refine ⟨v236, ?_⟩
      have := ar_at (h227.2.2.2.2.1) v236
      have p237 : 0 ≤ (s0.2.1 1 (Int32.toNatClampNeg (s0.2.1 3 (Int32.toNatClampNeg x1)))).toInt ∧ (s0.2.1 1 (Int32.toNatClampNeg (s0.2.1 3 (Int32.toNatClampNeg x1)))).toInt ≤ 40 := by omega
      exact k _ p237
theorem wq_X0_hasFlap {post : Int32 → Prop} {s0 : Bd} {x1 : Int32} {x2 : Int32} {R W : Int} (h238 : bi (R) (W) s0) (k : ∀ (r : Int32), (r).toInt = 0 ∨ ((r).toInt = 1 ∧ 0 ≤ (x1).toInt ∧ (x1).toInt < R * W ∧ 0 ≤ (x2).toInt ∧ (x2).toInt < 40) → post r) : wp_X0_hasFlap post s0 x1 x2 := by
  unfold wp_X0_hasFlap
  have := h238.1
  have := h238.2.1
  have := h238.2.2.1
  have := h238.2.2.2.1
  have := h238.2.2.2.2.2.2.2.2.2
  refine wq_X0_hasCell h238 (fun r_1 q239 => ?_)
  refine ⟨fun c240 => ?_, fun c241 => ?_⟩
  · replace c240 := q_eq c240
    have := li_0
    have p242 : (0).toInt = 0 ∨ ((0).toInt = 1 ∧ 0 ≤ (x1).toInt ∧ (x1).toInt < R * W ∧ 0 ≤ (x2).toInt ∧ (x2).toInt < 40) := by omega
    exact k _ p242
  · replace c241 := q_neq c241
    have := li_0
    refine ⟨fun c243 => ?_, fun c244 => ?_⟩
    · replace c243 := q_lt c243
      have p245 : (0).toInt = 0 ∨ ((0).toInt = 1 ∧ 0 ≤ (x1).toInt ∧ (x1).toInt < R * W ∧ 0 ≤ (x2).toInt ∧ (x2).toInt < 40) := by omega
      exact k _ p245
    · replace c244 := q_nlt c244
      have p246 : 0 ≤ (x1).toInt ∧ (x1).toInt < 40 := by omega
      refine wq_X0_flapsOf h238 p246 (fun r_5 q247 => ?_)
      refine ⟨fun c248 => ?_, fun c249 => ?_⟩
      · replace c248 := q_le c248
        have p250 : (0).toInt = 0 ∨ ((0).toInt = 1 ∧ 0 ≤ (x1).toInt ∧ (x1).toInt < R * W ∧ 0 ≤ (x2).toInt ∧ (x2).toInt < 40) := by omega
        exact k _ p250
      · replace c249 := q_nle c249
        have := li_1
        have p251 : (1).toInt = 0 ∨ ((1).toInt = 1 ∧ 0 ≤ (x1).toInt ∧ (x1).toInt < R * W ∧ 0 ≤ (x2).toInt ∧ (x2).toInt < 40) := by omega
        exact k _ p251
theorem wq_X0_flapsOn {post : Int32 → Prop} {s0 : Bd} {x1 : Int32} {R W : Int} (h252 : bi (R) (W) s0) (k : ∀ (r : Int32), 0 ≤ (r).toInt ∧ (r).toInt ≤ 40 → (r).toInt = 0 ∨ (0 ≤ (x1).toInt ∧ (x1).toInt < 4) → post r) : wp_X0_flapsOn post s0 x1 := by
  unfold wp_X0_flapsOn
  have := h252.1
  have := h252.2.1
  have := h252.2.2.1
  have := h252.2.2.2.1
  have := h252.2.2.2.2.2.2.2.2.2
  refine ⟨fun c253 => ?_, fun c254 => ?_⟩
  · replace c253 := q_lt c253
    have := li_0
    have p255 : 0 ≤ (0).toInt ∧ (0).toInt ≤ 40 := by omega
    have p256 : (0).toInt = 0 ∨ (0 ≤ (x1).toInt ∧ (x1).toInt < 4) := by omega
    exact k _ p255 p256
  · replace c254 := q_nlt c254
    have := li_0
    refine ⟨fun c257 => ?_, fun c258 => ?_⟩
    · replace c257 := q_le c257
      have p259 : 0 ≤ (0).toInt ∧ (0).toInt ≤ 40 := by omega
      have p260 : (0).toInt = 0 ∨ (0 ≤ (x1).toInt ∧ (x1).toInt < 4) := by omega
      exact k _ p259 p260
    · replace c258 := q_nle c258
      have v261 : vp_in x1 4 := vi (by omega) (by omega)
      refine ⟨v261, ?_⟩
      have := ar_at (h252.2.2.2.2.1) v261
      have p262 : 0 ≤ (s0.2.1 1 (Int32.toNatClampNeg x1)).toInt ∧ (s0.2.1 1 (Int32.toNatClampNeg x1)).toInt ≤ 40 := by omega
      have p263 : (s0.2.1 1 (Int32.toNatClampNeg x1)).toInt = 0 ∨ (0 ≤ (x1).toInt ∧ (x1).toInt < 4) := by omega
      exact k _ p262 p263
theorem wq_X0_isMovable {post : Int32 → Prop} {s0 : Bd} {x1 : Int32} {x2 : Int32} {R W : Int} (h264 : bi (R) (W) s0) (k : ∀ (r : Int32), (r).toInt = 0 ∨ ((r).toInt = 1 ∧ 0 ≤ (x1).toInt ∧ (x1).toInt < 4 ∧ 0 < (x2).toInt ∧ (x2).toInt < 40) → post r) : wp_X0_isMovable post s0 x1 x2 := by
  unfold wp_X0_isMovable
  have := h264.1
  have := h264.2.1
  have := h264.2.2.1
  have := h264.2.2.2.1
  have := h264.2.2.2.2.2.2.2.2.2
  refine ⟨fun c265 => ?_, fun c266 => ?_⟩
  · replace c265 := q_le c265
    have := li_0
    have p267 : (0).toInt = 0 ∨ ((0).toInt = 1 ∧ 0 ≤ (x1).toInt ∧ (x1).toInt < 4 ∧ 0 < (x2).toInt ∧ (x2).toInt < 40) := by omega
    exact k _ p267
  · replace c266 := q_nle c266
    have := li_0
    refine wq_X0_flapsOn h264 (fun r_2 q268 q269 => ?_)
    refine ⟨fun c270 => ?_, fun c271 => ?_⟩
    · replace c270 := q_le c270
      have p272 : (0).toInt = 0 ∨ ((0).toInt = 1 ∧ 0 ≤ (x1).toInt ∧ (x1).toInt < 4 ∧ 0 < (x2).toInt ∧ (x2).toInt < 40) := by omega
      exact k _ p272
    · replace c271 := q_nle c271
      have := li_1
      have p273 : (1).toInt = 0 ∨ ((1).toInt = 1 ∧ 0 ≤ (x1).toInt ∧ (x1).toInt < 4 ∧ 0 < (x2).toInt ∧ (x2).toInt < 40) := by omega
      exact k _ p273
theorem wq_X0_currentOf {post : Int32 → Prop} {s0 : Bd} {x1 : Int32} {R W : Int} (h274 : bi (R) (W) s0) (h275 : 0 ≤ (x1).toInt ∧ (x1).toInt < 40) (k : ∀ (r : Int32), post r) : wp_X0_currentOf post s0 x1 := by
  unfold wp_X0_currentOf
  have := h274.1
  have := h274.2.1
  have := h274.2.2.1
  have := h274.2.2.2.1
  have := h274.2.2.2.2.2.2.2.2.2
  have v276 : vp_in x1 40 := vi (by omega) (by omega)
  refine ⟨v276, ?_⟩
  refine ⟨fun c277 => ?_, fun c278 => ?_⟩
  · replace c277 := q_lt c277
    have := ar_at (h274.2.2.2.2.2.1) v276
    have := li_0
    exact k _
  · replace c278 := q_nlt c278
    have := ar_at (h274.2.2.2.2.2.1) v276
    have := li_0
    refine ⟨fun c279 => ?_, fun c280 => ?_⟩
    · replace c279 := q_le c279
      exact k _
    · replace c280 := q_nle c280
      have v281 : vp_in (s0.2.1 3 (Int32.toNatClampNeg x1)) 4 := vi (by omega) (by omega)
      refine ⟨v281, ?_⟩
      exact k _
theorem wq_X0_signOf {post : Int32 → Prop} {s0 : Bd} {x1 : Int32} {x2 : Int32} {R W : Int} (h282 : bi (R) (W) s0) (k : ∀ (r : Int32), post r) : wp_X0_signOf post s0 x1 x2 := by
  unfold wp_X0_signOf
  have := h282.1
  have := h282.2.1
  have := h282.2.2.1
  have := h282.2.2.2.1
  have := h282.2.2.2.2.2.2.2.2.2
  refine ⟨fun c283 => ?_, fun c284 => ?_⟩
  · replace c283 := q_lt c283
    have := li_0
    exact k _
  · replace c284 := q_nlt c284
    have := li_0
    refine ⟨fun c285 => ?_, fun c286 => ?_⟩
    · replace c285 := q_le c285
      exact k _
    · replace c286 := q_nle c286
      refine ⟨fun c287 => ?_, fun c288 => ?_⟩
      · replace c287 := q_lt c287
        exact k _
      · replace c288 := q_nlt c288
        have v289 : vp_in x1 4 := vi (by omega) (by omega)
        refine ⟨v289, ?_⟩
        refine ⟨fun c290 => ?_, fun c291 => ?_⟩
        · replace c290 := q_lt c290
          have := ar_at (h282.2.2.2.2.1) v289
          have := tq_mulr li_40 x1
          have := tq_add (x1 * 40) x2
          have v292 : vp_in ((x1 * 40) + x2) 160 := vi (by omega) (by omega)
          refine ⟨v292, ?_⟩
          exact k _
        · replace c291 := q_nlt c291
          have := ar_at (h282.2.2.2.2.1) v289
          exact k _
theorem wq_X0_signOn {post : Int32 → Prop} {s0 : Bd} {x1 : Int32} {x2 : Int32} {R W : Int} (h293 : bi (R) (W) s0) (h294 : 0 ≤ (x1).toInt ∧ (x1).toInt < 40) (k : ∀ (r : Int32), post r) : wp_X0_signOn post s0 x1 x2 := by
  unfold wp_X0_signOn
  have := h293.1
  have := h293.2.1
  have := h293.2.2.1
  have := h293.2.2.2.1
  have := h293.2.2.2.2.2.2.2.2.2
  have v295 : vp_in x1 40 := vi (by omega) (by omega)
  refine ⟨v295, ?_⟩
  refine wq_X0_signOf h293 (fun r_2 => ?_)
  exact k _
theorem wq_X0_wantedSign {post : Int32 → Prop} {s0 : Bd} {x1 : Int32} {R W : Int} (h296 : bi (R) (W) s0) (h297 : 0 ≤ (x1).toInt ∧ (x1).toInt < 40) (k : ∀ (r : Int32), post r) : wp_X0_wantedSign post s0 x1 := by
  unfold wp_X0_wantedSign
  have := h296.1
  have := h296.2.1
  have := h296.2.2.1
  have := h296.2.2.2.1
  have := h296.2.2.2.2.2.2.2.2.2
  have v298 : vp_in x1 40 := vi (by omega) (by omega)
  refine ⟨v298, ?_⟩
  have p299 : 0 ≤ (x1).toInt ∧ (x1).toInt < 40 := by omega
  refine wq_X0_signOn h296 p299 (fun r_2 => ?_)
  exact k _
theorem wq_X0_showsWrong {post : Int32 → Prop} {s0 : Bd} {x1 : Int32} {R W : Int} (h300 : bi (R) (W) s0) (h301 : 0 ≤ (x1).toInt ∧ (x1).toInt < 40) (k : ∀ (r : Int32), (r).toInt = 0 ∨ (r).toInt = 1 → post r) : wp_X0_showsWrong post s0 x1 := by
  unfold wp_X0_showsWrong
  have := h300.1
  have := h300.2.1
  have := h300.2.2.1
  have := h300.2.2.2.1
  have := h300.2.2.2.2.2.2.2.2.2
  have v302 : vp_in x1 40 := vi (by omega) (by omega)
  refine ⟨v302, ?_⟩
  have p303 : 0 ≤ (x1).toInt ∧ (x1).toInt < 40 := by omega
  refine wq_X0_signOn h300 p303 (fun r_2 => ?_)
  have p304 : 0 ≤ (x1).toInt ∧ (x1).toInt < 40 := by omega
  refine wq_X0_wantedSign h300 p304 (fun r_4 => ?_)
  refine ⟨fun c305 => ?_, fun c306 => ?_⟩
  · replace c305 := q_eq c305
    have := li_0
    have p307 : (0).toInt = 0 ∨ (0).toInt = 1 := by omega
    exact k _ p307
  · replace c306 := q_neq c306
    have := li_1
    have p308 : (1).toInt = 0 ∨ (1).toInt = 1 := by omega
    exact k _ p308
theorem wq_X0_wrongCount_L4 {s0 : Bd} {post : Int32 → Prop} {e29 : Int32 → Int32 → Prop} {R W : Int} (h309 : bi (R) (W) s0) (ke29 : ∀ (z1 : Int32) (z2 : Int32), 0 ≤ (z2).toInt ∧ (z2).toInt ≤ R * W → e29 z1 z2) : ∀ (n : Nat) (z1 : Int32) (z2 : Int32), 0 ≤ (z2).toInt ∧ (z2).toInt ≤ R * W → R * W - (z2).toInt < (n : Int) → wp_X0_wrongCount_L4 s0 post e29 n z1 z2 := by
  have := h309.1
  have := h309.2.1
  have := h309.2.2.1
  have := h309.2.2.2.1
  have := h309.2.2.2.2.2.2.2.2.2
  intro n
  induction n with
  | zero =>
    intro z1 z2 i310 i311
    exfalso
    omega
  | succ n ih =>
    intro z1 z2 i310 i311
    unfold wp_X0_wrongCount_L4
    refine wq_X0_cells h309 (fun r_1 q312 => ?_)
    refine ⟨fun c313 => ?_, fun c314 => ?_⟩
    · replace c313 := q_le c313
      have p315 : 0 ≤ (z2).toInt ∧ (z2).toInt ≤ R * W := by omega
      exact ke29 _ _ p315
    · replace c314 := q_nle c314
      have p316 : 0 ≤ (z2).toInt ∧ (z2).toInt < 40 := by omega
      refine wq_X0_showsWrong h309 p316 (fun r_4 q317 => ?_)
      refine ⟨fun c318 => ?_, fun c319 => ?_⟩
      · replace c318 := q_eq c318
        have := li_0
        have := li_1
        have := tq_add z2 1
        have p320 : 0 ≤ (z2 + 1).toInt ∧ (z2 + 1).toInt ≤ R * W := by omega
        have p321 : R * W - (z2 + 1).toInt < ((n : Nat) : Int) := by omega
        exact ih _ _ p320 p321
      · replace c319 := q_neq c319
        have := li_0
        have := li_1
        have := tq_add z2 1
        have p322 : 0 ≤ (z2 + 1).toInt ∧ (z2 + 1).toInt ≤ R * W := by omega
        have p323 : R * W - (z2 + 1).toInt < ((n : Nat) : Int) := by omega
        exact ih _ _ p322 p323
theorem wq_X0_wrongCount {post : Int32 → Prop} {s0 : Bd} {R W : Int} (h324 : bi (R) (W) s0) (k : ∀ (r : Int32), post r) : wp_X0_wrongCount post s0 := by
  unfold wp_X0_wrongCount
  have := h324.1
  have := h324.2.1
  have := h324.2.2.1
  have := h324.2.2.2.1
  have := h324.2.2.2.2.2.2.2.2.2
  have := li_0
  have p325 : 0 ≤ (0).toInt ∧ (0).toInt ≤ R * W := by omega
  have p326 : R * W - (0).toInt < ((50 : Nat) : Int) := by omega
  refine ⟨50, wq_X0_wrongCount_L4 h324 (fun z1 z2 q327 => ?_) 50 _ _ p325 p326⟩
  exact k _
theorem wq_X0_sumOf_8_L4 {s0 : Bd} {post : Int32 → Prop} {e30 : Int32 → Int32 → Prop} {R W : Int} (h328 : bi (R) (W) s0) (ke30 : ∀ (z2 : Int32) (z3 : Int32), 0 ≤ (z3).toInt ∧ (z3).toInt ≤ R * W → e30 z2 z3) : ∀ (n : Nat) (z2 : Int32) (z3 : Int32), 0 ≤ (z3).toInt ∧ (z3).toInt ≤ R * W → R * W - (z3).toInt < (n : Int) → wp_X0_sumOf_8_L4 s0 post e30 n z2 z3 := by
  have := h328.1
  have := h328.2.1
  have := h328.2.2.1
  have := h328.2.2.2.1
  have := h328.2.2.2.2.2.2.2.2.2
  intro n
  induction n with
  | zero =>
    intro z2 z3 i329 i330
    exfalso
    omega
  | succ n ih =>
    intro z2 z3 i329 i330
    unfold wp_X0_sumOf_8_L4
    refine wq_X0_cells h328 (fun r_1 q331 => ?_)
    refine ⟨fun c332 => ?_, fun c333 => ?_⟩
    · replace c332 := q_le c332
      have p334 : 0 ≤ (z3).toInt ∧ (z3).toInt ≤ R * W := by omega
      exact ke30 _ _ p334
    · replace c333 := q_nle c333
      refine ⟨fun c335 => ?_, fun c336 => ?_⟩
      · replace c335 := q_le c335
        have := li_40
        have p337 : 0 ≤ (z3).toInt ∧ (z3).toInt ≤ R * W := by omega
        exact ke30 _ _ p337
      · replace c336 := q_nle c336
        have := li_40
        have v338 : vp_in z3 40 := vi (by omega) (by omega)
        refine ⟨v338, ?_⟩
        have := li_1
        have := tq_add z3 1
        have p339 : 0 ≤ (z3 + 1).toInt ∧ (z3 + 1).toInt ≤ R * W := by omega
        have p340 : R * W - (z3 + 1).toInt < ((n : Nat) : Int) := by omega
        exact ih _ _ p339 p340
theorem wq_X0_sumOf_8 {post : Int32 → Prop} {s0 : Bd} {R W : Int} (h341 : bi (R) (W) s0) (k : ∀ (r : Int32), post r) : wp_X0_sumOf_8 post s0 := by
  unfold wp_X0_sumOf_8
  have := h341.1
  have := h341.2.1
  have := h341.2.2.1
  have := h341.2.2.2.1
  have := h341.2.2.2.2.2.2.2.2.2
  have := li_0
  have p342 : 0 ≤ (0).toInt ∧ (0).toInt ≤ R * W := by omega
  have p343 : R * W - (0).toInt < ((50 : Nat) : Int) := by omega
  refine ⟨50, wq_X0_sumOf_8_L4 h341 (fun z2 z3 q344 => ?_) 50 _ _ p342 p343⟩
  exact k _
theorem wq_X0_sumOf_9_L4 {s0 : Bd} {post : Int32 → Prop} {e30 : Int32 → Int32 → Prop} {R W : Int} (h345 : bi (R) (W) s0) (ke30 : ∀ (z2 : Int32) (z3 : Int32), 0 ≤ (z3).toInt ∧ (z3).toInt ≤ R * W → e30 z2 z3) : ∀ (n : Nat) (z2 : Int32) (z3 : Int32), 0 ≤ (z3).toInt ∧ (z3).toInt ≤ R * W → R * W - (z3).toInt < (n : Int) → wp_X0_sumOf_9_L4 s0 post e30 n z2 z3 := by
  have := h345.1
  have := h345.2.1
  have := h345.2.2.1
  have := h345.2.2.2.1
  have := h345.2.2.2.2.2.2.2.2.2
  intro n
  induction n with
  | zero =>
    intro z2 z3 i346 i347
    exfalso
    omega
  | succ n ih =>
    intro z2 z3 i346 i347
    unfold wp_X0_sumOf_9_L4
    refine wq_X0_cells h345 (fun r_1 q348 => ?_)
    refine ⟨fun c349 => ?_, fun c350 => ?_⟩
    · replace c349 := q_le c349
      have p351 : 0 ≤ (z3).toInt ∧ (z3).toInt ≤ R * W := by omega
      exact ke30 _ _ p351
    · replace c350 := q_nle c350
      refine ⟨fun c352 => ?_, fun c353 => ?_⟩
      · replace c352 := q_le c352
        have := li_40
        have p354 : 0 ≤ (z3).toInt ∧ (z3).toInt ≤ R * W := by omega
        exact ke30 _ _ p354
      · replace c353 := q_nle c353
        have := li_40
        have v355 : vp_in z3 40 := vi (by omega) (by omega)
        refine ⟨v355, ?_⟩
        have := li_1
        have := tq_add z3 1
        have p356 : 0 ≤ (z3 + 1).toInt ∧ (z3 + 1).toInt ≤ R * W := by omega
        have p357 : R * W - (z3 + 1).toInt < ((n : Nat) : Int) := by omega
        exact ih _ _ p356 p357
theorem wq_X0_sumOf_9 {post : Int32 → Prop} {s0 : Bd} {R W : Int} (h358 : bi (R) (W) s0) (k : ∀ (r : Int32), post r) : wp_X0_sumOf_9 post s0 := by
  unfold wp_X0_sumOf_9
  have := h358.1
  have := h358.2.1
  have := h358.2.2.1
  have := h358.2.2.2.1
  have := h358.2.2.2.2.2.2.2.2.2
  have := li_0
  have p359 : 0 ≤ (0).toInt ∧ (0).toInt ≤ R * W := by omega
  have p360 : R * W - (0).toInt < ((50 : Nat) : Int) := by omega
  refine ⟨50, wq_X0_sumOf_9_L4 h358 (fun z2 z3 q361 => ?_) 50 _ _ p359 p360⟩
  exact k _
theorem wq_X0_swapSigns {post : Bd → Prop} {s0 : Bd} {x1 : Int32} {x2 : Int32} {x3 : Int32} {R W : Int} (h362 : bi (R) (W) s0) (k : ∀ (u : Bd), bi (R) (W) u → post u) : wp_X0_swapSigns post s0 x1 x2 x3 := by
  unfold wp_X0_swapSigns
  have := h362.1
  have := h362.2.1
  have := h362.2.2.1
  have := h362.2.2.2.1
  have := h362.2.2.2.2.2.2.2.2.2
  refine wq_X0_isMovable h362 (fun r_1 q363 => ?_)
  refine ⟨fun c364 => ?_, fun c365 => ?_⟩
  · replace c364 := q_eq c364
    have := li_0
    exact k _ h362
  · replace c365 := q_neq c365
    have := li_0
    refine wq_X0_isMovable h362 (fun r_4 q366 => ?_)
    refine ⟨fun c367 => ?_, fun c368 => ?_⟩
    · replace c367 := q_neq c367
      have := tq_mulr li_40 x1
      have := tq_add (x1 * 40) x2
      have v369 : vp_in ((x1 * 40) + x2) 160 := vi (by omega) (by omega)
      refine ⟨v369, ?_⟩
      have := tq_add (x1 * 40) x3
      have v370 : vp_in ((x1 * 40) + x3) 160 := vi (by omega) (by omega)
      refine ⟨v370, ?_⟩
      refine ⟨v369, ?_⟩
      refine ⟨v370, ?_⟩
      have p371 : (s0.1 0).toInt = R := by omega
      have p372 : (s0.1 1).toInt = W := by omega
      have p373 : 0 ≤ (s0.1 3).toInt ∧ (s0.1 3).toInt ≤ 4 := by omega
      have p374 : 0 ≤ R ∧ R ≤ 6 ∧ 0 ≤ W ∧ W ≤ 10 ∧ 0 ≤ R * W ∧ R * W ≤ 40 := by omega
      have p375 : ar 4 (0) (40) (s0.2.1 1) := h362.2.2.2.2.1
      have p376 : ar 40 (0) (3) (s0.2.1 3) := h362.2.2.2.2.2.1
      have p377 : ar 40 (0) (39) (s0.2.1 4) := h362.2.2.2.2.2.2.1
      have p378 : ar 40 (0) (39) (s0.2.1 5) := h362.2.2.2.2.2.2.2.1
      have p379 : ar 40 (0) (39) (s0.2.1 6) := h362.2.2.2.2.2.2.2.2.1
      have p380 : s0.2.2.2.1 ≤ 6400 := by omega
      have B381 : bi (R) (W) (s0.1, (va_up s0.2.1 2 (upd (upd (s0.2.1 2) (Int32.toNatClampNeg ((x1 * 40) + x2)) (s0.2.1 2 (Int32.toNatClampNeg ((x1 * 40) + x3)))) (Int32.toNatClampNeg ((x1 * 40) + x3)) (s0.2.1 2 (Int32.toNatClampNeg ((x1 * 40) + x2))))), s0.2.2.1, s0.2.2.2.1, s0.2.2.2.2) := ⟨p371, p372, p373, p374, p375, p376, p377, p378, p379, p380⟩
      exact k _ B381
    · replace c368 := q_eq c368
      exact k _ h362
theorem wq_X0_cellsWith_L4 {s0 : Bd} {post : Int32 → Prop} {e31 : Int32 → Int32 → Int32 → Prop} {R W : Int} (h382 : bi (R) (W) s0) (ke31 : ∀ (z1 : Int32) (z2 : Int32) (z3 : Int32), 0 ≤ (z3).toInt ∧ (z3).toInt ≤ R * W → e31 z1 z2 z3) : ∀ (n : Nat) (z1 : Int32) (z2 : Int32) (z3 : Int32), 0 ≤ (z3).toInt ∧ (z3).toInt ≤ R * W → R * W - (z3).toInt < (n : Int) → wp_X0_cellsWith_L4 s0 post e31 n z1 z2 z3 := by
  have := h382.1
  have := h382.2.1
  have := h382.2.2.1
  have := h382.2.2.2.1
  have := h382.2.2.2.2.2.2.2.2.2
  intro n
  induction n with
  | zero =>
    intro z1 z2 z3 i383 i384
    exfalso
    omega
  | succ n ih =>
    intro z1 z2 z3 i383 i384
    unfold wp_X0_cellsWith_L4
    refine wq_X0_cells h382 (fun r_1 q385 => ?_)
    refine ⟨fun c386 => ?_, fun c387 => ?_⟩
    · replace c386 := q_le c386
      have p388 : 0 ≤ (z3).toInt ∧ (z3).toInt ≤ R * W := by omega
      exact ke31 _ _ _ p388
    · replace c387 := q_nle c387
      have v389 : vp_in z3 40 := vi (by omega) (by omega)
      refine ⟨v389, ?_⟩
      refine ⟨fun c390 => ?_, fun c391 => ?_⟩
      · replace c390 := q_neq c390
        have := ar_at (h382.2.2.2.2.2.1) v389
        have := li_1
        have := tq_add z3 1
        have p392 : 0 ≤ (z3 + 1).toInt ∧ (z3 + 1).toInt ≤ R * W := by omega
        have p393 : R * W - (z3 + 1).toInt < ((n : Nat) : Int) := by omega
        exact ih _ _ _ p392 p393
      · replace c391 := q_eq c391
        have := ar_at (h382.2.2.2.2.2.1) v389
        have := li_1
        have := tq_add z3 1
        have p394 : 0 ≤ (z3 + 1).toInt ∧ (z3 + 1).toInt ≤ R * W := by omega
        have p395 : R * W - (z3 + 1).toInt < ((n : Nat) : Int) := by omega
        exact ih _ _ _ p394 p395
theorem wq_X0_cellsWith {post : Int32 → Prop} {s0 : Bd} {x1 : Int32} {R W : Int} (h396 : bi (R) (W) s0) (k : ∀ (r : Int32), post r) : wp_X0_cellsWith post s0 x1 := by
  unfold wp_X0_cellsWith
  have := h396.1
  have := h396.2.1
  have := h396.2.2.1
  have := h396.2.2.2.1
  have := h396.2.2.2.2.2.2.2.2.2
  have := li_0
  have p397 : 0 ≤ (0).toInt ∧ (0).toInt ≤ R * W := by omega
  have p398 : R * W - (0).toInt < ((50 : Nat) : Int) := by omega
  refine ⟨50, wq_X0_cellsWith_L4 h396 (fun z1 z2 z3 q399 => ?_) 50 _ _ _ p397 p398⟩
  exact k _
theorem wq_X0_flapsWith_L19 {s0 : Bd} {post : Int32 → Prop} {e49 : Int32 → Int32 → Int32 → Int32 → Int32 → Int32 → Int32 → Prop} {R W : Int} (h400 : bi (R) (W) s0) (ke49 : ∀ (z1 : Int32) (z2 : Int32) (z3 : Int32) (z4 : Int32) (z5 : Int32) (z6 : Int32) (z7 : Int32), 0 ≤ (z7).toInt ∧ (z7).toInt ≤ 41 → (z5).toInt ≤ 40 → (z5).toInt ≤ (z7).toInt ∨ (0 ≤ (z4).toInt ∧ (z4).toInt ≤ 120) → e49 z1 z2 z3 z4 z5 z6 z7) : ∀ (n : Nat) (z1 : Int32) (z2 : Int32) (z3 : Int32) (z4 : Int32) (z5 : Int32) (z6 : Int32) (z7 : Int32), 0 ≤ (z7).toInt ∧ (z7).toInt ≤ 41 → (z5).toInt ≤ 40 → (z5).toInt ≤ (z7).toInt ∨ (0 ≤ (z4).toInt ∧ (z4).toInt ≤ 120) → 41 - (z7).toInt < (n : Int) → wp_X0_flapsWith_L19 s0 post e49 n z1 z2 z3 z4 z5 z6 z7 := by
  have := h400.1
  have := h400.2.1
  have := h400.2.2.1
  have := h400.2.2.2.1
  have := h400.2.2.2.2.2.2.2.2.2
  intro n
  induction n with
  | zero =>
    intro z1 z2 z3 z4 z5 z6 z7 i401 i402 i403 i404
    exfalso
    omega
  | succ n ih =>
    intro z1 z2 z3 z4 z5 z6 z7 i401 i402 i403 i404
    unfold wp_X0_flapsWith_L19
    refine ⟨fun c405 => ?_, fun c406 => ?_⟩
    · replace c405 := q_le c405
      have p407 : 0 ≤ (z7).toInt ∧ (z7).toInt ≤ 41 := by omega
      have p408 : (z5).toInt ≤ 40 := by omega
      have p409 : (z5).toInt ≤ (z7).toInt ∨ (0 ≤ (z4).toInt ∧ (z4).toInt ≤ 120) := by omega
      exact ke49 _ _ _ _ _ _ _ p407 p408 p409
    · replace c406 := q_nle c406
      have := tq_add z4 z7
      have v410 : vp_in (z4 + z7) 160 := vi (by omega) (by omega)
      refine ⟨v410, ?_⟩
      refine ⟨fun c411 => ?_, fun c412 => ?_⟩
      · replace c411 := q_neq c411
        have := li_1
        have := tq_add z7 1
        have p413 : 0 ≤ (z7 + 1).toInt ∧ (z7 + 1).toInt ≤ 41 := by omega
        have p414 : (z5).toInt ≤ 40 := by omega
        have p415 : (z5).toInt ≤ (z7 + 1).toInt ∨ (0 ≤ (z4).toInt ∧ (z4).toInt ≤ 120) := by omega
        have p416 : 41 - (z7 + 1).toInt < ((n : Nat) : Int) := by omega
        exact ih _ _ _ _ _ _ _ p413 p414 p415 p416
      · replace c412 := q_eq c412
        have := li_1
        have := tq_add z7 1
        have p417 : 0 ≤ (z7 + 1).toInt ∧ (z7 + 1).toInt ≤ 41 := by omega
        have p418 : (z5).toInt ≤ 40 := by omega
        have p419 : (z5).toInt ≤ (z7 + 1).toInt ∨ (0 ≤ (z4).toInt ∧ (z4).toInt ≤ 120) := by omega
        have p420 : 41 - (z7 + 1).toInt < ((n : Nat) : Int) := by omega
        exact ih _ _ _ _ _ _ _ p417 p418 p419 p420
theorem wq_X0_flapsWith {post : Int32 → Prop} {s0 : Bd} {x1 : Int32} {x2 : Int32} {x3 : Int32} {R W : Int} (h421 : bi (R) (W) s0) (h422 : 0 ≤ (x3).toInt ∧ (x3).toInt ≤ 40) (k : ∀ (r : Int32), post r) : wp_X0_flapsWith post s0 x1 x2 x3 := by
  unfold wp_X0_flapsWith
  have := h421.1
  have := h421.2.1
  have := h421.2.2.1
  have := h421.2.2.2.1
  have := h421.2.2.2.2.2.2.2.2.2
  refine wq_X0_flapsOn h421 (fun r_1 q423 q424 => ?_)
  have p425 : 0 ≤ (x3).toInt ∧ (x3).toInt ≤ 41 := by omega
  have p426 : (r_1).toInt ≤ 40 := by omega
  have := tq_mulr li_40 x1
  have p427 : (r_1).toInt ≤ (x3).toInt ∨ (0 ≤ (x1 * 40).toInt ∧ (x1 * 40).toInt ≤ 120) := by omega
  have p428 : 41 - (x3).toInt < ((50 : Nat) : Int) := by omega
  refine ⟨50, wq_X0_flapsWith_L19 h421 (fun z1 z2 z3 z4 z5 z6 z7 q429 q430 q431 => ?_) 50 _ _ _ _ _ _ _ p425 p426 p427 p428⟩
  exact k _
theorem wq_X0_drumHas {post : Int32 → Prop} {s0 : Bd} {x1 : Int32} {x2 : Int32} {R W : Int} (h432 : bi (R) (W) s0) (k : ∀ (r : Int32), (r).toInt = 0 ∨ (r).toInt = 1 → post r) : wp_X0_drumHas post s0 x1 x2 := by
  unfold wp_X0_drumHas
  have := h432.1
  have := h432.2.1
  have := h432.2.2.1
  have := h432.2.2.2.1
  have := h432.2.2.2.2.2.2.2.2.2
  have := li_0
  have p433 : 0 ≤ ((0 : Int32)).toInt ∧ ((0 : Int32)).toInt ≤ 40 := by omega
  refine wq_X0_flapsWith h432 p433 (fun r_1 => ?_)
  refine ⟨fun c434 => ?_, fun c435 => ?_⟩
  · replace c434 := q_le c434
    have := li_0
    have p436 : (0).toInt = 0 ∨ (0).toInt = 1 := by omega
    exact k _ p436
  · replace c435 := q_nle c435
    have := li_0
    have := li_1
    have p437 : (1).toInt = 0 ∨ (1).toInt = 1 := by omega
    exact k _ p437
theorem wq_X0_someDrumHas_L2 {s0 : Bd} {post : Int32 → Prop} {e27 : Int32 → Int32 → Prop} {R W : Int} (h438 : bi (R) (W) s0) (ke27 : ∀ (z1 : Int32) (z2 : Int32), 0 ≤ (z2).toInt ∧ (z2).toInt ≤ 4 → e27 z1 z2) (k : ∀ (r : Int32), (r).toInt = 0 ∨ (r).toInt = 1 → post r) : ∀ (n : Nat) (z1 : Int32) (z2 : Int32), 0 ≤ (z2).toInt ∧ (z2).toInt ≤ 4 → 4 - (z2).toInt < (n : Int) → wp_X0_someDrumHas_L2 s0 post e27 n z1 z2 := by
  have := h438.1
  have := h438.2.1
  have := h438.2.2.1
  have := h438.2.2.2.1
  have := h438.2.2.2.2.2.2.2.2.2
  intro n
  induction n with
  | zero =>
    intro z1 z2 i439 i440
    exfalso
    omega
  | succ n ih =>
    intro z1 z2 i439 i440
    unfold wp_X0_someDrumHas_L2
    refine ⟨fun c441 => ?_, fun c442 => ?_⟩
    · replace c441 := q_le c441
      have p443 : 0 ≤ (z2).toInt ∧ (z2).toInt ≤ 4 := by omega
      exact ke27 _ _ p443
    · replace c442 := q_nle c442
      refine wq_X0_drumHas h438 (fun r_2 q444 => ?_)
      refine ⟨fun c445 => ?_, fun c446 => ?_⟩
      · replace c445 := q_eq c445
        have := li_0
        have := li_1
        have := tq_add z2 1
        have p447 : 0 ≤ (z2 + 1).toInt ∧ (z2 + 1).toInt ≤ 4 := by omega
        have p448 : 4 - (z2 + 1).toInt < ((n : Nat) : Int) := by omega
        exact ih _ _ p447 p448
      · replace c446 := q_neq c446
        have := li_0
        have := li_1
        have p449 : (1).toInt = 0 ∨ (1).toInt = 1 := by omega
        exact k _ p449
theorem wq_X0_someDrumHas {post : Int32 → Prop} {s0 : Bd} {x1 : Int32} {R W : Int} (h450 : bi (R) (W) s0) (k : ∀ (r : Int32), (r).toInt = 0 ∨ (r).toInt = 1 → post r) : wp_X0_someDrumHas post s0 x1 := by
  unfold wp_X0_someDrumHas
  have := h450.1
  have := h450.2.1
  have := h450.2.2.1
  have := h450.2.2.2.1
  have := h450.2.2.2.2.2.2.2.2.2
  have := li_0
  have p451 : 0 ≤ (0).toInt ∧ (0).toInt ≤ 4 := by omega
  have p452 : 4 - (0).toInt < ((50 : Nat) : Int) := by omega
  refine ⟨50, wq_X0_someDrumHas_L2 h450 (fun z1 z2 q453 => ?_) k 50 _ _ p451 p452⟩
  have p454 : (0).toInt = 0 ∨ (0).toInt = 1 := by omega
  exact k _ p454
