theorem wq_X0_isMovable {post : Int32 → Prop} {s0 : Bd} {x1 : Int32} {x2 : Int32} {R W : Int} (h279 : bi (R) (W) s0) (k : ∀ (r : Int32), (r).toInt = 0 ∨ ((r).toInt = 1 ∧ 0 ≤ (x1).toInt ∧ (x1).toInt < 4 ∧ 0 < (x2).toInt ∧ (x2).toInt < 40) → post r) : wp_X0_isMovable post s0 x1 x2 := by
  unfold wp_X0_isMovable
  have := h279.1
  have := h279.2.1
  have := h279.2.2.1
  have := h279.2.2.2.1
  have := h279.2.2.2.2.2.2.2.2.2
  refine ⟨fun c280 => ?_, fun c281 => ?_⟩
  · replace c280 := q_le c280
    rw [li_0] at c280
    have p282 : (0 : Int32).toInt = 0 ∨ ((0 : Int32).toInt = 1 ∧ 0 ≤ (x1).toInt ∧ (x1).toInt < 4 ∧ 0 < (x2).toInt ∧ (x2).toInt < 40) := by (have := li_0; omega)
    exact k _ p282
  · replace c281 := q_nle c281
    rw [li_0] at c281
    refine wq_X0_flapsOn h279 (fun r_2 q283 q284 => ?_)
    refine ⟨fun c285 => ?_, fun c286 => ?_⟩
    · replace c285 := q_le c285
      have p287 : (0 : Int32).toInt = 0 ∨ ((0 : Int32).toInt = 1 ∧ 0 ≤ (x1).toInt ∧ (x1).toInt < 4 ∧ 0 < (x2).toInt ∧ (x2).toInt < 40) := by (have := li_0; omega)
      exact k _ p287
    · replace c286 := q_nle c286
      have p288 : (1 : Int32).toInt = 0 ∨ ((1 : Int32).toInt = 1 ∧ 0 ≤ (x1).toInt ∧ (x1).toInt < 4 ∧ 0 < (x2).toInt ∧ (x2).toInt < 40) := by (have := li_1; omega)
      exact k _ p288
theorem wq_X0_currentOf {post : Int32 → Prop} {s0 : Bd} {x1 : Int32} {R W : Int} (h289 : bi (R) (W) s0) (h290 : 0 ≤ (x1).toInt ∧ (x1).toInt < 40) (k : ∀ (r : Int32), post r) : wp_X0_currentOf post s0 x1 := by
  unfold wp_X0_currentOf
  have := h289.1
  have := h289.2.1
  have := h289.2.2.1
  have := h289.2.2.2.1
  have := h289.2.2.2.2.2.2.2.2.2
  have v291 : vp_in x1 40 := vi (by omega) (by omega)
  refine ⟨v291, ?_⟩
  refine ⟨fun c292 => ?_, fun c293 => ?_⟩
  · replace c292 := q_lt c292
    rw [li_0] at c292
    have := ar_at (h289.2.2.2.2.2.1) v291
    exact k _
  · replace c293 := q_nlt c293
    rw [li_0] at c293
    have := ar_at (h289.2.2.2.2.2.1) v291
    refine ⟨fun c294 => ?_, fun c295 => ?_⟩
    · replace c294 := q_le c294
      exact k _
    · replace c295 := q_nle c295
      have v296 : vp_in (s0.2.1 3 (Int32.toNatClampNeg x1)) 4 := vi (by omega) (by omega)
      refine ⟨v296, ?_⟩
      exact k _
theorem wq_X0_signOf {post : Int32 → Prop} {s0 : Bd} {x1 : Int32} {x2 : Int32} {R W : Int} (h297 : bi (R) (W) s0) (k : ∀ (r : Int32), post r) : wp_X0_signOf post s0 x1 x2 := by
  unfold wp_X0_signOf
  have := h297.1
  have := h297.2.1
  have := h297.2.2.1
  have := h297.2.2.2.1
  have := h297.2.2.2.2.2.2.2.2.2
  refine ⟨fun c298 => ?_, fun c299 => ?_⟩
  · replace c298 := q_lt c298
    rw [li_0] at c298
    exact k _
  · replace c299 := q_nlt c299
    rw [li_0] at c299
    refine ⟨fun c300 => ?_, fun c301 => ?_⟩
    · replace c300 := q_le c300
      exact k _
    · replace c301 := q_nle c301
      refine ⟨fun c302 => ?_, fun c303 => ?_⟩
      · replace c302 := q_lt c302
        rw [li_0] at c302
        exact k _
      · replace c303 := q_nlt c303
        rw [li_0] at c303
        have v304 : vp_in x1 4 := vi (by omega) (by omega)
        refine ⟨v304, ?_⟩
        refine ⟨fun c305 => ?_, fun c306 => ?_⟩
        · replace c305 := q_lt c305
          have := ar_at (h297.2.2.2.2.1) v304
          have e307 := tq_mulr li_40 x1
          try rw [Int.emod_eq_of_lt (show 0 ≤ (x1).toInt * 40 + 2147483648 by omega) (show (x1).toInt * 40 + 2147483648 < 4294967296 by omega)] at e307
          have e308 := tq_add (x1 * 40) x2
          try rw [Int.emod_eq_of_lt (show 0 ≤ (x1 * 40).toInt + (x2).toInt + 2147483648 by omega) (show (x1 * 40).toInt + (x2).toInt + 2147483648 < 4294967296 by omega)] at e308
          have v309 : vp_in ((x1 * 40) + x2) 160 := vi (by omega) (by omega)
          refine ⟨v309, ?_⟩
          exact k _
        · replace c306 := q_nlt c306
          have := ar_at (h297.2.2.2.2.1) v304
          exact k _
theorem wq_X0_signOn {post : Int32 → Prop} {s0 : Bd} {x1 : Int32} {x2 : Int32} {R W : Int} (h310 : bi (R) (W) s0) (h311 : 0 ≤ (x1).toInt ∧ (x1).toInt < 40) (k : ∀ (r : Int32), post r) : wp_X0_signOn post s0 x1 x2 := by
  unfold wp_X0_signOn
  have := h310.1
  have := h310.2.1
  have := h310.2.2.1
  have := h310.2.2.2.1
  have := h310.2.2.2.2.2.2.2.2.2
  have v312 : vp_in x1 40 := vi (by omega) (by omega)
  refine ⟨v312, ?_⟩
  refine wq_X0_signOf h310 (fun r_2 => ?_)
  exact k _
theorem wq_X0_wantedSign {post : Int32 → Prop} {s0 : Bd} {x1 : Int32} {R W : Int} (h313 : bi (R) (W) s0) (h314 : 0 ≤ (x1).toInt ∧ (x1).toInt < 40) (k : ∀ (r : Int32), post r) : wp_X0_wantedSign post s0 x1 := by
  unfold wp_X0_wantedSign
  have := h313.1
  have := h313.2.1
  have := h313.2.2.1
  have := h313.2.2.2.1
  have := h313.2.2.2.2.2.2.2.2.2
  have v315 : vp_in x1 40 := vi (by omega) (by omega)
  refine ⟨v315, ?_⟩
  have p316 : 0 ≤ (x1).toInt ∧ (x1).toInt < 40 := by omega
  refine wq_X0_signOn h313 p316 (fun r_2 => ?_)
  exact k _
theorem wq_X0_showsWrong {post : Int32 → Prop} {s0 : Bd} {x1 : Int32} {R W : Int} (h317 : bi (R) (W) s0) (h318 : 0 ≤ (x1).toInt ∧ (x1).toInt < 40) (k : ∀ (r : Int32), (r).toInt = 0 ∨ (r).toInt = 1 → post r) : wp_X0_showsWrong post s0 x1 := by
  unfold wp_X0_showsWrong
  have := h317.1
  have := h317.2.1
  have := h317.2.2.1
  have := h317.2.2.2.1
  have := h317.2.2.2.2.2.2.2.2.2
  have v319 : vp_in x1 40 := vi (by omega) (by omega)
  refine ⟨v319, ?_⟩
  have p320 : 0 ≤ (x1).toInt ∧ (x1).toInt < 40 := by omega
  refine wq_X0_signOn h317 p320 (fun r_2 => ?_)
  have p321 : 0 ≤ (x1).toInt ∧ (x1).toInt < 40 := by omega
  refine wq_X0_wantedSign h317 p321 (fun r_4 => ?_)
  refine ⟨fun c322 => ?_, fun c323 => ?_⟩
  · replace c322 := q_eq c322
    have p324 : (0 : Int32).toInt = 0 ∨ (0 : Int32).toInt = 1 := by (have := li_0; omega)
    exact k _ p324
  · replace c323 := q_neq c323
    have p325 : (1 : Int32).toInt = 0 ∨ (1 : Int32).toInt = 1 := by (have := li_1; omega)
    exact k _ p325
theorem wq_X0_wrongCount_L4 {s0 : Bd} {post : Int32 → Prop} {e29 : Int32 → Int32 → Prop} {R W : Int} (h326 : bi (R) (W) s0) (ke29 : ∀ (z1 : Int32) (z2 : Int32), 0 ≤ (z2).toInt ∧ (z2).toInt ≤ R * W → e29 z1 z2) : ∀ (n : Nat) (z1 : Int32) (z2 : Int32), 0 ≤ (z2).toInt ∧ (z2).toInt ≤ R * W → R * W - (z2).toInt < (n : Int) → wp_X0_wrongCount_L4 s0 post e29 n z1 z2 := by
  have := h326.1
  have := h326.2.1
  have := h326.2.2.1
  have := h326.2.2.2.1
  have := h326.2.2.2.2.2.2.2.2.2
  intro n
  induction n with
  | zero =>
    intro z1 z2 i327 i328
    exfalso
    omega
  | succ n ih =>
    intro z1 z2 i327 i328
    unfold wp_X0_wrongCount_L4
    refine wq_X0_cells h326 (fun r_1 q329 => ?_)
    refine ⟨fun c330 => ?_, fun c331 => ?_⟩
    · replace c330 := q_le c330
      have p332 : 0 ≤ (z2).toInt ∧ (z2).toInt ≤ R * W := by omega
      exact ke29 _ _ p332
    · replace c331 := q_nle c331
      have p333 : 0 ≤ (z2).toInt ∧ (z2).toInt < 40 := by omega
      refine wq_X0_showsWrong h326 p333 (fun r_4 q334 => ?_)
      refine ⟨fun c335 => ?_, fun c336 => ?_⟩
      · replace c335 := q_eq c335
        rw [li_0] at c335
        have e337 := tq_addr li_1 z2
        try rw [Int.emod_eq_of_lt (show 0 ≤ (z2).toInt + 1 + 2147483648 by omega) (show (z2).toInt + 1 + 2147483648 < 4294967296 by omega)] at e337
        have p338 : 0 ≤ (z2 + 1).toInt ∧ (z2 + 1).toInt ≤ R * W := by omega
        have p339 : R * W - (z2 + 1).toInt < ((n : Nat) : Int) := by (omega)
        exact ih _ _ p338 p339
      · replace c336 := q_neq c336
        rw [li_0] at c336
        have e340 := tq_addr li_1 z2
        try rw [Int.emod_eq_of_lt (show 0 ≤ (z2).toInt + 1 + 2147483648 by omega) (show (z2).toInt + 1 + 2147483648 < 4294967296 by omega)] at e340
        have p341 : 0 ≤ (z2 + 1).toInt ∧ (z2 + 1).toInt ≤ R * W := by omega
        have p342 : R * W - (z2 + 1).toInt < ((n : Nat) : Int) := by (omega)
        exact ih _ _ p341 p342
theorem wq_X0_wrongCount {post : Int32 → Prop} {s0 : Bd} {R W : Int} (h343 : bi (R) (W) s0) (k : ∀ (r : Int32), post r) : wp_X0_wrongCount post s0 := by
  unfold wp_X0_wrongCount
  have := h343.1
  have := h343.2.1
  have := h343.2.2.1
  have := h343.2.2.2.1
  have := h343.2.2.2.2.2.2.2.2.2
  have p344 : 0 ≤ (0 : Int32).toInt ∧ (0 : Int32).toInt ≤ R * W := by (have := li_0; omega)
  obtain ⟨f345, g346⟩ := fu_e 50
  have p347 : R * W - (0 : Int32).toInt < (f345 : Int) := by (have := li_0; omega)
  refine ⟨f345, wq_X0_wrongCount_L4 h343 (fun z1 z2 q348 => ?_) f345 _ _ p344 p347⟩
  exact k _
theorem wq_X0_sumOf_8_L4 {s0 : Bd} {post : Int32 → Prop} {e30 : Int32 → Int32 → Prop} {R W : Int} (h349 : bi (R) (W) s0) (ke30 : ∀ (z2 : Int32) (z3 : Int32), 0 ≤ (z3).toInt ∧ (z3).toInt ≤ R * W → e30 z2 z3) : ∀ (n : Nat) (z2 : Int32) (z3 : Int32), 0 ≤ (z3).toInt ∧ (z3).toInt ≤ R * W → R * W - (z3).toInt < (n : Int) → wp_X0_sumOf_8_L4 s0 post e30 n z2 z3 := by
  have := h349.1
  have := h349.2.1
  have := h349.2.2.1
  have := h349.2.2.2.1
  have := h349.2.2.2.2.2.2.2.2.2
  intro n
  induction n with
  | zero =>
    intro z2 z3 i350 i351
    exfalso
    omega
  | succ n ih =>
    intro z2 z3 i350 i351
    unfold wp_X0_sumOf_8_L4
    refine wq_X0_cells h349 (fun r_1 q352 => ?_)
    refine ⟨fun c353 => ?_, fun c354 => ?_⟩
    · replace c353 := q_le c353
      have p355 : 0 ≤ (z3).toInt ∧ (z3).toInt ≤ R * W := by omega
      exact ke30 _ _ p355
    · replace c354 := q_nle c354
      refine ⟨fun c356 => ?_, fun c357 => ?_⟩
      · replace c356 := q_le c356
        rw [li_40] at c356
        have p358 : 0 ≤ (z3).toInt ∧ (z3).toInt ≤ R * W := by omega
        exact ke30 _ _ p358
      · replace c357 := q_nle c357
        rw [li_40] at c357
        have v359 : vp_in z3 40 := vi (by omega) (by omega)
        refine ⟨v359, ?_⟩
        have e360 := tq_addr li_1 z3
        try rw [Int.emod_eq_of_lt (show 0 ≤ (z3).toInt + 1 + 2147483648 by omega) (show (z3).toInt + 1 + 2147483648 < 4294967296 by omega)] at e360
        have p361 : 0 ≤ (z3 + 1).toInt ∧ (z3 + 1).toInt ≤ R * W := by omega
        have p362 : R * W - (z3 + 1).toInt < ((n : Nat) : Int) := by (omega)
        exact ih _ _ p361 p362
theorem wq_X0_sumOf_8 {post : Int32 → Prop} {s0 : Bd} {R W : Int} (h363 : bi (R) (W) s0) (k : ∀ (r : Int32), post r) : wp_X0_sumOf_8 post s0 := by
  unfold wp_X0_sumOf_8
  have := h363.1
  have := h363.2.1
  have := h363.2.2.1
  have := h363.2.2.2.1
  have := h363.2.2.2.2.2.2.2.2.2
  have p364 : 0 ≤ (0 : Int32).toInt ∧ (0 : Int32).toInt ≤ R * W := by (have := li_0; omega)
  obtain ⟨f365, g366⟩ := fu_e 50
  have p367 : R * W - (0 : Int32).toInt < (f365 : Int) := by (have := li_0; omega)
  refine ⟨f365, wq_X0_sumOf_8_L4 h363 (fun z2 z3 q368 => ?_) f365 _ _ p364 p367⟩
  exact k _
