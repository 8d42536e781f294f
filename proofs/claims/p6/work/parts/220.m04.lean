theorem wq_X0_isLastOfSign {post : Int32 → Prop} {s0 : Bd} {x1 : Int32} {x2 : Int32} {R W : Int} (h484 : bi (R) (W) s0) (h485 : 0 ≤ (x2).toInt ∧ (x2).toInt ≤ 39) (k : ∀ (r : Int32), (r).toInt = 0 ∨ (r).toInt = 1 → post r) : wp_X0_isLastOfSign post s0 x1 x2 := by
  unfold wp_X0_isLastOfSign
  have := h484.1
  have := h484.2.1
  have := h484.2.2.1
  have := h484.2.2.2.1
  have := h484.2.2.2.2.2.2.2.2.2
  refine wq_X0_signOf h484 (fun r_1 => ?_)
  have e486 := tq_addr li_1 x2
  try rw [Int.emod_eq_of_lt (show 0 ≤ (x2).toInt + 1 + 2147483648 by omega) (show (x2).toInt + 1 + 2147483648 < 4294967296 by omega)] at e486
  have p487 : 0 ≤ (x2 + 1).toInt ∧ (x2 + 1).toInt ≤ 40 := by omega
  refine wq_X0_flapsWith h484 p487 (fun r_3 => ?_)
  refine ⟨fun c488 => ?_, fun c489 => ?_⟩
  · replace c488 := q_neq c488
    rw [li_0] at c488
    have p490 : (0 : Int32).toInt = 0 ∨ (0 : Int32).toInt = 1 := by (have := li_0; omega)
    exact k _ p490
  · replace c489 := q_eq c489
    rw [li_0] at c489
    have p491 : (1 : Int32).toInt = 0 ∨ (1 : Int32).toInt = 1 := by (have := li_1; omega)
    exact k _ p491
theorem wq_X0_nearest_L60 {s0 : Bd} {post : Int32 → Prop} {e121 : Int32 → Int32 → Int32 → Int32 → Int32 → Int64 → Int32 → Int32 → Prop} {R W : Int} (h492 : bi (R) (W) s0) (ke121 : ∀ (z1 : Int32) (z2 : Int32) (z3 : Int32) (z4 : Int32) (z5 : Int32) (w6 : Int64) (z8 : Int32) (z9 : Int32), e121 z1 z2 z3 z4 z5 w6 z8 z9) (k : ∀ (r : Int32), -1 ≤ (r).toInt ∧ (r).toInt ≤ 39 → post r) : ∀ (n : Nat) (z1 : Int32) (z2 : Int32) (z3 : Int32) (z4 : Int32) (z5 : Int32) (w6 : Int64) (z8 : Int32) (z9 : Int32), 0 ≤ (z9).toInt ∧ (z9).toInt ≤ (z4).toInt ∧ (z4).toInt ≤ 40 → 0 ≤ (z8).toInt ∧ (z8).toInt ≤ 39 → 0 ≤ (z5).toInt ∧ (z5).toInt ≤ 120 → (z4).toInt - (z9).toInt < (n : Int) → wp_X0_nearest_L60 s0 post e121 n z1 z2 z3 z4 z5 w6 z8 z9 := by
  have := h492.1
  have := h492.2.1
  have := h492.2.2.1
  have := h492.2.2.2.1
  have := h492.2.2.2.2.2.2.2.2.2
  intro n
  induction n with
  | zero =>
    intro z1 z2 z3 z4 z5 w6 z8 z9 i493 i494 i495 i496
    exfalso
    omega
  | succ n ih =>
    intro z1 z2 z3 z4 z5 w6 z8 z9 i493 i494 i495 i496
    unfold wp_X0_nearest_L60
    refine ⟨fun c497 => ?_, fun c498 => ?_⟩
    · replace c497 := q_le c497
      exact ke121 _ _ _ _ _ _ _ _
    · replace c498 := q_nle c498
      have e499 := tq_add z5 z8
      try rw [Int.emod_eq_of_lt (show 0 ≤ (z5).toInt + (z8).toInt + 2147483648 by omega) (show (z5).toInt + (z8).toInt + 2147483648 < 4294967296 by omega)] at e499
      have v500 : vp_in (z5 + z8) 160 := vi (by omega) (by omega)
      refine ⟨v500, ?_⟩
      refine ⟨fun c501 => ?_, fun c502 => ?_⟩
      · replace c501 := q_neq c501
        refine ⟨fun c503 => ?_, fun c504 => ?_⟩
        · replace c503 := q_le c503
          have e505 := tq_addr li_1 z8
          try rw [Int.emod_eq_of_lt (show 0 ≤ (z8).toInt + 1 + 2147483648 by omega) (show (z8).toInt + 1 + 2147483648 < 4294967296 by omega)] at e505
          have e506 := tq_addr li_1 z9
          try rw [Int.emod_eq_of_lt (show 0 ≤ (z9).toInt + 1 + 2147483648 by omega) (show (z9).toInt + 1 + 2147483648 < 4294967296 by omega)] at e506
          have p507 : 0 ≤ (z9 + 1).toInt ∧ (z9 + 1).toInt ≤ (z4).toInt ∧ (z4).toInt ≤ 40 := by omega
          have p508 : 0 ≤ (0 : Int32).toInt ∧ (0 : Int32).toInt ≤ 39 := by (have := li_0; omega)
          have p509 : 0 ≤ (z5).toInt ∧ (z5).toInt ≤ 120 := by omega
          have p510 : (z4).toInt - (z9 + 1).toInt < ((n : Nat) : Int) := by (omega)
          exact ih _ _ _ _ _ _ _ _ p507 p508 p509 p510
        · replace c504 := q_nle c504
          have e511 := tq_addr li_1 z8
          try rw [Int.emod_eq_of_lt (show 0 ≤ (z8).toInt + 1 + 2147483648 by omega) (show (z8).toInt + 1 + 2147483648 < 4294967296 by omega)] at e511
          have e512 := tq_addr li_1 z9
          try rw [Int.emod_eq_of_lt (show 0 ≤ (z9).toInt + 1 + 2147483648 by omega) (show (z9).toInt + 1 + 2147483648 < 4294967296 by omega)] at e512
          have p513 : 0 ≤ (z9 + 1).toInt ∧ (z9 + 1).toInt ≤ (z4).toInt ∧ (z4).toInt ≤ 40 := by omega
          have p514 : 0 ≤ (z8 + 1).toInt ∧ (z8 + 1).toInt ≤ 39 := by omega
          have p515 : 0 ≤ (z5).toInt ∧ (z5).toInt ≤ 120 := by omega
          have p516 : (z4).toInt - (z9 + 1).toInt < ((n : Nat) : Int) := by (omega)
          exact ih _ _ _ _ _ _ _ _ p513 p514 p515 p516
      · replace c502 := q_eq c502
        refine ⟨fun c517 => ?_, fun c518 => ?_⟩
        · refine ⟨fun c519 => ?_, fun c520 => ?_⟩
          · replace c519 := q_le c519
            have e521 := tq_addr li_1 z8
            try rw [Int.emod_eq_of_lt (show 0 ≤ (z8).toInt + 1 + 2147483648 by omega) (show (z8).toInt + 1 + 2147483648 < 4294967296 by omega)] at e521
            have e522 := tq_addr li_1 z9
            try rw [Int.emod_eq_of_lt (show 0 ≤ (z9).toInt + 1 + 2147483648 by omega) (show (z9).toInt + 1 + 2147483648 < 4294967296 by omega)] at e522
            have p523 : 0 ≤ (z9 + 1).toInt ∧ (z9 + 1).toInt ≤ (z4).toInt ∧ (z4).toInt ≤ 40 := by omega
            have p524 : 0 ≤ (0 : Int32).toInt ∧ (0 : Int32).toInt ≤ 39 := by (have := li_0; omega)
            have p525 : 0 ≤ (z5).toInt ∧ (z5).toInt ≤ 120 := by omega
            have p526 : (z4).toInt - (z9 + 1).toInt < ((n : Nat) : Int) := by (omega)
            exact ih _ _ _ _ _ _ _ _ p523 p524 p525 p526
          · replace c520 := q_nle c520
            have e527 := tq_addr li_1 z8
            try rw [Int.emod_eq_of_lt (show 0 ≤ (z8).toInt + 1 + 2147483648 by omega) (show (z8).toInt + 1 + 2147483648 < 4294967296 by omega)] at e527
            have e528 := tq_addr li_1 z9
            try rw [Int.emod_eq_of_lt (show 0 ≤ (z9).toInt + 1 + 2147483648 by omega) (show (z9).toInt + 1 + 2147483648 < 4294967296 by omega)] at e528
            have p529 : 0 ≤ (z9 + 1).toInt ∧ (z9 + 1).toInt ≤ (z4).toInt ∧ (z4).toInt ≤ 40 := by omega
            have p530 : 0 ≤ (z8 + 1).toInt ∧ (z8 + 1).toInt ≤ 39 := by omega
            have p531 : 0 ≤ (z5).toInt ∧ (z5).toInt ≤ 120 := by omega
            have p532 : (z4).toInt - (z9 + 1).toInt < ((n : Nat) : Int) := by (omega)
            exact ih _ _ _ _ _ _ _ _ p529 p530 p531 p532
        · have p533 : -1 ≤ (z8).toInt ∧ (z8).toInt ≤ 39 := by omega
          exact k _ p533
theorem wq_X0_nearest {post : Int32 → Prop} {s0 : Bd} {x1 : Int32} {x2 : Int32} {R W : Int} (h534 : bi (R) (W) s0) (h535 : 0 ≤ (x1).toInt ∧ (x1).toInt < 40) (k : ∀ (r : Int32), -1 ≤ (r).toInt ∧ (r).toInt ≤ 39 → post r) : wp_X0_nearest post s0 x1 x2 := by
  unfold wp_X0_nearest
  have := h534.1
  have := h534.2.1
  have := h534.2.2.1
  have := h534.2.2.2.1
  have := h534.2.2.2.2.2.2.2.2.2
  have v536 : vp_in x1 40 := vi (by omega) (by omega)
  refine ⟨v536, ?_⟩
  refine ⟨fun c537 => ?_, fun c538 => ?_⟩
  · replace c537 := q_lt c537
    rw [li_0] at c537
    have := ar_at (h534.2.2.2.2.2.1) v536
    refine ⟨v536, ?_⟩
    refine ⟨v536, ?_⟩
    have p539 : 0 ≤ (0 : Int32).toInt ∧ (0 : Int32).toInt ≤ (0 : Int32).toInt ∧ (0 : Int32).toInt ≤ 40 := by (have := li_0; omega)
    have := ar_at (h534.2.2.2.2.2.2.2.1) v536
    have p540 : 0 ≤ (s0.2.1 5 (Int32.toNatClampNeg x1)).toInt ∧ (s0.2.1 5 (Int32.toNatClampNeg x1)).toInt ≤ 39 := by omega
    have e541 := tq_mulr li_40 (s0.2.1 3 (Int32.toNatClampNeg x1))
    try rw [Int.emod_eq_of_lt (show 0 ≤ (s0.2.1 3 (Int32.toNatClampNeg x1)).toInt * 40 + 2147483648 by omega) (show (s0.2.1 3 (Int32.toNatClampNeg x1)).toInt * 40 + 2147483648 < 4294967296 by omega)] at e541
    have p542 : 0 ≤ ((s0.2.1 3 (Int32.toNatClampNeg x1)) * 40).toInt ∧ ((s0.2.1 3 (Int32.toNatClampNeg x1)) * 40).toInt ≤ 120 := by omega
    obtain ⟨f543, g544⟩ := fu_e 50
    have p545 : (0 : Int32).toInt - (0 : Int32).toInt < (f543 : Int) := by (have := li_0; omega)
    refine ⟨f543, wq_X0_nearest_L60 h534 (fun z1 z2 z3 z4 z5 w6 z8 z9 => ?_) k f543 _ _ _ _ _ _ _ _ p539 p540 p542 p545⟩
    have p546 : -1 ≤ (-1 : Int32).toInt ∧ (-1 : Int32).toInt ≤ 39 := by (have := li_m1; omega)
    exact k _ p546
  · replace c538 := q_nlt c538
    rw [li_0] at c538
    have := ar_at (h534.2.2.2.2.2.1) v536
    refine ⟨fun c547 => ?_, fun c548 => ?_⟩
    · replace c547 := q_le c547
      refine ⟨v536, ?_⟩
      refine ⟨v536, ?_⟩
      have p549 : 0 ≤ (0 : Int32).toInt ∧ (0 : Int32).toInt ≤ (0 : Int32).toInt ∧ (0 : Int32).toInt ≤ 40 := by (have := li_0; omega)
      have := ar_at (h534.2.2.2.2.2.2.2.1) v536
      have p550 : 0 ≤ (s0.2.1 5 (Int32.toNatClampNeg x1)).toInt ∧ (s0.2.1 5 (Int32.toNatClampNeg x1)).toInt ≤ 39 := by omega
      have e551 := tq_mulr li_40 (s0.2.1 3 (Int32.toNatClampNeg x1))
      try rw [Int.emod_eq_of_lt (show 0 ≤ (s0.2.1 3 (Int32.toNatClampNeg x1)).toInt * 40 + 2147483648 by omega) (show (s0.2.1 3 (Int32.toNatClampNeg x1)).toInt * 40 + 2147483648 < 4294967296 by omega)] at e551
      have p552 : 0 ≤ ((s0.2.1 3 (Int32.toNatClampNeg x1)) * 40).toInt ∧ ((s0.2.1 3 (Int32.toNatClampNeg x1)) * 40).toInt ≤ 120 := by omega
      obtain ⟨f553, g554⟩ := fu_e 50
      have p555 : (0 : Int32).toInt - (0 : Int32).toInt < (f553 : Int) := by (have := li_0; omega)
      refine ⟨f553, wq_X0_nearest_L60 h534 (fun z1 z2 z3 z4 z5 w6 z8 z9 => ?_) k f553 _ _ _ _ _ _ _ _ p549 p550 p552 p555⟩
      have p556 : -1 ≤ (-1 : Int32).toInt ∧ (-1 : Int32).toInt ≤ 39 := by (have := li_m1; omega)
      exact k _ p556
    · replace c548 := q_nle c548
      have v557 : vp_in (s0.2.1 3 (Int32.toNatClampNeg x1)) 4 := vi (by omega) (by omega)
      refine ⟨v557, ?_⟩
      refine ⟨v536, ?_⟩
      refine ⟨v536, ?_⟩
      have := ar_at (h534.2.2.2.2.1) v557
      have p558 : 0 ≤ (0 : Int32).toInt ∧ (0 : Int32).toInt ≤ (s0.2.1 1 (Int32.toNatClampNeg (s0.2.1 3 (Int32.toNatClampNeg x1)))).toInt ∧ (s0.2.1 1 (Int32.toNatClampNeg (s0.2.1 3 (Int32.toNatClampNeg x1)))).toInt ≤ 40 := by (have := li_0; omega)
      have := ar_at (h534.2.2.2.2.2.2.2.1) v536
      have p559 : 0 ≤ (s0.2.1 5 (Int32.toNatClampNeg x1)).toInt ∧ (s0.2.1 5 (Int32.toNatClampNeg x1)).toInt ≤ 39 := by omega
      have e560 := tq_mulr li_40 (s0.2.1 3 (Int32.toNatClampNeg x1))
      try rw [Int.emod_eq_of_lt (show 0 ≤ (s0.2.1 3 (Int32.toNatClampNeg x1)).toInt * 40 + 2147483648 by omega) (show (s0.2.1 3 (Int32.toNatClampNeg x1)).toInt * 40 + 2147483648 < 4294967296 by omega)] at e560
      have p561 : 0 ≤ ((s0.2.1 3 (Int32.toNatClampNeg x1)) * 40).toInt ∧ ((s0.2.1 3 (Int32.toNatClampNeg x1)) * 40).toInt ≤ 120 := by omega
      obtain ⟨f562, g563⟩ := fu_e 50
      have p564 : (s0.2.1 1 (Int32.toNatClampNeg (s0.2.1 3 (Int32.toNatClampNeg x1)))).toInt - (0 : Int32).toInt < (f562 : Int) := by (have := li_0; omega)
      refine ⟨f562, wq_X0_nearest_L60 h534 (fun z1 z2 z3 z4 z5 w6 z8 z9 => ?_) k f562 _ _ _ _ _ _ _ _ p558 p559 p561 p564⟩
      have p565 : -1 ≤ (-1 : Int32).toInt ∧ (-1 : Int32).toInt ≤ 39 := by (have := li_m1; omega)
      exact k _ p565
theorem wq_X0_missedOfOwn_L12 {s0 : Bd} {post : Int32 → Prop} {e57 : Int32 → Int32 → Int32 → Int32 → Prop} {R W : Int} (h566 : bi (R) (W) s0) (ke57 : ∀ (z1 : Int32) (z2 : Int32) (z3 : Int32) (z4 : Int32), 0 ≤ (z4).toInt ∧ (z4).toInt ≤ 40 → 0 ≤ (z1).toInt ∧ (z1).toInt < 40 → e57 z1 z2 z3 z4) : ∀ (n : Nat) (z1 : Int32) (z2 : Int32) (z3 : Int32) (z4 : Int32), 0 ≤ (z4).toInt ∧ (z4).toInt ≤ 40 → 0 ≤ (z1).toInt ∧ (z1).toInt < 40 → 40 - (z4).toInt < (n : Int) → wp_X0_missedOfOwn_L12 s0 post e57 n z1 z2 z3 z4 := by
  have := h566.1
  have := h566.2.1
  have := h566.2.2.1
  have := h566.2.2.2.1
  have := h566.2.2.2.2.2.2.2.2.2
  intro n
  induction n with
  | zero =>
    intro z1 z2 z3 z4 i567 i568 i569
    exfalso
    omega
  | succ n ih =>
    intro z1 z2 z3 z4 i567 i568 i569
    unfold wp_X0_missedOfOwn_L12
    refine wq_X0_flapsOn h566 (fun r_2 q570 q571 => ?_)
    refine ⟨fun c572 => ?_, fun c573 => ?_⟩
    · replace c572 := q_le c572
      have p574 : 0 ≤ (z4).toInt ∧ (z4).toInt ≤ 40 := by omega
      have p575 : 0 ≤ (z1).toInt ∧ (z1).toInt < 40 := by omega
      exact ke57 _ _ _ _ p574 p575
    · replace c573 := q_nle c573
      have p576 : 0 ≤ (z4).toInt ∧ (z4).toInt ≤ 39 := by omega
      refine wq_X0_isLastOfSign h566 p576 (fun r_5 q577 => ?_)
      refine ⟨fun c578 => ?_, fun c579 => ?_⟩
      · replace c578 := q_eq c578
        rw [li_0] at c578
        have e580 := tq_addr li_1 z4
        try rw [Int.emod_eq_of_lt (show 0 ≤ (z4).toInt + 1 + 2147483648 by omega) (show (z4).toInt + 1 + 2147483648 < 4294967296 by omega)] at e580
        have p581 : 0 ≤ (z4 + 1).toInt ∧ (z4 + 1).toInt ≤ 40 := by omega
        have p582 : 0 ≤ (z1).toInt ∧ (z1).toInt < 40 := by omega
        have p583 : 40 - (z4 + 1).toInt < ((n : Nat) : Int) := by (omega)
        exact ih _ _ _ _ p581 p582 p583
      · replace c579 := q_neq c579
        rw [li_0] at c579
        refine wq_X0_signOf h566 (fun r_8 => ?_)
        have p584 : 0 ≤ (z1).toInt ∧ (z1).toInt < 40 := by omega
        refine wq_X0_nearest h566 p584 (fun r_10 q585 => ?_)
        refine ⟨fun c586 => ?_, fun c587 => ?_⟩
        · replace c586 := q_neq c586
          rw [li_m1] at c586
          have e588 := tq_addr li_1 z4
          try rw [Int.emod_eq_of_lt (show 0 ≤ (z4).toInt + 1 + 2147483648 by omega) (show (z4).toInt + 1 + 2147483648 < 4294967296 by omega)] at e588
          have p589 : 0 ≤ (z4 + 1).toInt ∧ (z4 + 1).toInt ≤ 40 := by omega
          have p590 : 0 ≤ (z1).toInt ∧ (z1).toInt < 40 := by omega
          have p591 : 40 - (z4 + 1).toInt < ((n : Nat) : Int) := by (omega)
          exact ih _ _ _ _ p589 p590 p591
        · replace c587 := q_eq c587
          rw [li_m1] at c587
          have e592 := tq_addr li_1 z4
          try rw [Int.emod_eq_of_lt (show 0 ≤ (z4).toInt + 1 + 2147483648 by omega) (show (z4).toInt + 1 + 2147483648 < 4294967296 by omega)] at e592
          have p593 : 0 ≤ (z4 + 1).toInt ∧ (z4 + 1).toInt ≤ 40 := by omega
          have p594 : 0 ≤ (z1).toInt ∧ (z1).toInt < 40 := by omega
          have p595 : 40 - (z4 + 1).toInt < ((n : Nat) : Int) := by (omega)
          exact ih _ _ _ _ p593 p594 p595
theorem wq_X0_missedOfOwn {post : Int32 → Prop} {s0 : Bd} {x1 : Int32} {R W : Int} (h596 : bi (R) (W) s0) (h597 : 0 ≤ (x1).toInt ∧ (x1).toInt < 40) (k : ∀ (r : Int32), post r) : wp_X0_missedOfOwn post s0 x1 := by
  unfold wp_X0_missedOfOwn
  have := h596.1
  have := h596.2.1
  have := h596.2.2.1
  have := h596.2.2.2.1
  have := h596.2.2.2.2.2.2.2.2.2
  have v598 : vp_in x1 40 := vi (by omega) (by omega)
  refine ⟨v598, ?_⟩
  have p599 : 0 ≤ (0 : Int32).toInt ∧ (0 : Int32).toInt ≤ 40 := by (have := li_0; omega)
  have p600 : 0 ≤ (x1).toInt ∧ (x1).toInt < 40 := by omega
  obtain ⟨f601, g602⟩ := fu_e 50
  have p603 : 40 - (0 : Int32).toInt < (f601 : Int) := by (have := li_0; omega)
  refine ⟨f601, wq_X0_missedOfOwn_L12 h596 (fun z1 z2 z3 z4 q604 q605 => ?_) f601 _ _ _ _ p599 p600 p603⟩
  exact k _
theorem wq_X0_signsOfOthers_L5 {s0 : Bd} {post : Int32 → Prop} {e37 : Int32 → Int32 → Int32 → Prop} {R W : Int} (h606 : bi (R) (W) s0) (ke37 : ∀ (z1 : Int32) (z2 : Int32) (z3 : Int32), 32 ≤ (z3).toInt ∧ (z3).toInt ≤ 127 → e37 z1 z2 z3) : ∀ (n : Nat) (z1 : Int32) (z2 : Int32) (z3 : Int32), 32 ≤ (z3).toInt ∧ (z3).toInt ≤ 127 → 127 - (z3).toInt < (n : Int) → wp_X0_signsOfOthers_L5 s0 post e37 n z1 z2 z3 := by
  have := h606.1
  have := h606.2.1
  have := h606.2.2.1
  have := h606.2.2.2.1
  have := h606.2.2.2.2.2.2.2.2.2
  intro n
  induction n with
  | zero =>
    intro z1 z2 z3 i607 i608
    exfalso
    omega
  | succ n ih =>
    intro z1 z2 z3 i607 i608
    unfold wp_X0_signsOfOthers_L5
    refine ⟨fun c609 => ?_, fun c610 => ?_⟩
    · replace c609 := q_lt c609
      rw [li_126] at c609
      have p611 : 32 ≤ (z3).toInt ∧ (z3).toInt ≤ 127 := by omega
      exact ke37 _ _ _ p611
    · replace c610 := q_nlt c610
      rw [li_126] at c610
      refine wq_X0_someDrumHas h606 (fun r_2 q612 => ?_)
      refine ⟨fun c613 => ?_, fun c614 => ?_⟩
      · replace c613 := q_eq c613
        rw [li_0] at c613
        have e615 := tq_addr li_1 z3
        try rw [Int.emod_eq_of_lt (show 0 ≤ (z3).toInt + 1 + 2147483648 by omega) (show (z3).toInt + 1 + 2147483648 < 4294967296 by omega)] at e615
        have p616 : 32 ≤ (z3 + 1).toInt ∧ (z3 + 1).toInt ≤ 127 := by omega
        have p617 : 127 - (z3 + 1).toInt < ((n : Nat) : Int) := by (omega)
        exact ih _ _ _ p616 p617
      · replace c614 := q_neq c614
        rw [li_0] at c614
        refine wq_X0_drumHas h606 (fun r_5 q618 => ?_)
        refine ⟨fun c619 => ?_, fun c620 => ?_⟩
        · replace c619 := q_neq c619
          rw [li_0] at c619
          have e621 := tq_addr li_1 z3
          try rw [Int.emod_eq_of_lt (show 0 ≤ (z3).toInt + 1 + 2147483648 by omega) (show (z3).toInt + 1 + 2147483648 < 4294967296 by omega)] at e621
          have p622 : 32 ≤ (z3 + 1).toInt ∧ (z3 + 1).toInt ≤ 127 := by omega
          have p623 : 127 - (z3 + 1).toInt < ((n : Nat) : Int) := by (omega)
          exact ih _ _ _ p622 p623
        · replace c620 := q_eq c620
          rw [li_0] at c620
          have e624 := tq_addr li_1 z3
          try rw [Int.emod_eq_of_lt (show 0 ≤ (z3).toInt + 1 + 2147483648 by omega) (show (z3).toInt + 1 + 2147483648 < 4294967296 by omega)] at e624
          have p625 : 32 ≤ (z3 + 1).toInt ∧ (z3 + 1).toInt ≤ 127 := by omega
          have p626 : 127 - (z3 + 1).toInt < ((n : Nat) : Int) := by (omega)
          exact ih _ _ _ p625 p626
theorem wq_X0_signsOfOthers {post : Int32 → Prop} {s0 : Bd} {x1 : Int32} {R W : Int} (h627 : bi (R) (W) s0) (k : ∀ (r : Int32), post r) : wp_X0_signsOfOthers post s0 x1 := by
  unfold wp_X0_signsOfOthers
  have := h627.1
  have := h627.2.1
  have := h627.2.2.1
  have := h627.2.2.2.1
  have := h627.2.2.2.2.2.2.2.2.2
  have p628 : 32 ≤ (32 : Int32).toInt ∧ (32 : Int32).toInt ≤ 127 := by (have := li_32; omega)
  obtain ⟨f629, g630⟩ := fu_e 200
  have p631 : 127 - (32 : Int32).toInt < (f629 : Int) := by (have := li_32; omega)
  refine ⟨f629, wq_X0_signsOfOthers_L5 h627 (fun z1 z2 z3 q632 => ?_) f629 _ _ _ p628 p631⟩
  exact k _
theorem wq_X0_unlikeSigns_L4 {s0 : Bd} {post : Int32 → Prop} {e31 : Int32 → Int32 → Int32 → Prop} {R W : Int} (h633 : bi (R) (W) s0) (ke31 : ∀ (z1 : Int32) (z2 : Int32) (z3 : Int32), 0 ≤ (z3).toInt ∧ (z3).toInt ≤ 40 → e31 z1 z2 z3) : ∀ (n : Nat) (z1 : Int32) (z2 : Int32) (z3 : Int32), 0 ≤ (z3).toInt ∧ (z3).toInt ≤ 40 → 40 - (z3).toInt < (n : Int) → wp_X0_unlikeSigns_L4 s0 post e31 n z1 z2 z3 := by
  have := h633.1
  have := h633.2.1
  have := h633.2.2.1
  have := h633.2.2.2.1
  have := h633.2.2.2.2.2.2.2.2.2
  intro n
  induction n with
  | zero =>
    intro z1 z2 z3 i634 i635
    exfalso
    omega
  | succ n ih =>
    intro z1 z2 z3 i634 i635
    unfold wp_X0_unlikeSigns_L4
    refine wq_X0_flapsOn h633 (fun r_1 q636 q637 => ?_)
    refine ⟨fun c638 => ?_, fun c639 => ?_⟩
    · replace c638 := q_le c638
      have p640 : 0 ≤ (z3).toInt ∧ (z3).toInt ≤ 40 := by omega
      exact ke31 _ _ _ p640
    · replace c639 := q_nle c639
      have p641 : 0 ≤ (z3).toInt ∧ (z3).toInt ≤ 39 := by omega
      refine wq_X0_isLastOfSign h633 p641 (fun r_4 q642 => ?_)
      refine ⟨fun c643 => ?_, fun c644 => ?_⟩
      · replace c643 := q_eq c643
        rw [li_0] at c643
        have e645 := tq_addr li_1 z3
        try rw [Int.emod_eq_of_lt (show 0 ≤ (z3).toInt + 1 + 2147483648 by omega) (show (z3).toInt + 1 + 2147483648 < 4294967296 by omega)] at e645
        have p646 : 0 ≤ (z3 + 1).toInt ∧ (z3 + 1).toInt ≤ 40 := by omega
        have p647 : 40 - (z3 + 1).toInt < ((n : Nat) : Int) := by (omega)
        exact ih _ _ _ p646 p647
      · replace c644 := q_neq c644
        rw [li_0] at c644
        have e648 := tq_addr li_1 z3
        try rw [Int.emod_eq_of_lt (show 0 ≤ (z3).toInt + 1 + 2147483648 by omega) (show (z3).toInt + 1 + 2147483648 < 4294967296 by omega)] at e648
        have p649 : 0 ≤ (z3 + 1).toInt ∧ (z3 + 1).toInt ≤ 40 := by omega
        have p650 : 40 - (z3 + 1).toInt < ((n : Nat) : Int) := by (omega)
        exact ih _ _ _ p649 p650
theorem wq_X0_unlikeSigns {post : Int32 → Prop} {s0 : Bd} {x1 : Int32} {R W : Int} (h651 : bi (R) (W) s0) (k : ∀ (r : Int32), post r) : wp_X0_unlikeSigns post s0 x1 := by
  unfold wp_X0_unlikeSigns
  have := h651.1
  have := h651.2.1
  have := h651.2.2.1
  have := h651.2.2.2.1
  have := h651.2.2.2.2.2.2.2.2.2
  have p652 : 0 ≤ (0 : Int32).toInt ∧ (0 : Int32).toInt ≤ 40 := by (have := li_0; omega)
  obtain ⟨f653, g654⟩ := fu_e 50
  have p655 : 40 - (0 : Int32).toInt < (f653 : Int) := by (have := li_0; omega)
  refine ⟨f653, wq_X0_unlikeSigns_L4 h651 (fun z1 z2 z3 q656 => ?_) f653 _ _ _ p652 p655⟩
  exact k _
theorem wq_X0_mostOfOneSign_L4 {s0 : Bd} {post : Int32 → Prop} {e36 : Int32 → Int32 → Int32 → Prop} {R W : Int} (h657 : bi (R) (W) s0) (ke36 : ∀ (z1 : Int32) (z2 : Int32) (z3 : Int32), 0 ≤ (z3).toInt ∧ (z3).toInt ≤ 40 → e36 z1 z2 z3) : ∀ (n : Nat) (z1 : Int32) (z2 : Int32) (z3 : Int32), 0 ≤ (z3).toInt ∧ (z3).toInt ≤ 40 → 40 - (z3).toInt < (n : Int) → wp_X0_mostOfOneSign_L4 s0 post e36 n z1 z2 z3 := by
  have := h657.1
  have := h657.2.1
  have := h657.2.2.1
  have := h657.2.2.2.1
  have := h657.2.2.2.2.2.2.2.2.2
  intro n
  induction n with
  | zero =>
    intro z1 z2 z3 i658 i659
    exfalso
    omega
  | succ n ih =>
    intro z1 z2 z3 i658 i659
    unfold wp_X0_mostOfOneSign_L4
    refine wq_X0_flapsOn h657 (fun r_1 q660 q661 => ?_)
    refine ⟨fun c662 => ?_, fun c663 => ?_⟩
    · replace c662 := q_le c662
      have p664 : 0 ≤ (z3).toInt ∧ (z3).toInt ≤ 40 := by omega
      exact ke36 _ _ _ p664
    · replace c663 := q_nle c663
      refine wq_X0_signOf h657 (fun r_4 => ?_)
      have p665 : 0 ≤ (z3).toInt ∧ (z3).toInt ≤ 40 := by omega
      refine wq_X0_flapsWith h657 p665 (fun r_6 => ?_)
      have e666 := tq_addr li_1 z3
      try rw [Int.emod_eq_of_lt (show 0 ≤ (z3).toInt + 1 + 2147483648 by omega) (show (z3).toInt + 1 + 2147483648 < 4294967296 by omega)] at e666
      have p667 : 0 ≤ (z3 + 1).toInt ∧ (z3 + 1).toInt ≤ 40 := by omega
      have p668 : 40 - (z3 + 1).toInt < ((n : Nat) : Int) := by (omega)
      exact ih _ _ _ p667 p668
