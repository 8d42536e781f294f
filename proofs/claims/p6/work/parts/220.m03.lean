theorem wq_X0_sumOf_9_L4 {s0 : Bd} {post : Int32 → Prop} {e30 : Int32 → Int32 → Prop} {R W : Int} (h369 : bi (R) (W) s0) (ke30 : ∀ (z2 : Int32) (z3 : Int32), 0 ≤ (z3).toInt ∧ (z3).toInt ≤ R * W → e30 z2 z3) : ∀ (n : Nat) (z2 : Int32) (z3 : Int32), 0 ≤ (z3).toInt ∧ (z3).toInt ≤ R * W → R * W - (z3).toInt < (n : Int) → wp_X0_sumOf_9_L4 s0 post e30 n z2 z3 := by
  have := h369.1
  have := h369.2.1
  have := h369.2.2.1
  have := h369.2.2.2.1
  have := h369.2.2.2.2.2.2.2.2.2
  intro n
  induction n with
  | zero =>
    intro z2 z3 i370 i371
    exfalso
    omega
  | succ n ih =>
    intro z2 z3 i370 i371
    unfold wp_X0_sumOf_9_L4
    refine wq_X0_cells h369 (fun r_1 q372 => ?_)
    refine ⟨fun c373 => ?_, fun c374 => ?_⟩
    · replace c373 := q_le c373
      have p375 : 0 ≤ (z3).toInt ∧ (z3).toInt ≤ R * W := by omega
      exact ke30 _ _ p375
    · replace c374 := q_nle c374
      refine ⟨fun c376 => ?_, fun c377 => ?_⟩
      · replace c376 := q_le c376
        rw [li_40] at c376
        have p378 : 0 ≤ (z3).toInt ∧ (z3).toInt ≤ R * W := by omega
        exact ke30 _ _ p378
      · replace c377 := q_nle c377
        rw [li_40] at c377
        have v379 : vp_in z3 40 := vi (by omega) (by omega)
        refine ⟨v379, ?_⟩
        have e380 := tq_addr li_1 z3
        try rw [Int.emod_eq_of_lt (show 0 ≤ (z3).toInt + 1 + 2147483648 by omega) (show (z3).toInt + 1 + 2147483648 < 4294967296 by omega)] at e380
        have p381 : 0 ≤ (z3 + 1).toInt ∧ (z3 + 1).toInt ≤ R * W := by omega
        have p382 : R * W - (z3 + 1).toInt < ((n : Nat) : Int) := by (omega)
        exact ih _ _ p381 p382
theorem wq_X0_sumOf_9 {post : Int32 → Prop} {s0 : Bd} {R W : Int} (h383 : bi (R) (W) s0) (k : ∀ (r : Int32), post r) : wp_X0_sumOf_9 post s0 := by
  unfold wp_X0_sumOf_9
  have := h383.1
  have := h383.2.1
  have := h383.2.2.1
  have := h383.2.2.2.1
  have := h383.2.2.2.2.2.2.2.2.2
  have p384 : 0 ≤ (0 : Int32).toInt ∧ (0 : Int32).toInt ≤ R * W := by (have := li_0; omega)
  obtain ⟨f385, g386⟩ := fu_e 50
  have p387 : R * W - (0 : Int32).toInt < (f385 : Int) := by (have := li_0; omega)
  refine ⟨f385, wq_X0_sumOf_9_L4 h383 (fun z2 z3 q388 => ?_) f385 _ _ p384 p387⟩
  exact k _
theorem wq_X0_swapSigns {post : Bd → Prop} {s0 : Bd} {x1 : Int32} {x2 : Int32} {x3 : Int32} {R W : Int} (h389 : bi (R) (W) s0) (k : ∀ (u : Bd), bi (R) (W) u → post u) : wp_X0_swapSigns post s0 x1 x2 x3 := by
  unfold wp_X0_swapSigns
  have := h389.1
  have := h389.2.1
  have := h389.2.2.1
  have := h389.2.2.2.1
  have := h389.2.2.2.2.2.2.2.2.2
  refine wq_X0_isMovable h389 (fun r_1 q390 => ?_)
  refine ⟨fun c391 => ?_, fun c392 => ?_⟩
  · replace c391 := q_eq c391
    rw [li_0] at c391
    exact k _ h389
  · replace c392 := q_neq c392
    rw [li_0] at c392
    refine wq_X0_isMovable h389 (fun r_4 q393 => ?_)
    refine ⟨fun c394 => ?_, fun c395 => ?_⟩
    · replace c394 := q_neq c394
      rw [li_0] at c394
      have e396 := tq_mulr li_40 x1
      try rw [Int.emod_eq_of_lt (show 0 ≤ (x1).toInt * 40 + 2147483648 by omega) (show (x1).toInt * 40 + 2147483648 < 4294967296 by omega)] at e396
      have e397 := tq_add (x1 * 40) x2
      try rw [Int.emod_eq_of_lt (show 0 ≤ (x1 * 40).toInt + (x2).toInt + 2147483648 by omega) (show (x1 * 40).toInt + (x2).toInt + 2147483648 < 4294967296 by omega)] at e397
      have v398 : vp_in ((x1 * 40) + x2) 160 := vi (by omega) (by omega)
      refine ⟨v398, ?_⟩
      have e399 := tq_add (x1 * 40) x3
      try rw [Int.emod_eq_of_lt (show 0 ≤ (x1 * 40).toInt + (x3).toInt + 2147483648 by omega) (show (x1 * 40).toInt + (x3).toInt + 2147483648 < 4294967296 by omega)] at e399
      have v400 : vp_in ((x1 * 40) + x3) 160 := vi (by omega) (by omega)
      refine ⟨v400, ?_⟩
      refine ⟨v398, ?_⟩
      refine ⟨v400, ?_⟩
      have p401 : (s0.1 0).toInt = R := by omega
      have p402 : (s0.1 1).toInt = W := by omega
      have p403 : 0 ≤ (s0.1 3).toInt ∧ (s0.1 3).toInt ≤ 4 := by omega
      have p404 : 0 ≤ R ∧ R ≤ 6 ∧ 0 ≤ W ∧ W ≤ 10 ∧ 0 ≤ R * W ∧ R * W ≤ 40 := by omega
      have p405 : ar 4 (0) (40) (s0.2.1 1) := h389.2.2.2.2.1
      have p406 : ar 40 (0) (3) (s0.2.1 3) := h389.2.2.2.2.2.1
      have p407 : ar 40 (0) (39) (s0.2.1 4) := h389.2.2.2.2.2.2.1
      have p408 : ar 40 (0) (39) (s0.2.1 5) := h389.2.2.2.2.2.2.2.1
      have p409 : ar 40 (0) (39) (s0.2.1 6) := h389.2.2.2.2.2.2.2.2.1
      have p410 : s0.2.2.2.1 ≤ 6400 := by omega
      have B411 : bi (R) (W) (s0.1, (va_up s0.2.1 2 (upd (upd (s0.2.1 2) (Int32.toNatClampNeg ((x1 * 40) + x2)) (s0.2.1 2 (Int32.toNatClampNeg ((x1 * 40) + x3)))) (Int32.toNatClampNeg ((x1 * 40) + x3)) (s0.2.1 2 (Int32.toNatClampNeg ((x1 * 40) + x2))))), s0.2.2.1, s0.2.2.2.1, s0.2.2.2.2) := ⟨p401, p402, p403, p404, p405, p406, p407, p408, p409, p410⟩
      exact k _ B411
    · replace c395 := q_eq c395
      rw [li_0] at c395
      exact k _ h389
theorem wq_X0_cellsWith_L4 {s0 : Bd} {post : Int32 → Prop} {e31 : Int32 → Int32 → Int32 → Prop} {R W : Int} (h412 : bi (R) (W) s0) (ke31 : ∀ (z1 : Int32) (z2 : Int32) (z3 : Int32), 0 ≤ (z3).toInt ∧ (z3).toInt ≤ R * W → e31 z1 z2 z3) : ∀ (n : Nat) (z1 : Int32) (z2 : Int32) (z3 : Int32), 0 ≤ (z3).toInt ∧ (z3).toInt ≤ R * W → R * W - (z3).toInt < (n : Int) → wp_X0_cellsWith_L4 s0 post e31 n z1 z2 z3 := by
  have := h412.1
  have := h412.2.1
  have := h412.2.2.1
  have := h412.2.2.2.1
  have := h412.2.2.2.2.2.2.2.2.2
  intro n
  induction n with
  | zero =>
    intro z1 z2 z3 i413 i414
    exfalso
    omega
  | succ n ih =>
    intro z1 z2 z3 i413 i414
    unfold wp_X0_cellsWith_L4
    refine wq_X0_cells h412 (fun r_1 q415 => ?_)
    refine ⟨fun c416 => ?_, fun c417 => ?_⟩
    · replace c416 := q_le c416
      have p418 : 0 ≤ (z3).toInt ∧ (z3).toInt ≤ R * W := by omega
      exact ke31 _ _ _ p418
    · replace c417 := q_nle c417
      have v419 : vp_in z3 40 := vi (by omega) (by omega)
      refine ⟨v419, ?_⟩
      refine ⟨fun c420 => ?_, fun c421 => ?_⟩
      · replace c420 := q_neq c420
        have := ar_at (h412.2.2.2.2.2.1) v419
        have e422 := tq_addr li_1 z3
        try rw [Int.emod_eq_of_lt (show 0 ≤ (z3).toInt + 1 + 2147483648 by omega) (show (z3).toInt + 1 + 2147483648 < 4294967296 by omega)] at e422
        have p423 : 0 ≤ (z3 + 1).toInt ∧ (z3 + 1).toInt ≤ R * W := by omega
        have p424 : R * W - (z3 + 1).toInt < ((n : Nat) : Int) := by (omega)
        exact ih _ _ _ p423 p424
      · replace c421 := q_eq c421
        have := ar_at (h412.2.2.2.2.2.1) v419
        have e425 := tq_addr li_1 z3
        try rw [Int.emod_eq_of_lt (show 0 ≤ (z3).toInt + 1 + 2147483648 by omega) (show (z3).toInt + 1 + 2147483648 < 4294967296 by omega)] at e425
        have p426 : 0 ≤ (z3 + 1).toInt ∧ (z3 + 1).toInt ≤ R * W := by omega
        have p427 : R * W - (z3 + 1).toInt < ((n : Nat) : Int) := by (omega)
        exact ih _ _ _ p426 p427
theorem wq_X0_cellsWith {post : Int32 → Prop} {s0 : Bd} {x1 : Int32} {R W : Int} (h428 : bi (R) (W) s0) (k : ∀ (r : Int32), post r) : wp_X0_cellsWith post s0 x1 := by
  unfold wp_X0_cellsWith
  have := h428.1
  have := h428.2.1
  have := h428.2.2.1
  have := h428.2.2.2.1
  have := h428.2.2.2.2.2.2.2.2.2
  have p429 : 0 ≤ (0 : Int32).toInt ∧ (0 : Int32).toInt ≤ R * W := by (have := li_0; omega)
  obtain ⟨f430, g431⟩ := fu_e 50
  have p432 : R * W - (0 : Int32).toInt < (f430 : Int) := by (have := li_0; omega)
  refine ⟨f430, wq_X0_cellsWith_L4 h428 (fun z1 z2 z3 q433 => ?_) f430 _ _ _ p429 p432⟩
  exact k _
theorem wq_X0_flapsWith_L19 {s0 : Bd} {post : Int32 → Prop} {e49 : Int32 → Int32 → Int32 → Int32 → Int32 → Int32 → Int32 → Prop} {R W : Int} (h434 : bi (R) (W) s0) (ke49 : ∀ (z1 : Int32) (z2 : Int32) (z3 : Int32) (z4 : Int32) (z5 : Int32) (z6 : Int32) (z7 : Int32), 0 ≤ (z7).toInt ∧ (z7).toInt ≤ 41 → (z5).toInt ≤ 40 → (z5).toInt ≤ (z7).toInt ∨ (0 ≤ (z4).toInt ∧ (z4).toInt ≤ 120) → e49 z1 z2 z3 z4 z5 z6 z7) : ∀ (n : Nat) (z1 : Int32) (z2 : Int32) (z3 : Int32) (z4 : Int32) (z5 : Int32) (z6 : Int32) (z7 : Int32), 0 ≤ (z7).toInt ∧ (z7).toInt ≤ 41 → (z5).toInt ≤ 40 → (z5).toInt ≤ (z7).toInt ∨ (0 ≤ (z4).toInt ∧ (z4).toInt ≤ 120) → 41 - (z7).toInt < (n : Int) → wp_X0_flapsWith_L19 s0 post e49 n z1 z2 z3 z4 z5 z6 z7 := by
  have := h434.1
  have := h434.2.1
  have := h434.2.2.1
  have := h434.2.2.2.1
  have := h434.2.2.2.2.2.2.2.2.2
  intro n
  induction n with
  | zero =>
    intro z1 z2 z3 z4 z5 z6 z7 i435 i436 i437 i438
    exfalso
    omega
  | succ n ih =>
    intro z1 z2 z3 z4 z5 z6 z7 i435 i436 i437 i438
    unfold wp_X0_flapsWith_L19
    refine ⟨fun c439 => ?_, fun c440 => ?_⟩
    · replace c439 := q_le c439
      have p441 : 0 ≤ (z7).toInt ∧ (z7).toInt ≤ 41 := by omega
      have p442 : (z5).toInt ≤ 40 := by omega
      have p443 : (z5).toInt ≤ (z7).toInt ∨ (0 ≤ (z4).toInt ∧ (z4).toInt ≤ 120) := by omega
      exact ke49 _ _ _ _ _ _ _ p441 p442 p443
    · replace c440 := q_nle c440
      have e444 := tq_add z4 z7
      try rw [Int.emod_eq_of_lt (show 0 ≤ (z4).toInt + (z7).toInt + 2147483648 by omega) (show (z4).toInt + (z7).toInt + 2147483648 < 4294967296 by omega)] at e444
      have v445 : vp_in (z4 + z7) 160 := vi (by omega) (by omega)
      refine ⟨v445, ?_⟩
      refine ⟨fun c446 => ?_, fun c447 => ?_⟩
      · replace c446 := q_neq c446
        have e448 := tq_addr li_1 z7
        try rw [Int.emod_eq_of_lt (show 0 ≤ (z7).toInt + 1 + 2147483648 by omega) (show (z7).toInt + 1 + 2147483648 < 4294967296 by omega)] at e448
        have p449 : 0 ≤ (z7 + 1).toInt ∧ (z7 + 1).toInt ≤ 41 := by omega
        have p450 : (z5).toInt ≤ 40 := by omega
        have p451 : (z5).toInt ≤ (z7 + 1).toInt ∨ (0 ≤ (z4).toInt ∧ (z4).toInt ≤ 120) := by omega
        have p452 : 41 - (z7 + 1).toInt < ((n : Nat) : Int) := by (omega)
        exact ih _ _ _ _ _ _ _ p449 p450 p451 p452
      · replace c447 := q_eq c447
        have e453 := tq_addr li_1 z7
        try rw [Int.emod_eq_of_lt (show 0 ≤ (z7).toInt + 1 + 2147483648 by omega) (show (z7).toInt + 1 + 2147483648 < 4294967296 by omega)] at e453
        have p454 : 0 ≤ (z7 + 1).toInt ∧ (z7 + 1).toInt ≤ 41 := by omega
        have p455 : (z5).toInt ≤ 40 := by omega
        have p456 : (z5).toInt ≤ (z7 + 1).toInt ∨ (0 ≤ (z4).toInt ∧ (z4).toInt ≤ 120) := by omega
        have p457 : 41 - (z7 + 1).toInt < ((n : Nat) : Int) := by (omega)
        exact ih _ _ _ _ _ _ _ p454 p455 p456 p457
theorem wq_X0_flapsWith {post : Int32 → Prop} {s0 : Bd} {x1 x2 x3 : Int32} {R W : Int} (h1 : bi R W s0) (h2 : 0 ≤ x3.toInt ∧ x3.toInt ≤ 40) (k : ∀ r : Int32, post r) : wp_X0_flapsWith post s0 x1 x2 x3 := by
  unfold wp_X0_flapsWith
  have e40 : (40 : Int32).toInt = 40 := rfl
  refine wq_X0_flapsOn h1 (fun r q1 q2 => ?_)
  have hx : r.toInt ≤ x3.toInt ∨ (0 ≤ (x1 * 40).toInt ∧ (x1 * 40).toInt ≤ 120) := by
    rcases q2 with g | g
    · left
      omega
    · right
      have e := tq_mulr e40 x1
      rw [Int.emod_eq_of_lt (by omega) (by omega)] at e
      omega
  obtain ⟨nf, hf⟩ := fu_e 50
  exact ⟨nf, wq_X0_flapsWith_L19 h1 (fun _ _ _ _ _ _ _ _ _ _ => k _) nf _ _ _ _ _ _ _ (by omega) (by omega) hx (by omega)⟩
theorem wq_X0_drumHas {post : Int32 → Prop} {s0 : Bd} {x1 : Int32} {x2 : Int32} {R W : Int} (h458 : bi (R) (W) s0) (k : ∀ (r : Int32), (r).toInt = 0 ∨ (r).toInt = 1 → post r) : wp_X0_drumHas post s0 x1 x2 := by
  unfold wp_X0_drumHas
  have := h458.1
  have := h458.2.1
  have := h458.2.2.1
  have := h458.2.2.2.1
  have := h458.2.2.2.2.2.2.2.2.2
  have p459 : 0 ≤ ((0 : Int32)).toInt ∧ ((0 : Int32)).toInt ≤ 40 := by (have := li_0; omega)
  refine wq_X0_flapsWith h458 p459 (fun r_1 => ?_)
  refine ⟨fun c460 => ?_, fun c461 => ?_⟩
  · replace c460 := q_le c460
    rw [li_0] at c460
    have p462 : (0 : Int32).toInt = 0 ∨ (0 : Int32).toInt = 1 := by (have := li_0; omega)
    exact k _ p462
  · replace c461 := q_nle c461
    rw [li_0] at c461
    have p463 : (1 : Int32).toInt = 0 ∨ (1 : Int32).toInt = 1 := by (have := li_1; omega)
    exact k _ p463
theorem wq_X0_someDrumHas_L2 {s0 : Bd} {post : Int32 → Prop} {e27 : Int32 → Int32 → Prop} {R W : Int} (h464 : bi (R) (W) s0) (ke27 : ∀ (z1 : Int32) (z2 : Int32), 0 ≤ (z2).toInt ∧ (z2).toInt ≤ 4 → e27 z1 z2) (k : ∀ (r : Int32), (r).toInt = 0 ∨ (r).toInt = 1 → post r) : ∀ (n : Nat) (z1 : Int32) (z2 : Int32), 0 ≤ (z2).toInt ∧ (z2).toInt ≤ 4 → 4 - (z2).toInt < (n : Int) → wp_X0_someDrumHas_L2 s0 post e27 n z1 z2 := by
  have := h464.1
  have := h464.2.1
  have := h464.2.2.1
  have := h464.2.2.2.1
  have := h464.2.2.2.2.2.2.2.2.2
  intro n
  induction n with
  | zero =>
    intro z1 z2 i465 i466
    exfalso
    omega
  | succ n ih =>
    intro z1 z2 i465 i466
    unfold wp_X0_someDrumHas_L2
    refine ⟨fun c467 => ?_, fun c468 => ?_⟩
    · replace c467 := q_le c467
      have p469 : 0 ≤ (z2).toInt ∧ (z2).toInt ≤ 4 := by omega
      exact ke27 _ _ p469
    · replace c468 := q_nle c468
      refine wq_X0_drumHas h464 (fun r_2 q470 => ?_)
      refine ⟨fun c471 => ?_, fun c472 => ?_⟩
      · replace c471 := q_eq c471
        rw [li_0] at c471
        have e473 := tq_addr li_1 z2
        try rw [Int.emod_eq_of_lt (show 0 ≤ (z2).toInt + 1 + 2147483648 by omega) (show (z2).toInt + 1 + 2147483648 < 4294967296 by omega)] at e473
        have p474 : 0 ≤ (z2 + 1).toInt ∧ (z2 + 1).toInt ≤ 4 := by omega
        have p475 : 4 - (z2 + 1).toInt < ((n : Nat) : Int) := by (omega)
        exact ih _ _ p474 p475
      · replace c472 := q_neq c472
        rw [li_0] at c472
        have p476 : (1 : Int32).toInt = 0 ∨ (1 : Int32).toInt = 1 := by (have := li_1; omega)
        exact k _ p476
theorem wq_X0_someDrumHas {post : Int32 → Prop} {s0 : Bd} {x1 : Int32} {R W : Int} (h477 : bi (R) (W) s0) (k : ∀ (r : Int32), (r).toInt = 0 ∨ (r).toInt = 1 → post r) : wp_X0_someDrumHas post s0 x1 := by
  unfold wp_X0_someDrumHas
  have := h477.1
  have := h477.2.1
  have := h477.2.2.1
  have := h477.2.2.2.1
  have := h477.2.2.2.2.2.2.2.2.2
  have p478 : 0 ≤ (0 : Int32).toInt ∧ (0 : Int32).toInt ≤ 4 := by (have := li_0; omega)
  obtain ⟨f479, g480⟩ := fu_e 50
  have p481 : 4 - (0 : Int32).toInt < (f479 : Int) := by (have := li_0; omega)
  refine ⟨f479, wq_X0_someDrumHas_L2 h477 (fun z1 z2 q482 => ?_) k f479 _ _ p478 p481⟩
  have p483 : (0 : Int32).toInt = 0 ∨ (0 : Int32).toInt = 1 := by (have := li_0; omega)
  exact k _ p483
