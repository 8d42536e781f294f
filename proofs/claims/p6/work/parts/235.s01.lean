theorem wq_X7_isRowText {post : Int32 → Prop} {s0 : Md} {x1 : Int32} {N R W D : Int} (h100407 : mb (N) (R) (W) (D) s0) (h100408 : 0 ≤ (x1).toInt ∧ (x1).toInt ≤ 400) (k : ∀ (r : Int32), (r).toInt = 0 ∨ ((r).toInt = 1 ∧ (x1).toInt ≤ W) → post r) : wp_X7_isRowText post s0 x1 := by
  unfold wp_X7_isRowText
  have := h100407.1
  have := h100407.2.1
  have := h100407.2.2.1
  have := h100407.2.2.2.1
  refine wq_X7_wide h100407 (fun r_1 q100409 => ?_)
  refine ⟨fun c100410 => ?_, fun c100411 => ?_⟩
  · replace c100410 := q_lt c100410
    have p100412 : (0 : Int32).toInt = 0 ∨ ((0 : Int32).toInt = 1 ∧ (x1).toInt ≤ W) := by (have := li_0; omega)
    exact k _ p100412
  · replace c100411 := q_nlt c100411
    have p100413 : 0 ≤ ((0 : Int32)).toInt ∧ 0 ≤ (x1).toInt ∧ ((0 : Int32)).toInt + (x1).toInt ≤ 400 := by (have := li_0; omega)
    refine wq_X7_areSigns p100413 (fun r_4 q100414 => ?_)
    refine ⟨fun c100415 => ?_, fun c100416 => ?_⟩
    · replace c100415 := q_eq c100415
      rw [li_0] at c100415
      have p100417 : (0 : Int32).toInt = 0 ∨ ((0 : Int32).toInt = 1 ∧ (x1).toInt ≤ W) := by (have := li_0; omega)
      exact k _ p100417
    · replace c100416 := q_neq c100416
      rw [li_0] at c100416
      have p100418 : (1 : Int32).toInt = 0 ∨ ((1 : Int32).toInt = 1 ∧ (x1).toInt ≤ W) := by (have := li_1; omega)
      exact k _ p100418
theorem wq_X7_row {post : Int32 → Md → Prop} {s0 : Md} {x1 : Int32} {N R W D : Int} (h100419 : mb (N) (R) (W) (D) s0) (h100420 : R ≤ 0 ∨ 0 < D) (k : ∀ (r : Int32) (u : Md), mb ((0 : Int)) (R) (W) (D) u → post r u) : wp_X7_row post s0 x1 := by
  unfold wp_X7_row
  have := h100419.1
  have := h100419.2.1
  have := h100419.2.2.1
  have := h100419.2.2.2.1
  have p100421 : (0 : Int32).toInt = (0 : Int) := by (have := li_0; omega)
  have p100422 : 0 ≤ (s0.1 0).toInt ∧ (s0.1 0).toInt ≤ 10 := by omega
  have p100423 : 0 ≤ (0 : Int) ∧ (0 : Int) ≤ 400 := by omega
  have p100424 : 0 ≤ R ∧ R ≤ 6 ∧ 0 ≤ W ∧ W ≤ 10 ∧ 0 ≤ R * W ∧ R * W ≤ 40 ∧ 0 ≤ D ∧ D ≤ 4 ∧ (D ≤ 0 ∨ 1 ≤ R) ∧ (1 ≤ R ∨ R * W = 0) := by omega
  have B100425 : mb ((0 : Int)) (R) (W) (D) ((va_up s0.1 5 0), s0.2.1, s0.2.2.1, s0.2.2.2) := ⟨p100421, p100422, p100423, p100424, h100419.2.2.2.2.1, h100419.2.2.2.2.2.1, h100419.2.2.2.2.2.2.1, h100419.2.2.2.2.2.2.2⟩
  refine wq_X7_isRow B100425 (fun r_1 q100426 => ?_)
  replace q100426 : ((r_1).toInt = 1 ∧ 0 ≤ (x1).toInt ∧ (x1).toInt < R) ∨ ((r_1).toInt = 0 ∧ ((x1).toInt < 0 ∨ R ≤ (x1).toInt)) := q100426
  refine ⟨fun c100427 => ?_, fun c100428 => ?_⟩
  · replace c100427 := q_neq c100427
    rw [li_0] at c100427
    have p100429 : 0 ≤ (s0.1 5).toInt ∧ (s0.1 5).toInt ≤ 400 := by omega
    refine wq_X7_isRowText B100425 p100429 (fun r_4 q100430 => ?_)
    replace q100430 : (r_4).toInt = 0 ∨ ((r_4).toInt = 1 ∧ (s0.1 5).toInt ≤ W) := q100430
    refine ⟨fun c100431 => ?_, fun c100432 => ?_⟩
    · replace c100431 := q_neq c100431
      rw [li_0] at c100431
      have p100433 : R ≤ 0 ∨ 0 < D := by omega
      refine wq_X7_keepsAct B100425 p100433 (fun u_8 q100434 q100435 q100436 => ?_)
      have := q100434.1
      have := q100434.2.1
      have := q100434.2.2.1
      have p100437 : 0 < D := by omega
      have p100438 : 0 ≤ (x1).toInt ∧ (x1).toInt < R := by omega
      have p100439 : 0 ≤ ((0 : Int32)).toInt ∧ 0 ≤ (s0.1 5).toInt ∧ ((0 : Int32)).toInt + (s0.1 5).toInt ≤ 400 := by (have := li_0; omega)
      refine wq_X7_wantsSigns q100434 p100437 p100438 p100439 (fun r_9 u_10 q100440 q100441 => ?_)
      have := q100440.1
      have := q100440.2.1
      exact k _ _ q100440
    · replace c100432 := q_eq c100432
      rw [li_0] at c100432
      exact k _ _ B100425
  · replace c100428 := q_eq c100428
    rw [li_0] at c100428
    exact k _ _ B100425
theorem wq_X7_scroll {post : Int32 → Md → Prop} {s0 : Md} {N R W D : Int} (h100442 : mb (N) (R) (W) (D) s0) (h100443 : R ≤ 0 ∨ 0 < D) (k : ∀ (r : Int32) (u : Md), mb ((0 : Int)) (R) (W) (D) u → post r u) : wp_X7_scroll post s0 := by
  unfold wp_X7_scroll
  have := h100442.1
  have := h100442.2.1
  have := h100442.2.2.1
  have := h100442.2.2.2.1
  have p100444 : (0 : Int32).toInt = (0 : Int) := by (have := li_0; omega)
  have p100445 : 0 ≤ (s0.1 0).toInt ∧ (s0.1 0).toInt ≤ 10 := by omega
  have p100446 : 0 ≤ (0 : Int) ∧ (0 : Int) ≤ 400 := by omega
  have p100447 : 0 ≤ R ∧ R ≤ 6 ∧ 0 ≤ W ∧ W ≤ 10 ∧ 0 ≤ R * W ∧ R * W ≤ 40 ∧ 0 ≤ D ∧ D ≤ 4 ∧ (D ≤ 0 ∨ 1 ≤ R) ∧ (1 ≤ R ∨ R * W = 0) := by omega
  have B100448 : mb ((0 : Int)) (R) (W) (D) ((va_up s0.1 5 0), s0.2.1, s0.2.2.1, s0.2.2.2) := ⟨p100444, p100445, p100446, p100447, h100442.2.2.2.2.1, h100442.2.2.2.2.2.1, h100442.2.2.2.2.2.2.1, h100442.2.2.2.2.2.2.2⟩
  refine wq_X7_isBoard B100448 (fun r_1 q100449 => ?_)
  replace q100449 : ((r_1).toInt = 1 ∧ 0 < D) ∨ ((r_1).toInt = 0 ∧ D ≤ 0) := q100449
  refine ⟨fun c100450 => ?_, fun c100451 => ?_⟩
  · replace c100450 := q_neq c100450
    rw [li_0] at c100450
    have p100452 : 0 ≤ (s0.1 5).toInt ∧ (s0.1 5).toInt ≤ 400 := by omega
    refine wq_X7_isRowText B100448 p100452 (fun r_4 q100453 => ?_)
    replace q100453 : (r_4).toInt = 0 ∨ ((r_4).toInt = 1 ∧ (s0.1 5).toInt ≤ W) := q100453
    refine ⟨fun c100454 => ?_, fun c100455 => ?_⟩
    · replace c100454 := q_neq c100454
      rw [li_0] at c100454
      have p100456 : R ≤ 0 ∨ 0 < D := by omega
      refine wq_X7_keepsAct B100448 p100456 (fun u_8 q100457 q100458 q100459 => ?_)
      have := q100457.1
      have := q100457.2.1
      have := q100457.2.2.1
      have p100460 : 0 < D := by omega
      have p100461 : 0 ≤ ((0 : Int32)).toInt ∧ 0 ≤ (s0.1 5).toInt ∧ ((0 : Int32)).toInt + (s0.1 5).toInt ≤ 400 := by (have := li_0; omega)
      refine wq_X7_scrolls q100457 p100460 p100461 (fun r_9 u_10 q100462 q100463 => ?_)
      have := q100462.1
      have := q100462.2.1
      exact k _ _ q100462
    · replace c100455 := q_eq c100455
      rw [li_0] at c100455
      exact k _ _ B100448
  · replace c100451 := q_eq c100451
    rw [li_0] at c100451
    exact k _ _ B100448
theorem wq_X7_tick_L29 {post : Int32 → Md → Prop} {e47 : Md → Int32 → Int32 → Int32 → Prop} {D N R W : Int} (h100464 : 0 < D) (ke47 : ∀ (t0 : Md) (z1 : Int32) (z2 : Int32) (z3 : Int32), mb (N) (R) (W) (D) t0 → 0 ≤ (z3).toInt ∧ (z3).toInt ≤ (z1).toInt ∧ (z1).toInt ≤ 99 → e47 t0 z1 z2 z3) : ∀ (n : Nat) (t0 : Md) (z1 : Int32) (z2 : Int32) (z3 : Int32), mb (N) (R) (W) (D) t0 → 0 ≤ (z3).toInt ∧ (z3).toInt ≤ (z1).toInt ∧ (z1).toInt ≤ 99 → (z1).toInt - (z3).toInt < (n : Int) → wp_X7_tick_L29 post e47 n t0 z1 z2 z3 := by
  intro n
  induction n with
  | zero =>
    intro t0 z1 z2 z3 i100465 i100466 i100467
    have := i100465.1
    have := i100465.2.1
    have := i100465.2.2.1
    have := i100465.2.2.2.1
    exfalso
    omega
  | succ n ih =>
    intro t0 z1 z2 z3 i100465 i100466 i100467
    unfold wp_X7_tick_L29
    have := i100465.1
    have := i100465.2.1
    have := i100465.2.2.1
    have := i100465.2.2.2.1
    refine ⟨fun c100468 => ?_, fun c100469 => ?_⟩
    · replace c100468 := q_le c100468
      have p100470 : 0 ≤ (z3).toInt ∧ (z3).toInt ≤ (z1).toInt ∧ (z1).toInt ≤ 99 := by omega
      exact ke47 _ _ _ _ i100465 p100470
    · replace c100469 := q_nle c100469
      have p100471 : 0 < D := by omega
      refine wq_X7_ticks i100465 p100471 (fun r_10 u_11 q100472 q100473 q100474 q100475 => ?_)
      have := q100472.1
      have := q100472.2.1
      have e100476 := tq_addr li_1 z3
      try rw [Int.emod_eq_of_lt (show 0 ≤ (z3).toInt + 1 + 2147483648 by omega) (show (z3).toInt + 1 + 2147483648 < 4294967296 by omega)] at e100476
      have p100477 : 0 ≤ (z3 + 1).toInt ∧ (z3 + 1).toInt ≤ (z1).toInt ∧ (z1).toInt ≤ 99 := by omega
      have p100478 : (z1).toInt - (z3 + 1).toInt < ((n : Nat) : Int) := by (omega)
      exact ih _ _ _ _ q100472 p100477 p100478
theorem wq_X7_tick {post : Int32 → Md → Prop} {s0 : Md} {x1 : Int32} {N R W D : Int} (h100479 : mb (N) (R) (W) (D) s0) (h100480 : R ≤ 0 ∨ 0 < D) (k : ∀ (r : Int32) (u : Md), mb (N) (R) (W) (D) u → post r u) : wp_X7_tick post s0 x1 := by
  unfold wp_X7_tick
  have := h100479.1
  have := h100479.2.1
  have := h100479.2.2.1
  have := h100479.2.2.2.1
  refine wq_X7_isBoard h100479 (fun r_1 q100481 => ?_)
  refine ⟨fun c100482 => ?_, fun c100483 => ?_⟩
  · replace c100482 := q_eq c100482
    rw [li_0] at c100482
    exact k _ _ h100479
  · replace c100483 := q_neq c100483
    rw [li_0] at c100483
    refine wq_X7_in (fun r_4 q100484 => ?_)
    try simp only [lj_1, lj_99] at q100484
    have := tq_64 x1
    refine ⟨fun c100485 => ?_, fun c100486 => ?_⟩
    · replace c100485 := q_neq c100485
      rw [li_0] at c100485
      have p100487 : R ≤ 0 ∨ 0 < D := by omega
      refine wq_X7_keepsAct h100479 p100487 (fun u_8 q100488 q100489 q100490 => ?_)
      have := q100488.1
      have := q100488.2.1
      have p100491 : 0 < D := by omega
      have p100492 : 0 ≤ (0 : Int32).toInt ∧ (0 : Int32).toInt ≤ (x1).toInt ∧ (x1).toInt ≤ 99 := by (have := li_0; omega)
      obtain ⟨f100493, g100494⟩ := fu_e 200
      have p100495 : (x1).toInt - (0 : Int32).toInt < (f100493 : Int) := by (have := li_0; omega)
      refine ⟨f100493, wq_X7_tick_L29 p100491 (fun t0 z1 z2 z3 q100496 q100497 => ?_) f100493 _ _ _ _ q100488 p100492 p100495⟩
      have := q100496.1
      have := q100496.2.1
      exact k _ _ q100496
    · replace c100486 := q_eq c100486
      rw [li_0] at c100486
      exact k _ _ h100479
theorem wq_X7_settle {post : Int32 → Md → Prop} {s0 : Md} {N R W D : Int} (h100498 : mb (N) (R) (W) (D) s0) (h100499 : R ≤ 0 ∨ 0 < D) (k : ∀ (r : Int32) (u : Md), mb (N) (R) (W) (D) u → post r u) : wp_X7_settle post s0 := by
  unfold wp_X7_settle
  have := h100498.1
  have := h100498.2.1
  have := h100498.2.2.1
  have := h100498.2.2.2.1
  refine wq_X7_isBoard h100498 (fun r_1 q100500 => ?_)
  refine ⟨fun c100501 => ?_, fun c100502 => ?_⟩
  · replace c100501 := q_neq c100501
    rw [li_0] at c100501
    have p100503 : 0 < D := by omega
    refine wq_X7_findsTurningB h100498 p100503 (fun u_5 q100504 q100505 q100506 => ?_)
    have := q100504.1
    have := q100504.2.1
    refine ⟨fun c100507 => ?_, fun c100508 => ?_⟩
    · replace c100507 := q_neq c100507
      rw [li_0] at c100507
      have p100509 : R ≤ 0 ∨ 0 < D := by omega
      refine wq_X7_keepsAct q100504 p100509 (fun u_8 q100510 q100511 q100512 => ?_)
      have := q100510.1
      have := q100510.2.1
      have p100513 : 0 < D := by omega
      refine wq_X7_settles q100510 p100513 (fun r_9 u_10 q100514 q100515 => ?_)
      have := q100514.1
      have := q100514.2.1
      exact k _ _ q100514
    · replace c100508 := q_eq c100508
      rw [li_0] at c100508
      exact k _ _ q100504
  · replace c100502 := q_eq c100502
    rw [li_0] at c100502
    exact k _ _ h100498
theorem wq_X7_lose {post : Int32 → Md → Prop} {s0 : Md} {x1 : Int32} {x2 : Int32} {N R W D : Int} (h100516 : mb (N) (R) (W) (D) s0) (h100517 : R ≤ 0 ∨ 0 < D) (k : ∀ (r : Int32) (u : Md), mb (N) (R) (W) (D) u → post r u) : wp_X7_lose post s0 x1 x2 := by
  unfold wp_X7_lose
  have := h100516.1
  have := h100516.2.1
  have := h100516.2.2.1
  have := h100516.2.2.2.1
  refine wq_X7_isCell h100516 (fun r_1 q100518 => ?_)
  refine ⟨fun c100519 => ?_, fun c100520 => ?_⟩
  · replace c100519 := q_eq c100519
    rw [li_0] at c100519
    exact k _ _ h100516
  · replace c100520 := q_neq c100520
    rw [li_0] at c100520
    refine wq_X7_in (fun r_4 q100521 => ?_)
    try simp only [lj_0, lj_9] at q100521
    have := tq_64 x2
    refine ⟨fun c100522 => ?_, fun c100523 => ?_⟩
    · replace c100522 := q_neq c100522
      rw [li_0] at c100522
      have p100524 : 0 ≤ (x1).toInt ∧ (x1).toInt < 40 := by omega
      refine wq_X7_of_4 h100516 p100524 (fun r_7 q100525 q100526 => ?_)
      refine ⟨fun c100527 => ?_, fun c100528 => ?_⟩
      · replace c100527 := q_neq c100527
        have p100529 : R ≤ 0 ∨ 0 < D := by omega
        refine wq_X7_keepsAct h100516 p100529 (fun u_11 q100530 q100531 q100532 => ?_)
        have := q100530.1
        have := q100530.2.1
        have p100533 : 0 ≤ (x1).toInt ∧ (x1).toInt < 40 := by omega
        have p100534 : 0 ≤ (Int32.toInt64 x2).toInt ∧ (Int32.toInt64 x2).toInt ≤ 9 := by omega
        refine wq_X7_sets_4 q100530 p100533 p100534 (fun u_13 q100535 q100536 q100537 => ?_)
        have := q100535.1
        have := q100535.2.1
        exact k _ _ q100535
      · replace c100528 := q_eq c100528
        exact k _ _ h100516
    · replace c100523 := q_eq c100523
      rw [li_0] at c100523
      exact k _ _ h100516
theorem wq_X7_isFlap {post : Int32 → Prop} {s0 : Md} {x1 : Int32} {x2 : Int32} {N R W D : Int} (h100538 : mb (N) (R) (W) (D) s0) (h100539 : R ≤ 0 ∨ 0 < D) (k : ∀ (r : Int32), (r).toInt = 0 ∨ ((r).toInt = 1 ∧ 0 < D ∧ 0 ≤ (x1).toInt ∧ (x1).toInt < R * W ∧ 1 ≤ (x2).toInt ∧ (x2).toInt ≤ 39 ∧ (x2).toInt < fl_c ((s0.2.2.1 0)) x1) → post r) : wp_X7_isFlap post s0 x1 x2 := by
  unfold wp_X7_isFlap
  have := h100538.1
  have := h100538.2.1
  have := h100538.2.2.1
  have := h100538.2.2.2.1
  refine wq_X7_isCell h100538 (fun r_1 q100540 => ?_)
  refine ⟨fun c100541 => ?_, fun c100542 => ?_⟩
  · replace c100541 := q_eq c100541
    rw [li_0] at c100541
    try have := rw_k h100538.2.2.2.2.1 (show 0 ≤ (x1).toInt ∧ (x1).toInt < 40 by omega)
    have p100543 : (0 : Int32).toInt = 0 ∨ ((0 : Int32).toInt = 1 ∧ 0 < D ∧ 0 ≤ (x1).toInt ∧ (x1).toInt < R * W ∧ 1 ≤ (x2).toInt ∧ (x2).toInt ≤ 39 ∧ (x2).toInt < fl_c ((s0.2.2.1 0)) x1) := by (have := li_0; omega)
    exact k _ p100543
  · replace c100542 := q_neq c100542
    rw [li_0] at c100542
    have p100544 : 0 ≤ (x1).toInt ∧ (x1).toInt < 40 := by omega
    refine wq_X7_flaps h100538 p100544 (fun r_4 q100545 => ?_)
    refine wq_X7_in (fun r_6 q100546 => ?_)
    try simp only [lj_1] at q100546
    have := tq_64 x2
    have e100547 := tq_subr li_1 r_4
    try rw [Int.emod_eq_of_lt (show 0 ≤ (r_4).toInt - 1 + 2147483648 by omega) (show (r_4).toInt - 1 + 2147483648 < 4294967296 by omega)] at e100547
    have := tq_64 (r_4 - 1)
    refine ⟨fun c100548 => ?_, fun c100549 => ?_⟩
    · replace c100548 := q_eq c100548
      rw [li_0] at c100548
      try have := rw_k h100538.2.2.2.2.1 (show 0 ≤ (x1).toInt ∧ (x1).toInt < 40 by omega)
      have p100550 : (0 : Int32).toInt = 0 ∨ ((0 : Int32).toInt = 1 ∧ 0 < D ∧ 0 ≤ (x1).toInt ∧ (x1).toInt < R * W ∧ 1 ≤ (x2).toInt ∧ (x2).toInt ≤ 39 ∧ (x2).toInt < fl_c ((s0.2.2.1 0)) x1) := by (have := li_0; omega)
      exact k _ p100550
    · replace c100549 := q_neq c100549
      rw [li_0] at c100549
      try have := rw_k h100538.2.2.2.2.1 (show 0 ≤ (x1).toInt ∧ (x1).toInt < 40 by omega)
      have p100551 : (1 : Int32).toInt = 0 ∨ ((1 : Int32).toInt = 1 ∧ 0 < D ∧ 0 ≤ (x1).toInt ∧ (x1).toInt < R * W ∧ 1 ≤ (x2).toInt ∧ (x2).toInt ≤ 39 ∧ (x2).toInt < fl_c ((s0.2.2.1 0)) x1) := by (have := li_1; omega)
      exact k _ p100551
theorem wq_X7_wears {post : Md → Prop} {s0 : Md} {x1 : Int32} {x2 : Int32} {N R W D : Int} (h100552 : mb (N) (R) (W) (D) s0) (h100553 : 0 ≤ (x1).toInt ∧ (x1).toInt < 40) (h100554 : 0 < D) (k : ∀ (u : Md), mb (N) (R) (W) (D) u → ie [] u.1 s0.1 → post u) : wp_X7_wears post s0 x1 x2 := by
  unfold wp_X7_wears
  have := h100552.1
  have := h100552.2.1
  have := h100552.2.2.1
  have := h100552.2.2.2.1
  have p100555 : 0 ≤ (x1).toInt ∧ (x1).toInt < 40 := by omega
  refine wq_X7_wornOf p100555 (fun r_1 => ?_)
  have p100556 : 0 ≤ (x1).toInt ∧ (x1).toInt < 40 := by omega
  refine wq_X7_sets_7 h100552 p100556 (fun u_4 q100557 q100558 q100559 => ?_)
  have := q100557.1
  have := q100557.2.1
  have p100560 : 0 ≤ (x1).toInt ∧ (x1).toInt < 40 := by omega
  refine wq_X7_of_3 q100557 p100560 (fun r_5 q100561 q100562 => ?_)
  refine ⟨fun c100563 => ?_, fun c100564 => ?_⟩
  · replace c100563 := q_neq c100563
    have p100565 : ie [] u_4.1 s0.1 := (ie_tr q100558 (by decide) (ie_refl _ _))
    exact k _ q100557 p100565
  · replace c100564 := q_eq c100564
    have p100566 : 0 ≤ (x1).toInt ∧ (x1).toInt < 40 := by omega
    try have := rw_k q100557.2.2.2.2.1 (show 0 ≤ (x1).toInt ∧ (x1).toInt < 40 by omega)
    have p100567 : 0 ≤ ((0 : Int64)).toInt ∧ ((D ≤ 0 ∧ ((0 : Int64)).toInt = 0) ∨ (0 < D ∧ ((0 : Int64)).toInt < fl_c ((u_4.2.2.1 0)) x1)) := by (have := lj_0; omega)
    refine wq_X7_sets_3 q100557 p100566 p100567 (fun u_9 q100568 q100569 q100570 => ?_)
    have := q100568.1
    have := q100568.2.1
    have p100571 : ie [] u_9.1 s0.1 := (ie_tr q100569 (by decide) (ie_tr q100558 (by decide) (ie_refl _ _)))
    exact k _ q100568 p100571
theorem wq_X7_wear {post : Int32 → Md → Prop} {s0 : Md} {x1 : Int32} {x2 : Int32} {N R W D : Int} (h100572 : mb (N) (R) (W) (D) s0) (h100573 : R ≤ 0 ∨ 0 < D) (k : ∀ (r : Int32) (u : Md), mb (N) (R) (W) (D) u → post r u) : wp_X7_wear post s0 x1 x2 := by
  unfold wp_X7_wear
  have := h100572.1
  have := h100572.2.1
  have := h100572.2.2.1
  have := h100572.2.2.2.1
  have p100574 : R ≤ 0 ∨ 0 < D := by omega
  refine wq_X7_isFlap h100572 p100574 (fun r_1 q100575 => ?_)
  refine ⟨fun c100576 => ?_, fun c100577 => ?_⟩
  · replace c100576 := q_neq c100576
    rw [li_0] at c100576
    have p100578 : 0 ≤ (x1).toInt ∧ (x1).toInt < 40 := by omega
    refine wq_X7_wornOf p100578 (fun r_4 => ?_)
    refine wq_X7_isIn (fun r_6 q100579 => ?_)
    refine ⟨fun c100580 => ?_, fun c100581 => ?_⟩
    · replace c100580 := q_eq c100580
      rw [li_0] at c100580
      have p100582 : R ≤ 0 ∨ 0 < D := by omega
      refine wq_X7_keepsAct h100572 p100582 (fun u_10 q100583 q100584 q100585 => ?_)
      have := q100583.1
      have := q100583.2.1
      have p100586 : 0 ≤ (x1).toInt ∧ (x1).toInt < 40 := by omega
      have p100587 : 0 < D := by omega
      refine wq_X7_wears q100583 p100586 p100587 (fun u_12 q100588 q100589 => ?_)
      have := q100588.1
      have := q100588.2.1
      have p100590 : 0 ≤ (x1).toInt ∧ (x1).toInt < 40 := by omega
      refine wq_X7_wornOf p100590 (fun r_13 => ?_)
      refine wq_X7_bits (fun r_15 => ?_)
      exact k _ _ q100588
    · replace c100581 := q_neq c100581
      rw [li_0] at c100581
      exact k _ _ h100572
  · replace c100577 := q_eq c100577
    rw [li_0] at c100577
    exact k _ _ h100572
