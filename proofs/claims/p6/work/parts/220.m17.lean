theorem wq_X6_total {post : Int32 → Prop} {s2 : Bd} {x1 : Int32} {R W : Int} (h3407 : bi (R) (W) s2) (k : ∀ (r : Int32), post r) : wp_X6_total post s2 x1 := by
  unfold wp_X6_total
  have := h3407.1
  have := h3407.2.1
  have := h3407.2.2.1
  have := h3407.2.2.2.1
  have := h3407.2.2.2.2.2.2.2.2.2
  refine wq_X0_isThere h3407 (fun r_1 q3408 => ?_)
  refine ⟨fun c3409 => ?_, fun c3410 => ?_⟩
  · replace c3409 := q_neq c3409
    rw [li_0] at c3409
    refine ⟨fun c3411 => ?_, fun c3412 => ?_⟩
    · replace c3411 := q_eq c3411
      rw [li_0] at c3411
      exact k _
    · replace c3412 := q_neq c3412
      rw [li_0] at c3412
      refine ⟨fun c3413 => ?_, fun c3414 => ?_⟩
      · replace c3413 := q_eq c3413
        rw [li_1] at c3413
        exact k _
      · replace c3414 := q_neq c3414
        rw [li_1] at c3414
        refine ⟨fun c3415 => ?_, fun c3416 => ?_⟩
        · replace c3415 := q_eq c3415
          rw [li_2] at c3415
          refine wq_X0_sumOf_8 h3407 (fun r_7 => ?_)
          exact k _
        · replace c3416 := q_neq c3416
          rw [li_2] at c3416
          refine ⟨fun c3417 => ?_, fun c3418 => ?_⟩
          · replace c3417 := q_eq c3417
            rw [li_3] at c3417
            refine wq_X0_sumOf_9 h3407 (fun r_10 => ?_)
            exact k _
          · replace c3418 := q_neq c3418
            rw [li_3] at c3418
            exact k _
  · replace c3410 := q_eq c3410
    rw [li_0] at c3410
    exact k _
theorem wq_X6_log {post : Int32 → Prop} {s2 : Bd} {x1 : Int32} {x2 : Int32} {R W : Int} (h3419 : bi (R) (W) s2) (k : ∀ (r : Int32), post r) : wp_X6_log post s2 x1 x2 := by
  unfold wp_X6_log
  have := h3419.1
  have := h3419.2.1
  have := h3419.2.2.1
  have := h3419.2.2.2.1
  have := h3419.2.2.2.2.2.2.2.2.2
  refine wq_X0_hasDrum h3419 (fun r_1 q3420 => ?_)
  refine ⟨fun c3421 => ?_, fun c3422 => ?_⟩
  · replace c3421 := q_neq c3421
    rw [li_0] at c3421
    refine ⟨fun c3423 => ?_, fun c3424 => ?_⟩
    · replace c3423 := q_eq c3423
      rw [li_0] at c3423
      refine wq_X0_journey h3419 (fun r_5 => ?_)
      exact k _
    · replace c3424 := q_neq c3424
      rw [li_0] at c3424
      refine ⟨fun c3425 => ?_, fun c3426 => ?_⟩
      · replace c3425 := q_eq c3425
        rw [li_1] at c3425
        refine wq_X0_logSize h3419 (fun r_8 => ?_)
        exact k _
      · replace c3426 := q_neq c3426
        rw [li_1] at c3426
        refine ⟨fun c3427 => ?_, fun c3428 => ?_⟩
        · replace c3427 := q_eq c3427
          rw [li_2] at c3427
          refine wq_X0_unlikeEntries h3419 (fun r_11 => ?_)
          exact k _
        · replace c3428 := q_neq c3428
          rw [li_2] at c3428
          exact k _
  · replace c3422 := q_eq c3422
    rw [li_0] at c3422
    exact k _
theorem wq_X6_often {post : Int32 → Prop} {s2 : Bd} {x1 : Int32} {x2 : Int32} {x3 : Int32} {R W : Int} (h3429 : bi (R) (W) s2) (k : ∀ (r : Int32), post r) : wp_X6_often post s2 x1 x2 x3 := by
  unfold wp_X6_often
  have := h3429.1
  have := h3429.2.1
  have := h3429.2.2.1
  have := h3429.2.2.2.1
  have := h3429.2.2.2.2.2.2.2.2.2
  refine wq_X0_hasDrum h3429 (fun r_1 q3430 => ?_)
  refine ⟨fun c3431 => ?_, fun c3432 => ?_⟩
  · replace c3431 := q_eq c3431
    rw [li_0] at c3431
    exact k _
  · replace c3432 := q_neq c3432
    rw [li_0] at c3432
    refine ⟨fun c3433 => ?_, fun c3434 => ?_⟩
    · replace c3433 := q_lt c3433
      rw [li_0] at c3433
      exact k _
    · replace c3434 := q_nlt c3434
      rw [li_0] at c3434
      refine wq_X0_flapsOn h3429 (fun r_5 q3435 q3436 => ?_)
      refine ⟨fun c3437 => ?_, fun c3438 => ?_⟩
      · replace c3437 := q_lt c3437
        refine wq_X0_entriesOf h3429 (fun r_8 => ?_)
        exact k _
      · replace c3438 := q_nlt c3438
        exact k _
theorem wq_X6_digest_L6 {s2 : Bd} {post : Int64 → Prop} {e124 : Int64 → Int32 → Prop} {R W : Int} (h3439 : bi (R) (W) s2) (ke124 : ∀ (w1 : Int64) (z3 : Int32), 0 ≤ (z3).toInt ∧ (z3).toInt ≤ R * W → e124 w1 z3) : ∀ (n : Nat) (w1 : Int64) (z3 : Int32), 0 ≤ (z3).toInt ∧ (z3).toInt ≤ R * W → R * W - (z3).toInt < (n : Int) → wp_X6_digest_L6 s2 post e124 n w1 z3 := by
  have := h3439.1
  have := h3439.2.1
  have := h3439.2.2.1
  have := h3439.2.2.2.1
  have := h3439.2.2.2.2.2.2.2.2.2
  intro n
  induction n with
  | zero =>
    intro w1 z3 i3440 i3441
    exfalso
    omega
  | succ n ih =>
    intro w1 z3 i3440 i3441
    unfold wp_X6_digest_L6
    refine wq_X0_cells h3439 (fun r_1 q3442 => ?_)
    refine ⟨fun c3443 => ?_, fun c3444 => ?_⟩
    · replace c3443 := q_le c3443
      have p3445 : 0 ≤ (z3).toInt ∧ (z3).toInt ≤ R * W := by omega
      exact ke124 _ _ p3445
    · replace c3444 := q_nle c3444
      have v3446 : vp_in z3 40 := vi (by omega) (by omega)
      refine ⟨v3446, ?_⟩
      refine ⟨v3446, ?_⟩
      refine ⟨v3446, ?_⟩
      refine ⟨v3446, ?_⟩
      refine ⟨v3446, ?_⟩
      refine ⟨v3446, ?_⟩
      have e3447 := tq_addr li_1 z3
      try rw [Int.emod_eq_of_lt (show 0 ≤ (z3).toInt + 1 + 2147483648 by omega) (show (z3).toInt + 1 + 2147483648 < 4294967296 by omega)] at e3447
      have p3448 : 0 ≤ (z3 + 1).toInt ∧ (z3 + 1).toInt ≤ R * W := by omega
      have p3449 : R * W - (z3 + 1).toInt < ((n : Nat) : Int) := by (omega)
      exact ih _ _ p3448 p3449
theorem wq_X6_digest {post : Int64 → Prop} {s2 : Bd} {R W : Int} (h3450 : bi (R) (W) s2) (k : ∀ (r : Int64), post r) : wp_X6_digest post s2 := by
  unfold wp_X6_digest
  have := h3450.1
  have := h3450.2.1
  have := h3450.2.2.1
  have := h3450.2.2.2.1
  have := h3450.2.2.2.2.2.2.2.2.2
  have p3451 : 0 ≤ (0 : Int32).toInt ∧ (0 : Int32).toInt ≤ R * W := by (have := li_0; omega)
  obtain ⟨f3452, g3453⟩ := fu_e 50
  have p3454 : R * W - (0 : Int32).toInt < (f3452 : Int) := by (have := li_0; omega)
  refine ⟨f3452, wq_X6_digest_L6 h3450 (fun w1 z3 q3455 => ?_) f3452 _ _ p3451 p3454⟩
  exact k _
theorem wq_X6_lacks {post : Int32 → Prop} {s2 : Bd} {x1 : Int32} {x2 : Int32} {R W : Int} (h3456 : bi (R) (W) s2) (k : ∀ (r : Int32), post r) : wp_X6_lacks post s2 x1 x2 := by
  unfold wp_X6_lacks
  have := h3456.1
  have := h3456.2.1
  have := h3456.2.2.1
  have := h3456.2.2.2.1
  have := h3456.2.2.2.2.2.2.2.2.2
  refine wq_X0_hasCell h3456 (fun r_1 q3457 => ?_)
  refine ⟨fun c3458 => ?_, fun c3459 => ?_⟩
  · replace c3458 := q_eq c3458
    rw [li_0] at c3458
    exact k _
  · replace c3459 := q_neq c3459
    rw [li_0] at c3459
    refine ⟨fun c3460 => ?_, fun c3461 => ?_⟩
    · replace c3460 := q_lt c3460
      rw [li_0] at c3460
      exact k _
    · replace c3461 := q_nlt c3461
      rw [li_0] at c3461
      refine ⟨fun c3462 => ?_, fun c3463 => ?_⟩
      · replace c3462 := q_le c3462
        rw [li_1] at c3462
        refine ⟨fun c3464 => ?_, fun c3465 => ?_⟩
        · replace c3464 := q_neq c3464
          rw [li_0] at c3464
          have v3466 : vp_in x1 40 := vi (by omega) (by omega)
          refine ⟨v3466, ?_⟩
          refine wq_X0_signsOfOthers h3456 (fun r_8 => ?_)
          exact k _
        · replace c3465 := q_eq c3465
          rw [li_0] at c3465
          have p3467 : 0 ≤ (x1).toInt ∧ (x1).toInt < 40 := by omega
          refine wq_X0_missedOfOwn h3456 p3467 (fun r_10 => ?_)
          exact k _
      · replace c3463 := q_nle c3463
        rw [li_1] at c3463
        exact k _
theorem wq_X6_isSuch {post : Int32 → Prop} {s2 : Bd} {x1 : Int32} {x2 : Int32} {R W : Int} (h3468 : bi (R) (W) s2) (h3469 : 0 ≤ (x1).toInt ∧ (x1).toInt < 40) (k : ∀ (r : Int32), (r).toInt = 0 ∨ (r).toInt = 1 → post r) : wp_X6_isSuch post s2 x1 x2 := by
  unfold wp_X6_isSuch
  have := h3468.1
  have := h3468.2.1
  have := h3468.2.2.1
  have := h3468.2.2.2.1
  have := h3468.2.2.2.2.2.2.2.2.2
  refine ⟨fun c3470 => ?_, fun c3471 => ?_⟩
  · replace c3470 := q_eq c3470
    rw [li_0] at c3470
    have p3472 : 0 ≤ (x1).toInt ∧ (x1).toInt < 40 := by omega
    refine wq_X0_leftOf h3468 p3472 (fun r_2 => ?_)
    refine ⟨fun c3473 => ?_, fun c3474 => ?_⟩
    · replace c3473 := q_le c3473
      rw [li_0] at c3473
      have p3475 : (0 : Int32).toInt = 0 ∨ (0 : Int32).toInt = 1 := by (have := li_0; omega)
      exact k _ p3475
    · replace c3474 := q_nle c3474
      rw [li_0] at c3474
      have p3476 : (1 : Int32).toInt = 0 ∨ (1 : Int32).toInt = 1 := by (have := li_1; omega)
      exact k _ p3476
  · replace c3471 := q_neq c3471
    rw [li_0] at c3471
    refine ⟨fun c3477 => ?_, fun c3478 => ?_⟩
    · replace c3477 := q_eq c3477
      rw [li_1] at c3477
      have v3479 : vp_in x1 40 := vi (by omega) (by omega)
      refine ⟨v3479, ?_⟩
      refine ⟨v3479, ?_⟩
      refine ⟨fun c3480 => ?_, fun c3481 => ?_⟩
      · replace c3480 := q_eq c3480
        have := ar_at (h3468.2.2.2.2.2.2.1) v3479
        have := ar_at (h3468.2.2.2.2.2.2.2.1) v3479
        have p3482 : (0 : Int32).toInt = 0 ∨ (0 : Int32).toInt = 1 := by (have := li_0; omega)
        exact k _ p3482
      · replace c3481 := q_neq c3481
        have := ar_at (h3468.2.2.2.2.2.2.1) v3479
        have := ar_at (h3468.2.2.2.2.2.2.2.1) v3479
        have p3483 : (1 : Int32).toInt = 0 ∨ (1 : Int32).toInt = 1 := by (have := li_1; omega)
        exact k _ p3483
    · replace c3478 := q_neq c3478
      rw [li_1] at c3478
      refine ⟨fun c3484 => ?_, fun c3485 => ?_⟩
      · replace c3484 := q_eq c3484
        rw [li_2] at c3484
        have p3486 : 0 ≤ (x1).toInt ∧ (x1).toInt < 40 := by omega
        refine wq_X0_showsWrong h3468 p3486 (fun r_10 q3487 => ?_)
        refine ⟨(nb_b (by omega)), ?_⟩
        have p3488 : (r_10).toInt = 0 ∨ (r_10).toInt = 1 := by omega
        exact k _ p3488
      · replace c3485 := q_neq c3485
        rw [li_2] at c3485
        refine ⟨fun c3489 => ?_, fun c3490 => ?_⟩
        · replace c3489 := q_eq c3489
          rw [li_3] at c3489
          have p3491 : (0 : Int32).toInt = 0 ∨ (0 : Int32).toInt = 1 := by (have := li_0; omega)
          exact k _ p3491
        · replace c3490 := q_neq c3490
          rw [li_3] at c3490
          refine ⟨fun c3492 => ?_, fun c3493 => ?_⟩
          · replace c3492 := q_eq c3492
            rw [li_4] at c3492
            have p3494 : 0 ≤ (x1).toInt ∧ (x1).toInt < 40 := by omega
            refine wq_X0_currentOf h3468 p3494 (fun r_15 => ?_)
            refine ⟨fun c3495 => ?_, fun c3496 => ?_⟩
            · replace c3495 := q_le c3495
              have p3497 : (0 : Int32).toInt = 0 ∨ (0 : Int32).toInt = 1 := by (have := li_0; omega)
              exact k _ p3497
            · replace c3496 := q_nle c3496
              have p3498 : (1 : Int32).toInt = 0 ∨ (1 : Int32).toInt = 1 := by (have := li_1; omega)
              exact k _ p3498
          · replace c3493 := q_neq c3493
            rw [li_4] at c3493
            have p3499 : (0 : Int32).toInt = 0 ∨ (0 : Int32).toInt = 1 := by (have := li_0; omega)
            exact k _ p3499
theorem wq_X6_which_L52 {s2 : Bd} {post : Int64 → Mo → Prop} {e87 : Mo → Int32 → Int64 → Int32 → Prop} {R W : Int} (h3500 : bi (R) (W) s2) (ke87 : ∀ (t2 : Mo) (z1 : Int32) (w2 : Int64) (z4 : Int32), mo t2 → 0 ≤ (z4).toInt ∧ (z4).toInt ≤ R * W → e87 t2 z1 w2 z4) : ∀ (n : Nat) (t2 : Mo) (z1 : Int32) (w2 : Int64) (z4 : Int32), mo t2 → 0 ≤ (z4).toInt ∧ (z4).toInt ≤ R * W → R * W - (z4).toInt < (n : Int) → wp_X6_which_L52 s2 post e87 n t2 z1 w2 z4 := by
  have := h3500.1
  have := h3500.2.1
  have := h3500.2.2.1
  have := h3500.2.2.2.1
  have := h3500.2.2.2.2.2.2.2.2.2
  intro n
  induction n with
  | zero =>
    intro t2 z1 w2 z4 i3501 i3502 i3503
    have := i3501.1
    exfalso
    omega
  | succ n ih =>
    intro t2 z1 w2 z4 i3501 i3502 i3503
    unfold wp_X6_which_L52
    have := i3501.1
    refine wq_X0_cells h3500 (fun r_7 q3504 => ?_)
    refine ⟨fun c3505 => ?_, fun c3506 => ?_⟩
    · replace c3505 := q_le c3505
      have p3507 : 0 ≤ (z4).toInt ∧ (z4).toInt ≤ R * W := by omega
      exact ke87 _ _ _ _ i3501 p3507
    · replace c3506 := q_nle c3506
      have p3508 : 0 ≤ (z4).toInt ∧ (z4).toInt < 40 := by omega
      refine wq_X6_isSuch h3500 p3508 (fun r_10 q3509 => ?_)
      refine ⟨fun c3510 => ?_, fun c3511 => ?_⟩
      · replace c3510 := q_eq c3510
        rw [li_0] at c3510
        have e3512 := tq_addr li_1 z4
        try rw [Int.emod_eq_of_lt (show 0 ≤ (z4).toInt + 1 + 2147483648 by omega) (show (z4).toInt + 1 + 2147483648 < 4294967296 by omega)] at e3512
        have p3513 : 0 ≤ (z4 + 1).toInt ∧ (z4 + 1).toInt ≤ R * W := by omega
        have p3514 : R * W - (z4 + 1).toInt < ((n : Nat) : Int) := by (omega)
        exact ih _ _ _ _ i3501 p3513 p3514
      · replace c3511 := q_neq c3511
        rw [li_0] at c3511
        have e3515 := tq_addr li_1 z4
        try rw [Int.emod_eq_of_lt (show 0 ≤ (z4).toInt + 1 + 2147483648 by omega) (show (z4).toInt + 1 + 2147483648 < 4294967296 by omega)] at e3515
        have p3516 : 0 ≤ (z4 + 1).toInt ∧ (z4 + 1).toInt ≤ R * W := by omega
        have p3517 : R * W - (z4 + 1).toInt < ((n : Nat) : Int) := by (omega)
        exact ih _ _ _ _ i3501 p3516 p3517
theorem wq_X6_which {post : Int64 → Mo → Prop} {s2 : Bd} {s4 : Mo} {x1 : Int32} {R W : Int} (h3518 : bi (R) (W) s2) (h3519 : mo s4) (k : ∀ (r : Int64) (u : Mo), mo u → post r u) : wp_X6_which post s2 s4 x1 := by
  unfold wp_X6_which
  have := h3518.1
  have := h3518.2.1
  have := h3518.2.2.1
  have := h3518.2.2.2.1
  have := h3518.2.2.2.2.2.2.2.2.2
  have := h3519.1
  refine wq_X0_isThere h3518 (fun r_1 q3520 => ?_)
  refine ⟨fun c3521 => ?_, fun c3522 => ?_⟩
  · replace c3521 := q_eq c3521
    rw [li_0] at c3521
    exact k _ _ h3519
  · replace c3522 := q_neq c3522
    rw [li_0] at c3522
    refine ⟨fun c3523 => ?_, fun c3524 => ?_⟩
    · replace c3523 := q_lt c3523
      rw [li_0] at c3523
      exact k _ _ h3519
    · replace c3524 := q_nlt c3524
      rw [li_0] at c3524
      refine ⟨fun c3525 => ?_, fun c3526 => ?_⟩
      · replace c3525 := q_le c3525
        rw [li_4] at c3525
        refine ⟨fun c3527 => ?_, fun c3528 => ?_⟩
        · replace c3527 := q_neq c3527
          rw [li_3] at c3527
          have p3529 : 0 ≤ (0 : Int32).toInt ∧ (0 : Int32).toInt ≤ R * W := by (have := li_0; omega)
          obtain ⟨f3530, g3531⟩ := fu_e 50
          have p3532 : R * W - (0 : Int32).toInt < (f3530 : Int) := by (have := li_0; omega)
          refine ⟨f3530, wq_X6_which_L52 h3518 (fun t2 z1 w2 z4 q3533 q3534 => ?_) f3530 _ _ _ _ h3519 p3529 p3532⟩
          have := q3533.1
          exact k _ _ q3533
        · replace c3528 := q_eq c3528
          rw [li_3] at c3528
          refine wq_X2_choose h3519 h3518 (fun u_14 q3535 => ?_)
          have := q3535.1
          refine wq_X2_chosenBits q3535 (fun r_15 => ?_)
          exact k _ _ q3535
      · replace c3526 := q_nle c3526
        rw [li_4] at c3526
        exact k _ _ h3519
theorem wq_X6_tryToSettle {post : Bd → Mo → Prop} {s2 : Bd} {s3 : Bd} {s4 : Mo} {R W R3 W3 : Int} (h3536 : bi (R) (W) s2) (h3537 : bi (R3) (W3) s3) (h3538 : mo s4) (k : ∀ (ua : Bd) (ub : Mo), bi (R) (W) ua → mo ub → post ua ub) : wp_X6_tryToSettle post s2 s3 s4 := by
  unfold wp_X6_tryToSettle
  have := h3536.1
  have := h3536.2.1
  have := h3536.2.2.1
  have := h3536.2.2.2.1
  have := h3536.2.2.2.2.2.2.2.2.2
  have := h3537.1
  have := h3537.2.1
  have := h3537.2.2.1
  have := h3537.2.2.2.1
  have := h3537.2.2.2.2.2.2.2.2.2
  have := h3538.1
  refine wq_X0_copyAllButLog h3537 h3536 (fun u_2 q3539 q3540 => ?_)
  have := q3539.1
  have := q3539.2.1
  have := q3539.2.2.1
  have := q3539.2.2.2.2.2.2.2.2.2
  have p3541 : 0 ≤ ((9999 : Int32)).toInt ∧ ((9999 : Int32)).toInt ≤ 9999 := by (have := li_9999; omega)
  refine wq_X2_turn h3538 q3539 p3541 (fun u_4a u_4b q3542 q3543 => ?_)
  have := q3542.1
  have := q3543.1
  have := q3543.2.1
  have := q3543.2.2.1
  have := q3543.2.2.2.2.2.2.2.2.2
  exact k _ _ q3543 q3542
