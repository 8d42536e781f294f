theorem wq_X7_readsWorn {post : Int32 → Md → Prop} {s0 : Md} {N R W D : Int} (h102456 : mb (N) (R) (W) (D) s0) (h102457 : 0 < D) (h102458 : R ≤ 0 ∨ 0 < D) (h102459 : 0 ≤ (s0.1 6).toInt ∧ (s0.1 6).toInt + 4 ≤ N) (k : ∀ (r : Int32) (u : Md), mb (N) (R) (W) (D) u → ie [1, 2, 6, 7, 8, 9, 10, 11, 12, 13] u.1 s0.1 → (r).toInt = 0 ∨ (r).toInt = 1 → (s0.1 6).toInt ≤ (u.1 6).toInt ∧ (u.1 6).toInt ≤ N → post r u) : wp_X7_readsWorn post s0 := by
  unfold wp_X7_readsWorn
  have := h102456.1
  have := h102456.2.1
  have := h102456.2.2.1
  have := h102456.2.2.2.1
  have p102460 : (s0.1 5).toInt = N := by omega
  have p102461 : 0 ≤ (s0.1 0).toInt ∧ (s0.1 0).toInt ≤ 10 := by omega
  have p102462 : 0 ≤ N ∧ N ≤ 400 := by omega
  have p102463 : 0 ≤ R ∧ R ≤ 6 ∧ 0 ≤ W ∧ W ≤ 10 ∧ 0 ≤ R * W ∧ R * W ≤ 40 ∧ 0 ≤ D ∧ D ≤ 4 ∧ (D ≤ 0 ∨ 1 ≤ R) ∧ (1 ≤ R ∨ R * W = 0) := by omega
  have B102464 : mb (N) (R) (W) (D) ((va_up s0.1 6 ((s0.1 6) + 4)), s0.2.1, s0.2.2.1, s0.2.2.2) := ⟨p102460, p102461, p102462, p102463, h102456.2.2.2.2.1, h102456.2.2.2.2.2.1, h102456.2.2.2.2.2.2.1, h102456.2.2.2.2.2.2.2⟩
  refine wq_X7_cells B102464 (fun r_1 q102465 => ?_)
  replace q102465 : (r_1).toInt = R * W := q102465
  have e102466 := tq_addr li_4 (s0.1 6)
  try rw [Int.emod_eq_of_lt (show 0 ≤ (s0.1 6).toInt + 4 + 2147483648 by omega) (show (s0.1 6).toInt + 4 + 2147483648 < 4294967296 by omega)] at e102466
  have p102467 : 0 ≤ ((s0.1 6) + 4).toInt ∧ ((s0.1 6) + 4).toInt ≤ N := by omega
  refine wq_X7_readsNumber B102464 p102467 (fun r_3 u_4 q102468 q102469 q102470 q102471 q102472 q102473 => ?_)
  have := q102468.1
  have := q102468.2.1
  replace q102470 : (r_3).toInt = 0 ∨ (r_3).toInt = 1 := q102470
  replace q102471 : ((s0.1 6) + 4).toInt ≤ (u_4.1 6).toInt ∧ (u_4.1 6).toInt ≤ N := q102471
  replace q102472 : (r_3).toInt = 0 ∨ (((0 : Int32)).toInt ≤ (u_4.1 8).toInt ∧ (u_4.1 8).toInt ≤ (r_1 - 1).toInt) := q102472
  try simp only [li_0] at q102472
  have e102474 := tq_subr li_1 r_1
  try rw [Int.emod_eq_of_lt (show 0 ≤ (r_1).toInt - 1 + 2147483648 by omega) (show (r_1).toInt - 1 + 2147483648 < 4294967296 by omega)] at e102474
  refine ⟨fun c102475 => ?_, fun c102476 => ?_⟩
  · replace c102475 := q_neq c102475
    rw [li_0] at c102475
    have p102477 : 0 ≤ (u_4.1 8).toInt ∧ (u_4.1 8).toInt < 40 := by omega
    refine wq_X7_flaps q102468 p102477 (fun r_6 q102478 => ?_)
    have p102479 : 0 ≤ (u_4.1 6).toInt ∧ (u_4.1 6).toInt ≤ N := by omega
    refine wq_X7_readsNumber q102468 p102479 (fun r_8 u_9 q102480 q102481 q102482 q102483 q102484 q102485 => ?_)
    have := q102480.1
    have := q102480.2.1
    try simp only [li_1] at q102484
    have e102486 := tq_subr li_1 r_6
    try rw [Int.emod_eq_of_lt (show 0 ≤ (r_6).toInt - 1 + 2147483648 by omega) (show (r_6).toInt - 1 + 2147483648 < 4294967296 by omega)] at e102486
    refine ⟨fun c102487 => ?_, fun c102488 => ?_⟩
    · replace c102487 := q_neq c102487
      rw [li_0] at c102487
      have p102489 : 0 ≤ (u_4.1 8).toInt ∧ (u_4.1 8).toInt < 40 := by omega
      refine wq_X7_wornOf p102489 (fun r_11 => ?_)
      refine wq_X7_isIn (fun r_13 q102490 => ?_)
      refine ⟨fun c102491 => ?_, fun c102492 => ?_⟩
      · replace c102491 := q_eq c102491
        rw [li_0] at c102491
        have p102493 : 0 ≤ (u_4.1 8).toInt ∧ (u_4.1 8).toInt < 40 := by omega
        have p102494 : 0 < D := by omega
        refine wq_X7_wears q102480 p102493 p102494 (fun u_17 q102495 q102496 => ?_)
        have := q102495.1
        have := q102495.2.1
        have p102497 : ie [1, 2, 6, 7, 8, 9, 10, 11, 12, 13] u_17.1 s0.1 := (ie_tr q102496 (by decide) (ie_tr q102481 (by decide) (ie_tr q102469 (by decide) (ie_up (ie_refl _ _) (by decide)))))
        have p102498 : (1 : Int32).toInt = 0 ∨ (1 : Int32).toInt = 1 := by (have := li_1; omega)
        have : (u_17.1 6).toInt = (u_9.1 6).toInt := ie_i q102496 6 (by decide)
        have p102499 : (s0.1 6).toInt ≤ (u_17.1 6).toInt ∧ (u_17.1 6).toInt ≤ N := by omega
        exact k _ _ q102495 p102497 p102498 p102499
      · replace c102492 := q_neq c102492
        rw [li_0] at c102492
        refine wq_X7_fails q102480 (fun r_18 u_19 q102500 q102501 q102502 q102503 => ?_)
        have := q102500.1
        have := q102500.2.1
        refine ⟨(nb_b (by omega)), ?_⟩
        have p102504 : ie [1, 2, 6, 7, 8, 9, 10, 11, 12, 13] u_19.1 s0.1 := (ie_tr q102501 (by decide) (ie_tr q102481 (by decide) (ie_tr q102469 (by decide) (ie_up (ie_refl _ _) (by decide)))))
        have p102505 : (r_18).toInt = 0 ∨ (r_18).toInt = 1 := by omega
        have : (u_19.1 6).toInt = (u_9.1 6).toInt := ie_i q102501 6 (by decide)
        have p102506 : (s0.1 6).toInt ≤ (u_19.1 6).toInt ∧ (u_19.1 6).toInt ≤ N := by omega
        exact k _ _ q102500 p102504 p102505 p102506
    · replace c102488 := q_eq c102488
      rw [li_0] at c102488
      have p102507 : ie [1, 2, 6, 7, 8, 9, 10, 11, 12, 13] u_9.1 s0.1 := (ie_tr q102481 (by decide) (ie_tr q102469 (by decide) (ie_up (ie_refl _ _) (by decide))))
      have p102508 : (0 : Int32).toInt = 0 ∨ (0 : Int32).toInt = 1 := by (have := li_0; omega)
      have p102509 : (s0.1 6).toInt ≤ (u_9.1 6).toInt ∧ (u_9.1 6).toInt ≤ N := by omega
      exact k _ _ q102480 p102507 p102508 p102509
  · replace c102476 := q_eq c102476
    rw [li_0] at c102476
    have p102510 : ie [1, 2, 6, 7, 8, 9, 10, 11, 12, 13] u_4.1 s0.1 := (ie_tr q102469 (by decide) (ie_up (ie_refl _ _) (by decide)))
    have p102511 : (0 : Int32).toInt = 0 ∨ (0 : Int32).toInt = 1 := by (have := li_0; omega)
    have p102512 : (s0.1 6).toInt ≤ (u_4.1 6).toInt ∧ (u_4.1 6).toInt ≤ N := by omega
    exact k _ _ q102468 p102510 p102511 p102512
theorem wq_X7_readsRow_L62 {post : Int32 → Md → Prop} {e116 : Md → Int32 → Int32 → Int32 → Prop} {D N R W : Int} {A : Nat → Int32} (h102513 : 0 < D) (ke116 : ∀ (t0 : Md) (z1 : Int32) (z2 : Int32) (z3 : Int32), mb (N) (R) (W) (D) t0 → ie [] t0.1 A → 0 ≤ (z1).toInt ∧ (z1).toInt < R → 0 ≤ (z3).toInt ∧ (z3).toInt ≤ W → e116 t0 z1 z2 z3) : ∀ (n : Nat) (t0 : Md) (z1 : Int32) (z2 : Int32) (z3 : Int32), mb (N) (R) (W) (D) t0 → ie [] t0.1 A → 0 ≤ (z1).toInt ∧ (z1).toInt < R → 0 ≤ (z3).toInt ∧ (z3).toInt ≤ W → W - (z3).toInt < (n : Int) → wp_X7_readsRow_L62 post e116 n t0 z1 z2 z3 := by
  intro n
  induction n with
  | zero =>
    intro t0 z1 z2 z3 i102514 i102515 i102516 i102517 i102518
    have := i102514.1
    have := i102514.2.1
    have := i102514.2.2.1
    have := i102514.2.2.2.1
    exfalso
    omega
  | succ n ih =>
    intro t0 z1 z2 z3 i102514 i102515 i102516 i102517 i102518
    unfold wp_X7_readsRow_L62
    have := i102514.1
    have := i102514.2.1
    have := i102514.2.2.1
    have := i102514.2.2.2.1
    refine wq_X7_wide i102514 (fun r_13 q102519 => ?_)
    refine ⟨fun c102520 => ?_, fun c102521 => ?_⟩
    · replace c102520 := q_le c102520
      have p102522 : ie [] t0.1 A := (ie_tr i102515 (by decide) (ie_refl _ _))
      have p102523 : 0 ≤ (z1).toInt ∧ (z1).toInt < R := by omega
      have p102524 : 0 ≤ (z3).toInt ∧ (z3).toInt ≤ W := by omega
      exact ke116 _ _ _ _ i102514 p102522 p102523 p102524
    · replace c102521 := q_nle c102521
      refine wq_X7_wide i102514 (fun r_16 q102525 => ?_)
      have := rw_r (a := z1) (b := r_16) (R := R) (W := W) (by omega) (by omega) (by omega)
      have e102526 := tq_add (r_16 * z1) z3
      try rw [Int.emod_eq_of_lt (show 0 ≤ (r_16 * z1).toInt + (z3).toInt + 2147483648 by omega) (show (r_16 * z1).toInt + (z3).toInt + 2147483648 < 4294967296 by omega)] at e102526
      have p102527 : 0 ≤ ((r_16 * z1) + z3).toInt ∧ ((r_16 * z1) + z3).toInt < 40 := by omega
      refine wq_X7_of_3 i102514 p102527 (fun r_18 q102528 q102529 => ?_)
      have p102530 : 0 ≤ ((r_16 * z1) + z3).toInt ∧ ((r_16 * z1) + z3).toInt < 40 := by omega
      have := tq_64 r_18
      try have := rw_k i102514.2.2.2.2.1 (show 0 ≤ (((r_16 * z1) + z3)).toInt ∧ (((r_16 * z1) + z3)).toInt < 40 by omega)
      have p102531 : 0 ≤ (Int32.toInt64 r_18).toInt ∧ ((D ≤ 0 ∧ (Int32.toInt64 r_18).toInt = 0) ∨ (0 < D ∧ (Int32.toInt64 r_18).toInt < fl_c ((t0.2.2.1 0)) ((r_16 * z1) + z3))) := by omega
      refine wq_X7_sets_1 i102514 p102530 p102531 (fun u_21 q102532 q102533 q102534 => ?_)
      have := q102532.1
      have := q102532.2.1
      have p102535 : 0 ≤ ((r_16 * z1) + z3).toInt ∧ ((r_16 * z1) + z3).toInt < 40 := by omega
      refine wq_X7_of_3 q102532 p102535 (fun r_22 q102536 q102537 => ?_)
      have p102538 : 0 ≤ ((r_16 * z1) + z3).toInt ∧ ((r_16 * z1) + z3).toInt < 40 := by omega
      have := tq_64 r_22
      try have := rw_k q102532.2.2.2.2.1 (show 0 ≤ (((r_16 * z1) + z3)).toInt ∧ (((r_16 * z1) + z3)).toInt < 40 by omega)
      have p102539 : 0 ≤ (Int32.toInt64 r_22).toInt ∧ ((D ≤ 0 ∧ (Int32.toInt64 r_22).toInt = 0) ∨ (0 < D ∧ (Int32.toInt64 r_22).toInt < fl_c ((u_21.2.2.1 0)) ((r_16 * z1) + z3))) := by omega
      refine wq_X7_sets_2 q102532 p102538 p102539 (fun u_25 q102540 q102541 q102542 => ?_)
      have := q102540.1
      have := q102540.2.1
      have p102543 : ie [] u_25.1 A := (ie_tr q102541 (by decide) (ie_tr q102533 (by decide) (ie_tr i102515 (by decide) (ie_refl _ _))))
      have p102544 : 0 ≤ (z1).toInt ∧ (z1).toInt < R := by omega
      have e102545 := tq_addr li_1 z3
      try rw [Int.emod_eq_of_lt (show 0 ≤ (z3).toInt + 1 + 2147483648 by omega) (show (z3).toInt + 1 + 2147483648 < 4294967296 by omega)] at e102545
      have p102546 : 0 ≤ (z3 + 1).toInt ∧ (z3 + 1).toInt ≤ W := by omega
      have p102547 : W - (z3 + 1).toInt < ((n : Nat) : Int) := by (omega)
      exact ih _ _ _ _ q102540 p102543 p102544 p102546 p102547
theorem wq_X7_readsRow {post : Int32 → Md → Prop} {s0 : Md} {N R W D : Int} (h102548 : mb (N) (R) (W) (D) s0) (h102549 : 0 < D) (h102550 : 0 ≤ (s0.1 6).toInt ∧ (s0.1 6).toInt + 3 ≤ N) (k : ∀ (r : Int32) (u : Md), mb (N) (R) (W) (D) u → ie [1, 2, 6, 7, 8, 9, 10, 11, 12, 13] u.1 s0.1 → (r).toInt = 0 ∨ (r).toInt = 1 → (s0.1 6).toInt ≤ (u.1 6).toInt ∧ (u.1 6).toInt ≤ N → post r u) : wp_X7_readsRow post s0 := by
  unfold wp_X7_readsRow
  have := h102548.1
  have := h102548.2.1
  have := h102548.2.2.1
  have := h102548.2.2.2.1
  have p102551 : (s0.1 5).toInt = N := by omega
  have p102552 : 0 ≤ (s0.1 0).toInt ∧ (s0.1 0).toInt ≤ 10 := by omega
  have p102553 : 0 ≤ N ∧ N ≤ 400 := by omega
  have p102554 : 0 ≤ R ∧ R ≤ 6 ∧ 0 ≤ W ∧ W ≤ 10 ∧ 0 ≤ R * W ∧ R * W ≤ 40 ∧ 0 ≤ D ∧ D ≤ 4 ∧ (D ≤ 0 ∨ 1 ≤ R) ∧ (1 ≤ R ∨ R * W = 0) := by omega
  have B102555 : mb (N) (R) (W) (D) ((va_up s0.1 6 ((s0.1 6) + 3)), s0.2.1, s0.2.2.1, s0.2.2.2) := ⟨p102551, p102552, p102553, p102554, h102548.2.2.2.2.1, h102548.2.2.2.2.2.1, h102548.2.2.2.2.2.2.1, h102548.2.2.2.2.2.2.2⟩
  refine wq_X7_rows B102555 (fun r_1 q102556 => ?_)
  replace q102556 : (r_1).toInt = R := q102556
  have e102557 := tq_addr li_3 (s0.1 6)
  try rw [Int.emod_eq_of_lt (show 0 ≤ (s0.1 6).toInt + 3 + 2147483648 by omega) (show (s0.1 6).toInt + 3 + 2147483648 < 4294967296 by omega)] at e102557
  have p102558 : 0 ≤ ((s0.1 6) + 3).toInt ∧ ((s0.1 6) + 3).toInt ≤ N := by omega
  refine wq_X7_readsNumber B102555 p102558 (fun r_3 u_4 q102559 q102560 q102561 q102562 q102563 q102564 => ?_)
  have := q102559.1
  have := q102559.2.1
  replace q102561 : (r_3).toInt = 0 ∨ (r_3).toInt = 1 := q102561
  replace q102562 : ((s0.1 6) + 3).toInt ≤ (u_4.1 6).toInt ∧ (u_4.1 6).toInt ≤ N := q102562
  replace q102563 : (r_3).toInt = 0 ∨ (((0 : Int32)).toInt ≤ (u_4.1 8).toInt ∧ (u_4.1 8).toInt ≤ (r_1 - 1).toInt) := q102563
  try simp only [li_0] at q102563
  have e102565 := tq_subr li_1 r_1
  try rw [Int.emod_eq_of_lt (show 0 ≤ (r_1).toInt - 1 + 2147483648 by omega) (show (r_1).toInt - 1 + 2147483648 < 4294967296 by omega)] at e102565
  refine ⟨fun c102566 => ?_, fun c102567 => ?_⟩
  · replace c102566 := q_neq c102566
    rw [li_0] at c102566
    refine wq_X7_wide q102559 (fun r_6 q102568 => ?_)
    have p102569 : 0 ≤ (u_4.1 6).toInt ∧ (u_4.1 6).toInt ≤ N := by omega
    have p102570 : 0 ≤ (r_6).toInt := by omega
    refine wq_X7_readsQuoted q102559 p102569 p102570 (fun r_8 u_9 q102571 q102572 q102573 q102574 q102575 q102576 => ?_)
    have := q102571.1
    have := q102571.2.1
    try simp only [li_0] at q102575
    refine ⟨fun c102577 => ?_, fun c102578 => ?_⟩
    · replace c102577 := q_neq c102577
      rw [li_0] at c102577
      have p102579 : 0 < D := by omega
      have p102580 : 0 ≤ (u_4.1 8).toInt ∧ (u_4.1 8).toInt < R := by omega
      have p102581 : 0 ≤ (u_9.1 10).toInt ∧ 0 ≤ (u_9.1 11).toInt ∧ (u_9.1 10).toInt + (u_9.1 11).toInt ≤ 400 := by omega
      refine wq_X7_wantsSigns q102571 p102579 p102580 p102581 (fun r_11 u_12 q102582 q102583 => ?_)
      have := q102582.1
      have := q102582.2.1
      have p102584 : 0 < D := by omega
      have p102585 : ie [] u_12.1 u_12.1 := (ie_refl _ _)
      have p102586 : 0 ≤ (u_4.1 8).toInt ∧ (u_4.1 8).toInt < R := by omega
      have p102587 : 0 ≤ (0 : Int32).toInt ∧ (0 : Int32).toInt ≤ W := by (have := li_0; omega)
      obtain ⟨f102588, g102589⟩ := fu_e 50
      have p102590 : W - (0 : Int32).toInt < (f102588 : Int) := by (have := li_0; omega)
      refine ⟨f102588, wq_X7_readsRow_L62 p102584 (fun t0 z1 z2 z3 q102591 q102592 q102593 q102594 => ?_) f102588 _ _ _ _ q102582 p102585 p102586 p102587 p102590⟩
      have := q102591.1
      have := q102591.2.1
      have p102595 : ie [1, 2, 6, 7, 8, 9, 10, 11, 12, 13] t0.1 s0.1 := (ie_tr q102592 (by decide) (ie_tr q102583 (by decide) (ie_tr q102572 (by decide) (ie_tr q102560 (by decide) (ie_up (ie_refl _ _) (by decide))))))
      have p102596 : (1 : Int32).toInt = 0 ∨ (1 : Int32).toInt = 1 := by (have := li_1; omega)
      have : (t0.1 6).toInt = (u_12.1 6).toInt := ie_i q102592 6 (by decide)
      have : (u_12.1 6).toInt = (u_9.1 6).toInt := ie_i q102583 6 (by decide)
      have p102597 : (s0.1 6).toInt ≤ (t0.1 6).toInt ∧ (t0.1 6).toInt ≤ N := by omega
      exact k _ _ q102591 p102595 p102596 p102597
    · replace c102578 := q_eq c102578
      rw [li_0] at c102578
      have p102598 : ie [1, 2, 6, 7, 8, 9, 10, 11, 12, 13] u_9.1 s0.1 := (ie_tr q102572 (by decide) (ie_tr q102560 (by decide) (ie_up (ie_refl _ _) (by decide))))
      have p102599 : (0 : Int32).toInt = 0 ∨ (0 : Int32).toInt = 1 := by (have := li_0; omega)
      have p102600 : (s0.1 6).toInt ≤ (u_9.1 6).toInt ∧ (u_9.1 6).toInt ≤ N := by omega
      exact k _ _ q102571 p102598 p102599 p102600
  · replace c102567 := q_eq c102567
    rw [li_0] at c102567
    have p102601 : ie [1, 2, 6, 7, 8, 9, 10, 11, 12, 13] u_4.1 s0.1 := (ie_tr q102560 (by decide) (ie_up (ie_refl _ _) (by decide)))
    have p102602 : (0 : Int32).toInt = 0 ∨ (0 : Int32).toInt = 1 := by (have := li_0; omega)
    have p102603 : (s0.1 6).toInt ≤ (u_4.1 6).toInt ∧ (u_4.1 6).toInt ≤ N := by omega
    exact k _ _ q102559 p102601 p102602 p102603
theorem wq_X7_readsLose {post : Int32 → Md → Prop} {s0 : Md} {N R W D : Int} (h102604 : mb (N) (R) (W) (D) s0) (h102605 : 0 ≤ (s0.1 6).toInt ∧ (s0.1 6).toInt + 4 ≤ N) (k : ∀ (r : Int32) (u : Md), mb (N) (R) (W) (D) u → ie [1, 2, 6, 7, 8, 9, 10, 11, 12, 13] u.1 s0.1 → (r).toInt = 0 ∨ (r).toInt = 1 → (s0.1 6).toInt ≤ (u.1 6).toInt ∧ (u.1 6).toInt ≤ N → (r).toInt = 0 ∨ (0 ≤ (u.1 12).toInt ∧ (u.1 12).toInt < R * W ∧ 0 ≤ (u.1 8).toInt ∧ (u.1 8).toInt ≤ 9) → post r u) : wp_X7_readsLose post s0 := by
  unfold wp_X7_readsLose
  have := h102604.1
  have := h102604.2.1
  have := h102604.2.2.1
  have := h102604.2.2.2.1
  have p102606 : (s0.1 5).toInt = N := by omega
  have p102607 : 0 ≤ (s0.1 0).toInt ∧ (s0.1 0).toInt ≤ 10 := by omega
  have p102608 : 0 ≤ N ∧ N ≤ 400 := by omega
  have p102609 : 0 ≤ R ∧ R ≤ 6 ∧ 0 ≤ W ∧ W ≤ 10 ∧ 0 ≤ R * W ∧ R * W ≤ 40 ∧ 0 ≤ D ∧ D ≤ 4 ∧ (D ≤ 0 ∨ 1 ≤ R) ∧ (1 ≤ R ∨ R * W = 0) := by omega
  have B102610 : mb (N) (R) (W) (D) ((va_up s0.1 6 ((s0.1 6) + 4)), s0.2.1, s0.2.2.1, s0.2.2.2) := ⟨p102606, p102607, p102608, p102609, h102604.2.2.2.2.1, h102604.2.2.2.2.2.1, h102604.2.2.2.2.2.2.1, h102604.2.2.2.2.2.2.2⟩
  refine wq_X7_cells B102610 (fun r_1 q102611 => ?_)
  replace q102611 : (r_1).toInt = R * W := q102611
  have e102612 := tq_addr li_4 (s0.1 6)
  try rw [Int.emod_eq_of_lt (show 0 ≤ (s0.1 6).toInt + 4 + 2147483648 by omega) (show (s0.1 6).toInt + 4 + 2147483648 < 4294967296 by omega)] at e102612
  have p102613 : 0 ≤ ((s0.1 6) + 4).toInt ∧ ((s0.1 6) + 4).toInt ≤ N := by omega
  refine wq_X7_readsNumber B102610 p102613 (fun r_3 u_4 q102614 q102615 q102616 q102617 q102618 q102619 => ?_)
  have := q102614.1
  have := q102614.2.1
  replace q102616 : (r_3).toInt = 0 ∨ (r_3).toInt = 1 := q102616
  replace q102617 : ((s0.1 6) + 4).toInt ≤ (u_4.1 6).toInt ∧ (u_4.1 6).toInt ≤ N := q102617
  replace q102618 : (r_3).toInt = 0 ∨ (((0 : Int32)).toInt ≤ (u_4.1 8).toInt ∧ (u_4.1 8).toInt ≤ (r_1 - 1).toInt) := q102618
  try simp only [li_0] at q102618
  have e102620 := tq_subr li_1 r_1
  try rw [Int.emod_eq_of_lt (show 0 ≤ (r_1).toInt - 1 + 2147483648 by omega) (show (r_1).toInt - 1 + 2147483648 < 4294967296 by omega)] at e102620
  refine ⟨fun c102621 => ?_, fun c102622 => ?_⟩
  · replace c102621 := q_neq c102621
    rw [li_0] at c102621
    have : (u_4.1 5).toInt = (s0.1 5).toInt := ie_i q102615 5 (by decide)
    have p102623 : (u_4.1 5).toInt = N := by omega
    have : (u_4.1 0).toInt = (s0.1 0).toInt := ie_i q102615 0 (by decide)
    have p102624 : 0 ≤ (u_4.1 0).toInt ∧ (u_4.1 0).toInt ≤ 10 := by omega
    have p102625 : 0 ≤ N ∧ N ≤ 400 := by omega
    have p102626 : 0 ≤ R ∧ R ≤ 6 ∧ 0 ≤ W ∧ W ≤ 10 ∧ 0 ≤ R * W ∧ R * W ≤ 40 ∧ 0 ≤ D ∧ D ≤ 4 ∧ (D ≤ 0 ∨ 1 ≤ R) ∧ (1 ≤ R ∨ R * W = 0) := by omega
    have B102627 : mb (N) (R) (W) (D) ((va_up u_4.1 12 (u_4.1 8)), u_4.2.1, u_4.2.2.1, u_4.2.2.2) := ⟨p102623, p102624, p102625, p102626, q102614.2.2.2.2.1, q102614.2.2.2.2.2.1, q102614.2.2.2.2.2.2.1, q102614.2.2.2.2.2.2.2⟩
    have p102628 : 0 ≤ (u_4.1 6).toInt ∧ (u_4.1 6).toInt ≤ N := by omega
    refine wq_X7_readsNumber B102627 p102628 (fun r_6 u_7 q102629 q102630 q102631 q102632 q102633 q102634 => ?_)
    have := q102629.1
    have := q102629.2.1
    replace q102631 : (r_6).toInt = 0 ∨ (r_6).toInt = 1 := q102631
    replace q102632 : (u_4.1 6).toInt ≤ (u_7.1 6).toInt ∧ (u_7.1 6).toInt ≤ N := q102632
    replace q102633 : (r_6).toInt = 0 ∨ (((0 : Int32)).toInt ≤ (u_7.1 8).toInt ∧ (u_7.1 8).toInt ≤ ((9 : Int32)).toInt) := q102633
    try simp only [li_0, li_9] at q102633
    refine ⟨(nb_b (by omega)), ?_⟩
    have p102635 : ie [1, 2, 6, 7, 8, 9, 10, 11, 12, 13] u_7.1 s0.1 := (ie_tr q102630 (by decide) (ie_up (ie_tr q102615 (by decide) (ie_up (ie_refl _ _) (by decide))) (by decide)))
    have p102636 : (r_6).toInt = 0 ∨ (r_6).toInt = 1 := by omega
    have p102637 : (s0.1 6).toInt ≤ (u_7.1 6).toInt ∧ (u_7.1 6).toInt ≤ N := by omega
    have : (u_7.1 12).toInt = (u_4.1 8).toInt := ie_i q102630 12 (by decide)
    have p102638 : (r_6).toInt = 0 ∨ (0 ≤ (u_7.1 12).toInt ∧ (u_7.1 12).toInt < R * W ∧ 0 ≤ (u_7.1 8).toInt ∧ (u_7.1 8).toInt ≤ 9) := by omega
    exact k _ _ q102629 p102635 p102636 p102637 p102638
  · replace c102622 := q_eq c102622
    rw [li_0] at c102622
    have p102639 : ie [1, 2, 6, 7, 8, 9, 10, 11, 12, 13] u_4.1 s0.1 := (ie_tr q102615 (by decide) (ie_up (ie_refl _ _) (by decide)))
    have p102640 : (0 : Int32).toInt = 0 ∨ (0 : Int32).toInt = 1 := by (have := li_0; omega)
    have p102641 : (s0.1 6).toInt ≤ (u_4.1 6).toInt ∧ (u_4.1 6).toInt ≤ N := by omega
    have : (u_4.1 12).toInt = (s0.1 12).toInt := ie_i q102615 12 (by decide)
    have p102642 : (0 : Int32).toInt = 0 ∨ (0 ≤ (u_4.1 12).toInt ∧ (u_4.1 12).toInt < R * W ∧ 0 ≤ (u_4.1 8).toInt ∧ (u_4.1 8).toInt ≤ 9) := by (have := li_0; omega)
    exact k _ _ q102614 p102639 p102640 p102641 p102642
theorem wq_X7_isDone {post : Int32 → Md → Prop} {s0 : Md} {x1 : Int32} {N R W D : Int} (h102643 : mb (N) (R) (W) (D) s0) (k : ∀ (r : Int32) (u : Md), mb (N) (R) (W) (D) u → ie [13] u.1 s0.1 → (r).toInt = 0 ∨ (r).toInt = 1 → post r u) : wp_X7_isDone post s0 x1 := by
  unfold wp_X7_isDone
  have := h102643.1
  have := h102643.2.1
  have := h102643.2.2.1
  have := h102643.2.2.2.1
  refine ⟨fun c102644 => ?_, fun c102645 => ?_⟩
  · replace c102644 := q_eq c102644
    rw [li_0] at c102644
    have p102646 : ie [13] s0.1 s0.1 := (ie_refl _ _)
    have p102647 : (0 : Int32).toInt = 0 ∨ (0 : Int32).toInt = 1 := by (have := li_0; omega)
    exact k _ _ h102643 p102646 p102647
  · replace c102645 := q_neq c102645
    rw [li_0] at c102645
    refine ⟨fun c102648 => ?_, fun c102649 => ?_⟩
    · replace c102648 := q_neq c102648
      rw [li_200] at c102648
      have p102650 : (s0.1 5).toInt = N := by omega
      have p102651 : 0 ≤ (s0.1 0).toInt ∧ (s0.1 0).toInt ≤ 10 := by omega
      have p102652 : 0 ≤ N ∧ N ≤ 400 := by omega
      have p102653 : 0 ≤ R ∧ R ≤ 6 ∧ 0 ≤ W ∧ W ≤ 10 ∧ 0 ≤ R * W ∧ R * W ≤ 40 ∧ 0 ≤ D ∧ D ≤ 4 ∧ (D ≤ 0 ∨ 1 ≤ R) ∧ (1 ≤ R ∨ R * W = 0) := by omega
      have B102654 : mb (N) (R) (W) (D) ((va_up s0.1 13 ((s0.1 13) + 1)), s0.2.1, s0.2.2.1, s0.2.2.2) := ⟨p102650, p102651, p102652, p102653, h102643.2.2.2.2.1, h102643.2.2.2.2.2.1, h102643.2.2.2.2.2.2.1, h102643.2.2.2.2.2.2.2⟩
      have p102655 : ie [13] (va_up s0.1 13 ((s0.1 13) + 1)) s0.1 := (ie_up (ie_refl _ _) (by decide))
      have p102656 : (1 : Int32).toInt = 0 ∨ (1 : Int32).toInt = 1 := by (have := li_1; omega)
      exact k _ _ B102654 p102655 p102656
    · replace c102649 := q_eq c102649
      rw [li_200] at c102649
      have p102657 : ie [13] s0.1 s0.1 := (ie_refl _ _)
      have p102658 : (0 : Int32).toInt = 0 ∨ (0 : Int32).toInt = 1 := by (have := li_0; omega)
      exact k _ _ h102643 p102657 p102658
theorem wq_X7_goesRow {post : Int32 → Md → Prop} {s0 : Md} {x1 : Int32} {N R W D : Int} (h102659 : mb (N) (R) (W) (D) s0) (h102660 : 0 < D) (h102661 : 0 ≤ (s0.1 6).toInt ∧ (s0.1 6).toInt + 3 ≤ N) (k : ∀ (r : Int32) (u : Md), mb (N) (R) (W) (D) u → ie [1, 2, 6, 7, 8, 9, 10, 11, 12, 13] u.1 s0.1 → (r).toInt = 0 ∨ (r).toInt = 1 → (s0.1 6).toInt ≤ (u.1 6).toInt ∧ (u.1 6).toInt ≤ N → post r u) : wp_X7_goesRow post s0 x1 := by
  unfold wp_X7_goesRow
  have := h102659.1
  have := h102659.2.1
  have := h102659.2.2.1
  have := h102659.2.2.2.1
  have p102662 : (s0.1 5).toInt = N := by omega
  have p102663 : 0 ≤ (s0.1 0).toInt ∧ (s0.1 0).toInt ≤ 10 := by omega
  have p102664 : 0 ≤ N ∧ N ≤ 400 := by omega
  have p102665 : 0 ≤ R ∧ R ≤ 6 ∧ 0 ≤ W ∧ W ≤ 10 ∧ 0 ≤ R * W ∧ R * W ≤ 40 ∧ 0 ≤ D ∧ D ≤ 4 ∧ (D ≤ 0 ∨ 1 ≤ R) ∧ (1 ≤ R ∨ R * W = 0) := by omega
  have B102666 : mb (N) (R) (W) (D) ((va_up s0.1 6 ((s0.1 6) + 3)), s0.2.1, s0.2.2.1, s0.2.2.2) := ⟨p102662, p102663, p102664, p102665, h102659.2.2.2.2.1, h102659.2.2.2.2.2.1, h102659.2.2.2.2.2.2.1, h102659.2.2.2.2.2.2.2⟩
  refine wq_X7_rows B102666 (fun r_1 q102667 => ?_)
  replace q102667 : (r_1).toInt = R := q102667
  have e102668 := tq_addr li_3 (s0.1 6)
  try rw [Int.emod_eq_of_lt (show 0 ≤ (s0.1 6).toInt + 3 + 2147483648 by omega) (show (s0.1 6).toInt + 3 + 2147483648 < 4294967296 by omega)] at e102668
  have p102669 : 0 ≤ ((s0.1 6) + 3).toInt ∧ ((s0.1 6) + 3).toInt ≤ N := by omega
  refine wq_X7_readsNumber B102666 p102669 (fun r_3 u_4 q102670 q102671 q102672 q102673 q102674 q102675 => ?_)
  have := q102670.1
  have := q102670.2.1
  replace q102672 : (r_3).toInt = 0 ∨ (r_3).toInt = 1 := q102672
  replace q102673 : ((s0.1 6) + 3).toInt ≤ (u_4.1 6).toInt ∧ (u_4.1 6).toInt ≤ N := q102673
  replace q102674 : (r_3).toInt = 0 ∨ (((0 : Int32)).toInt ≤ (u_4.1 8).toInt ∧ (u_4.1 8).toInt ≤ (r_1 - 1).toInt) := q102674
  try simp only [li_0] at q102674
  have e102676 := tq_subr li_1 r_1
  try rw [Int.emod_eq_of_lt (show 0 ≤ (r_1).toInt - 1 + 2147483648 by omega) (show (r_1).toInt - 1 + 2147483648 < 4294967296 by omega)] at e102676
  refine ⟨fun c102677 => ?_, fun c102678 => ?_⟩
  · replace c102677 := q_neq c102677
    rw [li_0] at c102677
    refine wq_X7_wide q102670 (fun r_6 q102679 => ?_)
    have p102680 : 0 ≤ (u_4.1 6).toInt ∧ (u_4.1 6).toInt ≤ N := by omega
    have p102681 : 0 ≤ (r_6).toInt := by omega
    refine wq_X7_readsQuoted q102670 p102680 p102681 (fun r_8 u_9 q102682 q102683 q102684 q102685 q102686 q102687 => ?_)
    have := q102682.1
    have := q102682.2.1
    try simp only [li_0] at q102686
    refine ⟨fun c102688 => ?_, fun c102689 => ?_⟩
    · replace c102688 := q_neq c102688
      rw [li_0] at c102688
      refine wq_X7_isDone q102682 (fun r_11 u_12 q102690 q102691 q102692 => ?_)
      have := q102690.1
      have := q102690.2.1
      refine ⟨fun c102693 => ?_, fun c102694 => ?_⟩
      · replace c102693 := q_eq c102693
        rw [li_0] at c102693
        have p102695 : ie [1, 2, 6, 7, 8, 9, 10, 11, 12, 13] u_12.1 s0.1 := (ie_tr q102691 (by decide) (ie_tr q102683 (by decide) (ie_tr q102671 (by decide) (ie_up (ie_refl _ _) (by decide)))))
        have p102696 : (1 : Int32).toInt = 0 ∨ (1 : Int32).toInt = 1 := by (have := li_1; omega)
        have : (u_12.1 6).toInt = (u_9.1 6).toInt := ie_i q102691 6 (by decide)
        have p102697 : (s0.1 6).toInt ≤ (u_12.1 6).toInt ∧ (u_12.1 6).toInt ≤ N := by omega
        exact k _ _ q102690 p102695 p102696 p102697
      · replace c102694 := q_neq c102694
        rw [li_0] at c102694
        have p102698 : 0 < D := by omega
        have p102699 : 0 ≤ (u_4.1 8).toInt ∧ (u_4.1 8).toInt < R := by omega
        have : (u_12.1 10).toInt = (u_9.1 10).toInt := ie_i q102691 10 (by decide)
        have : (u_12.1 11).toInt = (u_9.1 11).toInt := ie_i q102691 11 (by decide)
        have p102700 : 0 ≤ (u_12.1 10).toInt ∧ 0 ≤ (u_12.1 11).toInt ∧ (u_12.1 10).toInt + (u_12.1 11).toInt ≤ 400 := by omega
        refine wq_X7_wantsSigns q102690 p102698 p102699 p102700 (fun r_14 u_15 q102701 q102702 => ?_)
        have := q102701.1
        have := q102701.2.1
        have p102703 : ie [1, 2, 6, 7, 8, 9, 10, 11, 12, 13] u_15.1 s0.1 := (ie_tr q102702 (by decide) (ie_tr q102691 (by decide) (ie_tr q102683 (by decide) (ie_tr q102671 (by decide) (ie_up (ie_refl _ _) (by decide))))))
        have p102704 : (1 : Int32).toInt = 0 ∨ (1 : Int32).toInt = 1 := by (have := li_1; omega)
        have : (u_15.1 6).toInt = (u_12.1 6).toInt := ie_i q102702 6 (by decide)
        have : (u_12.1 6).toInt = (u_9.1 6).toInt := ie_i q102691 6 (by decide)
        have p102705 : (s0.1 6).toInt ≤ (u_15.1 6).toInt ∧ (u_15.1 6).toInt ≤ N := by omega
        exact k _ _ q102701 p102703 p102704 p102705
    · replace c102689 := q_eq c102689
      rw [li_0] at c102689
      have p102706 : ie [1, 2, 6, 7, 8, 9, 10, 11, 12, 13] u_9.1 s0.1 := (ie_tr q102683 (by decide) (ie_tr q102671 (by decide) (ie_up (ie_refl _ _) (by decide))))
      have p102707 : (0 : Int32).toInt = 0 ∨ (0 : Int32).toInt = 1 := by (have := li_0; omega)
      have p102708 : (s0.1 6).toInt ≤ (u_9.1 6).toInt ∧ (u_9.1 6).toInt ≤ N := by omega
      exact k _ _ q102682 p102706 p102707 p102708
  · replace c102678 := q_eq c102678
    rw [li_0] at c102678
    have p102709 : ie [1, 2, 6, 7, 8, 9, 10, 11, 12, 13] u_4.1 s0.1 := (ie_tr q102671 (by decide) (ie_up (ie_refl _ _) (by decide)))
    have p102710 : (0 : Int32).toInt = 0 ∨ (0 : Int32).toInt = 1 := by (have := li_0; omega)
    have p102711 : (s0.1 6).toInt ≤ (u_4.1 6).toInt ∧ (u_4.1 6).toInt ≤ N := by omega
    exact k _ _ q102670 p102709 p102710 p102711
theorem wq_X7_goesScroll {post : Int32 → Md → Prop} {s0 : Md} {x1 : Int32} {N R W D : Int} (h102712 : mb (N) (R) (W) (D) s0) (h102713 : 0 < D) (h102714 : 0 ≤ (s0.1 6).toInt ∧ (s0.1 6).toInt + 6 ≤ N) (k : ∀ (r : Int32) (u : Md), mb (N) (R) (W) (D) u → ie [1, 2, 6, 7, 8, 9, 10, 11, 12, 13] u.1 s0.1 → (r).toInt = 0 ∨ (r).toInt = 1 → (s0.1 6).toInt ≤ (u.1 6).toInt ∧ (u.1 6).toInt ≤ N → post r u) : wp_X7_goesScroll post s0 x1 := by
  unfold wp_X7_goesScroll
  have := h102712.1
  have := h102712.2.1
  have := h102712.2.2.1
  have := h102712.2.2.2.1
  have p102715 : (s0.1 5).toInt = N := by omega
  have p102716 : 0 ≤ (s0.1 0).toInt ∧ (s0.1 0).toInt ≤ 10 := by omega
  have p102717 : 0 ≤ N ∧ N ≤ 400 := by omega
  have p102718 : 0 ≤ R ∧ R ≤ 6 ∧ 0 ≤ W ∧ W ≤ 10 ∧ 0 ≤ R * W ∧ R * W ≤ 40 ∧ 0 ≤ D ∧ D ≤ 4 ∧ (D ≤ 0 ∨ 1 ≤ R) ∧ (1 ≤ R ∨ R * W = 0) := by omega
  have B102719 : mb (N) (R) (W) (D) ((va_up s0.1 6 ((s0.1 6) + 6)), s0.2.1, s0.2.2.1, s0.2.2.2) := ⟨p102715, p102716, p102717, p102718, h102712.2.2.2.2.1, h102712.2.2.2.2.2.1, h102712.2.2.2.2.2.2.1, h102712.2.2.2.2.2.2.2⟩
  refine wq_X7_wide B102719 (fun r_1 q102720 => ?_)
  replace q102720 : (r_1).toInt = W := q102720
  have e102721 := tq_addr li_6 (s0.1 6)
  try rw [Int.emod_eq_of_lt (show 0 ≤ (s0.1 6).toInt + 6 + 2147483648 by omega) (show (s0.1 6).toInt + 6 + 2147483648 < 4294967296 by omega)] at e102721
  have p102722 : 0 ≤ ((s0.1 6) + 6).toInt ∧ ((s0.1 6) + 6).toInt ≤ N := by omega
  have p102723 : 0 ≤ (r_1).toInt := by omega
  refine wq_X7_readsQuoted B102719 p102722 p102723 (fun r_3 u_4 q102724 q102725 q102726 q102727 q102728 q102729 => ?_)
  have := q102724.1
  have := q102724.2.1
  replace q102726 : (r_3).toInt = 0 ∨ (r_3).toInt = 1 := q102726
  replace q102727 : ((s0.1 6) + 6).toInt ≤ (u_4.1 6).toInt ∧ (u_4.1 6).toInt ≤ N := q102727
  replace q102728 : (r_3).toInt = 0 ∨ (0 ≤ (u_4.1 10).toInt ∧ 0 ≤ (u_4.1 11).toInt ∧ (u_4.1 10).toInt + (u_4.1 11).toInt ≤ N ∧ ((0 : Int32)).toInt ≤ (u_4.1 11).toInt ∧ (u_4.1 11).toInt ≤ (r_1).toInt) := q102728
  try simp only [li_0] at q102728
  refine ⟨fun c102730 => ?_, fun c102731 => ?_⟩
  · replace c102730 := q_neq c102730
    rw [li_0] at c102730
    refine wq_X7_isDone q102724 (fun r_6 u_7 q102732 q102733 q102734 => ?_)
    have := q102732.1
    have := q102732.2.1
    refine ⟨fun c102735 => ?_, fun c102736 => ?_⟩
    · replace c102735 := q_eq c102735
      rw [li_0] at c102735
      have p102737 : ie [1, 2, 6, 7, 8, 9, 10, 11, 12, 13] u_7.1 s0.1 := (ie_tr q102733 (by decide) (ie_tr q102725 (by decide) (ie_up (ie_refl _ _) (by decide))))
      have p102738 : (1 : Int32).toInt = 0 ∨ (1 : Int32).toInt = 1 := by (have := li_1; omega)
      have : (u_7.1 6).toInt = (u_4.1 6).toInt := ie_i q102733 6 (by decide)
      have p102739 : (s0.1 6).toInt ≤ (u_7.1 6).toInt ∧ (u_7.1 6).toInt ≤ N := by omega
      exact k _ _ q102732 p102737 p102738 p102739
    · replace c102736 := q_neq c102736
      rw [li_0] at c102736
      have p102740 : 0 < D := by omega
      have : (u_7.1 10).toInt = (u_4.1 10).toInt := ie_i q102733 10 (by decide)
      have : (u_7.1 11).toInt = (u_4.1 11).toInt := ie_i q102733 11 (by decide)
      have p102741 : 0 ≤ (u_7.1 10).toInt ∧ 0 ≤ (u_7.1 11).toInt ∧ (u_7.1 10).toInt + (u_7.1 11).toInt ≤ 400 := by omega
      refine wq_X7_scrolls q102732 p102740 p102741 (fun r_9 u_10 q102742 q102743 => ?_)
      have := q102742.1
      have := q102742.2.1
      have p102744 : ie [1, 2, 6, 7, 8, 9, 10, 11, 12, 13] u_10.1 s0.1 := (ie_tr q102743 (by decide) (ie_tr q102733 (by decide) (ie_tr q102725 (by decide) (ie_up (ie_refl _ _) (by decide)))))
      have p102745 : (1 : Int32).toInt = 0 ∨ (1 : Int32).toInt = 1 := by (have := li_1; omega)
      have : (u_10.1 6).toInt = (u_7.1 6).toInt := ie_i q102743 6 (by decide)
      have : (u_7.1 6).toInt = (u_4.1 6).toInt := ie_i q102733 6 (by decide)
      have p102746 : (s0.1 6).toInt ≤ (u_10.1 6).toInt ∧ (u_10.1 6).toInt ≤ N := by omega
      exact k _ _ q102742 p102744 p102745 p102746
  · replace c102731 := q_eq c102731
    rw [li_0] at c102731
    have p102747 : ie [1, 2, 6, 7, 8, 9, 10, 11, 12, 13] u_4.1 s0.1 := (ie_tr q102725 (by decide) (ie_up (ie_refl _ _) (by decide)))
    have p102748 : (0 : Int32).toInt = 0 ∨ (0 : Int32).toInt = 1 := by (have := li_0; omega)
    have p102749 : (s0.1 6).toInt ≤ (u_4.1 6).toInt ∧ (u_4.1 6).toInt ≤ N := by omega
    exact k _ _ q102724 p102747 p102748 p102749
theorem wq_X7_goesHome_L38 {post : Int32 → Md → Prop} {e69 : Md → Int32 → Int32 → Prop} {D N R W : Int} {A : Nat → Int32} (h102750 : 0 < D) (ke69 : ∀ (t0 : Md) (z1 : Int32) (z2 : Int32), mb (N) (R) (W) (D) t0 → ie [] t0.1 A → 0 ≤ (t0.1 8).toInt ∧ (t0.1 8).toInt < R → 0 ≤ (z2).toInt ∧ (z2).toInt ≤ W → e69 t0 z1 z2) : ∀ (n : Nat) (t0 : Md) (z1 : Int32) (z2 : Int32), mb (N) (R) (W) (D) t0 → ie [] t0.1 A → 0 ≤ (t0.1 8).toInt ∧ (t0.1 8).toInt < R → 0 ≤ (z2).toInt ∧ (z2).toInt ≤ W → W - (z2).toInt < (n : Int) → wp_X7_goesHome_L38 post e69 n t0 z1 z2 := by
  intro n
  induction n with
  | zero =>
    intro t0 z1 z2 i102751 i102752 i102753 i102754 i102755
    have := i102751.1
    have := i102751.2.1
    have := i102751.2.2.1
    have := i102751.2.2.2.1
    have : (t0.1 8).toInt = (A 8).toInt := ie_i i102752 8 (by decide)
    exfalso
    omega
  | succ n ih =>
    intro t0 z1 z2 i102751 i102752 i102753 i102754 i102755
    unfold wp_X7_goesHome_L38
    have := i102751.1
    have := i102751.2.1
    have := i102751.2.2.1
    have := i102751.2.2.2.1
    have : (t0.1 8).toInt = (A 8).toInt := ie_i i102752 8 (by decide)
    refine wq_X7_wide i102751 (fun r_9 q102756 => ?_)
    refine ⟨fun c102757 => ?_, fun c102758 => ?_⟩
    · replace c102757 := q_le c102757
      have p102759 : ie [] t0.1 A := (ie_tr i102752 (by decide) (ie_refl _ _))
      have p102760 : 0 ≤ (t0.1 8).toInt ∧ (t0.1 8).toInt < R := by omega
      have p102761 : 0 ≤ (z2).toInt ∧ (z2).toInt ≤ W := by omega
      exact ke69 _ _ _ i102751 p102759 p102760 p102761
    · replace c102758 := q_nle c102758
      refine wq_X7_wide i102751 (fun r_12 q102762 => ?_)
      have := rw_r (a := (t0.1 8)) (b := r_12) (R := R) (W := W) (by omega) (by omega) (by omega)
      have e102763 := tq_add (r_12 * (t0.1 8)) z2
      try rw [Int.emod_eq_of_lt (show 0 ≤ (r_12 * (t0.1 8)).toInt + (z2).toInt + 2147483648 by omega) (show (r_12 * (t0.1 8)).toInt + (z2).toInt + 2147483648 < 4294967296 by omega)] at e102763
      have p102764 : 0 ≤ ((r_12 * (t0.1 8)) + z2).toInt ∧ ((r_12 * (t0.1 8)) + z2).toInt < 40 := by omega
      have p102765 : 0 < D := by omega
      try have := rw_k i102751.2.2.2.2.1 (show 0 ≤ (((r_12 * (t0.1 8)) + z2)).toInt ∧ (((r_12 * (t0.1 8)) + z2)).toInt < 40 by omega)
      have p102766 : 0 ≤ ((0 : Int32)).toInt ∧ ((0 : Int32)).toInt ≤ 39 ∧ ((0 : Int32)).toInt < fl_c ((t0.2.2.1 0)) ((r_12 * (t0.1 8)) + z2) := by (have := li_0; omega)
      refine wq_X7_wantsFlap i102751 p102764 p102765 p102766 (fun u_15 q102767 q102768 => ?_)
      have := q102767.1
      have := q102767.2.1
      have p102769 : ie [] u_15.1 A := (ie_tr q102768 (by decide) (ie_tr i102752 (by decide) (ie_refl _ _)))
      have : (u_15.1 8).toInt = (t0.1 8).toInt := ie_i q102768 8 (by decide)
      have p102770 : 0 ≤ (u_15.1 8).toInt ∧ (u_15.1 8).toInt < R := by omega
      have e102771 := tq_addr li_1 z2
      try rw [Int.emod_eq_of_lt (show 0 ≤ (z2).toInt + 1 + 2147483648 by omega) (show (z2).toInt + 1 + 2147483648 < 4294967296 by omega)] at e102771
      have p102772 : 0 ≤ (z2 + 1).toInt ∧ (z2 + 1).toInt ≤ W := by omega
      have p102773 : W - (z2 + 1).toInt < ((n : Nat) : Int) := by (omega)
      exact ih _ _ _ q102767 p102769 p102770 p102772 p102773
theorem wq_X7_goesHome {post : Int32 → Md → Prop} {s0 : Md} {x1 : Int32} {N R W D : Int} (h102774 : mb (N) (R) (W) (D) s0) (h102775 : 0 < D) (h102776 : 0 ≤ (s0.1 6).toInt ∧ (s0.1 6).toInt + 4 ≤ N) (k : ∀ (r : Int32) (u : Md), mb (N) (R) (W) (D) u → ie [1, 2, 6, 7, 8, 9, 10, 11, 12, 13] u.1 s0.1 → (r).toInt = 0 ∨ (r).toInt = 1 → (s0.1 6).toInt ≤ (u.1 6).toInt ∧ (u.1 6).toInt ≤ N → post r u) : wp_X7_goesHome post s0 x1 := by
  unfold wp_X7_goesHome
  have := h102774.1
  have := h102774.2.1
  have := h102774.2.2.1
  have := h102774.2.2.2.1
  have p102777 : (s0.1 5).toInt = N := by omega
  have p102778 : 0 ≤ (s0.1 0).toInt ∧ (s0.1 0).toInt ≤ 10 := by omega
  have p102779 : 0 ≤ N ∧ N ≤ 400 := by omega
  have p102780 : 0 ≤ R ∧ R ≤ 6 ∧ 0 ≤ W ∧ W ≤ 10 ∧ 0 ≤ R * W ∧ R * W ≤ 40 ∧ 0 ≤ D ∧ D ≤ 4 ∧ (D ≤ 0 ∨ 1 ≤ R) ∧ (1 ≤ R ∨ R * W = 0) := by omega
  have B102781 : mb (N) (R) (W) (D) ((va_up s0.1 6 ((s0.1 6) + 4)), s0.2.1, s0.2.2.1, s0.2.2.2) := ⟨p102777, p102778, p102779, p102780, h102774.2.2.2.2.1, h102774.2.2.2.2.2.1, h102774.2.2.2.2.2.2.1, h102774.2.2.2.2.2.2.2⟩
  refine wq_X7_rows B102781 (fun r_1 q102782 => ?_)
  replace q102782 : (r_1).toInt = R := q102782
  have e102783 := tq_addr li_4 (s0.1 6)
  try rw [Int.emod_eq_of_lt (show 0 ≤ (s0.1 6).toInt + 4 + 2147483648 by omega) (show (s0.1 6).toInt + 4 + 2147483648 < 4294967296 by omega)] at e102783
  have p102784 : 0 ≤ ((s0.1 6) + 4).toInt ∧ ((s0.1 6) + 4).toInt ≤ N := by omega
  refine wq_X7_readsNumber B102781 p102784 (fun r_3 u_4 q102785 q102786 q102787 q102788 q102789 q102790 => ?_)
  have := q102785.1
  have := q102785.2.1
  replace q102787 : (r_3).toInt = 0 ∨ (r_3).toInt = 1 := q102787
  replace q102788 : ((s0.1 6) + 4).toInt ≤ (u_4.1 6).toInt ∧ (u_4.1 6).toInt ≤ N := q102788
  replace q102789 : (r_3).toInt = 0 ∨ (((0 : Int32)).toInt ≤ (u_4.1 8).toInt ∧ (u_4.1 8).toInt ≤ (r_1 - 1).toInt) := q102789
  try simp only [li_0] at q102789
  have e102791 := tq_subr li_1 r_1
  try rw [Int.emod_eq_of_lt (show 0 ≤ (r_1).toInt - 1 + 2147483648 by omega) (show (r_1).toInt - 1 + 2147483648 < 4294967296 by omega)] at e102791
  refine ⟨fun c102792 => ?_, fun c102793 => ?_⟩
  · replace c102792 := q_neq c102792
    rw [li_0] at c102792
    refine wq_X7_isDone q102785 (fun r_6 u_7 q102794 q102795 q102796 => ?_)
    have := q102794.1
    have := q102794.2.1
    refine ⟨fun c102797 => ?_, fun c102798 => ?_⟩
    · replace c102797 := q_neq c102797
      rw [li_0] at c102797
      have p102799 : 0 < D := by omega
      have p102800 : ie [] u_7.1 u_7.1 := (ie_refl _ _)
      have : (u_7.1 8).toInt = (u_4.1 8).toInt := ie_i q102795 8 (by decide)
      have p102801 : 0 ≤ (u_7.1 8).toInt ∧ (u_7.1 8).toInt < R := by omega
      have p102802 : 0 ≤ (0 : Int32).toInt ∧ (0 : Int32).toInt ≤ W := by (have := li_0; omega)
      obtain ⟨f102803, g102804⟩ := fu_e 50
      have p102805 : W - (0 : Int32).toInt < (f102803 : Int) := by (have := li_0; omega)
      refine ⟨f102803, wq_X7_goesHome_L38 p102799 (fun t0 z1 z2 q102806 q102807 q102808 q102809 => ?_) f102803 _ _ _ q102794 p102800 p102801 p102802 p102805⟩
      have := q102806.1
      have := q102806.2.1
      have : (t0.1 8).toInt = (u_7.1 8).toInt := ie_i q102807 8 (by decide)
      have p102810 : ie [1, 2, 6, 7, 8, 9, 10, 11, 12, 13] t0.1 s0.1 := (ie_tr q102807 (by decide) (ie_tr q102795 (by decide) (ie_tr q102786 (by decide) (ie_up (ie_refl _ _) (by decide)))))
      have p102811 : (1 : Int32).toInt = 0 ∨ (1 : Int32).toInt = 1 := by (have := li_1; omega)
      have : (t0.1 6).toInt = (u_7.1 6).toInt := ie_i q102807 6 (by decide)
      have : (u_7.1 6).toInt = (u_4.1 6).toInt := ie_i q102795 6 (by decide)
      have p102812 : (s0.1 6).toInt ≤ (t0.1 6).toInt ∧ (t0.1 6).toInt ≤ N := by omega
      exact k _ _ q102806 p102810 p102811 p102812
    · replace c102798 := q_eq c102798
      rw [li_0] at c102798
      have p102813 : ie [1, 2, 6, 7, 8, 9, 10, 11, 12, 13] u_7.1 s0.1 := (ie_tr q102795 (by decide) (ie_tr q102786 (by decide) (ie_up (ie_refl _ _) (by decide))))
      have p102814 : (1 : Int32).toInt = 0 ∨ (1 : Int32).toInt = 1 := by (have := li_1; omega)
      have : (u_7.1 6).toInt = (u_4.1 6).toInt := ie_i q102795 6 (by decide)
      have p102815 : (s0.1 6).toInt ≤ (u_7.1 6).toInt ∧ (u_7.1 6).toInt ≤ N := by omega
      exact k _ _ q102794 p102813 p102814 p102815
  · replace c102793 := q_eq c102793
    rw [li_0] at c102793
    have p102816 : ie [1, 2, 6, 7, 8, 9, 10, 11, 12, 13] u_4.1 s0.1 := (ie_tr q102786 (by decide) (ie_up (ie_refl _ _) (by decide)))
    have p102817 : (0 : Int32).toInt = 0 ∨ (0 : Int32).toInt = 1 := by (have := li_0; omega)
    have p102818 : (s0.1 6).toInt ≤ (u_4.1 6).toInt ∧ (u_4.1 6).toInt ≤ N := by omega
    exact k _ _ q102785 p102816 p102817 p102818
theorem wq_X7_goesWait_L34 {post : Int32 → Md → Prop} {e53 : Md → Int32 → Int32 → Prop} {D N R W : Int} {A : Nat → Int32} (h102819 : 0 < D) (ke53 : ∀ (t0 : Md) (z1 : Int32) (z2 : Int32), mb (N) (R) (W) (D) t0 → ie [1, 2] t0.1 A → 0 ≤ (z2).toInt ∧ (z2).toInt ≤ (t0.1 8).toInt ∧ (t0.1 8).toInt ≤ 99 → e53 t0 z1 z2) : ∀ (n : Nat) (t0 : Md) (z1 : Int32) (z2 : Int32), mb (N) (R) (W) (D) t0 → ie [1, 2] t0.1 A → 0 ≤ (z2).toInt ∧ (z2).toInt ≤ (t0.1 8).toInt ∧ (t0.1 8).toInt ≤ 99 → (t0.1 8).toInt - (z2).toInt < (n : Int) → wp_X7_goesWait_L34 post e53 n t0 z1 z2 := by
  intro n
  induction n with
  | zero =>
    intro t0 z1 z2 i102820 i102821 i102822 i102823
    have := i102820.1
    have := i102820.2.1
    have := i102820.2.2.1
    have := i102820.2.2.2.1
    have : (t0.1 8).toInt = (A 8).toInt := ie_i i102821 8 (by decide)
    exfalso
    omega
  | succ n ih =>
    intro t0 z1 z2 i102820 i102821 i102822 i102823
    unfold wp_X7_goesWait_L34
    have := i102820.1
    have := i102820.2.1
    have := i102820.2.2.1
    have := i102820.2.2.2.1
    have : (t0.1 8).toInt = (A 8).toInt := ie_i i102821 8 (by decide)
    refine ⟨fun c102824 => ?_, fun c102825 => ?_⟩
    · replace c102824 := q_le c102824
      have p102826 : ie [1, 2] t0.1 A := (ie_tr i102821 (by decide) (ie_refl _ _))
      have p102827 : 0 ≤ (z2).toInt ∧ (z2).toInt ≤ (t0.1 8).toInt ∧ (t0.1 8).toInt ≤ 99 := by omega
      exact ke53 _ _ _ i102820 p102826 p102827
    · replace c102825 := q_nle c102825
      have p102828 : 0 < D := by omega
      refine wq_X7_ticks i102820 p102828 (fun r_8 u_9 q102829 q102830 q102831 q102832 => ?_)
      have := q102829.1
      have := q102829.2.1
      have p102833 : ie [1, 2] u_9.1 A := (ie_tr q102830 (by decide) (ie_tr i102821 (by decide) (ie_refl _ _)))
      have e102834 := tq_addr li_1 z2
      try rw [Int.emod_eq_of_lt (show 0 ≤ (z2).toInt + 1 + 2147483648 by omega) (show (z2).toInt + 1 + 2147483648 < 4294967296 by omega)] at e102834
      have : (u_9.1 8).toInt = (t0.1 8).toInt := ie_i q102830 8 (by decide)
      have p102835 : 0 ≤ (z2 + 1).toInt ∧ (z2 + 1).toInt ≤ (u_9.1 8).toInt ∧ (u_9.1 8).toInt ≤ 99 := by omega
      have p102836 : (u_9.1 8).toInt - (z2 + 1).toInt < ((n : Nat) : Int) := by (omega)
      exact ih _ _ _ q102829 p102833 p102835 p102836
