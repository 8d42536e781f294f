theorem wq_X6_when {post : Int32 → Bd → Mo → Prop} {s2 : Bd} {s3 : Bd} {s4 : Mo} {x1 : Int32} {R W R3 W3 : Int} (h3544 : bi (R) (W) s2) (h3545 : bi (R3) (W3) s3) (h3546 : mo s4) (k : ∀ (r : Int32) (ua : Bd) (ub : Mo) (R4 W4 : Int), bi (R4) (W4) ua → mo ub → post r ua ub) : wp_X6_when post s2 s3 s4 x1 := by
  unfold wp_X6_when
  have := h3544.1
  have := h3544.2.1
  have := h3544.2.2.1
  have := h3544.2.2.2.1
  have := h3544.2.2.2.2.2.2.2.2.2
  have := h3545.1
  have := h3545.2.1
  have := h3545.2.2.1
  have := h3545.2.2.2.1
  have := h3545.2.2.2.2.2.2.2.2.2
  have := h3546.1
  refine wq_X0_isThere h3544 (fun r_1 q3547 => ?_)
  refine ⟨fun c3548 => ?_, fun c3549 => ?_⟩
  · replace c3548 := q_eq c3548
    rw [li_0] at c3548
    exact k _ _ _ (R3) (W3) h3545 h3546
  · replace c3549 := q_neq c3549
    rw [li_0] at c3549
    refine ⟨fun c3550 => ?_, fun c3551 => ?_⟩
    · replace c3550 := q_lt c3550
      rw [li_0] at c3550
      exact k _ _ _ (R3) (W3) h3545 h3546
    · replace c3551 := q_nlt c3551
      rw [li_0] at c3551
      refine ⟨fun c3552 => ?_, fun c3553 => ?_⟩
      · replace c3552 := q_le c3552
        rw [li_5] at c3552
        refine wq_X6_tryToSettle h3544 h3545 h3546 (fun u_7a u_7b q3554 q3555 => ?_)
        have := q3554.1
        have := q3554.2.1
        have := q3554.2.2.1
        have := q3554.2.2.2.2.2.2.2.2.2
        have := q3555.1
        refine ⟨fun c3556 => ?_, fun c3557 => ?_⟩
        · replace c3556 := q_eq c3556
          rw [li_0] at c3556
          exact k _ _ _ (R) (W) q3554 q3555
        · replace c3557 := q_neq c3557
          rw [li_0] at c3557
          refine ⟨fun c3558 => ?_, fun c3559 => ?_⟩
          · replace c3558 := q_eq c3558
            rw [li_1] at c3558
            exact k _ _ _ (R) (W) q3554 q3555
          · replace c3559 := q_neq c3559
            rw [li_1] at c3559
            refine ⟨fun c3560 => ?_, fun c3561 => ?_⟩
            · replace c3560 := q_eq c3560
              rw [li_2] at c3560
              exact k _ _ _ (R) (W) q3554 q3555
            · replace c3561 := q_neq c3561
              rw [li_2] at c3561
              refine ⟨fun c3562 => ?_, fun c3563 => ?_⟩
              · replace c3562 := q_eq c3562
                rw [li_3] at c3562
                exact k _ _ _ (R) (W) q3554 q3555
              · replace c3563 := q_neq c3563
                rw [li_3] at c3563
                refine ⟨fun c3564 => ?_, fun c3565 => ?_⟩
                · replace c3564 := q_eq c3564
                  rw [li_4] at c3564
                  refine wq_X0_wrongCount q3554 (fun r_13 => ?_)
                  exact k _ _ _ (R) (W) q3554 q3555
                · replace c3565 := q_neq c3565
                  rw [li_4] at c3565
                  refine ⟨fun c3566 => ?_, fun c3567 => ?_⟩
                  · replace c3566 := q_eq c3566
                    rw [li_5] at c3566
                    exact k _ _ _ (R) (W) q3554 q3555
                  · replace c3567 := q_neq c3567
                    rw [li_5] at c3567
                    exact k _ _ _ (R) (W) q3554 q3555
      · replace c3553 := q_nle c3553
        rw [li_5] at c3553
        exact k _ _ _ (R3) (W3) h3545 h3546
theorem wq_X6_loudest {post : Int32 → Bd → Mo → Prop} {s2 : Bd} {s3 : Bd} {s4 : Mo} {x1 : Int32} {R W R3 W3 : Int} (h3568 : bi (R) (W) s2) (h3569 : bi (R3) (W3) s3) (h3570 : mo s4) (k : ∀ (r : Int32) (ua : Bd) (ub : Mo) (R4 W4 : Int), bi (R4) (W4) ua → mo ub → post r ua ub) : wp_X6_loudest post s2 s3 s4 x1 := by
  unfold wp_X6_loudest
  have := h3568.1
  have := h3568.2.1
  have := h3568.2.2.1
  have := h3568.2.2.2.1
  have := h3568.2.2.2.2.2.2.2.2.2
  have := h3569.1
  have := h3569.2.1
  have := h3569.2.2.1
  have := h3569.2.2.2.1
  have := h3569.2.2.2.2.2.2.2.2.2
  have := h3570.1
  refine wq_X0_isThere h3568 (fun r_1 q3571 => ?_)
  refine ⟨fun c3572 => ?_, fun c3573 => ?_⟩
  · replace c3572 := q_eq c3572
    rw [li_0] at c3572
    exact k _ _ _ (R3) (W3) h3569 h3570
  · replace c3573 := q_neq c3573
    rw [li_0] at c3573
    refine ⟨fun c3574 => ?_, fun c3575 => ?_⟩
    · replace c3574 := q_lt c3574
      rw [li_0] at c3574
      exact k _ _ _ (R3) (W3) h3569 h3570
    · replace c3575 := q_nlt c3575
      rw [li_0] at c3575
      refine ⟨fun c3576 => ?_, fun c3577 => ?_⟩
      · replace c3576 := q_le c3576
        rw [li_1] at c3576
        refine wq_X6_tryToSettle h3568 h3569 h3570 (fun u_7a u_7b q3578 q3579 => ?_)
        have := q3578.1
        have := q3578.2.1
        have := q3578.2.2.1
        have := q3578.2.2.2.2.2.2.2.2.2
        have := q3579.1
        refine ⟨fun c3580 => ?_, fun c3581 => ?_⟩
        · replace c3580 := q_neq c3580
          rw [li_0] at c3580
          refine ⟨fun c3582 => ?_, fun c3583 => ?_⟩
          · replace c3582 := q_neq c3582
            rw [li_0] at c3582
            exact k _ _ _ (R) (W) q3578 q3579
          · replace c3583 := q_eq c3583
            rw [li_0] at c3583
            exact k _ _ _ (R) (W) q3578 q3579
        · replace c3581 := q_eq c3581
          rw [li_0] at c3581
          exact k _ _ _ (R) (W) q3578 q3579
      · replace c3577 := q_nle c3577
        rw [li_1] at c3577
        exact k _ _ _ (R3) (W3) h3569 h3570
theorem wq_X6_rests_L26 {s2 : Bd} {post : Int32 → Bd → Mo → Prop} {e77 : Bd → Mo → Int32 → Int32 → Prop} {R W : Int} (ke77 : ∀ (t2 : Bd) (t3 : Mo) (z1 : Int32) (z2 : Int32), bi (R) (W) t2 → mo t3 → 0 ≤ (z1).toInt ∧ (z1).toInt < 40 → 0 ≤ (z2).toInt ∧ (z2).toInt ≤ 10000 → e77 t2 t3 z1 z2) (k : ∀ (r : Int32) (ua : Bd) (ub : Mo) (R4 W4 : Int), bi (R4) (W4) ua → mo ub → post r ua ub) : ∀ (n : Nat) (t2 : Bd) (t3 : Mo) (z1 : Int32) (z2 : Int32), bi (R) (W) t2 → mo t3 → 0 ≤ (z1).toInt ∧ (z1).toInt < 40 → 0 ≤ (z2).toInt ∧ (z2).toInt ≤ 10000 → 10000 - (z2).toInt < (n : Int) → wp_X6_rests_L26 s2 post e77 n t2 t3 z1 z2 := by
  intro n
  induction n with
  | zero =>
    intro t2 t3 z1 z2 i3584 i3585 i3586 i3587 i3588
    have := i3584.1
    have := i3584.2.1
    have := i3584.2.2.1
    have := i3584.2.2.2.1
    have := i3584.2.2.2.2.2.2.2.2.2
    have := i3585.1
    exfalso
    omega
  | succ n ih =>
    intro t2 t3 z1 z2 i3584 i3585 i3586 i3587 i3588
    unfold wp_X6_rests_L26
    have := i3584.1
    have := i3584.2.1
    have := i3584.2.2.1
    have := i3584.2.2.2.1
    have := i3584.2.2.2.2.2.2.2.2.2
    have := i3585.1
    refine ⟨fun c3589 => ?_, fun c3590 => ?_⟩
    · replace c3589 := q_lt c3589
      rw [li_9999] at c3589
      have p3591 : 0 ≤ (z1).toInt ∧ (z1).toInt < 40 := by omega
      have p3592 : 0 ≤ (z2).toInt ∧ (z2).toInt ≤ 10000 := by omega
      exact ke77 _ _ _ _ i3584 i3585 p3591 p3592
    · replace c3590 := q_nlt c3590
      rw [li_9999] at c3590
      have p3593 : 0 ≤ (z1).toInt ∧ (z1).toInt < 40 := by omega
      refine wq_X0_leftOf i3584 p3593 (fun r_7 => ?_)
      refine ⟨fun c3594 => ?_, fun c3595 => ?_⟩
      · replace c3594 := q_neq c3594
        rw [li_0] at c3594
        have p3596 : 0 ≤ ((1 : Int32)).toInt ∧ ((1 : Int32)).toInt ≤ 9999 := by (have := li_1; omega)
        refine wq_X2_turn i3585 i3584 p3596 (fun u_11a u_11b q3597 q3598 => ?_)
        have := q3597.1
        have := q3598.1
        have := q3598.2.1
        have := q3598.2.2.1
        have := q3598.2.2.2.2.2.2.2.2.2
        refine ⟨fun c3599 => ?_, fun c3600 => ?_⟩
        · replace c3599 := q_neq c3599
          rw [li_0] at c3599
          have p3601 : 0 ≤ (z1).toInt ∧ (z1).toInt < 40 := by omega
          have e3602 := tq_addr li_1 z2
          try rw [Int.emod_eq_of_lt (show 0 ≤ (z2).toInt + 1 + 2147483648 by omega) (show (z2).toInt + 1 + 2147483648 < 4294967296 by omega)] at e3602
          have p3603 : 0 ≤ (z2 + 1).toInt ∧ (z2 + 1).toInt ≤ 10000 := by omega
          have p3604 : 10000 - (z2 + 1).toInt < ((n : Nat) : Int) := by (omega)
          exact ih _ _ _ _ q3598 q3597 p3601 p3603 p3604
        · replace c3600 := q_eq c3600
          rw [li_0] at c3600
          exact k _ _ _ (R) (W) q3598 q3597
      · replace c3595 := q_eq c3595
        rw [li_0] at c3595
        exact k _ _ _ (R) (W) i3584 i3585
theorem wq_X6_rests {post : Int32 → Bd → Mo → Prop} {s2 : Bd} {s3 : Bd} {s4 : Mo} {x1 : Int32} {R W R3 W3 : Int} (h3605 : bi (R) (W) s2) (h3606 : bi (R3) (W3) s3) (h3607 : mo s4) (k : ∀ (r : Int32) (ua : Bd) (ub : Mo) (R4 W4 : Int), bi (R4) (W4) ua → mo ub → post r ua ub) : wp_X6_rests post s2 s3 s4 x1 := by
  unfold wp_X6_rests
  have := h3605.1
  have := h3605.2.1
  have := h3605.2.2.1
  have := h3605.2.2.2.1
  have := h3605.2.2.2.2.2.2.2.2.2
  have := h3606.1
  have := h3606.2.1
  have := h3606.2.2.1
  have := h3606.2.2.2.1
  have := h3606.2.2.2.2.2.2.2.2.2
  have := h3607.1
  refine wq_X0_hasCell h3605 (fun r_1 q3608 => ?_)
  refine ⟨fun c3609 => ?_, fun c3610 => ?_⟩
  · replace c3609 := q_neq c3609
    rw [li_0] at c3609
    refine wq_X0_copyAllButLog h3606 h3605 (fun u_5 q3611 q3612 => ?_)
    have := q3611.1
    have := q3611.2.1
    have := q3611.2.2.1
    have := q3611.2.2.2.2.2.2.2.2.2
    have p3613 : 0 ≤ (x1).toInt ∧ (x1).toInt < 40 := by omega
    have p3614 : 0 ≤ (0 : Int32).toInt ∧ (0 : Int32).toInt ≤ 10000 := by (have := li_0; omega)
    obtain ⟨f3615, g3616⟩ := fu_e 10001
    have p3617 : 10000 - (0 : Int32).toInt < (f3615 : Int) := by (have := li_0; omega)
    refine ⟨f3615, wq_X6_rests_L26 (fun t2 t3 z1 z2 q3618 q3619 q3620 q3621 => ?_) k f3615 _ _ _ _ q3611 h3607 p3613 p3614 p3617⟩
    have := q3618.1
    have := q3618.2.1
    have := q3618.2.2.1
    have := q3618.2.2.2.2.2.2.2.2.2
    have := q3619.1
    exact k _ _ _ (R) (W) q3618 q3619
  · replace c3610 := q_eq c3610
    rw [li_0] at c3610
    exact k _ _ _ (R3) (W3) h3606 h3607
theorem wq_X6_cost {post : Int32 → Prop} {s1 : Tp} {s2 : Bd} {x1 : Int32} {N R W : Int} (h3622 : tz (N) s1) (h3623 : bi (R) (W) s2) (k : ∀ (r : Int32), post r) : wp_X6_cost post s1 s2 x1 := by
  unfold wp_X6_cost
  have := h3622.1
  have := h3622.2
  have := h3623.1
  have := h3623.2.1
  have := h3623.2.2.1
  have := h3623.2.2.2.1
  have := h3623.2.2.2.2.2.2.2.2.2
  refine wq_X6_whyNotRow h3622 h3623 (fun r_1 q3624 => ?_)
  refine ⟨fun c3625 => ?_, fun c3626 => ?_⟩
  · replace c3625 := q_neq c3625
    rw [li_0] at c3625
    exact k _
  · replace c3626 := q_eq c3626
    rw [li_0] at c3626
    have p3627 : 0 ≤ (x1).toInt ∧ (x1).toInt < R := by omega
    refine wq_X0_costOf h3623 h3622 p3627 (fun r_4 => ?_)
    exact k _
theorem wq_X6_best_L39 {s1 : Tp} {s2 : Bd} {post : Int32 → Prop} {e187 : Int32 → Int32 → Int32 → Int32 → Int32 → Int32 → Int32 → Int32 → Prop} {N R W : Int} (h3628 : tz (N) s1) (h3629 : bi (R) (W) s2) (ke187 : ∀ (z1 : Int32) (z2 : Int32) (z3 : Int32) (z4 : Int32) (z5 : Int32) (z6 : Int32) (z7 : Int32) (z8 : Int32), 0 ≤ (z1).toInt ∧ (z1).toInt < R → 0 ≤ (z4).toInt ∧ (z4).toInt ≤ (z8).toInt ∧ (z8).toInt ≤ N + 1 → e187 z1 z2 z3 z4 z5 z6 z7 z8) (k : ∀ (r : Int32), post r) : ∀ (n : Nat) (z1 : Int32) (z2 : Int32) (z3 : Int32) (z4 : Int32) (z5 : Int32) (z6 : Int32) (z7 : Int32) (z8 : Int32), 0 ≤ (z1).toInt ∧ (z1).toInt < R → 0 ≤ (z4).toInt ∧ (z4).toInt ≤ (z8).toInt ∧ (z8).toInt ≤ N + 1 → N + 1 - (z8).toInt < (n : Int) → wp_X6_best_L39 s1 s2 post e187 n z1 z2 z3 z4 z5 z6 z7 z8 := by
  have := h3628.1
  have := h3628.2
  have := h3629.1
  have := h3629.2.1
  have := h3629.2.2.1
  have := h3629.2.2.2.1
  have := h3629.2.2.2.2.2.2.2.2.2
  intro n
  induction n with
  | zero =>
    intro z1 z2 z3 z4 z5 z6 z7 z8 i3630 i3631 i3632
    exfalso
    omega
  | succ n ih =>
    intro z1 z2 z3 z4 z5 z6 z7 z8 i3630 i3631 i3632
    unfold wp_X6_best_L39
    refine ⟨fun c3633 => ?_, fun c3634 => ?_⟩
    · replace c3633 := q_lt c3633
      have p3635 : 0 ≤ (z1).toInt ∧ (z1).toInt < R := by omega
      have p3636 : 0 ≤ (z4).toInt ∧ (z4).toInt ≤ (z8).toInt ∧ (z8).toInt ≤ N + 1 := by omega
      exact ke187 _ _ _ _ _ _ _ _ p3635 p3636
    · replace c3634 := q_nlt c3634
      refine ⟨fun c3637 => ?_, fun c3638 => ?_⟩
      · replace c3637 := q_eq c3637
        refine wq_X6_isRowText h3628 h3629 (fun r_8 q3639 => ?_)
        refine ⟨fun c3640 => ?_, fun c3641 => ?_⟩
        · replace c3640 := q_neq c3640
          rw [li_0] at c3640
          have p3642 : 0 ≤ (z1).toInt ∧ (z1).toInt < R := by omega
          refine wq_X0_costOf h3629 h3628 p3642 (fun r_11 => ?_)
          have p3643 : 0 ≤ (z1).toInt ∧ (z1).toInt < R := by omega
          refine wq_X0_missesOf h3629 h3628 p3643 (fun r_13 => ?_)
          refine ⟨fun c3644 => ?_, fun c3645 => ?_⟩
          · replace c3644 := q_eq c3644
            rw [li_0] at c3644
            have p3646 : 0 ≤ (z1).toInt ∧ (z1).toInt < R := by omega
            have e3647 := tq_addr li_1 z8
            try rw [Int.emod_eq_of_lt (show 0 ≤ (z8).toInt + 1 + 2147483648 by omega) (show (z8).toInt + 1 + 2147483648 < 4294967296 by omega)] at e3647
            have p3648 : 0 ≤ (z8 + 1).toInt ∧ (z8 + 1).toInt ≤ (z8 + 1).toInt ∧ (z8 + 1).toInt ≤ N + 1 := by omega
            have p3649 : N + 1 - (z8 + 1).toInt < ((n : Nat) : Int) := by (omega)
            exact ih _ _ _ _ _ _ _ _ p3646 p3648 p3649
          · replace c3645 := q_neq c3645
            rw [li_0] at c3645
            refine ⟨fun c3650 => ?_, fun c3651 => ?_⟩
            · replace c3650 := q_lt c3650
              have p3652 : 0 ≤ (z1).toInt ∧ (z1).toInt < R := by omega
              have e3653 := tq_addr li_1 z8
              try rw [Int.emod_eq_of_lt (show 0 ≤ (z8).toInt + 1 + 2147483648 by omega) (show (z8).toInt + 1 + 2147483648 < 4294967296 by omega)] at e3653
              have p3654 : 0 ≤ (z8 + 1).toInt ∧ (z8 + 1).toInt ≤ (z8 + 1).toInt ∧ (z8 + 1).toInt ≤ N + 1 := by omega
              have p3655 : N + 1 - (z8 + 1).toInt < ((n : Nat) : Int) := by (omega)
              exact ih _ _ _ _ _ _ _ _ p3652 p3654 p3655
            · replace c3651 := q_nlt c3651
              refine ⟨fun c3656 => ?_, fun c3657 => ?_⟩
              · replace c3656 := q_neq c3656
                have p3658 : 0 ≤ (z1).toInt ∧ (z1).toInt < R := by omega
                have e3659 := tq_addr li_1 z8
                try rw [Int.emod_eq_of_lt (show 0 ≤ (z8).toInt + 1 + 2147483648 by omega) (show (z8).toInt + 1 + 2147483648 < 4294967296 by omega)] at e3659
                have p3660 : 0 ≤ (z8 + 1).toInt ∧ (z8 + 1).toInt ≤ (z8 + 1).toInt ∧ (z8 + 1).toInt ≤ N + 1 := by omega
                have p3661 : N + 1 - (z8 + 1).toInt < ((n : Nat) : Int) := by (omega)
                exact ih _ _ _ _ _ _ _ _ p3658 p3660 p3661
              · replace c3657 := q_eq c3657
                refine ⟨fun c3662 => ?_, fun c3663 => ?_⟩
                · replace c3662 := q_le c3662
                  have p3664 : 0 ≤ (z1).toInt ∧ (z1).toInt < R := by omega
                  have e3665 := tq_addr li_1 z8
                  try rw [Int.emod_eq_of_lt (show 0 ≤ (z8).toInt + 1 + 2147483648 by omega) (show (z8).toInt + 1 + 2147483648 < 4294967296 by omega)] at e3665
                  have p3666 : 0 ≤ (z8 + 1).toInt ∧ (z8 + 1).toInt ≤ (z8 + 1).toInt ∧ (z8 + 1).toInt ≤ N + 1 := by omega
                  have p3667 : N + 1 - (z8 + 1).toInt < ((n : Nat) : Int) := by (omega)
                  exact ih _ _ _ _ _ _ _ _ p3664 p3666 p3667
                · replace c3663 := q_nle c3663
                  have p3668 : 0 ≤ (z1).toInt ∧ (z1).toInt < R := by omega
                  have e3669 := tq_addr li_1 z8
                  try rw [Int.emod_eq_of_lt (show 0 ≤ (z8).toInt + 1 + 2147483648 by omega) (show (z8).toInt + 1 + 2147483648 < 4294967296 by omega)] at e3669
                  have p3670 : 0 ≤ (z8 + 1).toInt ∧ (z8 + 1).toInt ≤ (z8 + 1).toInt ∧ (z8 + 1).toInt ≤ N + 1 := by omega
                  have p3671 : N + 1 - (z8 + 1).toInt < ((n : Nat) : Int) := by (omega)
                  exact ih _ _ _ _ _ _ _ _ p3668 p3670 p3671
        · replace c3641 := q_eq c3641
          rw [li_0] at c3641
          exact k _
      · replace c3638 := q_neq c3638
        refine wq_X5_byteAt h3628 (fun r_19 => ?_)
        refine ⟨fun c3672 => ?_, fun c3673 => ?_⟩
        · replace c3672 := q_neq c3672
          rw [li_47] at c3672
          have p3674 : 0 ≤ (z1).toInt ∧ (z1).toInt < R := by omega
          have e3675 := tq_addr li_1 z8
          try rw [Int.emod_eq_of_lt (show 0 ≤ (z8).toInt + 1 + 2147483648 by omega) (show (z8).toInt + 1 + 2147483648 < 4294967296 by omega)] at e3675
          have p3676 : 0 ≤ (z4).toInt ∧ (z4).toInt ≤ (z8 + 1).toInt ∧ (z8 + 1).toInt ≤ N + 1 := by omega
          have p3677 : N + 1 - (z8 + 1).toInt < ((n : Nat) : Int) := by (omega)
          exact ih _ _ _ _ _ _ _ _ p3674 p3676 p3677
        · replace c3673 := q_eq c3673
          rw [li_47] at c3673
          refine wq_X6_isRowText h3628 h3629 (fun r_22 q3678 => ?_)
          refine ⟨fun c3679 => ?_, fun c3680 => ?_⟩
          · replace c3679 := q_neq c3679
            rw [li_0] at c3679
            have p3681 : 0 ≤ (z1).toInt ∧ (z1).toInt < R := by omega
            refine wq_X0_costOf h3629 h3628 p3681 (fun r_25 => ?_)
            have p3682 : 0 ≤ (z1).toInt ∧ (z1).toInt < R := by omega
            refine wq_X0_missesOf h3629 h3628 p3682 (fun r_27 => ?_)
            refine ⟨fun c3683 => ?_, fun c3684 => ?_⟩
            · replace c3683 := q_eq c3683
              rw [li_0] at c3683
              have p3685 : 0 ≤ (z1).toInt ∧ (z1).toInt < R := by omega
              have e3686 := tq_addr li_1 z8
              try rw [Int.emod_eq_of_lt (show 0 ≤ (z8).toInt + 1 + 2147483648 by omega) (show (z8).toInt + 1 + 2147483648 < 4294967296 by omega)] at e3686
              have p3687 : 0 ≤ (z8 + 1).toInt ∧ (z8 + 1).toInt ≤ (z8 + 1).toInt ∧ (z8 + 1).toInt ≤ N + 1 := by omega
              have p3688 : N + 1 - (z8 + 1).toInt < ((n : Nat) : Int) := by (omega)
              exact ih _ _ _ _ _ _ _ _ p3685 p3687 p3688
            · replace c3684 := q_neq c3684
              rw [li_0] at c3684
              refine ⟨fun c3689 => ?_, fun c3690 => ?_⟩
              · replace c3689 := q_lt c3689
                have p3691 : 0 ≤ (z1).toInt ∧ (z1).toInt < R := by omega
                have e3692 := tq_addr li_1 z8
                try rw [Int.emod_eq_of_lt (show 0 ≤ (z8).toInt + 1 + 2147483648 by omega) (show (z8).toInt + 1 + 2147483648 < 4294967296 by omega)] at e3692
                have p3693 : 0 ≤ (z8 + 1).toInt ∧ (z8 + 1).toInt ≤ (z8 + 1).toInt ∧ (z8 + 1).toInt ≤ N + 1 := by omega
                have p3694 : N + 1 - (z8 + 1).toInt < ((n : Nat) : Int) := by (omega)
                exact ih _ _ _ _ _ _ _ _ p3691 p3693 p3694
              · replace c3690 := q_nlt c3690
                refine ⟨fun c3695 => ?_, fun c3696 => ?_⟩
                · replace c3695 := q_neq c3695
                  have p3697 : 0 ≤ (z1).toInt ∧ (z1).toInt < R := by omega
                  have e3698 := tq_addr li_1 z8
                  try rw [Int.emod_eq_of_lt (show 0 ≤ (z8).toInt + 1 + 2147483648 by omega) (show (z8).toInt + 1 + 2147483648 < 4294967296 by omega)] at e3698
                  have p3699 : 0 ≤ (z8 + 1).toInt ∧ (z8 + 1).toInt ≤ (z8 + 1).toInt ∧ (z8 + 1).toInt ≤ N + 1 := by omega
                  have p3700 : N + 1 - (z8 + 1).toInt < ((n : Nat) : Int) := by (omega)
                  exact ih _ _ _ _ _ _ _ _ p3697 p3699 p3700
                · replace c3696 := q_eq c3696
                  refine ⟨fun c3701 => ?_, fun c3702 => ?_⟩
                  · replace c3701 := q_le c3701
                    have p3703 : 0 ≤ (z1).toInt ∧ (z1).toInt < R := by omega
                    have e3704 := tq_addr li_1 z8
                    try rw [Int.emod_eq_of_lt (show 0 ≤ (z8).toInt + 1 + 2147483648 by omega) (show (z8).toInt + 1 + 2147483648 < 4294967296 by omega)] at e3704
                    have p3705 : 0 ≤ (z8 + 1).toInt ∧ (z8 + 1).toInt ≤ (z8 + 1).toInt ∧ (z8 + 1).toInt ≤ N + 1 := by omega
                    have p3706 : N + 1 - (z8 + 1).toInt < ((n : Nat) : Int) := by (omega)
                    exact ih _ _ _ _ _ _ _ _ p3703 p3705 p3706
                  · replace c3702 := q_nle c3702
                    have p3707 : 0 ≤ (z1).toInt ∧ (z1).toInt < R := by omega
                    have e3708 := tq_addr li_1 z8
                    try rw [Int.emod_eq_of_lt (show 0 ≤ (z8).toInt + 1 + 2147483648 by omega) (show (z8).toInt + 1 + 2147483648 < 4294967296 by omega)] at e3708
                    have p3709 : 0 ≤ (z8 + 1).toInt ∧ (z8 + 1).toInt ≤ (z8 + 1).toInt ∧ (z8 + 1).toInt ≤ N + 1 := by omega
                    have p3710 : N + 1 - (z8 + 1).toInt < ((n : Nat) : Int) := by (omega)
                    exact ih _ _ _ _ _ _ _ _ p3707 p3709 p3710
          · replace c3680 := q_eq c3680
            rw [li_0] at c3680
            exact k _
theorem wq_X6_best {post : Int32 → Prop} {s1 : Tp} {s2 : Bd} {x1 : Int32} {x2 : Int32} {N R W : Int} (h3711 : tz (N) s1) (h3712 : bi (R) (W) s2) (k : ∀ (r : Int32), post r) : wp_X6_best post s1 s2 x1 x2 := by
  unfold wp_X6_best
  have := h3711.1
  have := h3711.2
  have := h3712.1
  have := h3712.2.1
  have := h3712.2.2.1
  have := h3712.2.2.2.1
  have := h3712.2.2.2.2.2.2.2.2.2
  refine wq_X0_hasRow h3712 (fun r_1 q3713 => ?_)
  refine ⟨fun c3714 => ?_, fun c3715 => ?_⟩
  · replace c3714 := q_eq c3714
    rw [li_0] at c3714
    exact k _
  · replace c3715 := q_neq c3715
    rw [li_0] at c3715
    refine ⟨fun c3716 => ?_, fun c3717 => ?_⟩
    · replace c3716 := q_lt c3716
      rw [li_0] at c3716
      exact k _
    · replace c3717 := q_nlt c3717
      rw [li_0] at c3717
      refine ⟨fun c3718 => ?_, fun c3719 => ?_⟩
      · replace c3718 := q_le c3718
        rw [li_2] at c3718
        have p3720 : 0 ≤ (x1).toInt ∧ (x1).toInt < R := by omega
        have p3721 : 0 ≤ (0 : Int32).toInt ∧ (0 : Int32).toInt ≤ (0 : Int32).toInt ∧ (0 : Int32).toInt ≤ N + 1 := by (have := li_0; omega)
        obtain ⟨f3722, g3723⟩ := fu_e 500
        have p3724 : N + 1 - (0 : Int32).toInt < (f3722 : Int) := by (have := li_0; omega)
        refine ⟨f3722, wq_X6_best_L39 h3711 h3712 (fun z1 z2 z3 z4 z5 z6 z7 z8 q3725 q3726 => ?_) k f3722 _ _ _ _ _ _ _ _ p3720 p3721 p3724⟩
        refine ⟨fun c3727 => ?_, fun c3728 => ?_⟩
        · replace c3727 := q_neq c3727
          rw [li_0] at c3727
          refine ⟨fun c3729 => ?_, fun c3730 => ?_⟩
          · replace c3729 := q_neq c3729
            rw [li_1] at c3729
            exact k _
          · replace c3730 := q_eq c3730
            rw [li_1] at c3730
            exact k _
        · replace c3728 := q_eq c3728
          rw [li_0] at c3728
          exact k _
      · replace c3719 := q_nle c3719
        rw [li_2] at c3719
        exact k _
theorem wq_X6_place_L58 {s1 : Tp} {s2 : Bd} {post : Int32 → Prop} {e153 : Int32 → Int32 → Int32 → Int32 → Int32 → Int32 → Int32 → Prop} {N R W : Int} (h3731 : tz (N) s1) (h3732 : bi (R) (W) s2) (ke153 : ∀ (z1 : Int32) (z2 : Int32) (z3 : Int32) (z4 : Int32) (z5 : Int32) (z6 : Int32) (z7 : Int32), 0 ≤ (z1).toInt ∧ (z1).toInt < R → 0 ≤ (z7).toInt ∧ (z7).toInt ≤ 11 ∧ 1 ≤ (z3).toInt ∧ (z3).toInt ≤ 400 → e153 z1 z2 z3 z4 z5 z6 z7) : ∀ (n : Nat) (z1 : Int32) (z2 : Int32) (z3 : Int32) (z4 : Int32) (z5 : Int32) (z6 : Int32) (z7 : Int32), 0 ≤ (z1).toInt ∧ (z1).toInt < R → 0 ≤ (z7).toInt ∧ (z7).toInt ≤ 11 ∧ 1 ≤ (z3).toInt ∧ (z3).toInt ≤ 400 → 11 - (z7).toInt < (n : Int) → wp_X6_place_L58 s1 s2 post e153 n z1 z2 z3 z4 z5 z6 z7 := by
  have := h3731.1
  have := h3731.2
  have := h3732.1
  have := h3732.2.1
  have := h3732.2.2.1
  have := h3732.2.2.2.1
  have := h3732.2.2.2.2.2.2.2.2.2
  intro n
  induction n with
  | zero =>
    intro z1 z2 z3 z4 z5 z6 z7 i3733 i3734 i3735
    exfalso
    omega
  | succ n ih =>
    intro z1 z2 z3 z4 z5 z6 z7 i3733 i3734 i3735
    unfold wp_X6_place_L58
    refine ⟨fun c3736 => ?_, fun c3737 => ?_⟩
    · replace c3736 := q_lt c3736
      have e3738 := tq_add z7 z3
      try rw [Int.emod_eq_of_lt (show 0 ≤ (z7).toInt + (z3).toInt + 2147483648 by omega) (show (z7).toInt + (z3).toInt + 2147483648 < 4294967296 by omega)] at e3738
      have p3739 : 0 ≤ (z1).toInt ∧ (z1).toInt < R := by omega
      have p3740 : 0 ≤ (z7).toInt ∧ (z7).toInt ≤ 11 ∧ 1 ≤ (z3).toInt ∧ (z3).toInt ≤ 400 := by omega
      exact ke153 _ _ _ _ _ _ _ p3739 p3740
    · replace c3737 := q_nlt c3737
      have e3741 := tq_add z7 z3
      try rw [Int.emod_eq_of_lt (show 0 ≤ (z7).toInt + (z3).toInt + 2147483648 by omega) (show (z7).toInt + (z3).toInt + 2147483648 < 4294967296 by omega)] at e3741
      have p3742 : 0 ≤ (z1).toInt ∧ (z1).toInt < R := by omega
      refine wq_X0_costOf h3732 h3731 p3742 (fun r_11 => ?_)
      have p3743 : 0 ≤ (z1).toInt ∧ (z1).toInt < R := by omega
      refine wq_X0_missesOf h3732 h3731 p3743 (fun r_13 => ?_)
      refine ⟨fun c3744 => ?_, fun c3745 => ?_⟩
      · replace c3744 := q_eq c3744
        rw [li_m1] at c3744
        have p3746 : 0 ≤ (z1).toInt ∧ (z1).toInt < R := by omega
        have e3747 := tq_addr li_1 z7
        try rw [Int.emod_eq_of_lt (show 0 ≤ (z7).toInt + 1 + 2147483648 by omega) (show (z7).toInt + 1 + 2147483648 < 4294967296 by omega)] at e3747
        have p3748 : 0 ≤ (z7 + 1).toInt ∧ (z7 + 1).toInt ≤ 11 ∧ 1 ≤ (z3).toInt ∧ (z3).toInt ≤ 400 := by omega
        have p3749 : 11 - (z7 + 1).toInt < ((n : Nat) : Int) := by (omega)
        exact ih _ _ _ _ _ _ _ p3746 p3748 p3749
      · replace c3745 := q_neq c3745
        rw [li_m1] at c3745
        refine ⟨fun c3750 => ?_, fun c3751 => ?_⟩
        · replace c3750 := q_lt c3750
          have p3752 : 0 ≤ (z1).toInt ∧ (z1).toInt < R := by omega
          have e3753 := tq_addr li_1 z7
          try rw [Int.emod_eq_of_lt (show 0 ≤ (z7).toInt + 1 + 2147483648 by omega) (show (z7).toInt + 1 + 2147483648 < 4294967296 by omega)] at e3753
          have p3754 : 0 ≤ (z7 + 1).toInt ∧ (z7 + 1).toInt ≤ 11 ∧ 1 ≤ (z3).toInt ∧ (z3).toInt ≤ 400 := by omega
          have p3755 : 11 - (z7 + 1).toInt < ((n : Nat) : Int) := by (omega)
          exact ih _ _ _ _ _ _ _ p3752 p3754 p3755
        · replace c3751 := q_nlt c3751
          refine ⟨fun c3756 => ?_, fun c3757 => ?_⟩
          · replace c3756 := q_neq c3756
            have p3758 : 0 ≤ (z1).toInt ∧ (z1).toInt < R := by omega
            have e3759 := tq_addr li_1 z7
            try rw [Int.emod_eq_of_lt (show 0 ≤ (z7).toInt + 1 + 2147483648 by omega) (show (z7).toInt + 1 + 2147483648 < 4294967296 by omega)] at e3759
            have p3760 : 0 ≤ (z7 + 1).toInt ∧ (z7 + 1).toInt ≤ 11 ∧ 1 ≤ (z3).toInt ∧ (z3).toInt ≤ 400 := by omega
            have p3761 : 11 - (z7 + 1).toInt < ((n : Nat) : Int) := by (omega)
            exact ih _ _ _ _ _ _ _ p3758 p3760 p3761
          · replace c3757 := q_eq c3757
            refine ⟨fun c3762 => ?_, fun c3763 => ?_⟩
            · replace c3762 := q_le c3762
              have p3764 : 0 ≤ (z1).toInt ∧ (z1).toInt < R := by omega
              have e3765 := tq_addr li_1 z7
              try rw [Int.emod_eq_of_lt (show 0 ≤ (z7).toInt + 1 + 2147483648 by omega) (show (z7).toInt + 1 + 2147483648 < 4294967296 by omega)] at e3765
              have p3766 : 0 ≤ (z7 + 1).toInt ∧ (z7 + 1).toInt ≤ 11 ∧ 1 ≤ (z3).toInt ∧ (z3).toInt ≤ 400 := by omega
              have p3767 : 11 - (z7 + 1).toInt < ((n : Nat) : Int) := by (omega)
              exact ih _ _ _ _ _ _ _ p3764 p3766 p3767
            · replace c3763 := q_nle c3763
              have p3768 : 0 ≤ (z1).toInt ∧ (z1).toInt < R := by omega
              have e3769 := tq_addr li_1 z7
              try rw [Int.emod_eq_of_lt (show 0 ≤ (z7).toInt + 1 + 2147483648 by omega) (show (z7).toInt + 1 + 2147483648 < 4294967296 by omega)] at e3769
              have p3770 : 0 ≤ (z7 + 1).toInt ∧ (z7 + 1).toInt ≤ 11 ∧ 1 ≤ (z3).toInt ∧ (z3).toInt ≤ 400 := by omega
              have p3771 : 11 - (z7 + 1).toInt < ((n : Nat) : Int) := by (omega)
              exact ih _ _ _ _ _ _ _ p3768 p3770 p3771
theorem wq_X6_place {post : Int32 → Prop} {s1 : Tp} {s2 : Bd} {x1 : Int32} {x2 : Int32} {N R W : Int} (h3772 : tz (N) s1) (h3773 : bi (R) (W) s2) (k : ∀ (r : Int32), post r) : wp_X6_place post s1 s2 x1 x2 := by
  unfold wp_X6_place
  have := h3772.1
  have := h3772.2
  have := h3773.1
  have := h3773.2.1
  have := h3773.2.2.1
  have := h3773.2.2.2.1
  have := h3773.2.2.2.2.2.2.2.2.2
  refine wq_X0_hasRow h3773 (fun r_1 q3774 => ?_)
  refine ⟨fun c3775 => ?_, fun c3776 => ?_⟩
  · replace c3775 := q_eq c3775
    rw [li_0] at c3775
    exact k _
  · replace c3776 := q_neq c3776
    rw [li_0] at c3776
    refine ⟨fun c3777 => ?_, fun c3778 => ?_⟩
    · replace c3777 := q_lt c3777
      rw [li_0] at c3777
      exact k _
    · replace c3778 := q_nlt c3778
      rw [li_0] at c3778
      refine ⟨fun c3779 => ?_, fun c3780 => ?_⟩
      · replace c3779 := q_le c3779
        rw [li_1] at c3779
        refine ⟨fun c3781 => ?_, fun c3782 => ?_⟩
        · replace c3781 := q_eq c3781
          rw [li_0] at c3781
          exact k _
        · replace c3782 := q_neq c3782
          rw [li_0] at c3782
          refine wq_X6_isRowText h3772 h3773 (fun r_7 q3783 => ?_)
          refine ⟨fun c3784 => ?_, fun c3785 => ?_⟩
          · replace c3784 := q_neq c3784
            rw [li_0] at c3784
            have p3786 : 0 ≤ (x1).toInt ∧ (x1).toInt < R := by omega
            have p3787 : 0 ≤ (0 : Int32).toInt ∧ (0 : Int32).toInt ≤ 11 ∧ 1 ≤ (s1.1 0).toInt ∧ (s1.1 0).toInt ≤ 400 := by (have := li_0; omega)
            obtain ⟨f3788, g3789⟩ := fu_e 50
            have p3790 : 11 - (0 : Int32).toInt < (f3788 : Int) := by (have := li_0; omega)
            refine ⟨f3788, wq_X6_place_L58 h3772 h3773 (fun z1 z2 z3 z4 z5 z6 z7 q3791 q3792 => ?_) f3788 _ _ _ _ _ _ _ p3786 p3787 p3790⟩
            refine ⟨fun c3793 => ?_, fun c3794 => ?_⟩
            · replace c3793 := q_neq c3793
              rw [li_0] at c3793
              exact k _
            · replace c3794 := q_eq c3794
              rw [li_0] at c3794
              exact k _
          · replace c3785 := q_eq c3785
            rw [li_0] at c3785
            exact k _
      · replace c3780 := q_nle c3780
        rw [li_1] at c3780
        exact k _
theorem wq_X6_usual_L30 {s2 : Bd} {post : Int32 → Prop} {e76 : Int32 → Int32 → Int32 → Int32 → Int32 → Prop} {R W : Int} (h3795 : bi (R) (W) s2) (ke76 : ∀ (z1 : Int32) (z2 : Int32) (z3 : Int32) (z4 : Int32) (z5 : Int32), 0 ≤ (z5).toInt ∧ (z5).toInt ≤ 40 → e76 z1 z2 z3 z4 z5) : ∀ (n : Nat) (z1 : Int32) (z2 : Int32) (z3 : Int32) (z4 : Int32) (z5 : Int32), 0 ≤ (z5).toInt ∧ (z5).toInt ≤ 40 → 40 - (z5).toInt < (n : Int) → wp_X6_usual_L30 s2 post e76 n z1 z2 z3 z4 z5 := by
  have := h3795.1
  have := h3795.2.1
  have := h3795.2.2.1
  have := h3795.2.2.2.1
  have := h3795.2.2.2.2.2.2.2.2.2
  intro n
  induction n with
  | zero =>
    intro z1 z2 z3 z4 z5 i3796 i3797
    exfalso
    omega
  | succ n ih =>
    intro z1 z2 z3 z4 z5 i3796 i3797
    unfold wp_X6_usual_L30
    refine wq_X0_flapsOn h3795 (fun r_6 q3798 q3799 => ?_)
    refine ⟨fun c3800 => ?_, fun c3801 => ?_⟩
    · replace c3800 := q_le c3800
      have p3802 : 0 ≤ (z5).toInt ∧ (z5).toInt ≤ 40 := by omega
      exact ke76 _ _ _ _ _ p3802
    · replace c3801 := q_nle c3801
      refine wq_X0_entriesOf h3795 (fun r_9 => ?_)
      refine ⟨fun c3803 => ?_, fun c3804 => ?_⟩
      · replace c3803 := q_le c3803
        have e3805 := tq_addr li_1 z5
        try rw [Int.emod_eq_of_lt (show 0 ≤ (z5).toInt + 1 + 2147483648 by omega) (show (z5).toInt + 1 + 2147483648 < 4294967296 by omega)] at e3805
        have p3806 : 0 ≤ (z5 + 1).toInt ∧ (z5 + 1).toInt ≤ 40 := by omega
        have p3807 : 40 - (z5 + 1).toInt < ((n : Nat) : Int) := by (omega)
        exact ih _ _ _ _ _ p3806 p3807
      · replace c3804 := q_nle c3804
        have e3808 := tq_addr li_1 z5
        try rw [Int.emod_eq_of_lt (show 0 ≤ (z5).toInt + 1 + 2147483648 by omega) (show (z5).toInt + 1 + 2147483648 < 4294967296 by omega)] at e3808
        have p3809 : 0 ≤ (z5 + 1).toInt ∧ (z5 + 1).toInt ≤ 40 := by omega
        have p3810 : 40 - (z5 + 1).toInt < ((n : Nat) : Int) := by (omega)
        exact ih _ _ _ _ _ p3809 p3810
