theorem wq_X7_goesAll_4_L10 {post : Int32 → Md → Prop} {e27 : Md → Int32 → Prop} {e29 : Md → Int32 → Prop} {D N R W G : Int} {A : Nat → Int32} (h105516 : 0 < D) (ke27 : ∀ (t0 : Md) (z1 : Int32), mb (N) (R) (W) (D) t0 → ie [1, 2, 6, 7, 8, 9, 10, 11, 12, 13, 14] t0.1 A → G ≤ (t0.1 6).toInt ∧ (t0.1 6).toInt ≤ N → e27 t0 z1) (ke29 : ∀ (t0 : Md) (z1 : Int32), mb (N) (R) (W) (D) t0 → ie [1, 2, 6, 7, 8, 9, 10, 11, 12, 13, 14] t0.1 A → (t0.1 14).toInt = 0 → G ≤ (t0.1 6).toInt ∧ (t0.1 6).toInt ≤ N → e29 t0 z1) : ∀ (n : Nat) (t0 : Md) (z1 : Int32), mb (N) (R) (W) (D) t0 → ie [1, 2, 6, 7, 8, 9, 10, 11, 12, 13, 14] t0.1 A → (t0.1 14).toInt = 0 → 0 ≤ G ∧ G ≤ (t0.1 6).toInt ∧ (t0.1 6).toInt ≤ N → N - (t0.1 6).toInt < (n : Int) → wp_X7_goesAll_4_L10 post e27 e29 n t0 z1 := by
  intro n
  induction n with
  | zero =>
    intro t0 z1 i105517 i105518 i105519 i105520 i105521
    have := i105517.1
    have := i105517.2.1
    have := i105517.2.2.1
    have := i105517.2.2.2.1
    exfalso
    omega
  | succ n ih =>
    intro t0 z1 i105517 i105518 i105519 i105520 i105521
    unfold wp_X7_goesAll_4_L10
    have := i105517.1
    have := i105517.2.1
    have := i105517.2.2.1
    have := i105517.2.2.2.1
    have p105522 : 0 ≤ (t0.1 6).toInt ∧ (t0.1 6).toInt ≤ N := by omega
    have p105523 : ¬ ((59 : Int32)).toInt = -1 := by (have := li_59; omega)
    refine wq_X7_takesByte i105517 p105522 p105523 (fun r_4 u_5 q105524 q105525 q105526 q105527 q105528 q105529 => ?_)
    have := q105524.1
    have := q105524.2.1
    refine ⟨fun c105530 => ?_, fun c105531 => ?_⟩
    · replace c105530 := q_eq c105530
      rw [li_0] at c105530
      have p105532 : ie [1, 2, 6, 7, 8, 9, 10, 11, 12, 13, 14] u_5.1 A := (ie_tr q105525 (by decide) (ie_tr i105518 (by decide) (ie_refl _ _)))
      have : (u_5.1 14).toInt = (t0.1 14).toInt := ie_i q105525 14 (by decide)
      have p105533 : (u_5.1 14).toInt = 0 := by omega
      have p105534 : G ≤ (u_5.1 6).toInt ∧ (u_5.1 6).toInt ≤ N := by omega
      exact ke29 _ _ q105524 p105532 p105533 p105534
    · replace c105531 := q_neq c105531
      rw [li_0] at c105531
      have p105535 : 0 < D := by omega
      have p105536 : 0 ≤ (u_5.1 6).toInt ∧ (u_5.1 6).toInt ≤ N := by omega
      have : (u_5.1 14).toInt = (t0.1 14).toInt := ie_i q105525 14 (by decide)
      have p105537 : (u_5.1 14).toInt = 0 := by omega
      refine wq_X7_goesOne_4 q105524 p105535 p105536 p105537 (fun r_7 u_8 q105538 q105539 q105540 q105541 q105542 => ?_)
      have := q105538.1
      have := q105538.2.1
      refine ⟨fun c105543 => ?_, fun c105544 => ?_⟩
      · replace c105543 := q_neq c105543
        rw [li_0] at c105543
        have p105545 : ie [1, 2, 6, 7, 8, 9, 10, 11, 12, 13, 14] u_8.1 A := (ie_tr q105539 (by decide) (ie_tr q105525 (by decide) (ie_tr i105518 (by decide) (ie_refl _ _))))
        have p105546 : (u_8.1 14).toInt = 0 := by omega
        have p105547 : 0 ≤ G ∧ G ≤ (u_8.1 6).toInt ∧ (u_8.1 6).toInt ≤ N := by omega
        have p105548 : N - (u_8.1 6).toInt < ((n : Nat) : Int) := by (omega)
        exact ih _ _ q105538 p105545 p105546 p105547 p105548
      · replace c105544 := q_eq c105544
        rw [li_0] at c105544
        have p105549 : ie [1, 2, 6, 7, 8, 9, 10, 11, 12, 13, 14] u_8.1 A := (ie_tr q105539 (by decide) (ie_tr q105525 (by decide) (ie_tr i105518 (by decide) (ie_refl _ _))))
        have p105550 : G ≤ (u_8.1 6).toInt ∧ (u_8.1 6).toInt ≤ N := by omega
        exact ke27 _ _ q105538 p105549 p105550
theorem wq_X7_goesAll_4 {post : Int32 → Md → Prop} {s0 : Md} {x1 : Int32} {N R W D : Int} (h105551 : mb (N) (R) (W) (D) s0) (h105552 : 0 < D) (h105553 : 0 ≤ (s0.1 6).toInt ∧ (s0.1 6).toInt ≤ N) (h105554 : (s0.1 14).toInt = 0) (k : ∀ (r : Int32) (u : Md), mb (N) (R) (W) (D) u → ie [1, 2, 6, 7, 8, 9, 10, 11, 12, 13, 14] u.1 s0.1 → (r).toInt = 0 ∨ (r).toInt = 1 → (s0.1 6).toInt ≤ (u.1 6).toInt ∧ (u.1 6).toInt ≤ N → (r).toInt = 0 ∨ (u.1 14).toInt = (s0.1 14).toInt → post r u) : wp_X7_goesAll_4 post s0 x1 := by
  unfold wp_X7_goesAll_4
  have := h105551.1
  have := h105551.2.1
  have := h105551.2.2.1
  have := h105551.2.2.2.1
  have p105555 : 0 < D := by omega
  have p105556 : 0 ≤ (s0.1 6).toInt ∧ (s0.1 6).toInt ≤ N := by omega
  have p105557 : (s0.1 14).toInt = 0 := by omega
  refine wq_X7_goesOne_4 h105551 p105555 p105556 p105557 (fun r_1 u_2 q105558 q105559 q105560 q105561 q105562 => ?_)
  have := q105558.1
  have := q105558.2.1
  refine ⟨fun c105563 => ?_, fun c105564 => ?_⟩
  · replace c105563 := q_neq c105563
    rw [li_0] at c105563
    have p105565 : 0 < D := by omega
    have p105566 : ie [1, 2, 6, 7, 8, 9, 10, 11, 12, 13, 14] u_2.1 u_2.1 := (ie_refl _ _)
    have p105567 : (u_2.1 14).toInt = 0 := by omega
    have p105568 : 0 ≤ ((u_2.1 6).toInt) ∧ ((u_2.1 6).toInt) ≤ (u_2.1 6).toInt ∧ (u_2.1 6).toInt ≤ N := by omega
    obtain ⟨f105569, g105570⟩ := fu_e 500
    have p105571 : N - (u_2.1 6).toInt < (f105569 : Int) := by (omega)
    refine ⟨f105569, wq_X7_goesAll_4_L10 p105565 (fun t0 z1 q105572 q105573 q105574 => ?_) (fun t0 z1 q105575 q105576 q105577 q105578 => ?_) f105569 _ _ q105558 p105566 p105567 p105568 p105571⟩
    · have := q105572.1
      have := q105572.2.1
      have p105579 : ie [1, 2, 6, 7, 8, 9, 10, 11, 12, 13, 14] t0.1 s0.1 := (ie_tr q105573 (by decide) (ie_tr q105559 (by decide) (ie_refl _ _)))
      have p105580 : (0 : Int32).toInt = 0 ∨ (0 : Int32).toInt = 1 := by (have := li_0; omega)
      have p105581 : (s0.1 6).toInt ≤ (t0.1 6).toInt ∧ (t0.1 6).toInt ≤ N := by omega
      have p105582 : (0 : Int32).toInt = 0 ∨ (t0.1 14).toInt = (s0.1 14).toInt := by (have := li_0; omega)
      exact k _ _ q105572 p105579 p105580 p105581 p105582
    · have := q105575.1
      have := q105575.2.1
      have p105583 : ie [1, 2, 6, 7, 8, 9, 10, 11, 12, 13, 14] t0.1 s0.1 := (ie_tr q105576 (by decide) (ie_tr q105559 (by decide) (ie_refl _ _)))
      have p105584 : (1 : Int32).toInt = 0 ∨ (1 : Int32).toInt = 1 := by (have := li_1; omega)
      have p105585 : (s0.1 6).toInt ≤ (t0.1 6).toInt ∧ (t0.1 6).toInt ≤ N := by omega
      have p105586 : (1 : Int32).toInt = 0 ∨ (t0.1 14).toInt = (s0.1 14).toInt := by (have := li_1; omega)
      exact k _ _ q105575 p105583 p105584 p105585 p105586
  · replace c105564 := q_eq c105564
    rw [li_0] at c105564
    have p105587 : ie [1, 2, 6, 7, 8, 9, 10, 11, 12, 13, 14] u_2.1 s0.1 := (ie_tr q105559 (by decide) (ie_refl _ _))
    have p105588 : (0 : Int32).toInt = 0 ∨ (0 : Int32).toInt = 1 := by (have := li_0; omega)
    have p105589 : (s0.1 6).toInt ≤ (u_2.1 6).toInt ∧ (u_2.1 6).toInt ≤ N := by omega
    have p105590 : (0 : Int32).toInt = 0 ∨ (u_2.1 14).toInt = (s0.1 14).toInt := by (have := li_0; omega)
    exact k _ _ q105558 p105587 p105588 p105589 p105590
theorem wq_X7_goesProgram {post : Int32 → Md → Prop} {s0 : Md} {x1 : Int32} {N R W D : Int} (h105591 : mb (N) (R) (W) (D) s0) (h105592 : 0 < D) (k : ∀ (r : Int32) (u : Md), mb (N) (R) (W) (D) u → post r u) : wp_X7_goesProgram post s0 x1 := by
  unfold wp_X7_goesProgram
  have := h105591.1
  have := h105591.2.1
  have := h105591.2.2.1
  have := h105591.2.2.2.1
  have p105593 : (s0.1 5).toInt = N := by omega
  have p105594 : 0 ≤ (s0.1 0).toInt ∧ (s0.1 0).toInt ≤ 10 := by omega
  have p105595 : 0 ≤ N ∧ N ≤ 400 := by omega
  have p105596 : 0 ≤ R ∧ R ≤ 6 ∧ 0 ≤ W ∧ W ≤ 10 ∧ 0 ≤ R * W ∧ R * W ≤ 40 ∧ 0 ≤ D ∧ D ≤ 4 ∧ (D ≤ 0 ∨ 1 ≤ R) ∧ (1 ≤ R ∨ R * W = 0) := by omega
  have B105597 : mb (N) (R) (W) (D) ((va_up (va_up (va_up s0.1 6 0) 13 0) 14 0), s0.2.1, s0.2.2.1, s0.2.2.2) := ⟨p105593, p105594, p105595, p105596, h105591.2.2.2.2.1, h105591.2.2.2.2.2.1, h105591.2.2.2.2.2.2.1, h105591.2.2.2.2.2.2.2⟩
  have p105598 : 0 < D := by omega
  have p105599 : 0 ≤ (0 : Int32).toInt ∧ (0 : Int32).toInt ≤ N := by (have := li_0; omega)
  have p105600 : (0 : Int32).toInt = 0 := by (have := li_0; omega)
  refine wq_X7_goesAll_4 B105597 p105598 p105599 p105600 (fun r_1 u_2 q105601 q105602 q105603 q105604 q105605 => ?_)
  have := q105601.1
  have := q105601.2.1
  replace q105603 : (r_1).toInt = 0 ∨ (r_1).toInt = 1 := q105603
  replace q105604 : (0 : Int32).toInt ≤ (u_2.1 6).toInt ∧ (u_2.1 6).toInt ≤ N := q105604
  try simp only [li_0] at q105604
  replace q105605 : (r_1).toInt = 0 ∨ (u_2.1 14).toInt = (0 : Int32).toInt := q105605
  try simp only [li_0] at q105605
  refine ⟨fun c105606 => ?_, fun c105607 => ?_⟩
  · replace c105606 := q_neq c105606
    rw [li_0] at c105606
    have p105608 : 0 ≤ (u_2.1 6).toInt ∧ (u_2.1 6).toInt ≤ N := by omega
    refine wq_X7_nextByte q105601 p105608 (fun r_4 u_5 q105609 q105610 q105611 q105612 q105613 q105614 => ?_)
    have := q105609.1
    have := q105609.2.1
    refine ⟨fun c105615 => ?_, fun c105616 => ?_⟩
    · replace c105615 := q_eq c105615
      rw [li_m1] at c105615
      exact k _ _ q105609
    · replace c105616 := q_neq c105616
      rw [li_m1] at c105616
      refine wq_X7_fails q105609 (fun r_7 u_8 q105617 q105618 q105619 q105620 => ?_)
      have := q105617.1
      have := q105617.2.1
      refine ⟨fun c105621 => ?_, fun c105622 => ?_⟩
      · replace c105621 := q_eq c105621
        rw [li_0] at c105621
        exact k _ _ q105617
      · replace c105622 := q_neq c105622
        rw [li_0] at c105622
        exact k _ _ q105617
  · replace c105607 := q_eq c105607
    rw [li_0] at c105607
    exact k _ _ q105601
theorem wq_X7_run {post : Int32 → Md → Prop} {s0 : Md} {N R W D : Int} (h105623 : mb (N) (R) (W) (D) s0) (h105624 : R ≤ 0 ∨ 0 < D) (k : ∀ (r : Int32) (u : Md), mb ((0 : Int)) (R) (W) (D) u → post r u) : wp_X7_run post s0 := by
  unfold wp_X7_run
  have := h105623.1
  have := h105623.2.1
  have := h105623.2.2.1
  have := h105623.2.2.2.1
  refine wq_X7_isBoard h105623 (fun r_1 q105625 => ?_)
  refine ⟨fun c105626 => ?_, fun c105627 => ?_⟩
  · replace c105626 := q_eq c105626
    rw [li_0] at c105626
    have p105628 : (0 : Int32).toInt = (0 : Int) := by (have := li_0; omega)
    have p105629 : 0 ≤ (s0.1 0).toInt ∧ (s0.1 0).toInt ≤ 10 := by omega
    have p105630 : 0 ≤ (0 : Int) ∧ (0 : Int) ≤ 400 := by omega
    have p105631 : 0 ≤ R ∧ R ≤ 6 ∧ 0 ≤ W ∧ W ≤ 10 ∧ 0 ≤ R * W ∧ R * W ≤ 40 ∧ 0 ≤ D ∧ D ≤ 4 ∧ (D ≤ 0 ∨ 1 ≤ R) ∧ (1 ≤ R ∨ R * W = 0) := by omega
    have B105632 : mb ((0 : Int)) (R) (W) (D) ((va_up s0.1 5 0), s0.2.1, s0.2.2.1, s0.2.2.2) := ⟨p105628, p105629, p105630, p105631, h105623.2.2.2.2.1, h105623.2.2.2.2.2.1, h105623.2.2.2.2.2.2.1, h105623.2.2.2.2.2.2.2⟩
    refine wq_X7_isBoard B105632 (fun r_4 q105633 => ?_)
    replace q105633 : ((r_4).toInt = 1 ∧ 0 < D) ∨ ((r_4).toInt = 0 ∧ D ≤ 0) := q105633
    refine ⟨fun c105634 => ?_, fun c105635 => ?_⟩
    · replace c105634 := q_neq c105634
      rw [li_0] at c105634
      exact k _ _ B105632
    · replace c105635 := q_eq c105635
      rw [li_0] at c105635
      exact k _ _ B105632
  · replace c105627 := q_neq c105627
    rw [li_0] at c105627
    have p105636 : 0 < D := by omega
    refine wq_X7_goesProgram h105623 p105636 (fun r_7 u_8 q105637 => ?_)
    have := q105637.1
    have := q105637.2.1
    refine ⟨fun c105638 => ?_, fun c105639 => ?_⟩
    · replace c105638 := q_eq c105638
      rw [li_0] at c105638
      have p105640 : (0 : Int32).toInt = (0 : Int) := by (have := li_0; omega)
      have p105641 : 0 ≤ (u_8.1 0).toInt ∧ (u_8.1 0).toInt ≤ 10 := by omega
      have p105642 : 0 ≤ (0 : Int) ∧ (0 : Int) ≤ 400 := by omega
      have p105643 : 0 ≤ R ∧ R ≤ 6 ∧ 0 ≤ W ∧ W ≤ 10 ∧ 0 ≤ R * W ∧ R * W ≤ 40 ∧ 0 ≤ D ∧ D ≤ 4 ∧ (D ≤ 0 ∨ 1 ≤ R) ∧ (1 ≤ R ∨ R * W = 0) := by omega
      have B105644 : mb ((0 : Int)) (R) (W) (D) ((va_up u_8.1 5 0), u_8.2.1, u_8.2.2.1, u_8.2.2.2) := ⟨p105640, p105641, p105642, p105643, q105637.2.2.2.2.1, q105637.2.2.2.2.2.1, q105637.2.2.2.2.2.2.1, q105637.2.2.2.2.2.2.2⟩
      refine wq_X7_isBoard B105644 (fun r_10 q105645 => ?_)
      replace q105645 : ((r_10).toInt = 1 ∧ 0 < D) ∨ ((r_10).toInt = 0 ∧ D ≤ 0) := q105645
      refine ⟨fun c105646 => ?_, fun c105647 => ?_⟩
      · replace c105646 := q_neq c105646
        rw [li_0] at c105646
        exact k _ _ B105644
      · replace c105647 := q_eq c105647
        rw [li_0] at c105647
        exact k _ _ B105644
    · replace c105639 := q_neq c105639
      rw [li_0] at c105639
      have p105648 : R ≤ 0 ∨ 0 < D := by omega
      refine wq_X7_keepsAct q105637 p105648 (fun u_14 q105649 q105650 q105651 => ?_)
      have := q105649.1
      have := q105649.2.1
      have p105652 : 0 < D := by omega
      refine wq_X7_goesProgram q105649 p105652 (fun r_15 u_16 q105653 => ?_)
      have := q105653.1
      have := q105653.2.1
      have p105654 : (0 : Int32).toInt = (0 : Int) := by (have := li_0; omega)
      have p105655 : 0 ≤ (u_16.1 0).toInt ∧ (u_16.1 0).toInt ≤ 10 := by omega
      have p105656 : 0 ≤ (0 : Int) ∧ (0 : Int) ≤ 400 := by omega
      have p105657 : 0 ≤ R ∧ R ≤ 6 ∧ 0 ≤ W ∧ W ≤ 10 ∧ 0 ≤ R * W ∧ R * W ≤ 40 ∧ 0 ≤ D ∧ D ≤ 4 ∧ (D ≤ 0 ∨ 1 ≤ R) ∧ (1 ≤ R ∨ R * W = 0) := by omega
      have B105658 : mb ((0 : Int)) (R) (W) (D) ((va_up u_16.1 5 0), u_16.2.1, u_16.2.2.1, u_16.2.2.2) := ⟨p105654, p105655, p105656, p105657, q105653.2.2.2.2.1, q105653.2.2.2.2.2.1, q105653.2.2.2.2.2.2.1, q105653.2.2.2.2.2.2.2⟩
      refine wq_X7_isBoard B105658 (fun r_17 q105659 => ?_)
      replace q105659 : ((r_17).toInt = 1 ∧ 0 < D) ∨ ((r_17).toInt = 0 ∧ D ≤ 0) := q105659
      refine ⟨fun c105660 => ?_, fun c105661 => ?_⟩
      · replace c105660 := q_neq c105660
        rw [li_0] at c105660
        refine ⟨fun c105662 => ?_, fun c105663 => ?_⟩
        · replace c105662 := q_eq c105662
          rw [li_0] at c105662
          exact k _ _ B105658
        · replace c105663 := q_neq c105663
          rw [li_0] at c105663
          exact k _ _ B105658
      · replace c105661 := q_eq c105661
        rw [li_0] at c105661
        exact k _ _ B105658
