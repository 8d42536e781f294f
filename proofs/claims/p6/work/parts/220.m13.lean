theorem wq_X2_chosenBits_L4 {s0 : Mo} {post : Int64 → Prop} {e29 : Int64 → Int32 → Prop} (h2584 : mo s0) (ke29 : ∀ (w1 : Int64) (z3 : Int32), 0 ≤ (z3).toInt ∧ (z3).toInt ≤ (s0.1 0).toInt → e29 w1 z3) : ∀ (n : Nat) (w1 : Int64) (z3 : Int32), 0 ≤ (z3).toInt ∧ (z3).toInt ≤ (s0.1 0).toInt → (s0.1 0).toInt - (z3).toInt < (n : Int) → wp_X2_chosenBits_L4 s0 post e29 n w1 z3 := by
  have := h2584.1
  intro n
  induction n with
  | zero =>
    intro w1 z3 i2585 i2586
    exfalso
    omega
  | succ n ih =>
    intro w1 z3 i2585 i2586
    unfold wp_X2_chosenBits_L4
    refine ⟨fun c2587 => ?_, fun c2588 => ?_⟩
    · replace c2587 := q_le c2587
      have p2589 : 0 ≤ (z3).toInt ∧ (z3).toInt ≤ (s0.1 0).toInt := by omega
      exact ke29 _ _ p2589
    · replace c2588 := q_nle c2588
      have v2590 : vp_in z3 40 := vi (by omega) (by omega)
      refine ⟨v2590, ?_⟩
      have e2591 := tq_addr li_1 z3
      try rw [Int.emod_eq_of_lt (show 0 ≤ (z3).toInt + 1 + 2147483648 by omega) (show (z3).toInt + 1 + 2147483648 < 4294967296 by omega)] at e2591
      have p2592 : 0 ≤ (z3 + 1).toInt ∧ (z3 + 1).toInt ≤ (s0.1 0).toInt := by omega
      have p2593 : (s0.1 0).toInt - (z3 + 1).toInt < ((n : Nat) : Int) := by (omega)
      exact ih _ _ p2592 p2593
theorem wq_X2_chosenBits {post : Int64 → Prop} {s0 : Mo} (h2594 : mo s0) (k : ∀ (r : Int64), post r) : wp_X2_chosenBits post s0 := by
  unfold wp_X2_chosenBits
  have := h2594.1
  have p2595 : 0 ≤ (0 : Int32).toInt ∧ (0 : Int32).toInt ≤ (s0.1 0).toInt := by (have := li_0; omega)
  obtain ⟨f2596, g2597⟩ := fu_e 50
  have p2598 : (s0.1 0).toInt - (0 : Int32).toInt < (f2596 : Int) := by (have := li_0; omega)
  refine ⟨f2596, wq_X2_chosenBits_L4 h2594 (fun w1 z3 q2599 => ?_) f2596 _ _ p2595 p2598⟩
  exact k _
theorem wq_X4_hasStep {post : Int32 → Prop} {s0 : Pg} {x1 : Int32} {R : Int} (h2600 : pg (R) s0) (k : ∀ (r : Int32), ((r).toInt = 1 ∧ 0 ≤ (x1).toInt ∧ (x1).toInt < (s0.1 1).toInt) ∨ ((r).toInt = 0 ∧ ((x1).toInt < 0 ∨ (s0.1 1).toInt ≤ (x1).toInt)) → post r) : wp_X4_hasStep post s0 x1 := by
  unfold wp_X4_hasStep
  have := h2600.1
  refine ⟨fun c2601 => ?_, fun c2602 => ?_⟩
  · replace c2601 := q_lt c2601
    rw [li_0] at c2601
    have p2603 : ((0 : Int32).toInt = 1 ∧ 0 ≤ (x1).toInt ∧ (x1).toInt < (s0.1 1).toInt) ∨ ((0 : Int32).toInt = 0 ∧ ((x1).toInt < 0 ∨ (s0.1 1).toInt ≤ (x1).toInt)) := by (have := li_0; omega)
    exact k _ p2603
  · replace c2602 := q_nlt c2602
    rw [li_0] at c2602
    refine ⟨fun c2604 => ?_, fun c2605 => ?_⟩
    · replace c2604 := q_le c2604
      have p2606 : ((0 : Int32).toInt = 1 ∧ 0 ≤ (x1).toInt ∧ (x1).toInt < (s0.1 1).toInt) ∨ ((0 : Int32).toInt = 0 ∧ ((x1).toInt < 0 ∨ (s0.1 1).toInt ≤ (x1).toInt)) := by (have := li_0; omega)
      exact k _ p2606
    · replace c2605 := q_nle c2605
      have p2607 : ((1 : Int32).toInt = 1 ∧ 0 ≤ (x1).toInt ∧ (x1).toInt < (s0.1 1).toInt) ∨ ((1 : Int32).toInt = 0 ∧ ((x1).toInt < 0 ∨ (s0.1 1).toInt ≤ (x1).toInt)) := by (have := li_1; omega)
      exact k _ p2607
theorem wq_X4_kindOf {post : Int32 → Prop} {s0 : Pg} {x1 : Int32} {R : Int} (h2608 : pg (R) s0) (k : ∀ (r : Int32), (r).toInt = 0 ∨ ((r).toInt = (s0.2 0 (Int32.toNatClampNeg x1)).toInt ∧ 0 ≤ (x1).toInt ∧ (x1).toInt < (s0.1 1).toInt) → post r) : wp_X4_kindOf post s0 x1 := by
  unfold wp_X4_kindOf
  have := h2608.1
  refine wq_X4_hasStep h2608 (fun r_1 q2609 => ?_)
  refine ⟨fun c2610 => ?_, fun c2611 => ?_⟩
  · replace c2610 := q_eq c2610
    rw [li_0] at c2610
    have p2612 : (0 : Int32).toInt = 0 ∨ ((0 : Int32).toInt = (s0.2 0 (Int32.toNatClampNeg x1)).toInt ∧ 0 ≤ (x1).toInt ∧ (x1).toInt < (s0.1 1).toInt) := by (have := li_0; omega)
    exact k _ p2612
  · replace c2611 := q_neq c2611
    rw [li_0] at c2611
    have v2613 : vp_in x1 80 := vi (by omega) (by omega)
    refine ⟨v2613, ?_⟩
    have p2614 : (s0.2 0 (Int32.toNatClampNeg x1)).toInt = 0 ∨ ((s0.2 0 (Int32.toNatClampNeg x1)).toInt = (s0.2 0 (Int32.toNatClampNeg x1)).toInt ∧ 0 ≤ (x1).toInt ∧ (x1).toInt < (s0.1 1).toInt) := by omega
    exact k _ p2614
theorem wq_X4_oneOf {post : Int32 → Prop} {s0 : Pg} {x1 : Int32} {R : Int} (h : pg R s0) (k : ∀ r : Int32, 0 ≤ r.toInt ∧ r.toInt ≤ 99 → r.toInt < R ∨ x1.toInt < 0 ∨ (s0.1 1).toInt ≤ x1.toInt ∨ ((s0.2 0 (Int32.toNatClampNeg x1)).toInt ≠ 6 ∧ (s0.2 0 (Int32.toNatClampNeg x1)).toInt ≠ 9) → post r) : wp_X4_oneOf post s0 x1 := by
  unfold wp_X4_oneOf
  have d := h.1
  have e0 : (0 : Int32).toInt = 0 := rfl
  refine wq_X4_hasStep h (fun r hr => ⟨fun c => ?_, fun c => ?_⟩)
  · have := q_eq c
    exact k _ (by omega) (by omega)
  · have := q_neq c
    have v : vp_in x1 80 := vi (by omega) (by omega)
    have a := ar_at h.2.1 v
    refine ⟨v, k _ a ?_⟩
    by_cases g : (s0.2 0 (Int32.toNatClampNeg x1)).toInt = 6 ∨ (s0.2 0 (Int32.toNatClampNeg x1)).toInt = 9
    · have ti := tn_i x1
      exact Or.inl (h.2.2 _ (by omega) g)
    · omega
theorem wq_X4_twoOf {post : Int32 → Prop} {s0 : Pg} {x1 : Int32} {R : Int} (h2615 : pg (R) s0) (k : ∀ (r : Int32), post r) : wp_X4_twoOf post s0 x1 := by
  unfold wp_X4_twoOf
  have := h2615.1
  refine wq_X4_hasStep h2615 (fun r_1 q2616 => ?_)
  refine ⟨fun c2617 => ?_, fun c2618 => ?_⟩
  · replace c2617 := q_eq c2617
    rw [li_0] at c2617
    exact k _
  · replace c2618 := q_neq c2618
    rw [li_0] at c2618
    have v2619 : vp_in x1 80 := vi (by omega) (by omega)
    refine ⟨v2619, ?_⟩
    exact k _
theorem wq_X4_quotedOf {post : Int32 → Prop} {s0 : Pg} {x1 : Int32} {R : Int} (h2620 : pg (R) s0) (k : ∀ (r : Int32), post r) : wp_X4_quotedOf post s0 x1 := by
  unfold wp_X4_quotedOf
  have := h2620.1
  refine wq_X4_hasStep h2620 (fun r_1 q2621 => ?_)
  refine ⟨fun c2622 => ?_, fun c2623 => ?_⟩
  · replace c2622 := q_eq c2622
    rw [li_0] at c2622
    exact k _
  · replace c2623 := q_neq c2623
    rw [li_0] at c2623
    have v2624 : vp_in x1 80 := vi (by omega) (by omega)
    refine ⟨v2624, ?_⟩
    exact k _
theorem wq_X4_endOf {post : Int32 → Prop} {s0 : Pg} {x1 : Int32} {R : Int} (h2625 : pg (R) s0) (k : ∀ (r : Int32), post r) : wp_X4_endOf post s0 x1 := by
  unfold wp_X4_endOf
  have := h2625.1
  refine wq_X4_hasStep h2625 (fun r_1 q2626 => ?_)
  refine ⟨fun c2627 => ?_, fun c2628 => ?_⟩
  · replace c2627 := q_eq c2627
    rw [li_0] at c2627
    exact k _
  · replace c2628 := q_neq c2628
    rw [li_0] at c2628
    have v2629 : vp_in x1 80 := vi (by omega) (by omega)
    refine ⟨v2629, ?_⟩
    exact k _
theorem wq_X4_startDoing {post : Pg → Prop} {s0 : Pg} {R : Int} (h2630 : pg (R) s0) (k : ∀ (u : Pg), pg (R) u → post u) : wp_X4_startDoing post s0 := by
  unfold wp_X4_startDoing
  have := h2630.1
  have p2631 : 0 ≤ (0 : Int32).toInt ∧ (0 : Int32).toInt ≤ 3 ∧ 0 ≤ (s0.1 1).toInt ∧ (s0.1 1).toInt ≤ 80 := by (have := li_0; omega)
  have p2632 : ar 80 (0) (99) (s0.2 1) := h2630.2.1
  have B2633 : pg (R) ((va_up (va_up s0.1 0 0) 2 0), s0.2) := ⟨p2631, p2632, h2630.2.2⟩
  exact k _ B2633
theorem wq_X4_goOn_L99 {post : Pg → Prop} {e198 : Pg → Int32 → Prop} {R : Int} (ke198 : ∀ (t0 : Pg) (z1 : Int32), pg (R) t0 → 0 ≤ (z1).toInt ∧ (z1).toInt ≤ 3 → e198 t0 z1) : ∀ (n : Nat) (t0 : Pg) (z1 : Int32), pg (R) t0 → 0 ≤ (z1).toInt ∧ (z1).toInt ≤ 3 → 3 - (z1).toInt < (n : Int) → wp_X4_goOn_L99 post e198 n t0 z1 := by
  intro n
  induction n with
  | zero =>
    intro t0 z1 i2634 i2635 i2636
    have := i2634.1
    exfalso
    omega
  | succ n ih =>
    intro t0 z1 i2634 i2635 i2636
    unfold wp_X4_goOn_L99
    have := i2634.1
    refine ⟨fun c2637 => ?_, fun c2638 => ?_⟩
    · replace c2637 := q_le c2637
      rw [li_3] at c2637
      have p2639 : 0 ≤ (z1).toInt ∧ (z1).toInt ≤ 3 := by omega
      exact ke198 _ _ i2634 p2639
    · replace c2638 := q_nle c2638
      rw [li_3] at c2638
      refine ⟨fun c2640 => ?_, fun c2641 => ?_⟩
      · replace c2640 := q_le c2640
        rw [li_0] at c2640
        have p2642 : 0 ≤ (z1).toInt ∧ (z1).toInt ≤ 3 := by omega
        exact ke198 _ _ i2634 p2642
      · replace c2641 := q_nle c2641
        rw [li_0] at c2641
        have e2643 := tq_subr li_1 (t0.1 0)
        try rw [Int.emod_eq_of_lt (show 0 ≤ (t0.1 0).toInt - 1 + 2147483648 by omega) (show (t0.1 0).toInt - 1 + 2147483648 < 4294967296 by omega)] at e2643
        have v2644 : vp_in ((t0.1 0) - 1) 3 := vi (by omega) (by omega)
        refine ⟨v2644, ?_⟩
        refine wq_X4_endOf i2634 (fun r_9 => ?_)
        refine ⟨fun c2645 => ?_, fun c2646 => ?_⟩
        · replace c2645 := q_neq c2645
          have p2647 : 0 ≤ (z1).toInt ∧ (z1).toInt ≤ 3 := by omega
          exact ke198 _ _ i2634 p2647
        · replace c2646 := q_eq c2646
          refine ⟨v2644, ?_⟩
          refine ⟨fun c2648 => ?_, fun c2649 => ?_⟩
          · replace c2648 := q_le c2648
            rw [li_0] at c2648
            have p2650 : 0 ≤ ((t0.1 0) - 1).toInt ∧ ((t0.1 0) - 1).toInt ≤ 3 ∧ 0 ≤ (t0.1 1).toInt ∧ (t0.1 1).toInt ≤ 80 := by omega
            have p2651 : ar 80 (0) (99) (t0.2 1) := i2634.2.1
            have B2652 : pg (R) ((va_up t0.1 0 ((t0.1 0) - 1)), t0.2) := ⟨p2650, p2651, i2634.2.2⟩
            have e2653 := tq_addr li_1 z1
            try rw [Int.emod_eq_of_lt (show 0 ≤ (z1).toInt + 1 + 2147483648 by omega) (show (z1).toInt + 1 + 2147483648 < 4294967296 by omega)] at e2653
            have p2654 : 0 ≤ (z1 + 1).toInt ∧ (z1 + 1).toInt ≤ 3 := by omega
            have p2655 : 3 - (z1 + 1).toInt < ((n : Nat) : Int) := by (omega)
            exact ih _ _ B2652 p2654 p2655
          · replace c2649 := q_nle c2649
            rw [li_0] at c2649
            refine ⟨v2644, ?_⟩
            refine ⟨v2644, ?_⟩
            refine ⟨v2644, ?_⟩
            have p2656 : 0 ≤ (t0.1 0).toInt ∧ (t0.1 0).toInt ≤ 3 ∧ 0 ≤ (t0.1 1).toInt ∧ (t0.1 1).toInt ≤ 80 := by omega
            have p2657 : ar 80 (0) (99) (t0.2 1) := i2634.2.1
            have B2658 : pg (R) ((va_up t0.1 2 ((t0.2 5 (Int32.toNatClampNeg ((t0.1 0) - 1))) + 1)), (va_up t0.2 6 (upd (t0.2 6) (Int32.toNatClampNeg ((t0.1 0) - 1)) ((t0.2 6 (Int32.toNatClampNeg ((t0.1 0) - 1))) - 1)))) := ⟨p2656, p2657, i2634.2.2⟩
            have e2659 := tq_addr li_1 z1
            try rw [Int.emod_eq_of_lt (show 0 ≤ (z1).toInt + 1 + 2147483648 by omega) (show (z1).toInt + 1 + 2147483648 < 4294967296 by omega)] at e2659
            have p2660 : 0 ≤ (z1 + 1).toInt ∧ (z1 + 1).toInt ≤ 3 := by omega
            have p2661 : 3 - (z1 + 1).toInt < ((n : Nat) : Int) := by (omega)
            exact ih _ _ B2658 p2660 p2661
